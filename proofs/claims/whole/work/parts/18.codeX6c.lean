theorem dX6_walksMinute_0 : decode cX6_walksMinute 0 = .ok (.iconst 0, 1) := by decide +kernel
theorem dX6_walksMinute_1 : decode cX6_walksMinute 1 = .ok (.istore_n 2, 1) := by decide +kernel
theorem dX6_walksMinute_2 : decode cX6_walksMinute 2 = .ok (.iload_n 2, 1) := by decide +kernel
theorem dX6_walksMinute_3 : decode cX6_walksMinute 3 = .ok (.bipush 20, 2) := by decide +kernel
theorem dX6_walksMinute_5 : decode cX6_walksMinute 5 = .ok (.if_icmp .ge 18, 3) := by decide +kernel
theorem dX6_walksMinute_8 : decode cX6_walksMinute 8 = .ok (.aload_n 0, 1) := by decide +kernel
theorem dX6_walksMinute_9 : decode cX6_walksMinute 9 = .ok (.getfield 49, 3) := by decide +kernel
theorem dX6_walksMinute_12 : decode cX6_walksMinute 12 = .ok (.iload_n 2, 1) := by decide +kernel
theorem dX6_walksMinute_13 : decode cX6_walksMinute 13 = .ok (.sipush 10000, 3) := by decide +kernel
theorem dX6_walksMinute_16 : decode cX6_walksMinute 16 = .ok (.iastore, 1) := by decide +kernel
theorem dX6_walksMinute_17 : decode cX6_walksMinute 17 = .ok (.iinc 2 1, 3) := by decide +kernel
theorem dX6_walksMinute_20 : decode cX6_walksMinute 20 = .ok (.goto (-18), 3) := by decide +kernel
theorem dX6_walksMinute_23 : decode cX6_walksMinute 23 = .ok (.iconst 0, 1) := by decide +kernel
theorem dX6_walksMinute_24 : decode cX6_walksMinute 24 = .ok (.istore_n 2, 1) := by decide +kernel
theorem dX6_walksMinute_25 : decode cX6_walksMinute 25 = .ok (.iload_n 2, 1) := by decide +kernel
theorem dX6_walksMinute_26 : decode cX6_walksMinute 26 = .ok (.bipush 20, 2) := by decide +kernel
theorem dX6_walksMinute_28 : decode cX6_walksMinute 28 = .ok (.if_icmp .ge 27, 3) := by decide +kernel
theorem dX6_walksMinute_31 : decode cX6_walksMinute 31 = .ok (.aload_n 0, 1) := by decide +kernel
theorem dX6_walksMinute_32 : decode cX6_walksMinute 32 = .ok (.getfield 46, 3) := by decide +kernel
theorem dX6_walksMinute_35 : decode cX6_walksMinute 35 = .ok (.iload_n 2, 1) := by decide +kernel
theorem dX6_walksMinute_36 : decode cX6_walksMinute 36 = .ok (.iaload, 1) := by decide +kernel
theorem dX6_walksMinute_37 : decode cX6_walksMinute 37 = .ok (.sipush 10000, 3) := by decide +kernel
theorem dX6_walksMinute_40 : decode cX6_walksMinute 40 = .ok (.if_icmp .ge 9, 3) := by decide +kernel
theorem dX6_walksMinute_43 : decode cX6_walksMinute 43 = .ok (.aload_n 0, 1) := by decide +kernel
theorem dX6_walksMinute_44 : decode cX6_walksMinute 44 = .ok (.iload_n 2, 1) := by decide +kernel
theorem dX6_walksMinute_45 : decode cX6_walksMinute 45 = .ok (.iload_n 1, 1) := by decide +kernel
theorem dX6_walksMinute_46 : decode cX6_walksMinute 46 = .ok (.invokevirtual 234, 3) := by decide +kernel
theorem dX6_walksMinute_49 : decode cX6_walksMinute 49 = .ok (.iinc 2 1, 3) := by decide +kernel
theorem dX6_walksMinute_52 : decode cX6_walksMinute 52 = .ok (.goto (-27), 3) := by decide +kernel
theorem dX6_walksMinute_55 : decode cX6_walksMinute 55 = .ok (.iconst 0, 1) := by decide +kernel
theorem dX6_walksMinute_56 : decode cX6_walksMinute 56 = .ok (.istore_n 2, 1) := by decide +kernel
theorem dX6_walksMinute_57 : decode cX6_walksMinute 57 = .ok (.iload_n 2, 1) := by decide +kernel
theorem dX6_walksMinute_58 : decode cX6_walksMinute 58 = .ok (.bipush 20, 2) := by decide +kernel
theorem dX6_walksMinute_60 : decode cX6_walksMinute 60 = .ok (.if_icmp .ge 21, 3) := by decide +kernel
theorem dX6_walksMinute_63 : decode cX6_walksMinute 63 = .ok (.aload_n 0, 1) := by decide +kernel
theorem dX6_walksMinute_64 : decode cX6_walksMinute 64 = .ok (.getfield 46, 3) := by decide +kernel
theorem dX6_walksMinute_67 : decode cX6_walksMinute 67 = .ok (.iload_n 2, 1) := by decide +kernel
theorem dX6_walksMinute_68 : decode cX6_walksMinute 68 = .ok (.aload_n 0, 1) := by decide +kernel
theorem dX6_walksMinute_69 : decode cX6_walksMinute 69 = .ok (.getfield 49, 3) := by decide +kernel
theorem dX6_walksMinute_72 : decode cX6_walksMinute 72 = .ok (.iload_n 2, 1) := by decide +kernel
theorem dX6_walksMinute_73 : decode cX6_walksMinute 73 = .ok (.iaload, 1) := by decide +kernel
theorem dX6_walksMinute_74 : decode cX6_walksMinute 74 = .ok (.iastore, 1) := by decide +kernel
theorem dX6_walksMinute_75 : decode cX6_walksMinute 75 = .ok (.iinc 2 1, 3) := by decide +kernel
theorem dX6_walksMinute_78 : decode cX6_walksMinute 78 = .ok (.goto (-21), 3) := by decide +kernel
theorem dX6_walksMinute_81 : decode cX6_walksMinute 81 = .ok (.return_, 1) := by decide +kernel
def rmX6_walksMinute : Room := { frames := 2, cells := 0, slots := 0, locals := 44 }
abbrev wsX6_walksMinute : List Cond := .code yX6_walksMinute cX6_walksMinute 3 none :: gw_tbl
def kX6_walksMinute_81 : pProg := (81, 1, a_vret) :: []
def kX6_walksMinute_57 : pProg := (57, 1, a_iload 2) :: (58, 2, a_iconst 20) :: (60, 3, a_icmp_ge 81) :: (63, 1, a_aload 0) :: (64, 3, a_getf 0 4 23) :: (67, 1, a_iload 2) :: (68, 1, a_aload 0) :: (69, 3, a_getf 0 4 24) :: (72, 1, a_iload 2) :: (73, 1, a_iald 14) :: (74, 1, a_iast 13) :: (75, 3, a_iinc 2 1) :: (78, 3, a_goto 57) :: []
def kX6_walksMinute_55 : pProg := (55, 1, a_iconst 0) :: (56, 1, a_istore 2) :: (57, 0, a_fall 57) :: []
def kX6_walksMinute_49 : pProg := (49, 3, a_iinc 2 1) :: (52, 3, a_goto 25) :: []
def kX6_walksMinute_25 : pProg := (25, 1, a_iload 2) :: (26, 2, a_iconst 20) :: (28, 3, a_icmp_ge 55) :: (31, 1, a_aload 0) :: (32, 3, a_getf 0 4 23) :: (35, 1, a_iload 2) :: (36, 1, a_iald 13) :: (37, 3, a_iconst 10000) :: (40, 3, a_icmp_ge 49) :: (43, 1, a_aload 0) :: (44, 1, a_iload 2) :: (45, 1, a_iload 1) :: (46, 3, a_callv 3 4 [0, 1, 2, 3, 4, 5, 6, 7, 8, 9, 10, 11, 12, 13, 14, 15, 16] tX6_walksOne) :: (49, 0, a_fall 49) :: []
def kX6_walksMinute_23 : pProg := (23, 1, a_iconst 0) :: (24, 1, a_istore 2) :: (25, 0, a_fall 25) :: []
def kX6_walksMinute_2 : pProg := (2, 1, a_iload 2) :: (3, 2, a_iconst 20) :: (5, 3, a_icmp_ge 23) :: (8, 1, a_aload 0) :: (9, 3, a_getf 0 4 24) :: (12, 1, a_iload 2) :: (13, 3, a_iconst 10000) :: (16, 1, a_iast 14) :: (17, 3, a_iinc 2 1) :: (20, 3, a_goto 2) :: []
def kX6_walksMinute_0 : pProg := (0, 1, a_iconst 0) :: (1, 1, a_istore 2) :: (2, 0, a_fall 2) :: []
set_option maxRecDepth 100000 in
theorem sX6_walksMinute_81 (l : Launch) : AllS (pSnd l rmX6_walksMinute yX6_walksMinute.cls cX6_walksMinute wsX6_walksMinute 3 none) 81 kX6_walksMinute_81 :=
  alls _ (s_vret dX6_walksMinute_81) <|
  alls_nil _
set_option maxRecDepth 100000 in
theorem sX6_walksMinute_57 (l : Launch) : AllS (pSnd l rmX6_walksMinute yX6_walksMinute.cls cX6_walksMinute wsX6_walksMinute 3 none) 57 kX6_walksMinute_57 :=
  alls _ (s_iload_n rfl dX6_walksMinute_57) <|
  alls _ (s_bipush (by decide) dX6_walksMinute_58) <|
  alls _ (s_icmp_ge (by decide) dX6_walksMinute_60) <|
  alls _ (s_aload_n rfl dX6_walksMinute_63) <|
  alls _ (s_getf (C := RX6) (T := TX6) (N := 29) rfl (in_c inX6) (by decide) (List.mem_cons_of_mem _ wd_770) rfl dX6_walksMinute_64) <|
  alls _ (s_iload_n rfl dX6_walksMinute_67) <|
  alls _ (s_aload_n rfl dX6_walksMinute_68) <|
  alls _ (s_getf (C := RX6) (T := TX6) (N := 29) rfl (in_c inX6) (by decide) (List.mem_cons_of_mem _ wd_771) rfl dX6_walksMinute_69) <|
  alls _ (s_iload_n rfl dX6_walksMinute_72) <|
  alls _ (s_iald dX6_walksMinute_73) <|
  alls _ (s_iast dX6_walksMinute_74) <|
  alls _ (s_iinc dX6_walksMinute_75) <|
  alls _ (s_goto (by decide) dX6_walksMinute_78) <|
  alls_nil _
set_option maxRecDepth 100000 in
theorem sX6_walksMinute_55 (l : Launch) : AllS (pSnd l rmX6_walksMinute yX6_walksMinute.cls cX6_walksMinute wsX6_walksMinute 3 none) 55 kX6_walksMinute_55 :=
  alls _ (s_iconst dX6_walksMinute_55) <|
  alls _ (s_istore_n rfl dX6_walksMinute_56) <|
  alls _ s_fall (alls_nil _)
set_option maxRecDepth 100000 in
theorem sX6_walksMinute_49 (l : Launch) : AllS (pSnd l rmX6_walksMinute yX6_walksMinute.cls cX6_walksMinute wsX6_walksMinute 3 none) 49 kX6_walksMinute_49 :=
  alls _ (s_iinc dX6_walksMinute_49) <|
  alls _ (s_goto (by decide) dX6_walksMinute_52) <|
  alls_nil _
set_option maxRecDepth 100000 in
theorem sX6_walksMinute_25 (l : Launch) : AllS (pSnd l rmX6_walksMinute yX6_walksMinute.cls cX6_walksMinute wsX6_walksMinute 3 none) 25 kX6_walksMinute_25 :=
  alls _ (s_iload_n rfl dX6_walksMinute_25) <|
  alls _ (s_bipush (by decide) dX6_walksMinute_26) <|
  alls _ (s_icmp_ge (by decide) dX6_walksMinute_28) <|
  alls _ (s_aload_n rfl dX6_walksMinute_31) <|
  alls _ (s_getf (C := RX6) (T := TX6) (N := 29) rfl (in_c inX6) (by decide) (List.mem_cons_of_mem _ wd_770) rfl dX6_walksMinute_32) <|
  alls _ (s_iload_n rfl dX6_walksMinute_35) <|
  alls _ (s_iald dX6_walksMinute_36) <|
  alls _ (s_sipush (by decide) dX6_walksMinute_37) <|
  alls _ (s_icmp_ge (by decide) dX6_walksMinute_40) <|
  alls _ (s_aload_n rfl dX6_walksMinute_43) <|
  alls _ (s_iload_n rfl dX6_walksMinute_44) <|
  alls _ (s_iload_n rfl dX6_walksMinute_45) <|
  alls _ (s_callv (ct_X6_walksOne l) rfl rfl rfl (gdV wd_1096 wd_1098 wd_47 wd_65 wd_1099) rfl rfl (by decide +kernel) ⟨Nat.le_of_ble_eq_true rfl, Nat.le_of_ble_eq_true rfl⟩ dX6_walksMinute_46) <|
  alls _ s_fall (alls_nil _)
set_option maxRecDepth 100000 in
theorem sX6_walksMinute_23 (l : Launch) : AllS (pSnd l rmX6_walksMinute yX6_walksMinute.cls cX6_walksMinute wsX6_walksMinute 3 none) 23 kX6_walksMinute_23 :=
  alls _ (s_iconst dX6_walksMinute_23) <|
  alls _ (s_istore_n rfl dX6_walksMinute_24) <|
  alls _ s_fall (alls_nil _)
set_option maxRecDepth 100000 in
theorem sX6_walksMinute_2 (l : Launch) : AllS (pSnd l rmX6_walksMinute yX6_walksMinute.cls cX6_walksMinute wsX6_walksMinute 3 none) 2 kX6_walksMinute_2 :=
  alls _ (s_iload_n rfl dX6_walksMinute_2) <|
  alls _ (s_bipush (by decide) dX6_walksMinute_3) <|
  alls _ (s_icmp_ge (by decide) dX6_walksMinute_5) <|
  alls _ (s_aload_n rfl dX6_walksMinute_8) <|
  alls _ (s_getf (C := RX6) (T := TX6) (N := 29) rfl (in_c inX6) (by decide) (List.mem_cons_of_mem _ wd_771) rfl dX6_walksMinute_9) <|
  alls _ (s_iload_n rfl dX6_walksMinute_12) <|
  alls _ (s_sipush (by decide) dX6_walksMinute_13) <|
  alls _ (s_iast dX6_walksMinute_16) <|
  alls _ (s_iinc dX6_walksMinute_17) <|
  alls _ (s_goto (by decide) dX6_walksMinute_20) <|
  alls_nil _
set_option maxRecDepth 100000 in
theorem sX6_walksMinute_0 (l : Launch) : AllS (pSnd l rmX6_walksMinute yX6_walksMinute.cls cX6_walksMinute wsX6_walksMinute 3 none) 0 kX6_walksMinute_0 :=
  alls _ (s_iconst dX6_walksMinute_0) <|
  alls _ (s_istore_n rfl dX6_walksMinute_1) <|
  alls _ s_fall (alls_nil _)
def KX6_walksMinute : List (Nat × pProg) := [(0, kX6_walksMinute_0), (2, kX6_walksMinute_2), (23, kX6_walksMinute_23), (25, kX6_walksMinute_25), (49, kX6_walksMinute_49), (55, kX6_walksMinute_55), (57, kX6_walksMinute_57), (81, kX6_walksMinute_81)]
theorem bX6_walksMinute_0 : blkOf KX6_walksMinute 0 = some kX6_walksMinute_0 := rfl
theorem bX6_walksMinute_2 : blkOf KX6_walksMinute 2 = some kX6_walksMinute_2 := rfl
theorem bX6_walksMinute_23 : blkOf KX6_walksMinute 23 = some kX6_walksMinute_23 := rfl
theorem bX6_walksMinute_25 : blkOf KX6_walksMinute 25 = some kX6_walksMinute_25 := rfl
theorem bX6_walksMinute_49 : blkOf KX6_walksMinute 49 = some kX6_walksMinute_49 := rfl
theorem bX6_walksMinute_55 : blkOf KX6_walksMinute 55 = some kX6_walksMinute_55 := rfl
theorem bX6_walksMinute_57 : blkOf KX6_walksMinute 57 = some kX6_walksMinute_57 := rfl
theorem bX6_walksMinute_81 : blkOf KX6_walksMinute 81 = some kX6_walksMinute_81 := rfl
def tX6_walksMinute : pT := pM KX6_walksMinute 3
theorem ct_X6_walksMinute (l : Launch) : pCtr l yX6_walksMinute wsX6_walksMinute rmX6_walksMinute 2 tX6_walksMinute := ctr_of (by decide +kernel) rfl (List.forall_mem_cons.mpr ⟨sX6_walksMinute_0 l, List.forall_mem_cons.mpr ⟨sX6_walksMinute_2 l, List.forall_mem_cons.mpr ⟨sX6_walksMinute_23 l, List.forall_mem_cons.mpr ⟨sX6_walksMinute_25 l, List.forall_mem_cons.mpr ⟨sX6_walksMinute_49 l, List.forall_mem_cons.mpr ⟨sX6_walksMinute_55 l, List.forall_mem_cons.mpr ⟨sX6_walksMinute_57 l, List.forall_mem_cons.mpr ⟨sX6_walksMinute_81 l, fun _ h => absurd h List.not_mem_nil⟩⟩⟩⟩⟩⟩⟩⟩)
theorem dX6_hum_0 : decode cX6_hum 0 = .ok (.aload_n 0, 1) := by decide +kernel
theorem dX6_hum_1 : decode cX6_hum 1 = .ok (.iload_n 1, 1) := by decide +kernel
theorem dX6_hum_2 : decode cX6_hum 2 = .ok (.invokevirtual 106, 3) := by decide +kernel
theorem dX6_hum_5 : decode cX6_hum 5 = .ok (.ifCond .ne 7, 3) := by decide +kernel
theorem dX6_hum_8 : decode cX6_hum 8 = .ok (.iconst (-1), 1) := by decide +kernel
theorem dX6_hum_9 : decode cX6_hum 9 = .ok (.goto 10, 3) := by decide +kernel
theorem dX6_hum_12 : decode cX6_hum 12 = .ok (.iload_n 2, 1) := by decide +kernel
theorem dX6_hum_13 : decode cX6_hum 13 = .ok (.iconst 0, 1) := by decide +kernel
theorem dX6_hum_14 : decode cX6_hum 14 = .ok (.bipush 12, 2) := by decide +kernel
theorem dX6_hum_16 : decode cX6_hum 16 = .ok (.invokestatic 64, 3) := by decide +kernel
theorem dX6_hum_19 : decode cX6_hum 19 = .ok (.istore_n 3, 1) := by decide +kernel
theorem dX6_hum_20 : decode cX6_hum 20 = .ok (.iload_n 3, 1) := by decide +kernel
theorem dX6_hum_21 : decode cX6_hum 21 = .ok (.ifCond .eq 9, 3) := by decide +kernel
theorem dX6_hum_24 : decode cX6_hum 24 = .ok (.aload_n 0, 1) := by decide +kernel
theorem dX6_hum_25 : decode cX6_hum 25 = .ok (.iload_n 3, 1) := by decide +kernel
theorem dX6_hum_26 : decode cX6_hum 26 = .ok (.invokevirtual 71, 3) := by decide +kernel
theorem dX6_hum_29 : decode cX6_hum 29 = .ok (.ireturn, 1) := by decide +kernel
theorem dX6_hum_30 : decode cX6_hum 30 = .ok (.iconst 0, 1) := by decide +kernel
theorem dX6_hum_31 : decode cX6_hum 31 = .ok (.istore 4, 2) := by decide +kernel
theorem dX6_hum_33 : decode cX6_hum 33 = .ok (.iload 4, 2) := by decide +kernel
theorem dX6_hum_35 : decode cX6_hum 35 = .ok (.bipush 20, 2) := by decide +kernel
theorem dX6_hum_37 : decode cX6_hum 37 = .ok (.if_icmp .ge 34, 3) := by decide +kernel
theorem dX6_hum_40 : decode cX6_hum 40 = .ok (.aload_n 0, 1) := by decide +kernel
theorem dX6_hum_41 : decode cX6_hum 41 = .ok (.getfield 46, 3) := by decide +kernel
theorem dX6_hum_44 : decode cX6_hum 44 = .ok (.iload 4, 2) := by decide +kernel
theorem dX6_hum_46 : decode cX6_hum 46 = .ok (.iload 4, 2) := by decide +kernel
theorem dX6_hum_48 : decode cX6_hum 48 = .ok (.aload_n 0, 1) := by decide +kernel
theorem dX6_hum_49 : decode cX6_hum 49 = .ok (.getfield 25, 3) := by decide +kernel
theorem dX6_hum_52 : decode cX6_hum 52 = .ok (.iload_n 1, 1) := by decide +kernel
theorem dX6_hum_53 : decode cX6_hum 53 = .ok (.iaload, 1) := by decide +kernel
theorem dX6_hum_54 : decode cX6_hum 54 = .ok (.if_icmp .ne 7, 3) := by decide +kernel
theorem dX6_hum_57 : decode cX6_hum 57 = .ok (.iconst 0, 1) := by decide +kernel
theorem dX6_hum_58 : decode cX6_hum 58 = .ok (.goto 6, 3) := by decide +kernel
theorem dX6_hum_61 : decode cX6_hum 61 = .ok (.sipush 10000, 3) := by decide +kernel
theorem dX6_hum_64 : decode cX6_hum 64 = .ok (.iastore, 1) := by decide +kernel
theorem dX6_hum_65 : decode cX6_hum 65 = .ok (.iinc 4 1, 3) := by decide +kernel
theorem dX6_hum_68 : decode cX6_hum 68 = .ok (.goto (-35), 3) := by decide +kernel
theorem dX6_hum_71 : decode cX6_hum 71 = .ok (.iconst 0, 1) := by decide +kernel
theorem dX6_hum_72 : decode cX6_hum 72 = .ok (.istore 4, 2) := by decide +kernel
theorem dX6_hum_74 : decode cX6_hum 74 = .ok (.iload 4, 2) := by decide +kernel
theorem dX6_hum_76 : decode cX6_hum 76 = .ok (.iload_n 2, 1) := by decide +kernel
theorem dX6_hum_77 : decode cX6_hum 77 = .ok (.if_icmp .ge 20, 3) := by decide +kernel
theorem dX6_hum_80 : decode cX6_hum 80 = .ok (.aload_n 0, 1) := by decide +kernel
theorem dX6_hum_81 : decode cX6_hum 81 = .ok (.aload_n 0, 1) := by decide +kernel
theorem dX6_hum_82 : decode cX6_hum 82 = .ok (.iconst 2, 1) := by decide +kernel
theorem dX6_hum_83 : decode cX6_hum 83 = .ok (.iload_n 1, 1) := by decide +kernel
theorem dX6_hum_84 : decode cX6_hum 84 = .ok (.imul, 1) := by decide +kernel
theorem dX6_hum_85 : decode cX6_hum 85 = .ok (.invokevirtual 188, 3) := by decide +kernel
theorem dX6_hum_88 : decode cX6_hum 88 = .ok (.invokevirtual 237, 3) := by decide +kernel
theorem dX6_hum_91 : decode cX6_hum 91 = .ok (.iinc 4 1, 3) := by decide +kernel
theorem dX6_hum_94 : decode cX6_hum 94 = .ok (.goto (-20), 3) := by decide +kernel
theorem dX6_hum_97 : decode cX6_hum 97 = .ok (.aload_n 0, 1) := by decide +kernel
theorem dX6_hum_98 : decode cX6_hum 98 = .ok (.getfield 46, 3) := by decide +kernel
theorem dX6_hum_101 : decode cX6_hum 101 = .ok (.bipush 19, 2) := by decide +kernel
theorem dX6_hum_103 : decode cX6_hum 103 = .ok (.iaload, 1) := by decide +kernel
theorem dX6_hum_104 : decode cX6_hum 104 = .ok (.sipush 10000, 3) := by decide +kernel
theorem dX6_hum_107 : decode cX6_hum 107 = .ok (.if_icmp .ge 13, 3) := by decide +kernel
theorem dX6_hum_110 : decode cX6_hum 110 = .ok (.aload_n 0, 1) := by decide +kernel
theorem dX6_hum_111 : decode cX6_hum 111 = .ok (.getfield 46, 3) := by decide +kernel
theorem dX6_hum_114 : decode cX6_hum 114 = .ok (.bipush 19, 2) := by decide +kernel
theorem dX6_hum_116 : decode cX6_hum 116 = .ok (.iaload, 1) := by decide +kernel
theorem dX6_hum_117 : decode cX6_hum 117 = .ok (.goto 5, 3) := by decide +kernel
theorem dX6_hum_120 : decode cX6_hum 120 = .ok (.bipush (-9), 2) := by decide +kernel
theorem dX6_hum_122 : decode cX6_hum 122 = .ok (.ireturn, 1) := by decide +kernel
def rmX6_hum : Room := { frames := 3, cells := 0, slots := 0, locals := 66 }
abbrev wsX6_hum : List Cond := .code yX6_hum cX6_hum 5 (some .int) :: gw_tbl
def kX6_hum_122 : pProg := (122, 1, a_iret) :: []
def kX6_hum_120 : pProg := (120, 2, a_iconst (-9)) :: (122, 0, a_fall 122) :: []
def kX6_hum_97 : pProg := (97, 1, a_aload 0) :: (98, 3, a_getf 0 4 23) :: (101, 2, a_iconst 19) :: (103, 1, a_iald 13) :: (104, 3, a_iconst 10000) :: (107, 3, a_icmp_ge 120) :: (110, 1, a_aload 0) :: (111, 3, a_getf 0 4 23) :: (114, 2, a_iconst 19) :: (116, 1, a_iald 13) :: (117, 3, a_goto 122) :: []
def kX6_hum_74 : pProg := (74, 2, a_iload 4) :: (76, 1, a_iload 2) :: (77, 3, a_icmp_ge 97) :: (80, 1, a_aload 0) :: (81, 1, a_aload 0) :: (82, 1, a_iconst 2) :: (83, 1, a_iload 1) :: (84, 1, a_imul) :: (85, 3, a_callv 2 4 [0, 1, 2, 3, 4, 5, 6, 7, 8, 9, 10, 11, 12, 13, 14, 15, 16] tX6_stepsOf) :: (88, 3, a_callv 2 4 [0, 1, 2, 3, 4, 5, 6, 7, 8, 9, 10, 11, 12, 13, 14, 15, 16] tX6_walksMinute) :: (91, 3, a_iinc 4 1) :: (94, 3, a_goto 74) :: []
def kX6_hum_71 : pProg := (71, 1, a_iconst 0) :: (72, 2, a_istore 4) :: (74, 0, a_fall 74) :: []
def kX6_hum_64 : pProg := (64, 1, a_iast 13) :: (65, 3, a_iinc 4 1) :: (68, 3, a_goto 33) :: []
def kX6_hum_61 : pProg := (61, 3, a_iconst 10000) :: (64, 0, a_fall 64) :: []
def kX6_hum_33 : pProg := (33, 2, a_iload 4) :: (35, 2, a_iconst 20) :: (37, 3, a_icmp_ge 71) :: (40, 1, a_aload 0) :: (41, 3, a_getf 0 4 23) :: (44, 2, a_iload 4) :: (46, 2, a_iload 4) :: (48, 1, a_aload 0) :: (49, 3, a_getf 0 4 5) :: (52, 1, a_iload 1) :: (53, 1, a_iald 6) :: (54, 3, a_icmp_ne 61) :: (57, 1, a_iconst 0) :: (58, 3, a_goto 64) :: []
def kX6_hum_30 : pProg := (30, 1, a_iconst 0) :: (31, 2, a_istore 4) :: (33, 0, a_fall 33) :: []
def kX6_hum_19 : pProg := (19, 1, a_istore 3) :: (20, 1, a_iload 3) :: (21, 3, a_if_eq 30) :: (24, 1, a_aload 0) :: (25, 1, a_iload 3) :: (26, 3, a_callv 2 4 [0, 1, 2, 3, 4, 5, 6, 7, 8, 9, 10, 11, 12, 13, 14, 15, 16] tX6_no) :: (29, 1, a_iret) :: []
def kX6_hum_12 : pProg := (12, 1, a_iload 2) :: (13, 1, a_iconst 0) :: (14, 2, a_iconst 12) :: (16, 3, a_calls 3 [] tX6_bound) :: (19, 0, a_fall 19) :: []
def kX6_hum_0 : pProg := (0, 1, a_aload 0) :: (1, 1, a_iload 1) :: (2, 3, a_callv 2 4 [0, 1, 2, 3, 4, 5, 6, 7, 8, 9, 10, 11, 12, 13, 14, 15, 16] tX6_isPair) :: (5, 3, a_if_ne 12) :: (8, 1, a_iconst (-1)) :: (9, 3, a_goto 19) :: []
set_option maxRecDepth 100000 in
theorem sX6_hum_122 (l : Launch) : AllS (pSnd l rmX6_hum yX6_hum.cls cX6_hum wsX6_hum 5 (some .int)) 122 kX6_hum_122 :=
  alls _ (s_iret dX6_hum_122) <|
  alls_nil _
set_option maxRecDepth 100000 in
theorem sX6_hum_120 (l : Launch) : AllS (pSnd l rmX6_hum yX6_hum.cls cX6_hum wsX6_hum 5 (some .int)) 120 kX6_hum_120 :=
  alls _ (s_bipush (by decide) dX6_hum_120) <|
  alls _ s_fall (alls_nil _)
set_option maxRecDepth 100000 in
theorem sX6_hum_97 (l : Launch) : AllS (pSnd l rmX6_hum yX6_hum.cls cX6_hum wsX6_hum 5 (some .int)) 97 kX6_hum_97 :=
  alls _ (s_aload_n rfl dX6_hum_97) <|
  alls _ (s_getf (C := RX6) (T := TX6) (N := 29) rfl (in_c inX6) (by decide) (List.mem_cons_of_mem _ wd_770) rfl dX6_hum_98) <|
  alls _ (s_bipush (by decide) dX6_hum_101) <|
  alls _ (s_iald dX6_hum_103) <|
  alls _ (s_sipush (by decide) dX6_hum_104) <|
  alls _ (s_icmp_ge (by decide) dX6_hum_107) <|
  alls _ (s_aload_n rfl dX6_hum_110) <|
  alls _ (s_getf (C := RX6) (T := TX6) (N := 29) rfl (in_c inX6) (by decide) (List.mem_cons_of_mem _ wd_770) rfl dX6_hum_111) <|
  alls _ (s_bipush (by decide) dX6_hum_114) <|
  alls _ (s_iald dX6_hum_116) <|
  alls _ (s_goto (by decide) dX6_hum_117) <|
  alls_nil _
set_option maxRecDepth 100000 in
theorem sX6_hum_74 (l : Launch) : AllS (pSnd l rmX6_hum yX6_hum.cls cX6_hum wsX6_hum 5 (some .int)) 74 kX6_hum_74 :=
  alls _ (s_iload dX6_hum_74) <|
  alls _ (s_iload_n rfl dX6_hum_76) <|
  alls _ (s_icmp_ge (by decide) dX6_hum_77) <|
  alls _ (s_aload_n rfl dX6_hum_80) <|
  alls _ (s_aload_n rfl dX6_hum_81) <|
  alls _ (s_iconst dX6_hum_82) <|
  alls _ (s_iload_n rfl dX6_hum_83) <|
  alls _ (s_imul dX6_hum_84) <|
  alls _ (s_callv (ct_X6_stepsOf l) rfl rfl rfl (gdV wd_957 wd_959 wd_35 wd_65 wd_960) rfl rfl (by decide +kernel) ⟨Nat.le_of_ble_eq_true rfl, Nat.le_of_ble_eq_true rfl⟩ dX6_hum_85) <|
  alls _ (s_callv (ct_X6_walksMinute l) rfl rfl rfl (gdV wd_1092 wd_1094 wd_46 wd_65 wd_1095) rfl rfl (by decide +kernel) ⟨Nat.le_of_ble_eq_true rfl, Nat.le_of_ble_eq_true rfl⟩ dX6_hum_88) <|
  alls _ (s_iinc dX6_hum_91) <|
  alls _ (s_goto (by decide) dX6_hum_94) <|
  alls_nil _
set_option maxRecDepth 100000 in
theorem sX6_hum_71 (l : Launch) : AllS (pSnd l rmX6_hum yX6_hum.cls cX6_hum wsX6_hum 5 (some .int)) 71 kX6_hum_71 :=
  alls _ (s_iconst dX6_hum_71) <|
  alls _ (s_istore dX6_hum_72) <|
  alls _ s_fall (alls_nil _)
set_option maxRecDepth 100000 in
theorem sX6_hum_64 (l : Launch) : AllS (pSnd l rmX6_hum yX6_hum.cls cX6_hum wsX6_hum 5 (some .int)) 64 kX6_hum_64 :=
  alls _ (s_iast dX6_hum_64) <|
  alls _ (s_iinc dX6_hum_65) <|
  alls _ (s_goto (by decide) dX6_hum_68) <|
  alls_nil _
set_option maxRecDepth 100000 in
theorem sX6_hum_61 (l : Launch) : AllS (pSnd l rmX6_hum yX6_hum.cls cX6_hum wsX6_hum 5 (some .int)) 61 kX6_hum_61 :=
  alls _ (s_sipush (by decide) dX6_hum_61) <|
  alls _ s_fall (alls_nil _)
set_option maxRecDepth 100000 in
theorem sX6_hum_33 (l : Launch) : AllS (pSnd l rmX6_hum yX6_hum.cls cX6_hum wsX6_hum 5 (some .int)) 33 kX6_hum_33 :=
  alls _ (s_iload dX6_hum_33) <|
  alls _ (s_bipush (by decide) dX6_hum_35) <|
  alls _ (s_icmp_ge (by decide) dX6_hum_37) <|
  alls _ (s_aload_n rfl dX6_hum_40) <|
  alls _ (s_getf (C := RX6) (T := TX6) (N := 29) rfl (in_c inX6) (by decide) (List.mem_cons_of_mem _ wd_770) rfl dX6_hum_41) <|
  alls _ (s_iload dX6_hum_44) <|
  alls _ (s_iload dX6_hum_46) <|
  alls _ (s_aload_n rfl dX6_hum_48) <|
  alls _ (s_getf (C := RX6) (T := TX6) (N := 29) rfl (in_c inX6) (by decide) (List.mem_cons_of_mem _ wd_752) rfl dX6_hum_49) <|
  alls _ (s_iload_n rfl dX6_hum_52) <|
  alls _ (s_iald dX6_hum_53) <|
  alls _ (s_icmp_ne (by decide) dX6_hum_54) <|
  alls _ (s_iconst dX6_hum_57) <|
  alls _ (s_goto (by decide) dX6_hum_58) <|
  alls_nil _
set_option maxRecDepth 100000 in
theorem sX6_hum_30 (l : Launch) : AllS (pSnd l rmX6_hum yX6_hum.cls cX6_hum wsX6_hum 5 (some .int)) 30 kX6_hum_30 :=
  alls _ (s_iconst dX6_hum_30) <|
  alls _ (s_istore dX6_hum_31) <|
  alls _ s_fall (alls_nil _)
set_option maxRecDepth 100000 in
theorem sX6_hum_19 (l : Launch) : AllS (pSnd l rmX6_hum yX6_hum.cls cX6_hum wsX6_hum 5 (some .int)) 19 kX6_hum_19 :=
  alls _ (s_istore_n rfl dX6_hum_19) <|
  alls _ (s_iload_n rfl dX6_hum_20) <|
  alls _ (s_if_eq (by decide) dX6_hum_21) <|
  alls _ (s_aload_n rfl dX6_hum_24) <|
  alls _ (s_iload_n rfl dX6_hum_25) <|
  alls _ (s_callv (ct_X6_no l) rfl rfl rfl (gdV wd_842 wd_844 wd_11 wd_65 wd_845) rfl rfl (by decide +kernel) ⟨Nat.le_of_ble_eq_true rfl, Nat.le_of_ble_eq_true rfl⟩ dX6_hum_26) <|
  alls _ (s_iret dX6_hum_29) <|
  alls_nil _
set_option maxRecDepth 100000 in
theorem sX6_hum_12 (l : Launch) : AllS (pSnd l rmX6_hum yX6_hum.cls cX6_hum wsX6_hum 5 (some .int)) 12 kX6_hum_12 :=
  alls _ (s_iload_n rfl dX6_hum_12) <|
  alls _ (s_iconst dX6_hum_13) <|
  alls _ (s_bipush (by decide) dX6_hum_14) <|
  alls _ (s_calls (ct_X6_bound l) rfl rfl (gdS wd_841) (List.mem_cons_of_mem _ wd_839) (List.mem_cons_of_mem _ wd_840) (List.mem_cons_of_mem _ wd_65) rfl rfl (by decide +kernel) ⟨Nat.le_of_ble_eq_true rfl, Nat.le_of_ble_eq_true rfl⟩ dX6_hum_16) <|
  alls _ s_fall (alls_nil _)
set_option maxRecDepth 100000 in
theorem sX6_hum_0 (l : Launch) : AllS (pSnd l rmX6_hum yX6_hum.cls cX6_hum wsX6_hum 5 (some .int)) 0 kX6_hum_0 :=
  alls _ (s_aload_n rfl dX6_hum_0) <|
  alls _ (s_iload_n rfl dX6_hum_1) <|
  alls _ (s_callv (ct_X6_isPair l) rfl rfl rfl (gdV wd_907 wd_909 wd_24 wd_65 wd_910) rfl rfl (by decide +kernel) ⟨Nat.le_of_ble_eq_true rfl, Nat.le_of_ble_eq_true rfl⟩ dX6_hum_2) <|
  alls _ (s_if_ne (by decide) dX6_hum_5) <|
  alls _ (s_iconst dX6_hum_8) <|
  alls _ (s_goto (by decide) dX6_hum_9) <|
  alls_nil _
def KX6_hum : List (Nat × pProg) := [(0, kX6_hum_0), (12, kX6_hum_12), (19, kX6_hum_19), (30, kX6_hum_30), (33, kX6_hum_33), (61, kX6_hum_61), (64, kX6_hum_64), (71, kX6_hum_71), (74, kX6_hum_74), (97, kX6_hum_97), (120, kX6_hum_120), (122, kX6_hum_122)]
theorem bX6_hum_0 : blkOf KX6_hum 0 = some kX6_hum_0 := rfl
theorem bX6_hum_12 : blkOf KX6_hum 12 = some kX6_hum_12 := rfl
theorem bX6_hum_19 : blkOf KX6_hum 19 = some kX6_hum_19 := rfl
theorem bX6_hum_30 : blkOf KX6_hum 30 = some kX6_hum_30 := rfl
theorem bX6_hum_33 : blkOf KX6_hum 33 = some kX6_hum_33 := rfl
theorem bX6_hum_61 : blkOf KX6_hum 61 = some kX6_hum_61 := rfl
theorem bX6_hum_64 : blkOf KX6_hum 64 = some kX6_hum_64 := rfl
theorem bX6_hum_71 : blkOf KX6_hum 71 = some kX6_hum_71 := rfl
theorem bX6_hum_74 : blkOf KX6_hum 74 = some kX6_hum_74 := rfl
theorem bX6_hum_97 : blkOf KX6_hum 97 = some kX6_hum_97 := rfl
theorem bX6_hum_120 : blkOf KX6_hum 120 = some kX6_hum_120 := rfl
theorem bX6_hum_122 : blkOf KX6_hum 122 = some kX6_hum_122 := rfl
def tX6_hum : pT := pM KX6_hum 5
theorem ct_X6_hum (l : Launch) : pCtr l yX6_hum wsX6_hum rmX6_hum 3 tX6_hum := ctr_of (by decide +kernel) rfl (List.forall_mem_cons.mpr ⟨sX6_hum_0 l, List.forall_mem_cons.mpr ⟨sX6_hum_12 l, List.forall_mem_cons.mpr ⟨sX6_hum_19 l, List.forall_mem_cons.mpr ⟨sX6_hum_30 l, List.forall_mem_cons.mpr ⟨sX6_hum_33 l, List.forall_mem_cons.mpr ⟨sX6_hum_61 l, List.forall_mem_cons.mpr ⟨sX6_hum_64 l, List.forall_mem_cons.mpr ⟨sX6_hum_71 l, List.forall_mem_cons.mpr ⟨sX6_hum_74 l, List.forall_mem_cons.mpr ⟨sX6_hum_97 l, List.forall_mem_cons.mpr ⟨sX6_hum_120 l, List.forall_mem_cons.mpr ⟨sX6_hum_122 l, fun _ h => absurd h List.not_mem_nil⟩⟩⟩⟩⟩⟩⟩⟩⟩⟩⟩⟩)
theorem dX6_together_0 : decode cX6_together 0 = .ok (.iconst 0, 1) := by decide +kernel
theorem dX6_together_1 : decode cX6_together 1 = .ok (.istore_n 1, 1) := by decide +kernel
theorem dX6_together_2 : decode cX6_together 2 = .ok (.iconst 0, 1) := by decide +kernel
theorem dX6_together_3 : decode cX6_together 3 = .ok (.istore_n 2, 1) := by decide +kernel
theorem dX6_together_4 : decode cX6_together 4 = .ok (.iload_n 2, 1) := by decide +kernel
theorem dX6_together_5 : decode cX6_together 5 = .ok (.aload_n 0, 1) := by decide +kernel
theorem dX6_together_6 : decode cX6_together 6 = .ok (.getfield 58, 3) := by decide +kernel
theorem dX6_together_9 : decode cX6_together 9 = .ok (.if_icmp .ge 50, 3) := by decide +kernel
theorem dX6_together_12 : decode cX6_together 12 = .ok (.iload_n 2, 1) := by decide +kernel
theorem dX6_together_13 : decode cX6_together 13 = .ok (.iconst 1, 1) := by decide +kernel
theorem dX6_together_14 : decode cX6_together 14 = .ok (.iadd, 1) := by decide +kernel
theorem dX6_together_15 : decode cX6_together 15 = .ok (.istore_n 3, 1) := by decide +kernel
theorem dX6_together_16 : decode cX6_together 16 = .ok (.iload_n 3, 1) := by decide +kernel
theorem dX6_together_17 : decode cX6_together 17 = .ok (.aload_n 0, 1) := by decide +kernel
theorem dX6_together_18 : decode cX6_together 18 = .ok (.getfield 58, 3) := by decide +kernel
theorem dX6_together_21 : decode cX6_together 21 = .ok (.if_icmp .ge 32, 3) := by decide +kernel
theorem dX6_together_24 : decode cX6_together 24 = .ok (.iload_n 1, 1) := by decide +kernel
theorem dX6_together_25 : decode cX6_together 25 = .ok (.aload_n 0, 1) := by decide +kernel
theorem dX6_together_26 : decode cX6_together 26 = .ok (.getfield 25, 3) := by decide +kernel
theorem dX6_together_29 : decode cX6_together 29 = .ok (.iload_n 2, 1) := by decide +kernel
theorem dX6_together_30 : decode cX6_together 30 = .ok (.iaload, 1) := by decide +kernel
theorem dX6_together_31 : decode cX6_together 31 = .ok (.aload_n 0, 1) := by decide +kernel
theorem dX6_together_32 : decode cX6_together 32 = .ok (.getfield 25, 3) := by decide +kernel
theorem dX6_together_35 : decode cX6_together 35 = .ok (.iload_n 3, 1) := by decide +kernel
theorem dX6_together_36 : decode cX6_together 36 = .ok (.iaload, 1) := by decide +kernel
theorem dX6_together_37 : decode cX6_together 37 = .ok (.if_icmp .ne 7, 3) := by decide +kernel
theorem dX6_together_40 : decode cX6_together 40 = .ok (.iconst 1, 1) := by decide +kernel
theorem dX6_together_41 : decode cX6_together 41 = .ok (.goto 4, 3) := by decide +kernel
theorem dX6_together_44 : decode cX6_together 44 = .ok (.iconst 0, 1) := by decide +kernel
theorem dX6_together_45 : decode cX6_together 45 = .ok (.iadd, 1) := by decide +kernel
theorem dX6_together_46 : decode cX6_together 46 = .ok (.istore_n 1, 1) := by decide +kernel
theorem dX6_together_47 : decode cX6_together 47 = .ok (.iinc 3 1, 3) := by decide +kernel
theorem dX6_together_50 : decode cX6_together 50 = .ok (.goto (-34), 3) := by decide +kernel
theorem dX6_together_53 : decode cX6_together 53 = .ok (.iinc 2 1, 3) := by decide +kernel
theorem dX6_together_56 : decode cX6_together 56 = .ok (.goto (-52), 3) := by decide +kernel
theorem dX6_together_59 : decode cX6_together 59 = .ok (.iload_n 1, 1) := by decide +kernel
theorem dX6_together_60 : decode cX6_together 60 = .ok (.ireturn, 1) := by decide +kernel
def rmX6_together : Room := { frames := 0, cells := 0, slots := 0, locals := 0 }
abbrev wsX6_together : List Cond := .code yX6_together cX6_together 4 (some .int) :: gw_tbl
def kX6_together_59 : pProg := (59, 1, a_iload 1) :: (60, 1, a_iret) :: []
def kX6_together_53 : pProg := (53, 3, a_iinc 2 1) :: (56, 3, a_goto 4) :: []
def kX6_together_45 : pProg := (45, 1, a_iadd) :: (46, 1, a_istore 1) :: (47, 3, a_iinc 3 1) :: (50, 3, a_goto 16) :: []
def kX6_together_44 : pProg := (44, 1, a_iconst 0) :: (45, 0, a_fall 45) :: []
def kX6_together_16 : pProg := (16, 1, a_iload 3) :: (17, 1, a_aload 0) :: (18, 3, a_getf 0 4 7) :: (21, 3, a_icmp_ge 53) :: (24, 1, a_iload 1) :: (25, 1, a_aload 0) :: (26, 3, a_getf 0 4 5) :: (29, 1, a_iload 2) :: (30, 1, a_iald 6) :: (31, 1, a_aload 0) :: (32, 3, a_getf 0 4 5) :: (35, 1, a_iload 3) :: (36, 1, a_iald 6) :: (37, 3, a_icmp_ne 44) :: (40, 1, a_iconst 1) :: (41, 3, a_goto 45) :: []
def kX6_together_4 : pProg := (4, 1, a_iload 2) :: (5, 1, a_aload 0) :: (6, 3, a_getf 0 4 7) :: (9, 3, a_icmp_ge 59) :: (12, 1, a_iload 2) :: (13, 1, a_iconst 1) :: (14, 1, a_iadd) :: (15, 1, a_istore 3) :: (16, 0, a_fall 16) :: []
def kX6_together_0 : pProg := (0, 1, a_iconst 0) :: (1, 1, a_istore 1) :: (2, 1, a_iconst 0) :: (3, 1, a_istore 2) :: (4, 0, a_fall 4) :: []
set_option maxRecDepth 100000 in
theorem sX6_together_59 (l : Launch) : AllS (pSnd l rmX6_together yX6_together.cls cX6_together wsX6_together 4 (some .int)) 59 kX6_together_59 :=
  alls _ (s_iload_n rfl dX6_together_59) <|
  alls _ (s_iret dX6_together_60) <|
  alls_nil _
set_option maxRecDepth 100000 in
theorem sX6_together_53 (l : Launch) : AllS (pSnd l rmX6_together yX6_together.cls cX6_together wsX6_together 4 (some .int)) 53 kX6_together_53 :=
  alls _ (s_iinc dX6_together_53) <|
  alls _ (s_goto (by decide) dX6_together_56) <|
  alls_nil _
set_option maxRecDepth 100000 in
theorem sX6_together_45 (l : Launch) : AllS (pSnd l rmX6_together yX6_together.cls cX6_together wsX6_together 4 (some .int)) 45 kX6_together_45 :=
  alls _ (s_iadd dX6_together_45) <|
  alls _ (s_istore_n rfl dX6_together_46) <|
  alls _ (s_iinc dX6_together_47) <|
  alls _ (s_goto (by decide) dX6_together_50) <|
  alls_nil _
set_option maxRecDepth 100000 in
theorem sX6_together_44 (l : Launch) : AllS (pSnd l rmX6_together yX6_together.cls cX6_together wsX6_together 4 (some .int)) 44 kX6_together_44 :=
  alls _ (s_iconst dX6_together_44) <|
  alls _ s_fall (alls_nil _)
set_option maxRecDepth 100000 in
theorem sX6_together_16 (l : Launch) : AllS (pSnd l rmX6_together yX6_together.cls cX6_together wsX6_together 4 (some .int)) 16 kX6_together_16 :=
  alls _ (s_iload_n rfl dX6_together_16) <|
  alls _ (s_aload_n rfl dX6_together_17) <|
  alls _ (s_getf (C := RX6) (T := TX6) (N := 29) rfl (in_c inX6) (by decide) (List.mem_cons_of_mem _ wd_754) rfl dX6_together_18) <|
  alls _ (s_icmp_ge (by decide) dX6_together_21) <|
  alls _ (s_iload_n rfl dX6_together_24) <|
  alls _ (s_aload_n rfl dX6_together_25) <|
  alls _ (s_getf (C := RX6) (T := TX6) (N := 29) rfl (in_c inX6) (by decide) (List.mem_cons_of_mem _ wd_752) rfl dX6_together_26) <|
  alls _ (s_iload_n rfl dX6_together_29) <|
  alls _ (s_iald dX6_together_30) <|
  alls _ (s_aload_n rfl dX6_together_31) <|
  alls _ (s_getf (C := RX6) (T := TX6) (N := 29) rfl (in_c inX6) (by decide) (List.mem_cons_of_mem _ wd_752) rfl dX6_together_32) <|
  alls _ (s_iload_n rfl dX6_together_35) <|
  alls _ (s_iald dX6_together_36) <|
  alls _ (s_icmp_ne (by decide) dX6_together_37) <|
  alls _ (s_iconst dX6_together_40) <|
  alls _ (s_goto (by decide) dX6_together_41) <|
  alls_nil _
set_option maxRecDepth 100000 in
theorem sX6_together_4 (l : Launch) : AllS (pSnd l rmX6_together yX6_together.cls cX6_together wsX6_together 4 (some .int)) 4 kX6_together_4 :=
  alls _ (s_iload_n rfl dX6_together_4) <|
  alls _ (s_aload_n rfl dX6_together_5) <|
  alls _ (s_getf (C := RX6) (T := TX6) (N := 29) rfl (in_c inX6) (by decide) (List.mem_cons_of_mem _ wd_754) rfl dX6_together_6) <|
  alls _ (s_icmp_ge (by decide) dX6_together_9) <|
  alls _ (s_iload_n rfl dX6_together_12) <|
  alls _ (s_iconst dX6_together_13) <|
  alls _ (s_iadd dX6_together_14) <|
  alls _ (s_istore_n rfl dX6_together_15) <|
  alls _ s_fall (alls_nil _)
set_option maxRecDepth 100000 in
theorem sX6_together_0 (l : Launch) : AllS (pSnd l rmX6_together yX6_together.cls cX6_together wsX6_together 4 (some .int)) 0 kX6_together_0 :=
  alls _ (s_iconst dX6_together_0) <|
  alls _ (s_istore_n rfl dX6_together_1) <|
  alls _ (s_iconst dX6_together_2) <|
  alls _ (s_istore_n rfl dX6_together_3) <|
  alls _ s_fall (alls_nil _)
def KX6_together : List (Nat × pProg) := [(0, kX6_together_0), (4, kX6_together_4), (16, kX6_together_16), (44, kX6_together_44), (45, kX6_together_45), (53, kX6_together_53), (59, kX6_together_59)]
theorem bX6_together_0 : blkOf KX6_together 0 = some kX6_together_0 := rfl
theorem bX6_together_4 : blkOf KX6_together 4 = some kX6_together_4 := rfl
theorem bX6_together_16 : blkOf KX6_together 16 = some kX6_together_16 := rfl
theorem bX6_together_44 : blkOf KX6_together 44 = some kX6_together_44 := rfl
theorem bX6_together_45 : blkOf KX6_together 45 = some kX6_together_45 := rfl
theorem bX6_together_53 : blkOf KX6_together 53 = some kX6_together_53 := rfl
theorem bX6_together_59 : blkOf KX6_together 59 = some kX6_together_59 := rfl
def tX6_together : pT := pM KX6_together 4
theorem ct_X6_together (l : Launch) : pCtr l yX6_together wsX6_together rmX6_together 1 tX6_together := ctr_of (by decide +kernel) rfl (List.forall_mem_cons.mpr ⟨sX6_together_0 l, List.forall_mem_cons.mpr ⟨sX6_together_4 l, List.forall_mem_cons.mpr ⟨sX6_together_16 l, List.forall_mem_cons.mpr ⟨sX6_together_44 l, List.forall_mem_cons.mpr ⟨sX6_together_45 l, List.forall_mem_cons.mpr ⟨sX6_together_53 l, List.forall_mem_cons.mpr ⟨sX6_together_59 l, fun _ h => absurd h List.not_mem_nil⟩⟩⟩⟩⟩⟩⟩)
theorem dX6_mostHurt_0 : decode cX6_mostHurt 0 = .ok (.bipush (-9), 2) := by decide +kernel
theorem dX6_mostHurt_2 : decode cX6_mostHurt 2 = .ok (.istore_n 1, 1) := by decide +kernel
theorem dX6_mostHurt_3 : decode cX6_mostHurt 3 = .ok (.iconst 0, 1) := by decide +kernel
theorem dX6_mostHurt_4 : decode cX6_mostHurt 4 = .ok (.istore_n 2, 1) := by decide +kernel
theorem dX6_mostHurt_5 : decode cX6_mostHurt 5 = .ok (.iload_n 2, 1) := by decide +kernel
theorem dX6_mostHurt_6 : decode cX6_mostHurt 6 = .ok (.iconst 2, 1) := by decide +kernel
theorem dX6_mostHurt_7 : decode cX6_mostHurt 7 = .ok (.aload_n 0, 1) := by decide +kernel
theorem dX6_mostHurt_8 : decode cX6_mostHurt 8 = .ok (.getfield 58, 3) := by decide +kernel
theorem dX6_mostHurt_11 : decode cX6_mostHurt 11 = .ok (.imul, 1) := by decide +kernel
theorem dX6_mostHurt_12 : decode cX6_mostHurt 12 = .ok (.if_icmp .ge 34, 3) := by decide +kernel
theorem dX6_mostHurt_15 : decode cX6_mostHurt 15 = .ok (.iload_n 1, 1) := by decide +kernel
theorem dX6_mostHurt_16 : decode cX6_mostHurt 16 = .ok (.ifCond .lt 18, 3) := by decide +kernel
theorem dX6_mostHurt_19 : decode cX6_mostHurt 19 = .ok (.aload_n 0, 1) := by decide +kernel
theorem dX6_mostHurt_20 : decode cX6_mostHurt 20 = .ok (.getfield 22, 3) := by decide +kernel
theorem dX6_mostHurt_23 : decode cX6_mostHurt 23 = .ok (.iload_n 2, 1) := by decide +kernel
theorem dX6_mostHurt_24 : decode cX6_mostHurt 24 = .ok (.iaload, 1) := by decide +kernel
theorem dX6_mostHurt_25 : decode cX6_mostHurt 25 = .ok (.aload_n 0, 1) := by decide +kernel
theorem dX6_mostHurt_26 : decode cX6_mostHurt 26 = .ok (.getfield 22, 3) := by decide +kernel
theorem dX6_mostHurt_29 : decode cX6_mostHurt 29 = .ok (.iload_n 1, 1) := by decide +kernel
theorem dX6_mostHurt_30 : decode cX6_mostHurt 30 = .ok (.iaload, 1) := by decide +kernel
theorem dX6_mostHurt_31 : decode cX6_mostHurt 31 = .ok (.if_icmp .le 7, 3) := by decide +kernel
theorem dX6_mostHurt_34 : decode cX6_mostHurt 34 = .ok (.iload_n 2, 1) := by decide +kernel
theorem dX6_mostHurt_35 : decode cX6_mostHurt 35 = .ok (.goto 4, 3) := by decide +kernel
theorem dX6_mostHurt_38 : decode cX6_mostHurt 38 = .ok (.iload_n 1, 1) := by decide +kernel
theorem dX6_mostHurt_39 : decode cX6_mostHurt 39 = .ok (.istore_n 1, 1) := by decide +kernel
theorem dX6_mostHurt_40 : decode cX6_mostHurt 40 = .ok (.iinc 2 1, 3) := by decide +kernel
theorem dX6_mostHurt_43 : decode cX6_mostHurt 43 = .ok (.goto (-38), 3) := by decide +kernel
theorem dX6_mostHurt_46 : decode cX6_mostHurt 46 = .ok (.iload_n 1, 1) := by decide +kernel
theorem dX6_mostHurt_47 : decode cX6_mostHurt 47 = .ok (.ireturn, 1) := by decide +kernel
def rmX6_mostHurt : Room := { frames := 0, cells := 0, slots := 0, locals := 0 }
abbrev wsX6_mostHurt : List Cond := .code yX6_mostHurt cX6_mostHurt 3 (some .int) :: gw_tbl
def kX6_mostHurt_46 : pProg := (46, 1, a_iload 1) :: (47, 1, a_iret) :: []
def kX6_mostHurt_39 : pProg := (39, 1, a_istore 1) :: (40, 3, a_iinc 2 1) :: (43, 3, a_goto 5) :: []
def kX6_mostHurt_38 : pProg := (38, 1, a_iload 1) :: (39, 0, a_fall 39) :: []
def kX6_mostHurt_34 : pProg := (34, 1, a_iload 2) :: (35, 3, a_goto 39) :: []
def kX6_mostHurt_5 : pProg := (5, 1, a_iload 2) :: (6, 1, a_iconst 2) :: (7, 1, a_aload 0) :: (8, 3, a_getf 0 4 7) :: (11, 1, a_imul) :: (12, 3, a_icmp_ge 46) :: (15, 1, a_iload 1) :: (16, 3, a_if_lt 34) :: (19, 1, a_aload 0) :: (20, 3, a_getf 0 4 4) :: (23, 1, a_iload 2) :: (24, 1, a_iald 5) :: (25, 1, a_aload 0) :: (26, 3, a_getf 0 4 4) :: (29, 1, a_iload 1) :: (30, 1, a_iald 5) :: (31, 3, a_icmp_le 38) :: (34, 0, a_fall 34) :: []
def kX6_mostHurt_0 : pProg := (0, 2, a_iconst (-9)) :: (2, 1, a_istore 1) :: (3, 1, a_iconst 0) :: (4, 1, a_istore 2) :: (5, 0, a_fall 5) :: []
set_option maxRecDepth 100000 in
theorem sX6_mostHurt_46 (l : Launch) : AllS (pSnd l rmX6_mostHurt yX6_mostHurt.cls cX6_mostHurt wsX6_mostHurt 3 (some .int)) 46 kX6_mostHurt_46 :=
  alls _ (s_iload_n rfl dX6_mostHurt_46) <|
  alls _ (s_iret dX6_mostHurt_47) <|
  alls_nil _
set_option maxRecDepth 100000 in
theorem sX6_mostHurt_39 (l : Launch) : AllS (pSnd l rmX6_mostHurt yX6_mostHurt.cls cX6_mostHurt wsX6_mostHurt 3 (some .int)) 39 kX6_mostHurt_39 :=
  alls _ (s_istore_n rfl dX6_mostHurt_39) <|
  alls _ (s_iinc dX6_mostHurt_40) <|
  alls _ (s_goto (by decide) dX6_mostHurt_43) <|
  alls_nil _
set_option maxRecDepth 100000 in
theorem sX6_mostHurt_38 (l : Launch) : AllS (pSnd l rmX6_mostHurt yX6_mostHurt.cls cX6_mostHurt wsX6_mostHurt 3 (some .int)) 38 kX6_mostHurt_38 :=
  alls _ (s_iload_n rfl dX6_mostHurt_38) <|
  alls _ s_fall (alls_nil _)
set_option maxRecDepth 100000 in
theorem sX6_mostHurt_34 (l : Launch) : AllS (pSnd l rmX6_mostHurt yX6_mostHurt.cls cX6_mostHurt wsX6_mostHurt 3 (some .int)) 34 kX6_mostHurt_34 :=
  alls _ (s_iload_n rfl dX6_mostHurt_34) <|
  alls _ (s_goto (by decide) dX6_mostHurt_35) <|
  alls_nil _
set_option maxRecDepth 100000 in
theorem sX6_mostHurt_5 (l : Launch) : AllS (pSnd l rmX6_mostHurt yX6_mostHurt.cls cX6_mostHurt wsX6_mostHurt 3 (some .int)) 5 kX6_mostHurt_5 :=
  alls _ (s_iload_n rfl dX6_mostHurt_5) <|
  alls _ (s_iconst dX6_mostHurt_6) <|
  alls _ (s_aload_n rfl dX6_mostHurt_7) <|
  alls _ (s_getf (C := RX6) (T := TX6) (N := 29) rfl (in_c inX6) (by decide) (List.mem_cons_of_mem _ wd_754) rfl dX6_mostHurt_8) <|
  alls _ (s_imul dX6_mostHurt_11) <|
  alls _ (s_icmp_ge (by decide) dX6_mostHurt_12) <|
  alls _ (s_iload_n rfl dX6_mostHurt_15) <|
  alls _ (s_if_lt (by decide) dX6_mostHurt_16) <|
  alls _ (s_aload_n rfl dX6_mostHurt_19) <|
  alls _ (s_getf (C := RX6) (T := TX6) (N := 29) rfl (in_c inX6) (by decide) (List.mem_cons_of_mem _ wd_751) rfl dX6_mostHurt_20) <|
  alls _ (s_iload_n rfl dX6_mostHurt_23) <|
  alls _ (s_iald dX6_mostHurt_24) <|
  alls _ (s_aload_n rfl dX6_mostHurt_25) <|
  alls _ (s_getf (C := RX6) (T := TX6) (N := 29) rfl (in_c inX6) (by decide) (List.mem_cons_of_mem _ wd_751) rfl dX6_mostHurt_26) <|
  alls _ (s_iload_n rfl dX6_mostHurt_29) <|
  alls _ (s_iald dX6_mostHurt_30) <|
  alls _ (s_icmp_le (by decide) dX6_mostHurt_31) <|
  alls _ s_fall (alls_nil _)
set_option maxRecDepth 100000 in
theorem sX6_mostHurt_0 (l : Launch) : AllS (pSnd l rmX6_mostHurt yX6_mostHurt.cls cX6_mostHurt wsX6_mostHurt 3 (some .int)) 0 kX6_mostHurt_0 :=
  alls _ (s_bipush (by decide) dX6_mostHurt_0) <|
  alls _ (s_istore_n rfl dX6_mostHurt_2) <|
  alls _ (s_iconst dX6_mostHurt_3) <|
  alls _ (s_istore_n rfl dX6_mostHurt_4) <|
  alls _ s_fall (alls_nil _)
def KX6_mostHurt : List (Nat × pProg) := [(0, kX6_mostHurt_0), (5, kX6_mostHurt_5), (34, kX6_mostHurt_34), (38, kX6_mostHurt_38), (39, kX6_mostHurt_39), (46, kX6_mostHurt_46)]
theorem bX6_mostHurt_0 : blkOf KX6_mostHurt 0 = some kX6_mostHurt_0 := rfl
theorem bX6_mostHurt_5 : blkOf KX6_mostHurt 5 = some kX6_mostHurt_5 := rfl
theorem bX6_mostHurt_34 : blkOf KX6_mostHurt 34 = some kX6_mostHurt_34 := rfl
theorem bX6_mostHurt_38 : blkOf KX6_mostHurt 38 = some kX6_mostHurt_38 := rfl
theorem bX6_mostHurt_39 : blkOf KX6_mostHurt 39 = some kX6_mostHurt_39 := rfl
theorem bX6_mostHurt_46 : blkOf KX6_mostHurt 46 = some kX6_mostHurt_46 := rfl
def tX6_mostHurt : pT := pM KX6_mostHurt 3
theorem ct_X6_mostHurt (l : Launch) : pCtr l yX6_mostHurt wsX6_mostHurt rmX6_mostHurt 1 tX6_mostHurt := ctr_of (by decide +kernel) rfl (List.forall_mem_cons.mpr ⟨sX6_mostHurt_0 l, List.forall_mem_cons.mpr ⟨sX6_mostHurt_5 l, List.forall_mem_cons.mpr ⟨sX6_mostHurt_34 l, List.forall_mem_cons.mpr ⟨sX6_mostHurt_38 l, List.forall_mem_cons.mpr ⟨sX6_mostHurt_39 l, List.forall_mem_cons.mpr ⟨sX6_mostHurt_46 l, fun _ h => absurd h List.not_mem_nil⟩⟩⟩⟩⟩⟩)
theorem dX6_leastFar_0 : decode cX6_leastFar 0 = .ok (.bipush (-9), 2) := by decide +kernel
theorem dX6_leastFar_2 : decode cX6_leastFar 2 = .ok (.istore_n 1, 1) := by decide +kernel
theorem dX6_leastFar_3 : decode cX6_leastFar 3 = .ok (.iconst 0, 1) := by decide +kernel
theorem dX6_leastFar_4 : decode cX6_leastFar 4 = .ok (.istore_n 2, 1) := by decide +kernel
theorem dX6_leastFar_5 : decode cX6_leastFar 5 = .ok (.iload_n 2, 1) := by decide +kernel
theorem dX6_leastFar_6 : decode cX6_leastFar 6 = .ok (.aload_n 0, 1) := by decide +kernel
theorem dX6_leastFar_7 : decode cX6_leastFar 7 = .ok (.getfield 58, 3) := by decide +kernel
theorem dX6_leastFar_10 : decode cX6_leastFar 10 = .ok (.if_icmp .ge 34, 3) := by decide +kernel
theorem dX6_leastFar_13 : decode cX6_leastFar 13 = .ok (.iload_n 1, 1) := by decide +kernel
theorem dX6_leastFar_14 : decode cX6_leastFar 14 = .ok (.ifCond .lt 18, 3) := by decide +kernel
theorem dX6_leastFar_17 : decode cX6_leastFar 17 = .ok (.aload_n 0, 1) := by decide +kernel
theorem dX6_leastFar_18 : decode cX6_leastFar 18 = .ok (.getfield 25, 3) := by decide +kernel
theorem dX6_leastFar_21 : decode cX6_leastFar 21 = .ok (.iload_n 2, 1) := by decide +kernel
theorem dX6_leastFar_22 : decode cX6_leastFar 22 = .ok (.iaload, 1) := by decide +kernel
theorem dX6_leastFar_23 : decode cX6_leastFar 23 = .ok (.aload_n 0, 1) := by decide +kernel
theorem dX6_leastFar_24 : decode cX6_leastFar 24 = .ok (.getfield 25, 3) := by decide +kernel
theorem dX6_leastFar_27 : decode cX6_leastFar 27 = .ok (.iload_n 1, 1) := by decide +kernel
theorem dX6_leastFar_28 : decode cX6_leastFar 28 = .ok (.iaload, 1) := by decide +kernel
theorem dX6_leastFar_29 : decode cX6_leastFar 29 = .ok (.if_icmp .ge 7, 3) := by decide +kernel
theorem dX6_leastFar_32 : decode cX6_leastFar 32 = .ok (.iload_n 2, 1) := by decide +kernel
theorem dX6_leastFar_33 : decode cX6_leastFar 33 = .ok (.goto 4, 3) := by decide +kernel
theorem dX6_leastFar_36 : decode cX6_leastFar 36 = .ok (.iload_n 1, 1) := by decide +kernel
theorem dX6_leastFar_37 : decode cX6_leastFar 37 = .ok (.istore_n 1, 1) := by decide +kernel
theorem dX6_leastFar_38 : decode cX6_leastFar 38 = .ok (.iinc 2 1, 3) := by decide +kernel
theorem dX6_leastFar_41 : decode cX6_leastFar 41 = .ok (.goto (-36), 3) := by decide +kernel
theorem dX6_leastFar_44 : decode cX6_leastFar 44 = .ok (.iload_n 1, 1) := by decide +kernel
theorem dX6_leastFar_45 : decode cX6_leastFar 45 = .ok (.ireturn, 1) := by decide +kernel
def rmX6_leastFar : Room := { frames := 0, cells := 0, slots := 0, locals := 0 }
abbrev wsX6_leastFar : List Cond := .code yX6_leastFar cX6_leastFar 3 (some .int) :: gw_tbl
def kX6_leastFar_44 : pProg := (44, 1, a_iload 1) :: (45, 1, a_iret) :: []
def kX6_leastFar_37 : pProg := (37, 1, a_istore 1) :: (38, 3, a_iinc 2 1) :: (41, 3, a_goto 5) :: []
def kX6_leastFar_36 : pProg := (36, 1, a_iload 1) :: (37, 0, a_fall 37) :: []
def kX6_leastFar_32 : pProg := (32, 1, a_iload 2) :: (33, 3, a_goto 37) :: []
def kX6_leastFar_5 : pProg := (5, 1, a_iload 2) :: (6, 1, a_aload 0) :: (7, 3, a_getf 0 4 7) :: (10, 3, a_icmp_ge 44) :: (13, 1, a_iload 1) :: (14, 3, a_if_lt 32) :: (17, 1, a_aload 0) :: (18, 3, a_getf 0 4 5) :: (21, 1, a_iload 2) :: (22, 1, a_iald 6) :: (23, 1, a_aload 0) :: (24, 3, a_getf 0 4 5) :: (27, 1, a_iload 1) :: (28, 1, a_iald 6) :: (29, 3, a_icmp_ge 36) :: (32, 0, a_fall 32) :: []
def kX6_leastFar_0 : pProg := (0, 2, a_iconst (-9)) :: (2, 1, a_istore 1) :: (3, 1, a_iconst 0) :: (4, 1, a_istore 2) :: (5, 0, a_fall 5) :: []
set_option maxRecDepth 100000 in
theorem sX6_leastFar_44 (l : Launch) : AllS (pSnd l rmX6_leastFar yX6_leastFar.cls cX6_leastFar wsX6_leastFar 3 (some .int)) 44 kX6_leastFar_44 :=
  alls _ (s_iload_n rfl dX6_leastFar_44) <|
  alls _ (s_iret dX6_leastFar_45) <|
  alls_nil _
set_option maxRecDepth 100000 in
theorem sX6_leastFar_37 (l : Launch) : AllS (pSnd l rmX6_leastFar yX6_leastFar.cls cX6_leastFar wsX6_leastFar 3 (some .int)) 37 kX6_leastFar_37 :=
  alls _ (s_istore_n rfl dX6_leastFar_37) <|
  alls _ (s_iinc dX6_leastFar_38) <|
  alls _ (s_goto (by decide) dX6_leastFar_41) <|
  alls_nil _
set_option maxRecDepth 100000 in
theorem sX6_leastFar_36 (l : Launch) : AllS (pSnd l rmX6_leastFar yX6_leastFar.cls cX6_leastFar wsX6_leastFar 3 (some .int)) 36 kX6_leastFar_36 :=
  alls _ (s_iload_n rfl dX6_leastFar_36) <|
  alls _ s_fall (alls_nil _)
set_option maxRecDepth 100000 in
theorem sX6_leastFar_32 (l : Launch) : AllS (pSnd l rmX6_leastFar yX6_leastFar.cls cX6_leastFar wsX6_leastFar 3 (some .int)) 32 kX6_leastFar_32 :=
  alls _ (s_iload_n rfl dX6_leastFar_32) <|
  alls _ (s_goto (by decide) dX6_leastFar_33) <|
  alls_nil _
set_option maxRecDepth 100000 in
theorem sX6_leastFar_5 (l : Launch) : AllS (pSnd l rmX6_leastFar yX6_leastFar.cls cX6_leastFar wsX6_leastFar 3 (some .int)) 5 kX6_leastFar_5 :=
  alls _ (s_iload_n rfl dX6_leastFar_5) <|
  alls _ (s_aload_n rfl dX6_leastFar_6) <|
  alls _ (s_getf (C := RX6) (T := TX6) (N := 29) rfl (in_c inX6) (by decide) (List.mem_cons_of_mem _ wd_754) rfl dX6_leastFar_7) <|
  alls _ (s_icmp_ge (by decide) dX6_leastFar_10) <|
  alls _ (s_iload_n rfl dX6_leastFar_13) <|
  alls _ (s_if_lt (by decide) dX6_leastFar_14) <|
  alls _ (s_aload_n rfl dX6_leastFar_17) <|
  alls _ (s_getf (C := RX6) (T := TX6) (N := 29) rfl (in_c inX6) (by decide) (List.mem_cons_of_mem _ wd_752) rfl dX6_leastFar_18) <|
  alls _ (s_iload_n rfl dX6_leastFar_21) <|
  alls _ (s_iald dX6_leastFar_22) <|
  alls _ (s_aload_n rfl dX6_leastFar_23) <|
  alls _ (s_getf (C := RX6) (T := TX6) (N := 29) rfl (in_c inX6) (by decide) (List.mem_cons_of_mem _ wd_752) rfl dX6_leastFar_24) <|
  alls _ (s_iload_n rfl dX6_leastFar_27) <|
  alls _ (s_iald dX6_leastFar_28) <|
  alls _ (s_icmp_ge (by decide) dX6_leastFar_29) <|
  alls _ s_fall (alls_nil _)
set_option maxRecDepth 100000 in
theorem sX6_leastFar_0 (l : Launch) : AllS (pSnd l rmX6_leastFar yX6_leastFar.cls cX6_leastFar wsX6_leastFar 3 (some .int)) 0 kX6_leastFar_0 :=
  alls _ (s_bipush (by decide) dX6_leastFar_0) <|
  alls _ (s_istore_n rfl dX6_leastFar_2) <|
  alls _ (s_iconst dX6_leastFar_3) <|
  alls _ (s_istore_n rfl dX6_leastFar_4) <|
  alls _ s_fall (alls_nil _)
def KX6_leastFar : List (Nat × pProg) := [(0, kX6_leastFar_0), (5, kX6_leastFar_5), (32, kX6_leastFar_32), (36, kX6_leastFar_36), (37, kX6_leastFar_37), (44, kX6_leastFar_44)]
theorem bX6_leastFar_0 : blkOf KX6_leastFar 0 = some kX6_leastFar_0 := rfl
theorem bX6_leastFar_5 : blkOf KX6_leastFar 5 = some kX6_leastFar_5 := rfl
theorem bX6_leastFar_32 : blkOf KX6_leastFar 32 = some kX6_leastFar_32 := rfl
theorem bX6_leastFar_36 : blkOf KX6_leastFar 36 = some kX6_leastFar_36 := rfl
theorem bX6_leastFar_37 : blkOf KX6_leastFar 37 = some kX6_leastFar_37 := rfl
theorem bX6_leastFar_44 : blkOf KX6_leastFar 44 = some kX6_leastFar_44 := rfl
def tX6_leastFar : pT := pM KX6_leastFar 3
theorem ct_X6_leastFar (l : Launch) : pCtr l yX6_leastFar wsX6_leastFar rmX6_leastFar 1 tX6_leastFar := ctr_of (by decide +kernel) rfl (List.forall_mem_cons.mpr ⟨sX6_leastFar_0 l, List.forall_mem_cons.mpr ⟨sX6_leastFar_5 l, List.forall_mem_cons.mpr ⟨sX6_leastFar_32 l, List.forall_mem_cons.mpr ⟨sX6_leastFar_36 l, List.forall_mem_cons.mpr ⟨sX6_leastFar_37 l, List.forall_mem_cons.mpr ⟨sX6_leastFar_44 l, fun _ h => absurd h List.not_mem_nil⟩⟩⟩⟩⟩⟩)
theorem dX6_farthest_0 : decode cX6_farthest 0 = .ok (.bipush (-9), 2) := by decide +kernel
theorem dX6_farthest_2 : decode cX6_farthest 2 = .ok (.istore_n 1, 1) := by decide +kernel
theorem dX6_farthest_3 : decode cX6_farthest 3 = .ok (.iconst 0, 1) := by decide +kernel
theorem dX6_farthest_4 : decode cX6_farthest 4 = .ok (.istore_n 2, 1) := by decide +kernel
theorem dX6_farthest_5 : decode cX6_farthest 5 = .ok (.iload_n 2, 1) := by decide +kernel
theorem dX6_farthest_6 : decode cX6_farthest 6 = .ok (.aload_n 0, 1) := by decide +kernel
theorem dX6_farthest_7 : decode cX6_farthest 7 = .ok (.getfield 58, 3) := by decide +kernel
theorem dX6_farthest_10 : decode cX6_farthest 10 = .ok (.if_icmp .ge 34, 3) := by decide +kernel
theorem dX6_farthest_13 : decode cX6_farthest 13 = .ok (.iload_n 1, 1) := by decide +kernel
theorem dX6_farthest_14 : decode cX6_farthest 14 = .ok (.ifCond .lt 18, 3) := by decide +kernel
theorem dX6_farthest_17 : decode cX6_farthest 17 = .ok (.aload_n 0, 1) := by decide +kernel
theorem dX6_farthest_18 : decode cX6_farthest 18 = .ok (.getfield 25, 3) := by decide +kernel
theorem dX6_farthest_21 : decode cX6_farthest 21 = .ok (.iload_n 2, 1) := by decide +kernel
theorem dX6_farthest_22 : decode cX6_farthest 22 = .ok (.iaload, 1) := by decide +kernel
theorem dX6_farthest_23 : decode cX6_farthest 23 = .ok (.aload_n 0, 1) := by decide +kernel
theorem dX6_farthest_24 : decode cX6_farthest 24 = .ok (.getfield 25, 3) := by decide +kernel
theorem dX6_farthest_27 : decode cX6_farthest 27 = .ok (.iload_n 1, 1) := by decide +kernel
theorem dX6_farthest_28 : decode cX6_farthest 28 = .ok (.iaload, 1) := by decide +kernel
theorem dX6_farthest_29 : decode cX6_farthest 29 = .ok (.if_icmp .le 7, 3) := by decide +kernel
theorem dX6_farthest_32 : decode cX6_farthest 32 = .ok (.iload_n 2, 1) := by decide +kernel
theorem dX6_farthest_33 : decode cX6_farthest 33 = .ok (.goto 4, 3) := by decide +kernel
theorem dX6_farthest_36 : decode cX6_farthest 36 = .ok (.iload_n 1, 1) := by decide +kernel
theorem dX6_farthest_37 : decode cX6_farthest 37 = .ok (.istore_n 1, 1) := by decide +kernel
theorem dX6_farthest_38 : decode cX6_farthest 38 = .ok (.iinc 2 1, 3) := by decide +kernel
theorem dX6_farthest_41 : decode cX6_farthest 41 = .ok (.goto (-36), 3) := by decide +kernel
theorem dX6_farthest_44 : decode cX6_farthest 44 = .ok (.iload_n 1, 1) := by decide +kernel
theorem dX6_farthest_45 : decode cX6_farthest 45 = .ok (.ireturn, 1) := by decide +kernel
def rmX6_farthest : Room := { frames := 0, cells := 0, slots := 0, locals := 0 }
abbrev wsX6_farthest : List Cond := .code yX6_farthest cX6_farthest 3 (some .int) :: gw_tbl
def kX6_farthest_44 : pProg := (44, 1, a_iload 1) :: (45, 1, a_iret) :: []
def kX6_farthest_37 : pProg := (37, 1, a_istore 1) :: (38, 3, a_iinc 2 1) :: (41, 3, a_goto 5) :: []
def kX6_farthest_36 : pProg := (36, 1, a_iload 1) :: (37, 0, a_fall 37) :: []
def kX6_farthest_32 : pProg := (32, 1, a_iload 2) :: (33, 3, a_goto 37) :: []
def kX6_farthest_5 : pProg := (5, 1, a_iload 2) :: (6, 1, a_aload 0) :: (7, 3, a_getf 0 4 7) :: (10, 3, a_icmp_ge 44) :: (13, 1, a_iload 1) :: (14, 3, a_if_lt 32) :: (17, 1, a_aload 0) :: (18, 3, a_getf 0 4 5) :: (21, 1, a_iload 2) :: (22, 1, a_iald 6) :: (23, 1, a_aload 0) :: (24, 3, a_getf 0 4 5) :: (27, 1, a_iload 1) :: (28, 1, a_iald 6) :: (29, 3, a_icmp_le 36) :: (32, 0, a_fall 32) :: []
def kX6_farthest_0 : pProg := (0, 2, a_iconst (-9)) :: (2, 1, a_istore 1) :: (3, 1, a_iconst 0) :: (4, 1, a_istore 2) :: (5, 0, a_fall 5) :: []
set_option maxRecDepth 100000 in
theorem sX6_farthest_44 (l : Launch) : AllS (pSnd l rmX6_farthest yX6_farthest.cls cX6_farthest wsX6_farthest 3 (some .int)) 44 kX6_farthest_44 :=
  alls _ (s_iload_n rfl dX6_farthest_44) <|
  alls _ (s_iret dX6_farthest_45) <|
  alls_nil _
set_option maxRecDepth 100000 in
theorem sX6_farthest_37 (l : Launch) : AllS (pSnd l rmX6_farthest yX6_farthest.cls cX6_farthest wsX6_farthest 3 (some .int)) 37 kX6_farthest_37 :=
  alls _ (s_istore_n rfl dX6_farthest_37) <|
  alls _ (s_iinc dX6_farthest_38) <|
  alls _ (s_goto (by decide) dX6_farthest_41) <|
  alls_nil _
set_option maxRecDepth 100000 in
theorem sX6_farthest_36 (l : Launch) : AllS (pSnd l rmX6_farthest yX6_farthest.cls cX6_farthest wsX6_farthest 3 (some .int)) 36 kX6_farthest_36 :=
  alls _ (s_iload_n rfl dX6_farthest_36) <|
  alls _ s_fall (alls_nil _)
set_option maxRecDepth 100000 in
theorem sX6_farthest_32 (l : Launch) : AllS (pSnd l rmX6_farthest yX6_farthest.cls cX6_farthest wsX6_farthest 3 (some .int)) 32 kX6_farthest_32 :=
  alls _ (s_iload_n rfl dX6_farthest_32) <|
  alls _ (s_goto (by decide) dX6_farthest_33) <|
  alls_nil _
set_option maxRecDepth 100000 in
theorem sX6_farthest_5 (l : Launch) : AllS (pSnd l rmX6_farthest yX6_farthest.cls cX6_farthest wsX6_farthest 3 (some .int)) 5 kX6_farthest_5 :=
  alls _ (s_iload_n rfl dX6_farthest_5) <|
  alls _ (s_aload_n rfl dX6_farthest_6) <|
  alls _ (s_getf (C := RX6) (T := TX6) (N := 29) rfl (in_c inX6) (by decide) (List.mem_cons_of_mem _ wd_754) rfl dX6_farthest_7) <|
  alls _ (s_icmp_ge (by decide) dX6_farthest_10) <|
  alls _ (s_iload_n rfl dX6_farthest_13) <|
  alls _ (s_if_lt (by decide) dX6_farthest_14) <|
  alls _ (s_aload_n rfl dX6_farthest_17) <|
  alls _ (s_getf (C := RX6) (T := TX6) (N := 29) rfl (in_c inX6) (by decide) (List.mem_cons_of_mem _ wd_752) rfl dX6_farthest_18) <|
  alls _ (s_iload_n rfl dX6_farthest_21) <|
  alls _ (s_iald dX6_farthest_22) <|
  alls _ (s_aload_n rfl dX6_farthest_23) <|
  alls _ (s_getf (C := RX6) (T := TX6) (N := 29) rfl (in_c inX6) (by decide) (List.mem_cons_of_mem _ wd_752) rfl dX6_farthest_24) <|
  alls _ (s_iload_n rfl dX6_farthest_27) <|
  alls _ (s_iald dX6_farthest_28) <|
  alls _ (s_icmp_le (by decide) dX6_farthest_29) <|
  alls _ s_fall (alls_nil _)
set_option maxRecDepth 100000 in
theorem sX6_farthest_0 (l : Launch) : AllS (pSnd l rmX6_farthest yX6_farthest.cls cX6_farthest wsX6_farthest 3 (some .int)) 0 kX6_farthest_0 :=
  alls _ (s_bipush (by decide) dX6_farthest_0) <|
  alls _ (s_istore_n rfl dX6_farthest_2) <|
  alls _ (s_iconst dX6_farthest_3) <|
  alls _ (s_istore_n rfl dX6_farthest_4) <|
  alls _ s_fall (alls_nil _)
def KX6_farthest : List (Nat × pProg) := [(0, kX6_farthest_0), (5, kX6_farthest_5), (32, kX6_farthest_32), (36, kX6_farthest_36), (37, kX6_farthest_37), (44, kX6_farthest_44)]
theorem bX6_farthest_0 : blkOf KX6_farthest 0 = some kX6_farthest_0 := rfl
theorem bX6_farthest_5 : blkOf KX6_farthest 5 = some kX6_farthest_5 := rfl
theorem bX6_farthest_32 : blkOf KX6_farthest 32 = some kX6_farthest_32 := rfl
theorem bX6_farthest_36 : blkOf KX6_farthest 36 = some kX6_farthest_36 := rfl
theorem bX6_farthest_37 : blkOf KX6_farthest 37 = some kX6_farthest_37 := rfl
theorem bX6_farthest_44 : blkOf KX6_farthest 44 = some kX6_farthest_44 := rfl
def tX6_farthest : pT := pM KX6_farthest 3
theorem ct_X6_farthest (l : Launch) : pCtr l yX6_farthest wsX6_farthest rmX6_farthest 1 tX6_farthest := ctr_of (by decide +kernel) rfl (List.forall_mem_cons.mpr ⟨sX6_farthest_0 l, List.forall_mem_cons.mpr ⟨sX6_farthest_5 l, List.forall_mem_cons.mpr ⟨sX6_farthest_32 l, List.forall_mem_cons.mpr ⟨sX6_farthest_36 l, List.forall_mem_cons.mpr ⟨sX6_farthest_37 l, List.forall_mem_cons.mpr ⟨sX6_farthest_44 l, fun _ h => absurd h List.not_mem_nil⟩⟩⟩⟩⟩⟩)
theorem dX6_first_0 : decode cX6_first 0 = .ok (.iload_n 1, 1) := by decide +kernel
theorem dX6_first_1 : decode cX6_first 1 = .ok (.tableswitch 51 0 3 #[31, 36, 41, 46], 31) := by decide +kernel
theorem dX6_first_32 : decode cX6_first 32 = .ok (.aload_n 0, 1) := by decide +kernel
theorem dX6_first_33 : decode cX6_first 33 = .ok (.invokevirtual 240, 3) := by decide +kernel
theorem dX6_first_36 : decode cX6_first 36 = .ok (.ireturn, 1) := by decide +kernel
theorem dX6_first_37 : decode cX6_first 37 = .ok (.aload_n 0, 1) := by decide +kernel
theorem dX6_first_38 : decode cX6_first 38 = .ok (.invokevirtual 243, 3) := by decide +kernel
theorem dX6_first_41 : decode cX6_first 41 = .ok (.ireturn, 1) := by decide +kernel
theorem dX6_first_42 : decode cX6_first 42 = .ok (.aload_n 0, 1) := by decide +kernel
theorem dX6_first_43 : decode cX6_first 43 = .ok (.invokevirtual 246, 3) := by decide +kernel
theorem dX6_first_46 : decode cX6_first 46 = .ok (.ireturn, 1) := by decide +kernel
theorem dX6_first_47 : decode cX6_first 47 = .ok (.aload_n 0, 1) := by decide +kernel
theorem dX6_first_48 : decode cX6_first 48 = .ok (.invokevirtual 249, 3) := by decide +kernel
theorem dX6_first_51 : decode cX6_first 51 = .ok (.ireturn, 1) := by decide +kernel
theorem dX6_first_52 : decode cX6_first 52 = .ok (.aload_n 0, 1) := by decide +kernel
theorem dX6_first_53 : decode cX6_first 53 = .ok (.bipush (-2), 2) := by decide +kernel
theorem dX6_first_55 : decode cX6_first 55 = .ok (.invokevirtual 71, 3) := by decide +kernel
theorem dX6_first_58 : decode cX6_first 58 = .ok (.ireturn, 1) := by decide +kernel
def rmX6_first : Room := { frames := 1, cells := 0, slots := 0, locals := 23 }
abbrev wsX6_first : List Cond := .code yX6_first cX6_first 2 (some .int) :: gw_tbl
def kX6_first_52 : pProg := (52, 1, a_aload 0) :: (53, 2, a_iconst (-2)) :: (55, 3, a_callv 2 4 [0, 1, 2, 3, 4, 5, 6, 7, 8, 9, 10, 11, 12, 13, 14, 15, 16] tX6_no) :: (58, 1, a_iret) :: []
def kX6_first_47 : pProg := (47, 1, a_aload 0) :: (48, 3, a_callv 1 4 [0, 1, 2, 3, 4, 5, 6, 7, 8, 9, 10, 11, 12, 13, 14, 15, 16] tX6_together) :: (51, 1, a_iret) :: []
def kX6_first_42 : pProg := (42, 1, a_aload 0) :: (43, 3, a_callv 1 4 [0, 1, 2, 3, 4, 5, 6, 7, 8, 9, 10, 11, 12, 13, 14, 15, 16] tX6_mostHurt) :: (46, 1, a_iret) :: []
def kX6_first_37 : pProg := (37, 1, a_aload 0) :: (38, 3, a_callv 1 4 [0, 1, 2, 3, 4, 5, 6, 7, 8, 9, 10, 11, 12, 13, 14, 15, 16] tX6_leastFar) :: (41, 1, a_iret) :: []
def kX6_first_32 : pProg := (32, 1, a_aload 0) :: (33, 3, a_callv 1 4 [0, 1, 2, 3, 4, 5, 6, 7, 8, 9, 10, 11, 12, 13, 14, 15, 16] tX6_farthest) :: (36, 1, a_iret) :: []
def kX6_first_0 : pProg := (0, 1, a_iload 1) :: (1, 31, a_lsw [(0, 32), (1, 37), (2, 42), (3, 47)] 52) :: []
set_option maxRecDepth 100000 in
theorem sX6_first_52 (l : Launch) : AllS (pSnd l rmX6_first yX6_first.cls cX6_first wsX6_first 2 (some .int)) 52 kX6_first_52 :=
  alls _ (s_aload_n rfl dX6_first_52) <|
  alls _ (s_bipush (by decide) dX6_first_53) <|
  alls _ (s_callv (ct_X6_no l) rfl rfl rfl (gdV wd_842 wd_844 wd_11 wd_65 wd_845) rfl rfl (by decide +kernel) ⟨Nat.le_of_ble_eq_true rfl, Nat.le_of_ble_eq_true rfl⟩ dX6_first_55) <|
  alls _ (s_iret dX6_first_58) <|
  alls_nil _
set_option maxRecDepth 100000 in
theorem sX6_first_47 (l : Launch) : AllS (pSnd l rmX6_first yX6_first.cls cX6_first wsX6_first 2 (some .int)) 47 kX6_first_47 :=
  alls _ (s_aload_n rfl dX6_first_47) <|
  alls _ (s_callv (ct_X6_together l) rfl rfl rfl (gdV wd_1116 wd_1118 wd_51 wd_65 wd_1119) rfl rfl (by decide +kernel) ⟨Nat.le_of_ble_eq_true rfl, Nat.le_of_ble_eq_true rfl⟩ dX6_first_48) <|
  alls _ (s_iret dX6_first_51) <|
  alls_nil _
set_option maxRecDepth 100000 in
theorem sX6_first_42 (l : Launch) : AllS (pSnd l rmX6_first yX6_first.cls cX6_first wsX6_first 2 (some .int)) 42 kX6_first_42 :=
  alls _ (s_aload_n rfl dX6_first_42) <|
  alls _ (s_callv (ct_X6_mostHurt l) rfl rfl rfl (gdV wd_1112 wd_1114 wd_50 wd_65 wd_1115) rfl rfl (by decide +kernel) ⟨Nat.le_of_ble_eq_true rfl, Nat.le_of_ble_eq_true rfl⟩ dX6_first_43) <|
  alls _ (s_iret dX6_first_46) <|
  alls_nil _
set_option maxRecDepth 100000 in
theorem sX6_first_37 (l : Launch) : AllS (pSnd l rmX6_first yX6_first.cls cX6_first wsX6_first 2 (some .int)) 37 kX6_first_37 :=
  alls _ (s_aload_n rfl dX6_first_37) <|
  alls _ (s_callv (ct_X6_leastFar l) rfl rfl rfl (gdV wd_1108 wd_1110 wd_49 wd_65 wd_1111) rfl rfl (by decide +kernel) ⟨Nat.le_of_ble_eq_true rfl, Nat.le_of_ble_eq_true rfl⟩ dX6_first_38) <|
  alls _ (s_iret dX6_first_41) <|
  alls_nil _
set_option maxRecDepth 100000 in
theorem sX6_first_32 (l : Launch) : AllS (pSnd l rmX6_first yX6_first.cls cX6_first wsX6_first 2 (some .int)) 32 kX6_first_32 :=
  alls _ (s_aload_n rfl dX6_first_32) <|
  alls _ (s_callv (ct_X6_farthest l) rfl rfl rfl (gdV wd_1104 wd_1106 wd_48 wd_65 wd_1107) rfl rfl (by decide +kernel) ⟨Nat.le_of_ble_eq_true rfl, Nat.le_of_ble_eq_true rfl⟩ dX6_first_33) <|
  alls _ (s_iret dX6_first_36) <|
  alls_nil _
set_option maxRecDepth 100000 in
theorem sX6_first_0 (l : Launch) : AllS (pSnd l rmX6_first yX6_first.cls cX6_first wsX6_first 2 (some .int)) 0 kX6_first_0 :=
  alls _ (s_iload_n rfl dX6_first_0) <|
  alls _ (s_tsw (by decide) (by decide) (by decide) (by decide) dX6_first_1) <|
  alls_nil _
def KX6_first : List (Nat × pProg) := [(0, kX6_first_0), (32, kX6_first_32), (37, kX6_first_37), (42, kX6_first_42), (47, kX6_first_47), (52, kX6_first_52)]
theorem bX6_first_0 : blkOf KX6_first 0 = some kX6_first_0 := rfl
theorem bX6_first_32 : blkOf KX6_first 32 = some kX6_first_32 := rfl
theorem bX6_first_37 : blkOf KX6_first 37 = some kX6_first_37 := rfl
theorem bX6_first_42 : blkOf KX6_first 42 = some kX6_first_42 := rfl
theorem bX6_first_47 : blkOf KX6_first 47 = some kX6_first_47 := rfl
theorem bX6_first_52 : blkOf KX6_first 52 = some kX6_first_52 := rfl
def tX6_first : pT := pM KX6_first 2
theorem ct_X6_first (l : Launch) : pCtr l yX6_first wsX6_first rmX6_first 2 tX6_first := ctr_of (by decide +kernel) rfl (List.forall_mem_cons.mpr ⟨sX6_first_0 l, List.forall_mem_cons.mpr ⟨sX6_first_32 l, List.forall_mem_cons.mpr ⟨sX6_first_37 l, List.forall_mem_cons.mpr ⟨sX6_first_42 l, List.forall_mem_cons.mpr ⟨sX6_first_47 l, List.forall_mem_cons.mpr ⟨sX6_first_52 l, fun _ h => absurd h List.not_mem_nil⟩⟩⟩⟩⟩⟩)
theorem dX6_allBeams_0 : decode cX6_allBeams 0 = .ok (.iconst 0, 1) := by decide +kernel
theorem dX6_allBeams_1 : decode cX6_allBeams 1 = .ok (.istore_n 1, 1) := by decide +kernel
theorem dX6_allBeams_2 : decode cX6_allBeams 2 = .ok (.iconst 0, 1) := by decide +kernel
theorem dX6_allBeams_3 : decode cX6_allBeams 3 = .ok (.istore_n 2, 1) := by decide +kernel
theorem dX6_allBeams_4 : decode cX6_allBeams 4 = .ok (.iload_n 2, 1) := by decide +kernel
theorem dX6_allBeams_5 : decode cX6_allBeams 5 = .ok (.bipush 20, 2) := by decide +kernel
theorem dX6_allBeams_7 : decode cX6_allBeams 7 = .ok (.if_icmp .ge 18, 3) := by decide +kernel
theorem dX6_allBeams_10 : decode cX6_allBeams 10 = .ok (.iload_n 1, 1) := by decide +kernel
theorem dX6_allBeams_11 : decode cX6_allBeams 11 = .ok (.aload_n 0, 1) := by decide +kernel
theorem dX6_allBeams_12 : decode cX6_allBeams 12 = .ok (.getfield 13, 3) := by decide +kernel
theorem dX6_allBeams_15 : decode cX6_allBeams 15 = .ok (.iload_n 2, 1) := by decide +kernel
theorem dX6_allBeams_16 : decode cX6_allBeams 16 = .ok (.iaload, 1) := by decide +kernel
theorem dX6_allBeams_17 : decode cX6_allBeams 17 = .ok (.iadd, 1) := by decide +kernel
theorem dX6_allBeams_18 : decode cX6_allBeams 18 = .ok (.istore_n 1, 1) := by decide +kernel
theorem dX6_allBeams_19 : decode cX6_allBeams 19 = .ok (.iinc 2 1, 3) := by decide +kernel
theorem dX6_allBeams_22 : decode cX6_allBeams 22 = .ok (.goto (-18), 3) := by decide +kernel
theorem dX6_allBeams_25 : decode cX6_allBeams 25 = .ok (.iload_n 1, 1) := by decide +kernel
theorem dX6_allBeams_26 : decode cX6_allBeams 26 = .ok (.ireturn, 1) := by decide +kernel
def rmX6_allBeams : Room := { frames := 0, cells := 0, slots := 0, locals := 0 }
abbrev wsX6_allBeams : List Cond := .code yX6_allBeams cX6_allBeams 3 (some .int) :: gw_tbl
def kX6_allBeams_25 : pProg := (25, 1, a_iload 1) :: (26, 1, a_iret) :: []
def kX6_allBeams_4 : pProg := (4, 1, a_iload 2) :: (5, 2, a_iconst 20) :: (7, 3, a_icmp_ge 25) :: (10, 1, a_iload 1) :: (11, 1, a_aload 0) :: (12, 3, a_getf 0 4 1) :: (15, 1, a_iload 2) :: (16, 1, a_iald 2) :: (17, 1, a_iadd) :: (18, 1, a_istore 1) :: (19, 3, a_iinc 2 1) :: (22, 3, a_goto 4) :: []
def kX6_allBeams_0 : pProg := (0, 1, a_iconst 0) :: (1, 1, a_istore 1) :: (2, 1, a_iconst 0) :: (3, 1, a_istore 2) :: (4, 0, a_fall 4) :: []
set_option maxRecDepth 100000 in
theorem sX6_allBeams_25 (l : Launch) : AllS (pSnd l rmX6_allBeams yX6_allBeams.cls cX6_allBeams wsX6_allBeams 3 (some .int)) 25 kX6_allBeams_25 :=
  alls _ (s_iload_n rfl dX6_allBeams_25) <|
  alls _ (s_iret dX6_allBeams_26) <|
  alls_nil _
set_option maxRecDepth 100000 in
theorem sX6_allBeams_4 (l : Launch) : AllS (pSnd l rmX6_allBeams yX6_allBeams.cls cX6_allBeams wsX6_allBeams 3 (some .int)) 4 kX6_allBeams_4 :=
  alls _ (s_iload_n rfl dX6_allBeams_4) <|
  alls _ (s_bipush (by decide) dX6_allBeams_5) <|
  alls _ (s_icmp_ge (by decide) dX6_allBeams_7) <|
  alls _ (s_iload_n rfl dX6_allBeams_10) <|
  alls _ (s_aload_n rfl dX6_allBeams_11) <|
  alls _ (s_getf (C := RX6) (T := TX6) (N := 29) rfl (in_c inX6) (by decide) (List.mem_cons_of_mem _ wd_748) rfl dX6_allBeams_12) <|
  alls _ (s_iload_n rfl dX6_allBeams_15) <|
  alls _ (s_iald dX6_allBeams_16) <|
  alls _ (s_iadd dX6_allBeams_17) <|
  alls _ (s_istore_n rfl dX6_allBeams_18) <|
  alls _ (s_iinc dX6_allBeams_19) <|
  alls _ (s_goto (by decide) dX6_allBeams_22) <|
  alls_nil _
set_option maxRecDepth 100000 in
theorem sX6_allBeams_0 (l : Launch) : AllS (pSnd l rmX6_allBeams yX6_allBeams.cls cX6_allBeams wsX6_allBeams 3 (some .int)) 0 kX6_allBeams_0 :=
  alls _ (s_iconst dX6_allBeams_0) <|
  alls _ (s_istore_n rfl dX6_allBeams_1) <|
  alls _ (s_iconst dX6_allBeams_2) <|
  alls _ (s_istore_n rfl dX6_allBeams_3) <|
  alls _ s_fall (alls_nil _)
def KX6_allBeams : List (Nat × pProg) := [(0, kX6_allBeams_0), (4, kX6_allBeams_4), (25, kX6_allBeams_25)]
theorem bX6_allBeams_0 : blkOf KX6_allBeams 0 = some kX6_allBeams_0 := rfl
theorem bX6_allBeams_4 : blkOf KX6_allBeams 4 = some kX6_allBeams_4 := rfl
theorem bX6_allBeams_25 : blkOf KX6_allBeams 25 = some kX6_allBeams_25 := rfl
def tX6_allBeams : pT := pM KX6_allBeams 3
theorem ct_X6_allBeams (l : Launch) : pCtr l yX6_allBeams wsX6_allBeams rmX6_allBeams 1 tX6_allBeams := ctr_of (by decide +kernel) rfl (List.forall_mem_cons.mpr ⟨sX6_allBeams_0 l, List.forall_mem_cons.mpr ⟨sX6_allBeams_4 l, List.forall_mem_cons.mpr ⟨sX6_allBeams_25 l, fun _ h => absurd h List.not_mem_nil⟩⟩⟩)
theorem dX6_timber_0 : decode cX6_timber 0 = .ok (.iload_n 1, 1) := by decide +kernel
theorem dX6_timber_1 : decode cX6_timber 1 = .ok (.iconst 0, 1) := by decide +kernel
theorem dX6_timber_2 : decode cX6_timber 2 = .ok (.iconst 2, 1) := by decide +kernel
theorem dX6_timber_3 : decode cX6_timber 3 = .ok (.invokestatic 82, 3) := by decide +kernel
theorem dX6_timber_6 : decode cX6_timber 6 = .ok (.ifCond .ne 10, 3) := by decide +kernel
theorem dX6_timber_9 : decode cX6_timber 9 = .ok (.aload_n 0, 1) := by decide +kernel
theorem dX6_timber_10 : decode cX6_timber 10 = .ok (.bipush (-2), 2) := by decide +kernel
theorem dX6_timber_12 : decode cX6_timber 12 = .ok (.invokevirtual 71, 3) := by decide +kernel
theorem dX6_timber_15 : decode cX6_timber 15 = .ok (.ireturn, 1) := by decide +kernel
theorem dX6_timber_16 : decode cX6_timber 16 = .ok (.iload_n 1, 1) := by decide +kernel
theorem dX6_timber_17 : decode cX6_timber 17 = .ok (.ifCond .ne 8, 3) := by decide +kernel
theorem dX6_timber_20 : decode cX6_timber 20 = .ok (.aload_n 0, 1) := by decide +kernel
theorem dX6_timber_21 : decode cX6_timber 21 = .ok (.invokevirtual 252, 3) := by decide +kernel
theorem dX6_timber_24 : decode cX6_timber 24 = .ok (.ireturn, 1) := by decide +kernel
theorem dX6_timber_25 : decode cX6_timber 25 = .ok (.iconst 0, 1) := by decide +kernel
theorem dX6_timber_26 : decode cX6_timber 26 = .ok (.istore_n 2, 1) := by decide +kernel
theorem dX6_timber_27 : decode cX6_timber 27 = .ok (.iconst 0, 1) := by decide +kernel
theorem dX6_timber_28 : decode cX6_timber 28 = .ok (.istore_n 3, 1) := by decide +kernel
theorem dX6_timber_29 : decode cX6_timber 29 = .ok (.iconst 0, 1) := by decide +kernel
theorem dX6_timber_30 : decode cX6_timber 30 = .ok (.istore 4, 2) := by decide +kernel
theorem dX6_timber_32 : decode cX6_timber 32 = .ok (.iload 4, 2) := by decide +kernel
theorem dX6_timber_34 : decode cX6_timber 34 = .ok (.bipush 20, 2) := by decide +kernel
theorem dX6_timber_36 : decode cX6_timber 36 = .ok (.if_icmp .ge 53, 3) := by decide +kernel
theorem dX6_timber_39 : decode cX6_timber 39 = .ok (.aload_n 0, 1) := by decide +kernel
theorem dX6_timber_40 : decode cX6_timber 40 = .ok (.getfield 13, 3) := by decide +kernel
theorem dX6_timber_43 : decode cX6_timber 43 = .ok (.iload 4, 2) := by decide +kernel
theorem dX6_timber_45 : decode cX6_timber 45 = .ok (.iaload, 1) := by decide +kernel
theorem dX6_timber_46 : decode cX6_timber 46 = .ok (.aload_n 0, 1) := by decide +kernel
theorem dX6_timber_47 : decode cX6_timber 47 = .ok (.getfield 13, 3) := by decide +kernel
theorem dX6_timber_50 : decode cX6_timber 50 = .ok (.iload_n 2, 1) := by decide +kernel
theorem dX6_timber_51 : decode cX6_timber 51 = .ok (.iaload, 1) := by decide +kernel
theorem dX6_timber_52 : decode cX6_timber 52 = .ok (.if_icmp .le 8, 3) := by decide +kernel
theorem dX6_timber_55 : decode cX6_timber 55 = .ok (.iload 4, 2) := by decide +kernel
theorem dX6_timber_57 : decode cX6_timber 57 = .ok (.goto 4, 3) := by decide +kernel
theorem dX6_timber_60 : decode cX6_timber 60 = .ok (.iload_n 2, 1) := by decide +kernel
theorem dX6_timber_61 : decode cX6_timber 61 = .ok (.istore_n 2, 1) := by decide +kernel
theorem dX6_timber_62 : decode cX6_timber 62 = .ok (.iload_n 3, 1) := by decide +kernel
theorem dX6_timber_63 : decode cX6_timber 63 = .ok (.aload_n 0, 1) := by decide +kernel
theorem dX6_timber_64 : decode cX6_timber 64 = .ok (.getfield 13, 3) := by decide +kernel
theorem dX6_timber_67 : decode cX6_timber 67 = .ok (.iload 4, 2) := by decide +kernel
theorem dX6_timber_69 : decode cX6_timber 69 = .ok (.iaload, 1) := by decide +kernel
theorem dX6_timber_70 : decode cX6_timber 70 = .ok (.ifCond .ne 10, 3) := by decide +kernel
theorem dX6_timber_73 : decode cX6_timber 73 = .ok (.iconst 1, 1) := by decide +kernel
theorem dX6_timber_74 : decode cX6_timber 74 = .ok (.iload 4, 2) := by decide +kernel
theorem dX6_timber_76 : decode cX6_timber 76 = .ok (.ishl, 1) := by decide +kernel
theorem dX6_timber_77 : decode cX6_timber 77 = .ok (.goto 4, 3) := by decide +kernel
theorem dX6_timber_80 : decode cX6_timber 80 = .ok (.iconst 0, 1) := by decide +kernel
theorem dX6_timber_81 : decode cX6_timber 81 = .ok (.ior, 1) := by decide +kernel
theorem dX6_timber_82 : decode cX6_timber 82 = .ok (.istore_n 3, 1) := by decide +kernel
theorem dX6_timber_83 : decode cX6_timber 83 = .ok (.iinc 4 1, 3) := by decide +kernel
theorem dX6_timber_86 : decode cX6_timber 86 = .ok (.goto (-54), 3) := by decide +kernel
theorem dX6_timber_89 : decode cX6_timber 89 = .ok (.iload_n 1, 1) := by decide +kernel
theorem dX6_timber_90 : decode cX6_timber 90 = .ok (.iconst 1, 1) := by decide +kernel
theorem dX6_timber_91 : decode cX6_timber 91 = .ok (.if_icmp .ne 7, 3) := by decide +kernel
theorem dX6_timber_94 : decode cX6_timber 94 = .ok (.iload_n 2, 1) := by decide +kernel
theorem dX6_timber_95 : decode cX6_timber 95 = .ok (.goto 4, 3) := by decide +kernel
theorem dX6_timber_98 : decode cX6_timber 98 = .ok (.iload_n 3, 1) := by decide +kernel
theorem dX6_timber_99 : decode cX6_timber 99 = .ok (.ireturn, 1) := by decide +kernel
def rmX6_timber : Room := { frames := 1, cells := 0, slots := 0, locals := 22 }
abbrev wsX6_timber : List Cond := .code yX6_timber cX6_timber 5 (some .int) :: gw_tbl
def kX6_timber_99 : pProg := (99, 1, a_iret) :: []
def kX6_timber_98 : pProg := (98, 1, a_iload 3) :: (99, 0, a_fall 99) :: []
def kX6_timber_89 : pProg := (89, 1, a_iload 1) :: (90, 1, a_iconst 1) :: (91, 3, a_icmp_ne 98) :: (94, 1, a_iload 2) :: (95, 3, a_goto 99) :: []
def kX6_timber_81 : pProg := (81, 1, a_ior) :: (82, 1, a_istore 3) :: (83, 3, a_iinc 4 1) :: (86, 3, a_goto 32) :: []
def kX6_timber_80 : pProg := (80, 1, a_iconst 0) :: (81, 0, a_fall 81) :: []
def kX6_timber_61 : pProg := (61, 1, a_istore 2) :: (62, 1, a_iload 3) :: (63, 1, a_aload 0) :: (64, 3, a_getf 0 4 1) :: (67, 2, a_iload 4) :: (69, 1, a_iald 2) :: (70, 3, a_if_ne 80) :: (73, 1, a_iconst 1) :: (74, 2, a_iload 4) :: (76, 1, a_ishl) :: (77, 3, a_goto 81) :: []
def kX6_timber_60 : pProg := (60, 1, a_iload 2) :: (61, 0, a_fall 61) :: []
def kX6_timber_32 : pProg := (32, 2, a_iload 4) :: (34, 2, a_iconst 20) :: (36, 3, a_icmp_ge 89) :: (39, 1, a_aload 0) :: (40, 3, a_getf 0 4 1) :: (43, 2, a_iload 4) :: (45, 1, a_iald 2) :: (46, 1, a_aload 0) :: (47, 3, a_getf 0 4 1) :: (50, 1, a_iload 2) :: (51, 1, a_iald 2) :: (52, 3, a_icmp_le 60) :: (55, 2, a_iload 4) :: (57, 3, a_goto 61) :: []
def kX6_timber_25 : pProg := (25, 1, a_iconst 0) :: (26, 1, a_istore 2) :: (27, 1, a_iconst 0) :: (28, 1, a_istore 3) :: (29, 1, a_iconst 0) :: (30, 2, a_istore 4) :: (32, 0, a_fall 32) :: []
def kX6_timber_16 : pProg := (16, 1, a_iload 1) :: (17, 3, a_if_ne 25) :: (20, 1, a_aload 0) :: (21, 3, a_callv 1 4 [0, 1, 2, 3, 4, 5, 6, 7, 8, 9, 10, 11, 12, 13, 14, 15, 16] tX6_allBeams) :: (24, 1, a_iret) :: []
def kX6_timber_0 : pProg := (0, 1, a_iload 1) :: (1, 1, a_iconst 0) :: (2, 1, a_iconst 2) :: (3, 3, a_calls 3 [] tX6_isIn) :: (6, 3, a_if_ne 16) :: (9, 1, a_aload 0) :: (10, 2, a_iconst (-2)) :: (12, 3, a_callv 2 4 [0, 1, 2, 3, 4, 5, 6, 7, 8, 9, 10, 11, 12, 13, 14, 15, 16] tX6_no) :: (15, 1, a_iret) :: []
set_option maxRecDepth 100000 in
theorem sX6_timber_99 (l : Launch) : AllS (pSnd l rmX6_timber yX6_timber.cls cX6_timber wsX6_timber 5 (some .int)) 99 kX6_timber_99 :=
  alls _ (s_iret dX6_timber_99) <|
  alls_nil _
set_option maxRecDepth 100000 in
theorem sX6_timber_98 (l : Launch) : AllS (pSnd l rmX6_timber yX6_timber.cls cX6_timber wsX6_timber 5 (some .int)) 98 kX6_timber_98 :=
  alls _ (s_iload_n rfl dX6_timber_98) <|
  alls _ s_fall (alls_nil _)
set_option maxRecDepth 100000 in
theorem sX6_timber_89 (l : Launch) : AllS (pSnd l rmX6_timber yX6_timber.cls cX6_timber wsX6_timber 5 (some .int)) 89 kX6_timber_89 :=
  alls _ (s_iload_n rfl dX6_timber_89) <|
  alls _ (s_iconst dX6_timber_90) <|
  alls _ (s_icmp_ne (by decide) dX6_timber_91) <|
  alls _ (s_iload_n rfl dX6_timber_94) <|
  alls _ (s_goto (by decide) dX6_timber_95) <|
  alls_nil _
set_option maxRecDepth 100000 in
theorem sX6_timber_81 (l : Launch) : AllS (pSnd l rmX6_timber yX6_timber.cls cX6_timber wsX6_timber 5 (some .int)) 81 kX6_timber_81 :=
  alls _ (s_ior dX6_timber_81) <|
  alls _ (s_istore_n rfl dX6_timber_82) <|
  alls _ (s_iinc dX6_timber_83) <|
  alls _ (s_goto (by decide) dX6_timber_86) <|
  alls_nil _
set_option maxRecDepth 100000 in
theorem sX6_timber_80 (l : Launch) : AllS (pSnd l rmX6_timber yX6_timber.cls cX6_timber wsX6_timber 5 (some .int)) 80 kX6_timber_80 :=
  alls _ (s_iconst dX6_timber_80) <|
  alls _ s_fall (alls_nil _)
set_option maxRecDepth 100000 in
theorem sX6_timber_61 (l : Launch) : AllS (pSnd l rmX6_timber yX6_timber.cls cX6_timber wsX6_timber 5 (some .int)) 61 kX6_timber_61 :=
  alls _ (s_istore_n rfl dX6_timber_61) <|
  alls _ (s_iload_n rfl dX6_timber_62) <|
  alls _ (s_aload_n rfl dX6_timber_63) <|
  alls _ (s_getf (C := RX6) (T := TX6) (N := 29) rfl (in_c inX6) (by decide) (List.mem_cons_of_mem _ wd_748) rfl dX6_timber_64) <|
  alls _ (s_iload dX6_timber_67) <|
  alls _ (s_iald dX6_timber_69) <|
  alls _ (s_if_ne (by decide) dX6_timber_70) <|
  alls _ (s_iconst dX6_timber_73) <|
  alls _ (s_iload dX6_timber_74) <|
  alls _ (s_ishl dX6_timber_76) <|
  alls _ (s_goto (by decide) dX6_timber_77) <|
  alls_nil _
set_option maxRecDepth 100000 in
theorem sX6_timber_60 (l : Launch) : AllS (pSnd l rmX6_timber yX6_timber.cls cX6_timber wsX6_timber 5 (some .int)) 60 kX6_timber_60 :=
  alls _ (s_iload_n rfl dX6_timber_60) <|
  alls _ s_fall (alls_nil _)
set_option maxRecDepth 100000 in
theorem sX6_timber_32 (l : Launch) : AllS (pSnd l rmX6_timber yX6_timber.cls cX6_timber wsX6_timber 5 (some .int)) 32 kX6_timber_32 :=
  alls _ (s_iload dX6_timber_32) <|
  alls _ (s_bipush (by decide) dX6_timber_34) <|
  alls _ (s_icmp_ge (by decide) dX6_timber_36) <|
  alls _ (s_aload_n rfl dX6_timber_39) <|
  alls _ (s_getf (C := RX6) (T := TX6) (N := 29) rfl (in_c inX6) (by decide) (List.mem_cons_of_mem _ wd_748) rfl dX6_timber_40) <|
  alls _ (s_iload dX6_timber_43) <|
  alls _ (s_iald dX6_timber_45) <|
  alls _ (s_aload_n rfl dX6_timber_46) <|
  alls _ (s_getf (C := RX6) (T := TX6) (N := 29) rfl (in_c inX6) (by decide) (List.mem_cons_of_mem _ wd_748) rfl dX6_timber_47) <|
  alls _ (s_iload_n rfl dX6_timber_50) <|
  alls _ (s_iald dX6_timber_51) <|
  alls _ (s_icmp_le (by decide) dX6_timber_52) <|
  alls _ (s_iload dX6_timber_55) <|
  alls _ (s_goto (by decide) dX6_timber_57) <|
  alls_nil _
set_option maxRecDepth 100000 in
theorem sX6_timber_25 (l : Launch) : AllS (pSnd l rmX6_timber yX6_timber.cls cX6_timber wsX6_timber 5 (some .int)) 25 kX6_timber_25 :=
  alls _ (s_iconst dX6_timber_25) <|
  alls _ (s_istore_n rfl dX6_timber_26) <|
  alls _ (s_iconst dX6_timber_27) <|
  alls _ (s_istore_n rfl dX6_timber_28) <|
  alls _ (s_iconst dX6_timber_29) <|
  alls _ (s_istore dX6_timber_30) <|
  alls _ s_fall (alls_nil _)
set_option maxRecDepth 100000 in
theorem sX6_timber_16 (l : Launch) : AllS (pSnd l rmX6_timber yX6_timber.cls cX6_timber wsX6_timber 5 (some .int)) 16 kX6_timber_16 :=
  alls _ (s_iload_n rfl dX6_timber_16) <|
  alls _ (s_if_ne (by decide) dX6_timber_17) <|
  alls _ (s_aload_n rfl dX6_timber_20) <|
  alls _ (s_callv (ct_X6_allBeams l) rfl rfl rfl (gdV wd_1124 wd_1126 wd_52 wd_65 wd_1127) rfl rfl (by decide +kernel) ⟨Nat.le_of_ble_eq_true rfl, Nat.le_of_ble_eq_true rfl⟩ dX6_timber_21) <|
  alls _ (s_iret dX6_timber_24) <|
  alls_nil _
set_option maxRecDepth 100000 in
theorem sX6_timber_0 (l : Launch) : AllS (pSnd l rmX6_timber yX6_timber.cls cX6_timber wsX6_timber 5 (some .int)) 0 kX6_timber_0 :=
  alls _ (s_iload_n rfl dX6_timber_0) <|
  alls _ (s_iconst dX6_timber_1) <|
  alls _ (s_iconst dX6_timber_2) <|
  alls _ (s_calls (ct_X6_isIn l) rfl rfl (gdS wd_868) (List.mem_cons_of_mem _ wd_866) (List.mem_cons_of_mem _ wd_867) (List.mem_cons_of_mem _ wd_65) rfl rfl (by decide +kernel) ⟨Nat.le_of_ble_eq_true rfl, Nat.le_of_ble_eq_true rfl⟩ dX6_timber_3) <|
  alls _ (s_if_ne (by decide) dX6_timber_6) <|
  alls _ (s_aload_n rfl dX6_timber_9) <|
  alls _ (s_bipush (by decide) dX6_timber_10) <|
  alls _ (s_callv (ct_X6_no l) rfl rfl rfl (gdV wd_842 wd_844 wd_11 wd_65 wd_845) rfl rfl (by decide +kernel) ⟨Nat.le_of_ble_eq_true rfl, Nat.le_of_ble_eq_true rfl⟩ dX6_timber_12) <|
  alls _ (s_iret dX6_timber_15) <|
  alls_nil _
def KX6_timber : List (Nat × pProg) := [(0, kX6_timber_0), (16, kX6_timber_16), (25, kX6_timber_25), (32, kX6_timber_32), (60, kX6_timber_60), (61, kX6_timber_61), (80, kX6_timber_80), (81, kX6_timber_81), (89, kX6_timber_89), (98, kX6_timber_98), (99, kX6_timber_99)]
theorem bX6_timber_0 : blkOf KX6_timber 0 = some kX6_timber_0 := rfl
theorem bX6_timber_16 : blkOf KX6_timber 16 = some kX6_timber_16 := rfl
theorem bX6_timber_25 : blkOf KX6_timber 25 = some kX6_timber_25 := rfl
theorem bX6_timber_32 : blkOf KX6_timber 32 = some kX6_timber_32 := rfl
theorem bX6_timber_60 : blkOf KX6_timber 60 = some kX6_timber_60 := rfl
theorem bX6_timber_61 : blkOf KX6_timber 61 = some kX6_timber_61 := rfl
theorem bX6_timber_80 : blkOf KX6_timber 80 = some kX6_timber_80 := rfl
theorem bX6_timber_81 : blkOf KX6_timber 81 = some kX6_timber_81 := rfl
theorem bX6_timber_89 : blkOf KX6_timber 89 = some kX6_timber_89 := rfl
theorem bX6_timber_98 : blkOf KX6_timber 98 = some kX6_timber_98 := rfl
theorem bX6_timber_99 : blkOf KX6_timber 99 = some kX6_timber_99 := rfl
def tX6_timber : pT := pM KX6_timber 5
theorem ct_X6_timber (l : Launch) : pCtr l yX6_timber wsX6_timber rmX6_timber 2 tX6_timber := ctr_of (by decide +kernel) rfl (List.forall_mem_cons.mpr ⟨sX6_timber_0 l, List.forall_mem_cons.mpr ⟨sX6_timber_16 l, List.forall_mem_cons.mpr ⟨sX6_timber_25 l, List.forall_mem_cons.mpr ⟨sX6_timber_32 l, List.forall_mem_cons.mpr ⟨sX6_timber_60 l, List.forall_mem_cons.mpr ⟨sX6_timber_61 l, List.forall_mem_cons.mpr ⟨sX6_timber_80 l, List.forall_mem_cons.mpr ⟨sX6_timber_81 l, List.forall_mem_cons.mpr ⟨sX6_timber_89 l, List.forall_mem_cons.mpr ⟨sX6_timber_98 l, List.forall_mem_cons.mpr ⟨sX6_timber_99 l, fun _ h => absurd h List.not_mem_nil⟩⟩⟩⟩⟩⟩⟩⟩⟩⟩⟩)
theorem dX6_eager_0 : decode cX6_eager 0 = .ok (.iconst 0, 1) := by decide +kernel
theorem dX6_eager_1 : decode cX6_eager 1 = .ok (.istore_n 1, 1) := by decide +kernel
theorem dX6_eager_2 : decode cX6_eager 2 = .ok (.iconst 0, 1) := by decide +kernel
theorem dX6_eager_3 : decode cX6_eager 3 = .ok (.istore_n 2, 1) := by decide +kernel
theorem dX6_eager_4 : decode cX6_eager 4 = .ok (.iload_n 2, 1) := by decide +kernel
theorem dX6_eager_5 : decode cX6_eager 5 = .ok (.iconst 2, 1) := by decide +kernel
theorem dX6_eager_6 : decode cX6_eager 6 = .ok (.aload_n 0, 1) := by decide +kernel
theorem dX6_eager_7 : decode cX6_eager 7 = .ok (.getfield 58, 3) := by decide +kernel
theorem dX6_eager_10 : decode cX6_eager 10 = .ok (.imul, 1) := by decide +kernel
theorem dX6_eager_11 : decode cX6_eager 11 = .ok (.if_icmp .ge 46, 3) := by decide +kernel
theorem dX6_eager_14 : decode cX6_eager 14 = .ok (.iload_n 1, 1) := by decide +kernel
theorem dX6_eager_15 : decode cX6_eager 15 = .ok (.aload_n 0, 1) := by decide +kernel
theorem dX6_eager_16 : decode cX6_eager 16 = .ok (.getfield 25, 3) := by decide +kernel
theorem dX6_eager_19 : decode cX6_eager 19 = .ok (.iload_n 2, 1) := by decide +kernel
theorem dX6_eager_20 : decode cX6_eager 20 = .ok (.iconst 2, 1) := by decide +kernel
theorem dX6_eager_21 : decode cX6_eager 21 = .ok (.idiv, 1) := by decide +kernel
theorem dX6_eager_22 : decode cX6_eager 22 = .ok (.iaload, 1) := by decide +kernel
theorem dX6_eager_23 : decode cX6_eager 23 = .ok (.bipush 19, 2) := by decide +kernel
theorem dX6_eager_25 : decode cX6_eager 25 = .ok (.if_icmp .ge 23, 3) := by decide +kernel
theorem dX6_eager_28 : decode cX6_eager 28 = .ok (.aload_n 0, 1) := by decide +kernel
theorem dX6_eager_29 : decode cX6_eager 29 = .ok (.iload_n 2, 1) := by decide +kernel
theorem dX6_eager_30 : decode cX6_eager 30 = .ok (.aload_n 0, 1) := by decide +kernel
theorem dX6_eager_31 : decode cX6_eager 31 = .ok (.getfield 112, 3) := by decide +kernel
theorem dX6_eager_34 : decode cX6_eager 34 = .ok (.iconst 1, 1) := by decide +kernel
theorem dX6_eager_35 : decode cX6_eager 35 = .ok (.iadd, 1) := by decide +kernel
theorem dX6_eager_36 : decode cX6_eager 36 = .ok (.invokevirtual 181, 3) := by decide +kernel
theorem dX6_eager_39 : decode cX6_eager 39 = .ok (.ifCond .eq 9, 3) := by decide +kernel
theorem dX6_eager_42 : decode cX6_eager 42 = .ok (.iconst 1, 1) := by decide +kernel
theorem dX6_eager_43 : decode cX6_eager 43 = .ok (.iload_n 2, 1) := by decide +kernel
theorem dX6_eager_44 : decode cX6_eager 44 = .ok (.ishl, 1) := by decide +kernel
theorem dX6_eager_45 : decode cX6_eager 45 = .ok (.goto 4, 3) := by decide +kernel
theorem dX6_eager_48 : decode cX6_eager 48 = .ok (.iconst 0, 1) := by decide +kernel
theorem dX6_eager_49 : decode cX6_eager 49 = .ok (.ior, 1) := by decide +kernel
theorem dX6_eager_50 : decode cX6_eager 50 = .ok (.istore_n 1, 1) := by decide +kernel
theorem dX6_eager_51 : decode cX6_eager 51 = .ok (.iinc 2 1, 3) := by decide +kernel
theorem dX6_eager_54 : decode cX6_eager 54 = .ok (.goto (-50), 3) := by decide +kernel
theorem dX6_eager_57 : decode cX6_eager 57 = .ok (.iload_n 1, 1) := by decide +kernel
theorem dX6_eager_58 : decode cX6_eager 58 = .ok (.ireturn, 1) := by decide +kernel
def rmX6_eager : Room := { frames := 2, cells := 0, slots := 0, locals := 46 }
abbrev wsX6_eager : List Cond := .code yX6_eager cX6_eager 3 (some .int) :: gw_tbl
def kX6_eager_57 : pProg := (57, 1, a_iload 1) :: (58, 1, a_iret) :: []
def kX6_eager_49 : pProg := (49, 1, a_ior) :: (50, 1, a_istore 1) :: (51, 3, a_iinc 2 1) :: (54, 3, a_goto 4) :: []
def kX6_eager_48 : pProg := (48, 1, a_iconst 0) :: (49, 0, a_fall 49) :: []
def kX6_eager_4 : pProg := (4, 1, a_iload 2) :: (5, 1, a_iconst 2) :: (6, 1, a_aload 0) :: (7, 3, a_getf 0 4 7) :: (10, 1, a_imul) :: (11, 3, a_icmp_ge 57) :: (14, 1, a_iload 1) :: (15, 1, a_aload 0) :: (16, 3, a_getf 0 4 5) :: (19, 1, a_iload 2) :: (20, 1, a_iconst 2) :: (21, 1, a_idiv) :: (22, 1, a_iald 6) :: (23, 2, a_iconst 19) :: (25, 3, a_icmp_ge 48) :: (28, 1, a_aload 0) :: (29, 1, a_iload 2) :: (30, 1, a_aload 0) :: (31, 3, a_getf 0 4 8) :: (34, 1, a_iconst 1) :: (35, 1, a_iadd) :: (36, 3, a_callv 3 4 [0, 1, 2, 3, 4, 5, 6, 7, 8, 9, 10, 11, 12, 13, 14, 15, 16] tX6_wants) :: (39, 3, a_if_eq 48) :: (42, 1, a_iconst 1) :: (43, 1, a_iload 2) :: (44, 1, a_ishl) :: (45, 3, a_goto 49) :: []
def kX6_eager_0 : pProg := (0, 1, a_iconst 0) :: (1, 1, a_istore 1) :: (2, 1, a_iconst 0) :: (3, 1, a_istore 2) :: (4, 0, a_fall 4) :: []
set_option maxRecDepth 100000 in
theorem sX6_eager_57 (l : Launch) : AllS (pSnd l rmX6_eager yX6_eager.cls cX6_eager wsX6_eager 3 (some .int)) 57 kX6_eager_57 :=
  alls _ (s_iload_n rfl dX6_eager_57) <|
  alls _ (s_iret dX6_eager_58) <|
  alls_nil _
set_option maxRecDepth 100000 in
theorem sX6_eager_49 (l : Launch) : AllS (pSnd l rmX6_eager yX6_eager.cls cX6_eager wsX6_eager 3 (some .int)) 49 kX6_eager_49 :=
  alls _ (s_ior dX6_eager_49) <|
  alls _ (s_istore_n rfl dX6_eager_50) <|
  alls _ (s_iinc dX6_eager_51) <|
  alls _ (s_goto (by decide) dX6_eager_54) <|
  alls_nil _
set_option maxRecDepth 100000 in
theorem sX6_eager_48 (l : Launch) : AllS (pSnd l rmX6_eager yX6_eager.cls cX6_eager wsX6_eager 3 (some .int)) 48 kX6_eager_48 :=
  alls _ (s_iconst dX6_eager_48) <|
  alls _ s_fall (alls_nil _)
set_option maxRecDepth 100000 in
theorem sX6_eager_4 (l : Launch) : AllS (pSnd l rmX6_eager yX6_eager.cls cX6_eager wsX6_eager 3 (some .int)) 4 kX6_eager_4 :=
  alls _ (s_iload_n rfl dX6_eager_4) <|
  alls _ (s_iconst dX6_eager_5) <|
  alls _ (s_aload_n rfl dX6_eager_6) <|
  alls _ (s_getf (C := RX6) (T := TX6) (N := 29) rfl (in_c inX6) (by decide) (List.mem_cons_of_mem _ wd_754) rfl dX6_eager_7) <|
  alls _ (s_imul dX6_eager_10) <|
  alls _ (s_icmp_ge (by decide) dX6_eager_11) <|
  alls _ (s_iload_n rfl dX6_eager_14) <|
  alls _ (s_aload_n rfl dX6_eager_15) <|
  alls _ (s_getf (C := RX6) (T := TX6) (N := 29) rfl (in_c inX6) (by decide) (List.mem_cons_of_mem _ wd_752) rfl dX6_eager_16) <|
  alls _ (s_iload_n rfl dX6_eager_19) <|
  alls _ (s_iconst dX6_eager_20) <|
  alls _ (s_idiv dX6_eager_21) <|
  alls _ (s_iald dX6_eager_22) <|
  alls _ (s_bipush (by decide) dX6_eager_23) <|
  alls _ (s_icmp_ge (by decide) dX6_eager_25) <|
  alls _ (s_aload_n rfl dX6_eager_28) <|
  alls _ (s_iload_n rfl dX6_eager_29) <|
  alls _ (s_aload_n rfl dX6_eager_30) <|
  alls _ (s_getf (C := RX6) (T := TX6) (N := 29) rfl (in_c inX6) (by decide) (List.mem_cons_of_mem _ wd_755) rfl dX6_eager_31) <|
  alls _ (s_iconst dX6_eager_34) <|
  alls _ (s_iadd dX6_eager_35) <|
  alls _ (s_callv (ct_X6_wants l) rfl rfl rfl (gdV wd_946 wd_948 wd_33 wd_65 wd_949) rfl rfl (by decide +kernel) ⟨Nat.le_of_ble_eq_true rfl, Nat.le_of_ble_eq_true rfl⟩ dX6_eager_36) <|
  alls _ (s_if_eq (by decide) dX6_eager_39) <|
  alls _ (s_iconst dX6_eager_42) <|
  alls _ (s_iload_n rfl dX6_eager_43) <|
  alls _ (s_ishl dX6_eager_44) <|
  alls _ (s_goto (by decide) dX6_eager_45) <|
  alls_nil _
set_option maxRecDepth 100000 in
theorem sX6_eager_0 (l : Launch) : AllS (pSnd l rmX6_eager yX6_eager.cls cX6_eager wsX6_eager 3 (some .int)) 0 kX6_eager_0 :=
  alls _ (s_iconst dX6_eager_0) <|
  alls _ (s_istore_n rfl dX6_eager_1) <|
  alls _ (s_iconst dX6_eager_2) <|
  alls _ (s_istore_n rfl dX6_eager_3) <|
  alls _ s_fall (alls_nil _)
def KX6_eager : List (Nat × pProg) := [(0, kX6_eager_0), (4, kX6_eager_4), (48, kX6_eager_48), (49, kX6_eager_49), (57, kX6_eager_57)]
theorem bX6_eager_0 : blkOf KX6_eager 0 = some kX6_eager_0 := rfl
theorem bX6_eager_4 : blkOf KX6_eager 4 = some kX6_eager_4 := rfl
theorem bX6_eager_48 : blkOf KX6_eager 48 = some kX6_eager_48 := rfl
theorem bX6_eager_49 : blkOf KX6_eager 49 = some kX6_eager_49 := rfl
theorem bX6_eager_57 : blkOf KX6_eager 57 = some kX6_eager_57 := rfl
def tX6_eager : pT := pM KX6_eager 3
theorem ct_X6_eager (l : Launch) : pCtr l yX6_eager wsX6_eager rmX6_eager 1 tX6_eager := ctr_of (by decide +kernel) rfl (List.forall_mem_cons.mpr ⟨sX6_eager_0 l, List.forall_mem_cons.mpr ⟨sX6_eager_4 l, List.forall_mem_cons.mpr ⟨sX6_eager_48 l, List.forall_mem_cons.mpr ⟨sX6_eager_49 l, List.forall_mem_cons.mpr ⟨sX6_eager_57 l, fun _ h => absurd h List.not_mem_nil⟩⟩⟩⟩⟩)
theorem dX6_findCosts_0 : decode cX6_findCosts 0 = .ok (.iconst 0, 1) := by decide +kernel
theorem dX6_findCosts_1 : decode cX6_findCosts 1 = .ok (.istore_n 3, 1) := by decide +kernel
theorem dX6_findCosts_2 : decode cX6_findCosts 2 = .ok (.iload_n 3, 1) := by decide +kernel
theorem dX6_findCosts_3 : decode cX6_findCosts 3 = .ok (.iconst 4, 1) := by decide +kernel
theorem dX6_findCosts_4 : decode cX6_findCosts 4 = .ok (.if_icmp .ge 92, 3) := by decide +kernel
theorem dX6_findCosts_7 : decode cX6_findCosts 7 = .ok (.aload_n 0, 1) := by decide +kernel
theorem dX6_findCosts_8 : decode cX6_findCosts 8 = .ok (.invokevirtual 207, 3) := by decide +kernel
theorem dX6_findCosts_11 : decode cX6_findCosts 11 = .ok (.aload_n 0, 1) := by decide +kernel
theorem dX6_findCosts_12 : decode cX6_findCosts 12 = .ok (.iconst 4, 1) := by decide +kernel
theorem dX6_findCosts_13 : decode cX6_findCosts 13 = .ok (.iload_n 3, 1) := by decide +kernel
theorem dX6_findCosts_14 : decode cX6_findCosts 14 = .ok (.iadd, 1) := by decide +kernel
theorem dX6_findCosts_15 : decode cX6_findCosts 15 = .ok (.putfield 166, 3) := by decide +kernel
theorem dX6_findCosts_18 : decode cX6_findCosts 18 = .ok (.aload_n 0, 1) := by decide +kernel
theorem dX6_findCosts_19 : decode cX6_findCosts 19 = .ok (.iload_n 1, 1) := by decide +kernel
theorem dX6_findCosts_20 : decode cX6_findCosts 20 = .ok (.putfield 172, 3) := by decide +kernel
theorem dX6_findCosts_23 : decode cX6_findCosts 23 = .ok (.aload_n 0, 1) := by decide +kernel
theorem dX6_findCosts_24 : decode cX6_findCosts 24 = .ok (.iload_n 2, 1) := by decide +kernel
theorem dX6_findCosts_25 : decode cX6_findCosts 25 = .ok (.invokevirtual 115, 3) := by decide +kernel
theorem dX6_findCosts_28 : decode cX6_findCosts 28 = .ok (.aload_n 0, 1) := by decide +kernel
theorem dX6_findCosts_29 : decode cX6_findCosts 29 = .ok (.getfield 28, 3) := by decide +kernel
theorem dX6_findCosts_32 : decode cX6_findCosts 32 = .ok (.iload_n 1, 1) := by decide +kernel
theorem dX6_findCosts_33 : decode cX6_findCosts 33 = .ok (.iaload, 1) := by decide +kernel
theorem dX6_findCosts_34 : decode cX6_findCosts 34 = .ok (.ifCond .ne 7, 3) := by decide +kernel
theorem dX6_findCosts_37 : decode cX6_findCosts 37 = .ok (.iconst 3, 1) := by decide +kernel
theorem dX6_findCosts_38 : decode cX6_findCosts 38 = .ok (.goto 4, 3) := by decide +kernel
theorem dX6_findCosts_41 : decode cX6_findCosts 41 = .ok (.iconst 0, 1) := by decide +kernel
theorem dX6_findCosts_42 : decode cX6_findCosts 42 = .ok (.istore 4, 2) := by decide +kernel
theorem dX6_findCosts_44 : decode cX6_findCosts 44 = .ok (.aload_n 0, 1) := by decide +kernel
theorem dX6_findCosts_45 : decode cX6_findCosts 45 = .ok (.getfield 52, 3) := by decide +kernel
theorem dX6_findCosts_48 : decode cX6_findCosts 48 = .ok (.iconst 2, 1) := by decide +kernel
theorem dX6_findCosts_49 : decode cX6_findCosts 49 = .ok (.iload_n 3, 1) := by decide +kernel
theorem dX6_findCosts_50 : decode cX6_findCosts 50 = .ok (.imul, 1) := by decide +kernel
theorem dX6_findCosts_51 : decode cX6_findCosts 51 = .ok (.aload_n 0, 1) := by decide +kernel
theorem dX6_findCosts_52 : decode cX6_findCosts 52 = .ok (.getfield 22, 3) := by decide +kernel
theorem dX6_findCosts_55 : decode cX6_findCosts 55 = .ok (.iconst 2, 1) := by decide +kernel
theorem dX6_findCosts_56 : decode cX6_findCosts 56 = .ok (.iload_n 1, 1) := by decide +kernel
theorem dX6_findCosts_57 : decode cX6_findCosts 57 = .ok (.imul, 1) := by decide +kernel
theorem dX6_findCosts_58 : decode cX6_findCosts 58 = .ok (.iaload, 1) := by decide +kernel
theorem dX6_findCosts_59 : decode cX6_findCosts 59 = .ok (.iload 4, 2) := by decide +kernel
theorem dX6_findCosts_61 : decode cX6_findCosts 61 = .ok (.isub, 1) := by decide +kernel
theorem dX6_findCosts_62 : decode cX6_findCosts 62 = .ok (.iastore, 1) := by decide +kernel
theorem dX6_findCosts_63 : decode cX6_findCosts 63 = .ok (.aload_n 0, 1) := by decide +kernel
theorem dX6_findCosts_64 : decode cX6_findCosts 64 = .ok (.getfield 52, 3) := by decide +kernel
theorem dX6_findCosts_67 : decode cX6_findCosts 67 = .ok (.iconst 2, 1) := by decide +kernel
theorem dX6_findCosts_68 : decode cX6_findCosts 68 = .ok (.iload_n 3, 1) := by decide +kernel
theorem dX6_findCosts_69 : decode cX6_findCosts 69 = .ok (.imul, 1) := by decide +kernel
theorem dX6_findCosts_70 : decode cX6_findCosts 70 = .ok (.iconst 1, 1) := by decide +kernel
theorem dX6_findCosts_71 : decode cX6_findCosts 71 = .ok (.iadd, 1) := by decide +kernel
theorem dX6_findCosts_72 : decode cX6_findCosts 72 = .ok (.aload_n 0, 1) := by decide +kernel
theorem dX6_findCosts_73 : decode cX6_findCosts 73 = .ok (.getfield 22, 3) := by decide +kernel
theorem dX6_findCosts_76 : decode cX6_findCosts 76 = .ok (.iconst 2, 1) := by decide +kernel
theorem dX6_findCosts_77 : decode cX6_findCosts 77 = .ok (.iload_n 1, 1) := by decide +kernel
theorem dX6_findCosts_78 : decode cX6_findCosts 78 = .ok (.imul, 1) := by decide +kernel
theorem dX6_findCosts_79 : decode cX6_findCosts 79 = .ok (.iconst 1, 1) := by decide +kernel
theorem dX6_findCosts_80 : decode cX6_findCosts 80 = .ok (.iadd, 1) := by decide +kernel
theorem dX6_findCosts_81 : decode cX6_findCosts 81 = .ok (.iaload, 1) := by decide +kernel
theorem dX6_findCosts_82 : decode cX6_findCosts 82 = .ok (.iload 4, 2) := by decide +kernel
theorem dX6_findCosts_84 : decode cX6_findCosts 84 = .ok (.isub, 1) := by decide +kernel
theorem dX6_findCosts_85 : decode cX6_findCosts 85 = .ok (.iastore, 1) := by decide +kernel
theorem dX6_findCosts_86 : decode cX6_findCosts 86 = .ok (.aload_n 0, 1) := by decide +kernel
theorem dX6_findCosts_87 : decode cX6_findCosts 87 = .ok (.invokevirtual 210, 3) := by decide +kernel
theorem dX6_findCosts_90 : decode cX6_findCosts 90 = .ok (.iinc 3 1, 3) := by decide +kernel
theorem dX6_findCosts_93 : decode cX6_findCosts 93 = .ok (.goto (-91), 3) := by decide +kernel
theorem dX6_findCosts_96 : decode cX6_findCosts 96 = .ok (.return_, 1) := by decide +kernel
def rmX6_findCosts : Room := { frames := 6, cells := 0, slots := 0, locals := 133 }
abbrev wsX6_findCosts : List Cond := .code yX6_findCosts cX6_findCosts 5 none :: gw_tbl
def kX6_findCosts_96 : pProg := (96, 1, a_vret) :: []
def kX6_findCosts_42 : pProg := (42, 2, a_istore 4) :: (44, 1, a_aload 0) :: (45, 3, a_getf 0 4 25) :: (48, 1, a_iconst 2) :: (49, 1, a_iload 3) :: (50, 1, a_imul) :: (51, 1, a_aload 0) :: (52, 3, a_getf 0 4 4) :: (55, 1, a_iconst 2) :: (56, 1, a_iload 1) :: (57, 1, a_imul) :: (58, 1, a_iald 5) :: (59, 2, a_iload 4) :: (61, 1, a_isub) :: (62, 1, a_iast 15) :: (63, 1, a_aload 0) :: (64, 3, a_getf 0 4 25) :: (67, 1, a_iconst 2) :: (68, 1, a_iload 3) :: (69, 1, a_imul) :: (70, 1, a_iconst 1) :: (71, 1, a_iadd) :: (72, 1, a_aload 0) :: (73, 3, a_getf 0 4 4) :: (76, 1, a_iconst 2) :: (77, 1, a_iload 1) :: (78, 1, a_imul) :: (79, 1, a_iconst 1) :: (80, 1, a_iadd) :: (81, 1, a_iald 5) :: (82, 2, a_iload 4) :: (84, 1, a_isub) :: (85, 1, a_iast 15) :: (86, 1, a_aload 0) :: (87, 3, a_callv 1 4 [0, 1, 2, 3, 4, 5, 6, 7, 8, 9, 10, 11, 12, 13, 14, 15, 16] tX6_forgets) :: (90, 3, a_iinc 3 1) :: (93, 3, a_goto 2) :: []
def kX6_findCosts_41 : pProg := (41, 1, a_iconst 0) :: (42, 0, a_fall 42) :: []
def kX6_findCosts_2 : pProg := (2, 1, a_iload 3) :: (3, 1, a_iconst 4) :: (4, 3, a_icmp_ge 96) :: (7, 1, a_aload 0) :: (8, 3, a_callv 1 4 [0, 1, 2, 3, 4, 5, 6, 7, 8, 9, 10, 11, 12, 13, 14, 15, 16] tX6_thinks) :: (11, 1, a_aload 0) :: (12, 1, a_iconst 4) :: (13, 1, a_iload 3) :: (14, 1, a_iadd) :: (15, 3, a_putf 0 4 21 .int) :: (18, 1, a_aload 0) :: (19, 1, a_iload 1) :: (20, 3, a_putf 0 4 22 .int) :: (23, 1, a_aload 0) :: (24, 1, a_iload 2) :: (25, 3, a_callv 2 4 [0, 1, 2, 3, 4, 5, 6, 7, 8, 9, 10, 11, 12, 13, 14, 15, 16] tX6_goes) :: (28, 1, a_aload 0) :: (29, 3, a_getf 0 4 6) :: (32, 1, a_iload 1) :: (33, 1, a_iald 7) :: (34, 3, a_if_ne 41) :: (37, 1, a_iconst 3) :: (38, 3, a_goto 42) :: []
def kX6_findCosts_0 : pProg := (0, 1, a_iconst 0) :: (1, 1, a_istore 3) :: (2, 0, a_fall 2) :: []
set_option maxRecDepth 100000 in
theorem sX6_findCosts_96 (l : Launch) : AllS (pSnd l rmX6_findCosts yX6_findCosts.cls cX6_findCosts wsX6_findCosts 5 none) 96 kX6_findCosts_96 :=
  alls _ (s_vret dX6_findCosts_96) <|
  alls_nil _
set_option maxRecDepth 100000 in
theorem sX6_findCosts_42 (l : Launch) : AllS (pSnd l rmX6_findCosts yX6_findCosts.cls cX6_findCosts wsX6_findCosts 5 none) 42 kX6_findCosts_42 :=
  alls _ (s_istore dX6_findCosts_42) <|
  alls _ (s_aload_n rfl dX6_findCosts_44) <|
  alls _ (s_getf (C := RX6) (T := TX6) (N := 29) rfl (in_c inX6) (by decide) (List.mem_cons_of_mem _ wd_772) rfl dX6_findCosts_45) <|
  alls _ (s_iconst dX6_findCosts_48) <|
  alls _ (s_iload_n rfl dX6_findCosts_49) <|
  alls _ (s_imul dX6_findCosts_50) <|
  alls _ (s_aload_n rfl dX6_findCosts_51) <|
  alls _ (s_getf (C := RX6) (T := TX6) (N := 29) rfl (in_c inX6) (by decide) (List.mem_cons_of_mem _ wd_751) rfl dX6_findCosts_52) <|
  alls _ (s_iconst dX6_findCosts_55) <|
  alls _ (s_iload_n rfl dX6_findCosts_56) <|
  alls _ (s_imul dX6_findCosts_57) <|
  alls _ (s_iald dX6_findCosts_58) <|
  alls _ (s_iload dX6_findCosts_59) <|
  alls _ (s_isub dX6_findCosts_61) <|
  alls _ (s_iast dX6_findCosts_62) <|
  alls _ (s_aload_n rfl dX6_findCosts_63) <|
  alls _ (s_getf (C := RX6) (T := TX6) (N := 29) rfl (in_c inX6) (by decide) (List.mem_cons_of_mem _ wd_772) rfl dX6_findCosts_64) <|
  alls _ (s_iconst dX6_findCosts_67) <|
  alls _ (s_iload_n rfl dX6_findCosts_68) <|
  alls _ (s_imul dX6_findCosts_69) <|
  alls _ (s_iconst dX6_findCosts_70) <|
  alls _ (s_iadd dX6_findCosts_71) <|
  alls _ (s_aload_n rfl dX6_findCosts_72) <|
  alls _ (s_getf (C := RX6) (T := TX6) (N := 29) rfl (in_c inX6) (by decide) (List.mem_cons_of_mem _ wd_751) rfl dX6_findCosts_73) <|
  alls _ (s_iconst dX6_findCosts_76) <|
  alls _ (s_iload_n rfl dX6_findCosts_77) <|
  alls _ (s_imul dX6_findCosts_78) <|
  alls _ (s_iconst dX6_findCosts_79) <|
  alls _ (s_iadd dX6_findCosts_80) <|
  alls _ (s_iald dX6_findCosts_81) <|
  alls _ (s_iload dX6_findCosts_82) <|
  alls _ (s_isub dX6_findCosts_84) <|
  alls _ (s_iast dX6_findCosts_85) <|
  alls _ (s_aload_n rfl dX6_findCosts_86) <|
  alls _ (s_callv (ct_X6_forgets l) rfl rfl rfl (gdV wd_1020 wd_1022 wd_38 wd_65 wd_1023) rfl rfl (by decide +kernel) ⟨Nat.le_of_ble_eq_true rfl, Nat.le_of_ble_eq_true rfl⟩ dX6_findCosts_87) <|
  alls _ (s_iinc dX6_findCosts_90) <|
  alls _ (s_goto (by decide) dX6_findCosts_93) <|
  alls_nil _
set_option maxRecDepth 100000 in
theorem sX6_findCosts_41 (l : Launch) : AllS (pSnd l rmX6_findCosts yX6_findCosts.cls cX6_findCosts wsX6_findCosts 5 none) 41 kX6_findCosts_41 :=
  alls _ (s_iconst dX6_findCosts_41) <|
  alls _ s_fall (alls_nil _)
set_option maxRecDepth 100000 in
theorem sX6_findCosts_2 (l : Launch) : AllS (pSnd l rmX6_findCosts yX6_findCosts.cls cX6_findCosts wsX6_findCosts 5 none) 2 kX6_findCosts_2 :=
  alls _ (s_iload_n rfl dX6_findCosts_2) <|
  alls _ (s_iconst dX6_findCosts_3) <|
  alls _ (s_icmp_ge (by decide) dX6_findCosts_4) <|
  alls _ (s_aload_n rfl dX6_findCosts_7) <|
  alls _ (s_callv (ct_X6_thinks l) rfl rfl rfl (gdV wd_1016 wd_1018 wd_37 wd_65 wd_1019) rfl rfl (by decide +kernel) ⟨Nat.le_of_ble_eq_true rfl, Nat.le_of_ble_eq_true rfl⟩ dX6_findCosts_8) <|
  alls _ (s_aload_n rfl dX6_findCosts_11) <|
  alls _ (s_iconst dX6_findCosts_12) <|
  alls _ (s_iload_n rfl dX6_findCosts_13) <|
  alls _ (s_iadd dX6_findCosts_14) <|
  alls _ (s_putf (C := RX6) (T := TX6) (N := 29) tyX6 rfl (in_c inX6) tyX6_ok nmX6 (by decide) (List.mem_cons_of_mem _ wd_768) rfl rfl (tyX6_ok 21 (by decide)) dX6_findCosts_15) <|
  alls _ (s_aload_n rfl dX6_findCosts_18) <|
  alls _ (s_iload_n rfl dX6_findCosts_19) <|
  alls _ (s_putf (C := RX6) (T := TX6) (N := 29) tyX6 rfl (in_c inX6) tyX6_ok nmX6 (by decide) (List.mem_cons_of_mem _ wd_769) rfl rfl (tyX6_ok 22 (by decide)) dX6_findCosts_20) <|
  alls _ (s_aload_n rfl dX6_findCosts_23) <|
  alls _ (s_iload_n rfl dX6_findCosts_24) <|
  alls _ (s_callv (ct_X6_goes l) rfl rfl rfl (gdV wd_930 wd_932 wd_29 wd_65 wd_933) rfl rfl (by decide +kernel) ⟨Nat.le_of_ble_eq_true rfl, Nat.le_of_ble_eq_true rfl⟩ dX6_findCosts_25) <|
  alls _ (s_aload_n rfl dX6_findCosts_28) <|
  alls _ (s_getf (C := RX6) (T := TX6) (N := 29) rfl (in_c inX6) (by decide) (List.mem_cons_of_mem _ wd_753) rfl dX6_findCosts_29) <|
  alls _ (s_iload_n rfl dX6_findCosts_32) <|
  alls _ (s_iald dX6_findCosts_33) <|
  alls _ (s_if_ne (by decide) dX6_findCosts_34) <|
  alls _ (s_iconst dX6_findCosts_37) <|
  alls _ (s_goto (by decide) dX6_findCosts_38) <|
  alls_nil _
set_option maxRecDepth 100000 in
theorem sX6_findCosts_0 (l : Launch) : AllS (pSnd l rmX6_findCosts yX6_findCosts.cls cX6_findCosts wsX6_findCosts 5 none) 0 kX6_findCosts_0 :=
  alls _ (s_iconst dX6_findCosts_0) <|
  alls _ (s_istore_n rfl dX6_findCosts_1) <|
  alls _ s_fall (alls_nil _)
def KX6_findCosts : List (Nat × pProg) := [(0, kX6_findCosts_0), (2, kX6_findCosts_2), (41, kX6_findCosts_41), (42, kX6_findCosts_42), (96, kX6_findCosts_96)]
theorem bX6_findCosts_0 : blkOf KX6_findCosts 0 = some kX6_findCosts_0 := rfl
theorem bX6_findCosts_2 : blkOf KX6_findCosts 2 = some kX6_findCosts_2 := rfl
theorem bX6_findCosts_41 : blkOf KX6_findCosts 41 = some kX6_findCosts_41 := rfl
theorem bX6_findCosts_42 : blkOf KX6_findCosts 42 = some kX6_findCosts_42 := rfl
theorem bX6_findCosts_96 : blkOf KX6_findCosts 96 = some kX6_findCosts_96 := rfl
def tX6_findCosts : pT := pM KX6_findCosts 5
theorem ct_X6_findCosts (l : Launch) : pCtr l yX6_findCosts wsX6_findCosts rmX6_findCosts 3 tX6_findCosts := ctr_of (by decide +kernel) rfl (List.forall_mem_cons.mpr ⟨sX6_findCosts_0 l, List.forall_mem_cons.mpr ⟨sX6_findCosts_2 l, List.forall_mem_cons.mpr ⟨sX6_findCosts_41 l, List.forall_mem_cons.mpr ⟨sX6_findCosts_42 l, List.forall_mem_cons.mpr ⟨sX6_findCosts_96 l, fun _ h => absurd h List.not_mem_nil⟩⟩⟩⟩⟩)
theorem dX6_two_0 : decode cX6_two 0 = .ok (.aload_n 0, 1) := by decide +kernel
theorem dX6_two_1 : decode cX6_two 1 = .ok (.iload_n 1, 1) := by decide +kernel
theorem dX6_two_2 : decode cX6_two 2 = .ok (.invokevirtual 106, 3) := by decide +kernel
theorem dX6_two_5 : decode cX6_two 5 = .ok (.ifCond .ne 7, 3) := by decide +kernel
theorem dX6_two_8 : decode cX6_two 8 = .ok (.iconst (-1), 1) := by decide +kernel
theorem dX6_two_9 : decode cX6_two 9 = .ok (.goto 10, 3) := by decide +kernel
theorem dX6_two_12 : decode cX6_two 12 = .ok (.iload_n 2, 1) := by decide +kernel
theorem dX6_two_13 : decode cX6_two 13 = .ok (.iconst 0, 1) := by decide +kernel
theorem dX6_two_14 : decode cX6_two 14 = .ok (.bipush 30, 2) := by decide +kernel
theorem dX6_two_16 : decode cX6_two 16 = .ok (.invokestatic 64, 3) := by decide +kernel
theorem dX6_two_19 : decode cX6_two 19 = .ok (.istore_n 3, 1) := by decide +kernel
theorem dX6_two_20 : decode cX6_two 20 = .ok (.iload_n 3, 1) := by decide +kernel
theorem dX6_two_21 : decode cX6_two 21 = .ok (.ifCond .eq 9, 3) := by decide +kernel
theorem dX6_two_24 : decode cX6_two 24 = .ok (.aload_n 0, 1) := by decide +kernel
theorem dX6_two_25 : decode cX6_two 25 = .ok (.iload_n 3, 1) := by decide +kernel
theorem dX6_two_26 : decode cX6_two 26 = .ok (.invokevirtual 71, 3) := by decide +kernel
theorem dX6_two_29 : decode cX6_two 29 = .ok (.ireturn, 1) := by decide +kernel
theorem dX6_two_30 : decode cX6_two 30 = .ok (.aload_n 0, 1) := by decide +kernel
theorem dX6_two_31 : decode cX6_two 31 = .ok (.iload_n 1, 1) := by decide +kernel
theorem dX6_two_32 : decode cX6_two 32 = .ok (.iload_n 2, 1) := by decide +kernel
theorem dX6_two_33 : decode cX6_two 33 = .ok (.invokevirtual 255, 3) := by decide +kernel
theorem dX6_two_36 : decode cX6_two 36 = .ok (.iconst 0, 1) := by decide +kernel
theorem dX6_two_37 : decode cX6_two 37 = .ok (.istore 4, 2) := by decide +kernel
theorem dX6_two_39 : decode cX6_two 39 = .ok (.iload 4, 2) := by decide +kernel
theorem dX6_two_41 : decode cX6_two 41 = .ok (.iconst 4, 1) := by decide +kernel
theorem dX6_two_42 : decode cX6_two 42 = .ok (.if_icmp .ge 72, 3) := by decide +kernel
theorem dX6_two_45 : decode cX6_two 45 = .ok (.aload_n 0, 1) := by decide +kernel
theorem dX6_two_46 : decode cX6_two 46 = .ok (.getfield 52, 3) := by decide +kernel
theorem dX6_two_49 : decode cX6_two 49 = .ok (.iconst 2, 1) := by decide +kernel
theorem dX6_two_50 : decode cX6_two 50 = .ok (.iload 4, 2) := by decide +kernel
theorem dX6_two_52 : decode cX6_two 52 = .ok (.iconst 2, 1) := by decide +kernel
theorem dX6_two_53 : decode cX6_two 53 = .ok (.ixor, 1) := by decide +kernel
theorem dX6_two_54 : decode cX6_two 54 = .ok (.imul, 1) := by decide +kernel
theorem dX6_two_55 : decode cX6_two 55 = .ok (.iaload, 1) := by decide +kernel
theorem dX6_two_56 : decode cX6_two 56 = .ok (.aload_n 0, 1) := by decide +kernel
theorem dX6_two_57 : decode cX6_two 57 = .ok (.getfield 52, 3) := by decide +kernel
theorem dX6_two_60 : decode cX6_two 60 = .ok (.iconst 2, 1) := by decide +kernel
theorem dX6_two_61 : decode cX6_two 61 = .ok (.iload 4, 2) := by decide +kernel
theorem dX6_two_63 : decode cX6_two 63 = .ok (.imul, 1) := by decide +kernel
theorem dX6_two_64 : decode cX6_two 64 = .ok (.iaload, 1) := by decide +kernel
theorem dX6_two_65 : decode cX6_two 65 = .ok (.if_icmp .lt 43, 3) := by decide +kernel
theorem dX6_two_68 : decode cX6_two 68 = .ok (.aload_n 0, 1) := by decide +kernel
theorem dX6_two_69 : decode cX6_two 69 = .ok (.getfield 52, 3) := by decide +kernel
theorem dX6_two_72 : decode cX6_two 72 = .ok (.iconst 2, 1) := by decide +kernel
theorem dX6_two_73 : decode cX6_two 73 = .ok (.iload 4, 2) := by decide +kernel
theorem dX6_two_75 : decode cX6_two 75 = .ok (.iconst 1, 1) := by decide +kernel
theorem dX6_two_76 : decode cX6_two 76 = .ok (.ixor, 1) := by decide +kernel
theorem dX6_two_77 : decode cX6_two 77 = .ok (.imul, 1) := by decide +kernel
theorem dX6_two_78 : decode cX6_two 78 = .ok (.iconst 1, 1) := by decide +kernel
theorem dX6_two_79 : decode cX6_two 79 = .ok (.iadd, 1) := by decide +kernel
theorem dX6_two_80 : decode cX6_two 80 = .ok (.iaload, 1) := by decide +kernel
theorem dX6_two_81 : decode cX6_two 81 = .ok (.aload_n 0, 1) := by decide +kernel
theorem dX6_two_82 : decode cX6_two 82 = .ok (.getfield 52, 3) := by decide +kernel
theorem dX6_two_85 : decode cX6_two 85 = .ok (.iconst 2, 1) := by decide +kernel
theorem dX6_two_86 : decode cX6_two 86 = .ok (.iload 4, 2) := by decide +kernel
theorem dX6_two_88 : decode cX6_two 88 = .ok (.imul, 1) := by decide +kernel
theorem dX6_two_89 : decode cX6_two 89 = .ok (.iconst 1, 1) := by decide +kernel
theorem dX6_two_90 : decode cX6_two 90 = .ok (.iadd, 1) := by decide +kernel
theorem dX6_two_91 : decode cX6_two 91 = .ok (.iaload, 1) := by decide +kernel
theorem dX6_two_92 : decode cX6_two 92 = .ok (.if_icmp .lt 16, 3) := by decide +kernel
theorem dX6_two_95 : decode cX6_two 95 = .ok (.bipush 10, 2) := by decide +kernel
theorem dX6_two_97 : decode cX6_two 97 = .ok (.iload 4, 2) := by decide +kernel
theorem dX6_two_99 : decode cX6_two 99 = .ok (.iconst 2, 1) := by decide +kernel
theorem dX6_two_100 : decode cX6_two 100 = .ok (.idiv, 1) := by decide +kernel
theorem dX6_two_101 : decode cX6_two 101 = .ok (.imul, 1) := by decide +kernel
theorem dX6_two_102 : decode cX6_two 102 = .ok (.iload 4, 2) := by decide +kernel
theorem dX6_two_104 : decode cX6_two 104 = .ok (.iconst 2, 1) := by decide +kernel
theorem dX6_two_105 : decode cX6_two 105 = .ok (.irem, 1) := by decide +kernel
theorem dX6_two_106 : decode cX6_two 106 = .ok (.iadd, 1) := by decide +kernel
theorem dX6_two_107 : decode cX6_two 107 = .ok (.ireturn, 1) := by decide +kernel
theorem dX6_two_108 : decode cX6_two 108 = .ok (.iinc 4 1, 3) := by decide +kernel
theorem dX6_two_111 : decode cX6_two 111 = .ok (.goto (-72), 3) := by decide +kernel
theorem dX6_two_114 : decode cX6_two 114 = .ok (.bipush (-9), 2) := by decide +kernel
theorem dX6_two_116 : decode cX6_two 116 = .ok (.ireturn, 1) := by decide +kernel
def rmX6_two : Room := { frames := 7, cells := 0, slots := 0, locals := 157 }
abbrev wsX6_two : List Cond := .code yX6_two cX6_two 5 (some .int) :: gw_tbl
def kX6_two_114 : pProg := (114, 2, a_iconst (-9)) :: (116, 1, a_iret) :: []
def kX6_two_108 : pProg := (108, 3, a_iinc 4 1) :: (111, 3, a_goto 39) :: []
def kX6_two_39 : pProg := (39, 2, a_iload 4) :: (41, 1, a_iconst 4) :: (42, 3, a_icmp_ge 114) :: (45, 1, a_aload 0) :: (46, 3, a_getf 0 4 25) :: (49, 1, a_iconst 2) :: (50, 2, a_iload 4) :: (52, 1, a_iconst 2) :: (53, 1, a_ixor) :: (54, 1, a_imul) :: (55, 1, a_iald 15) :: (56, 1, a_aload 0) :: (57, 3, a_getf 0 4 25) :: (60, 1, a_iconst 2) :: (61, 2, a_iload 4) :: (63, 1, a_imul) :: (64, 1, a_iald 15) :: (65, 3, a_icmp_lt 108) :: (68, 1, a_aload 0) :: (69, 3, a_getf 0 4 25) :: (72, 1, a_iconst 2) :: (73, 2, a_iload 4) :: (75, 1, a_iconst 1) :: (76, 1, a_ixor) :: (77, 1, a_imul) :: (78, 1, a_iconst 1) :: (79, 1, a_iadd) :: (80, 1, a_iald 15) :: (81, 1, a_aload 0) :: (82, 3, a_getf 0 4 25) :: (85, 1, a_iconst 2) :: (86, 2, a_iload 4) :: (88, 1, a_imul) :: (89, 1, a_iconst 1) :: (90, 1, a_iadd) :: (91, 1, a_iald 15) :: (92, 3, a_icmp_lt 108) :: (95, 2, a_iconst 10) :: (97, 2, a_iload 4) :: (99, 1, a_iconst 2) :: (100, 1, a_idiv) :: (101, 1, a_imul) :: (102, 2, a_iload 4) :: (104, 1, a_iconst 2) :: (105, 1, a_irem) :: (106, 1, a_iadd) :: (107, 1, a_iret) :: []
def kX6_two_30 : pProg := (30, 1, a_aload 0) :: (31, 1, a_iload 1) :: (32, 1, a_iload 2) :: (33, 3, a_callv 3 4 [0, 1, 2, 3, 4, 5, 6, 7, 8, 9, 10, 11, 12, 13, 14, 15, 16] tX6_findCosts) :: (36, 1, a_iconst 0) :: (37, 2, a_istore 4) :: (39, 0, a_fall 39) :: []
def kX6_two_19 : pProg := (19, 1, a_istore 3) :: (20, 1, a_iload 3) :: (21, 3, a_if_eq 30) :: (24, 1, a_aload 0) :: (25, 1, a_iload 3) :: (26, 3, a_callv 2 4 [0, 1, 2, 3, 4, 5, 6, 7, 8, 9, 10, 11, 12, 13, 14, 15, 16] tX6_no) :: (29, 1, a_iret) :: []
def kX6_two_12 : pProg := (12, 1, a_iload 2) :: (13, 1, a_iconst 0) :: (14, 2, a_iconst 30) :: (16, 3, a_calls 3 [] tX6_bound) :: (19, 0, a_fall 19) :: []
def kX6_two_0 : pProg := (0, 1, a_aload 0) :: (1, 1, a_iload 1) :: (2, 3, a_callv 2 4 [0, 1, 2, 3, 4, 5, 6, 7, 8, 9, 10, 11, 12, 13, 14, 15, 16] tX6_isPair) :: (5, 3, a_if_ne 12) :: (8, 1, a_iconst (-1)) :: (9, 3, a_goto 19) :: []
set_option maxRecDepth 100000 in
theorem sX6_two_114 (l : Launch) : AllS (pSnd l rmX6_two yX6_two.cls cX6_two wsX6_two 5 (some .int)) 114 kX6_two_114 :=
  alls _ (s_bipush (by decide) dX6_two_114) <|
  alls _ (s_iret dX6_two_116) <|
  alls_nil _
set_option maxRecDepth 100000 in
theorem sX6_two_108 (l : Launch) : AllS (pSnd l rmX6_two yX6_two.cls cX6_two wsX6_two 5 (some .int)) 108 kX6_two_108 :=
  alls _ (s_iinc dX6_two_108) <|
  alls _ (s_goto (by decide) dX6_two_111) <|
  alls_nil _
set_option maxRecDepth 100000 in
theorem sX6_two_39 (l : Launch) : AllS (pSnd l rmX6_two yX6_two.cls cX6_two wsX6_two 5 (some .int)) 39 kX6_two_39 :=
  alls _ (s_iload dX6_two_39) <|
  alls _ (s_iconst dX6_two_41) <|
  alls _ (s_icmp_ge (by decide) dX6_two_42) <|
  alls _ (s_aload_n rfl dX6_two_45) <|
  alls _ (s_getf (C := RX6) (T := TX6) (N := 29) rfl (in_c inX6) (by decide) (List.mem_cons_of_mem _ wd_772) rfl dX6_two_46) <|
  alls _ (s_iconst dX6_two_49) <|
  alls _ (s_iload dX6_two_50) <|
  alls _ (s_iconst dX6_two_52) <|
  alls _ (s_ixor dX6_two_53) <|
  alls _ (s_imul dX6_two_54) <|
  alls _ (s_iald dX6_two_55) <|
  alls _ (s_aload_n rfl dX6_two_56) <|
  alls _ (s_getf (C := RX6) (T := TX6) (N := 29) rfl (in_c inX6) (by decide) (List.mem_cons_of_mem _ wd_772) rfl dX6_two_57) <|
  alls _ (s_iconst dX6_two_60) <|
  alls _ (s_iload dX6_two_61) <|
  alls _ (s_imul dX6_two_63) <|
  alls _ (s_iald dX6_two_64) <|
  alls _ (s_icmp_lt (by decide) dX6_two_65) <|
  alls _ (s_aload_n rfl dX6_two_68) <|
  alls _ (s_getf (C := RX6) (T := TX6) (N := 29) rfl (in_c inX6) (by decide) (List.mem_cons_of_mem _ wd_772) rfl dX6_two_69) <|
  alls _ (s_iconst dX6_two_72) <|
  alls _ (s_iload dX6_two_73) <|
  alls _ (s_iconst dX6_two_75) <|
  alls _ (s_ixor dX6_two_76) <|
  alls _ (s_imul dX6_two_77) <|
  alls _ (s_iconst dX6_two_78) <|
  alls _ (s_iadd dX6_two_79) <|
  alls _ (s_iald dX6_two_80) <|
  alls _ (s_aload_n rfl dX6_two_81) <|
  alls _ (s_getf (C := RX6) (T := TX6) (N := 29) rfl (in_c inX6) (by decide) (List.mem_cons_of_mem _ wd_772) rfl dX6_two_82) <|
  alls _ (s_iconst dX6_two_85) <|
  alls _ (s_iload dX6_two_86) <|
  alls _ (s_imul dX6_two_88) <|
  alls _ (s_iconst dX6_two_89) <|
  alls _ (s_iadd dX6_two_90) <|
  alls _ (s_iald dX6_two_91) <|
  alls _ (s_icmp_lt (by decide) dX6_two_92) <|
  alls _ (s_bipush (by decide) dX6_two_95) <|
  alls _ (s_iload dX6_two_97) <|
  alls _ (s_iconst dX6_two_99) <|
  alls _ (s_idiv dX6_two_100) <|
  alls _ (s_imul dX6_two_101) <|
  alls _ (s_iload dX6_two_102) <|
  alls _ (s_iconst dX6_two_104) <|
  alls _ (s_irem dX6_two_105) <|
  alls _ (s_iadd dX6_two_106) <|
  alls _ (s_iret dX6_two_107) <|
  alls_nil _
set_option maxRecDepth 100000 in
theorem sX6_two_30 (l : Launch) : AllS (pSnd l rmX6_two yX6_two.cls cX6_two wsX6_two 5 (some .int)) 30 kX6_two_30 :=
  alls _ (s_aload_n rfl dX6_two_30) <|
  alls _ (s_iload_n rfl dX6_two_31) <|
  alls _ (s_iload_n rfl dX6_two_32) <|
  alls _ (s_callv (ct_X6_findCosts l) rfl rfl rfl (gdV wd_1136 wd_1138 wd_53 wd_65 wd_1139) rfl rfl (by decide +kernel) ⟨Nat.le_of_ble_eq_true rfl, Nat.le_of_ble_eq_true rfl⟩ dX6_two_33) <|
  alls _ (s_iconst dX6_two_36) <|
  alls _ (s_istore dX6_two_37) <|
  alls _ s_fall (alls_nil _)
set_option maxRecDepth 100000 in
theorem sX6_two_19 (l : Launch) : AllS (pSnd l rmX6_two yX6_two.cls cX6_two wsX6_two 5 (some .int)) 19 kX6_two_19 :=
  alls _ (s_istore_n rfl dX6_two_19) <|
  alls _ (s_iload_n rfl dX6_two_20) <|
  alls _ (s_if_eq (by decide) dX6_two_21) <|
  alls _ (s_aload_n rfl dX6_two_24) <|
  alls _ (s_iload_n rfl dX6_two_25) <|
  alls _ (s_callv (ct_X6_no l) rfl rfl rfl (gdV wd_842 wd_844 wd_11 wd_65 wd_845) rfl rfl (by decide +kernel) ⟨Nat.le_of_ble_eq_true rfl, Nat.le_of_ble_eq_true rfl⟩ dX6_two_26) <|
  alls _ (s_iret dX6_two_29) <|
  alls_nil _
set_option maxRecDepth 100000 in
theorem sX6_two_12 (l : Launch) : AllS (pSnd l rmX6_two yX6_two.cls cX6_two wsX6_two 5 (some .int)) 12 kX6_two_12 :=
  alls _ (s_iload_n rfl dX6_two_12) <|
  alls _ (s_iconst dX6_two_13) <|
  alls _ (s_bipush (by decide) dX6_two_14) <|
  alls _ (s_calls (ct_X6_bound l) rfl rfl (gdS wd_841) (List.mem_cons_of_mem _ wd_839) (List.mem_cons_of_mem _ wd_840) (List.mem_cons_of_mem _ wd_65) rfl rfl (by decide +kernel) ⟨Nat.le_of_ble_eq_true rfl, Nat.le_of_ble_eq_true rfl⟩ dX6_two_16) <|
  alls _ s_fall (alls_nil _)
set_option maxRecDepth 100000 in
theorem sX6_two_0 (l : Launch) : AllS (pSnd l rmX6_two yX6_two.cls cX6_two wsX6_two 5 (some .int)) 0 kX6_two_0 :=
  alls _ (s_aload_n rfl dX6_two_0) <|
  alls _ (s_iload_n rfl dX6_two_1) <|
  alls _ (s_callv (ct_X6_isPair l) rfl rfl rfl (gdV wd_907 wd_909 wd_24 wd_65 wd_910) rfl rfl (by decide +kernel) ⟨Nat.le_of_ble_eq_true rfl, Nat.le_of_ble_eq_true rfl⟩ dX6_two_2) <|
  alls _ (s_if_ne (by decide) dX6_two_5) <|
  alls _ (s_iconst dX6_two_8) <|
  alls _ (s_goto (by decide) dX6_two_9) <|
  alls_nil _
def KX6_two : List (Nat × pProg) := [(0, kX6_two_0), (12, kX6_two_12), (19, kX6_two_19), (30, kX6_two_30), (39, kX6_two_39), (108, kX6_two_108), (114, kX6_two_114)]
theorem bX6_two_0 : blkOf KX6_two 0 = some kX6_two_0 := rfl
theorem bX6_two_12 : blkOf KX6_two 12 = some kX6_two_12 := rfl
theorem bX6_two_19 : blkOf KX6_two 19 = some kX6_two_19 := rfl
theorem bX6_two_30 : blkOf KX6_two 30 = some kX6_two_30 := rfl
theorem bX6_two_39 : blkOf KX6_two 39 = some kX6_two_39 := rfl
theorem bX6_two_108 : blkOf KX6_two 108 = some kX6_two_108 := rfl
theorem bX6_two_114 : blkOf KX6_two 114 = some kX6_two_114 := rfl
def tX6_two : pT := pM KX6_two 5
theorem ct_X6_two (l : Launch) : pCtr l yX6_two wsX6_two rmX6_two 3 tX6_two := ctr_of (by decide +kernel) rfl (List.forall_mem_cons.mpr ⟨sX6_two_0 l, List.forall_mem_cons.mpr ⟨sX6_two_12 l, List.forall_mem_cons.mpr ⟨sX6_two_19 l, List.forall_mem_cons.mpr ⟨sX6_two_30 l, List.forall_mem_cons.mpr ⟨sX6_two_39 l, List.forall_mem_cons.mpr ⟨sX6_two_108 l, List.forall_mem_cons.mpr ⟨sX6_two_114 l, fun _ h => absurd h List.not_mem_nil⟩⟩⟩⟩⟩⟩⟩)
theorem dX6_lowestOf_0 : decode cX6_lowestOf 0 = .ok (.aload_n 0, 1) := by decide +kernel
theorem dX6_lowestOf_1 : decode cX6_lowestOf 1 = .ok (.getfield 7, 3) := by decide +kernel
theorem dX6_lowestOf_4 : decode cX6_lowestOf 4 = .ok (.iload_n 1, 1) := by decide +kernel
theorem dX6_lowestOf_5 : decode cX6_lowestOf 5 = .ok (.ineg, 1) := by decide +kernel
theorem dX6_lowestOf_6 : decode cX6_lowestOf 6 = .ok (.dup2, 1) := by decide +kernel
theorem dX6_lowestOf_7 : decode cX6_lowestOf 7 = .ok (.iaload, 1) := by decide +kernel
theorem dX6_lowestOf_8 : decode cX6_lowestOf 8 = .ok (.iconst 1, 1) := by decide +kernel
theorem dX6_lowestOf_9 : decode cX6_lowestOf 9 = .ok (.iadd, 1) := by decide +kernel
theorem dX6_lowestOf_10 : decode cX6_lowestOf 10 = .ok (.iastore, 1) := by decide +kernel
theorem dX6_lowestOf_11 : decode cX6_lowestOf 11 = .ok (.ldc2_w 62, 3) := by decide +kernel
theorem dX6_lowestOf_14 : decode cX6_lowestOf 14 = .ok (.iload_n 1, 1) := by decide +kernel
theorem dX6_lowestOf_15 : decode cX6_lowestOf 15 = .ok (.i2l, 1) := by decide +kernel
theorem dX6_lowestOf_16 : decode cX6_lowestOf 16 = .ok (.lsub, 1) := by decide +kernel
theorem dX6_lowestOf_17 : decode cX6_lowestOf 17 = .ok (.lreturn, 1) := by decide +kernel
def rmX6_lowestOf : Room := { frames := 0, cells := 0, slots := 0, locals := 0 }
abbrev wsX6_lowestOf : List Cond := .code yX6_lowestOf cX6_lowestOf 2 (some .long) :: gw_tbl
def kX6_lowestOf_0 : pProg := (0, 1, a_aload 0) :: (1, 3, a_getf 0 4 0) :: (4, 1, a_iload 1) :: (5, 1, a_ineg) :: (6, 1, a_dup2) :: (7, 1, a_iald 1) :: (8, 1, a_iconst 1) :: (9, 1, a_iadd) :: (10, 1, a_iast 1) :: (11, 3, a_lconst 4000000000000000000) :: (14, 1, a_iload 1) :: (15, 1, a_i2l) :: (16, 1, a_lsub) :: (17, 1, a_lret) :: []
set_option maxRecDepth 100000 in
theorem sX6_lowestOf_0 (l : Launch) : AllS (pSnd l rmX6_lowestOf yX6_lowestOf.cls cX6_lowestOf wsX6_lowestOf 2 (some .long)) 0 kX6_lowestOf_0 :=
  alls _ (s_aload_n rfl dX6_lowestOf_0) <|
  alls _ (s_getf (C := RX6) (T := TX6) (N := 29) rfl (in_c inX6) (by decide) (List.mem_cons_of_mem _ wd_747) rfl dX6_lowestOf_1) <|
  alls _ (s_iload_n rfl dX6_lowestOf_4) <|
  alls _ (s_ineg dX6_lowestOf_5) <|
  alls _ (s_dup2 dX6_lowestOf_6) <|
  alls _ (s_iald dX6_lowestOf_7) <|
  alls _ (s_iconst dX6_lowestOf_8) <|
  alls _ (s_iadd dX6_lowestOf_9) <|
  alls _ (s_iast dX6_lowestOf_10) <|
  alls _ (s_ldc2 (List.mem_cons_of_mem _ wd_1148) dX6_lowestOf_11) <|
  alls _ (s_iload_n rfl dX6_lowestOf_14) <|
  alls _ (s_i2l dX6_lowestOf_15) <|
  alls _ (s_lsub dX6_lowestOf_16) <|
  alls _ (s_lret dX6_lowestOf_17) <|
  alls_nil _
def KX6_lowestOf : List (Nat × pProg) := [(0, kX6_lowestOf_0)]
theorem bX6_lowestOf_0 : blkOf KX6_lowestOf 0 = some kX6_lowestOf_0 := rfl
def tX6_lowestOf : pT := pM KX6_lowestOf 2
theorem ct_X6_lowestOf (l : Launch) : pCtr l yX6_lowestOf wsX6_lowestOf rmX6_lowestOf 2 tX6_lowestOf := ctr_of (by decide +kernel) rfl (List.forall_mem_cons.mpr ⟨sX6_lowestOf_0 l, fun _ h => absurd h List.not_mem_nil⟩)
theorem dX6_divisor_0 : decode cX6_divisor 0 = .ok (.lload_n 0, 1) := by decide +kernel
theorem dX6_divisor_1 : decode cX6_divisor 1 = .ok (.lstore 4, 2) := by decide +kernel
theorem dX6_divisor_3 : decode cX6_divisor 3 = .ok (.lload_n 2, 1) := by decide +kernel
theorem dX6_divisor_4 : decode cX6_divisor 4 = .ok (.lstore 6, 2) := by decide +kernel
theorem dX6_divisor_6 : decode cX6_divisor 6 = .ok (.lload 6, 2) := by decide +kernel
theorem dX6_divisor_8 : decode cX6_divisor 8 = .ok (.lconst 0, 1) := by decide +kernel
theorem dX6_divisor_9 : decode cX6_divisor 9 = .ok (.lcmp, 1) := by decide +kernel
theorem dX6_divisor_10 : decode cX6_divisor 10 = .ok (.ifCond .eq 21, 3) := by decide +kernel
theorem dX6_divisor_13 : decode cX6_divisor 13 = .ok (.lload 4, 2) := by decide +kernel
theorem dX6_divisor_15 : decode cX6_divisor 15 = .ok (.lload 6, 2) := by decide +kernel
theorem dX6_divisor_17 : decode cX6_divisor 17 = .ok (.lrem, 1) := by decide +kernel
theorem dX6_divisor_18 : decode cX6_divisor 18 = .ok (.lstore 8, 2) := by decide +kernel
theorem dX6_divisor_20 : decode cX6_divisor 20 = .ok (.lload 6, 2) := by decide +kernel
theorem dX6_divisor_22 : decode cX6_divisor 22 = .ok (.lstore 4, 2) := by decide +kernel
theorem dX6_divisor_24 : decode cX6_divisor 24 = .ok (.lload 8, 2) := by decide +kernel
theorem dX6_divisor_26 : decode cX6_divisor 26 = .ok (.lstore 6, 2) := by decide +kernel
theorem dX6_divisor_28 : decode cX6_divisor 28 = .ok (.goto (-22), 3) := by decide +kernel
theorem dX6_divisor_31 : decode cX6_divisor 31 = .ok (.lload 4, 2) := by decide +kernel
theorem dX6_divisor_33 : decode cX6_divisor 33 = .ok (.lreturn, 1) := by decide +kernel
def rmX6_divisor : Room := { frames := 0, cells := 0, slots := 0, locals := 0 }
abbrev wsX6_divisor : List Cond := .code yX6_divisor cX6_divisor 10 (some .long) :: gw_tbl
def kX6_divisor_31 : pProg := (31, 2, a_lload 4) :: (33, 1, a_lret) :: []
def kX6_divisor_6 : pProg := (6, 2, a_lload 6) :: (8, 1, a_lconst 0) :: (9, 1, a_lcmp) :: (10, 3, a_if_eq 31) :: (13, 2, a_lload 4) :: (15, 2, a_lload 6) :: (17, 1, a_lrem) :: (18, 2, a_lstore 8) :: (20, 2, a_lload 6) :: (22, 2, a_lstore 4) :: (24, 2, a_lload 8) :: (26, 2, a_lstore 6) :: (28, 3, a_goto 6) :: []
def kX6_divisor_0 : pProg := (0, 1, a_lload 0) :: (1, 2, a_lstore 4) :: (3, 1, a_lload 2) :: (4, 2, a_lstore 6) :: (6, 0, a_fall 6) :: []
set_option maxRecDepth 100000 in
theorem sX6_divisor_31 (l : Launch) : AllS (pSnd l rmX6_divisor yX6_divisor.cls cX6_divisor wsX6_divisor 10 (some .long)) 31 kX6_divisor_31 :=
  alls _ (s_lload dX6_divisor_31) <|
  alls _ (s_lret dX6_divisor_33) <|
  alls_nil _
set_option maxRecDepth 100000 in
theorem sX6_divisor_6 (l : Launch) : AllS (pSnd l rmX6_divisor yX6_divisor.cls cX6_divisor wsX6_divisor 10 (some .long)) 6 kX6_divisor_6 :=
  alls _ (s_lload dX6_divisor_6) <|
  alls _ (s_lconst (by decide) dX6_divisor_8) <|
  alls _ (s_lcmp dX6_divisor_9) <|
  alls _ (s_if_eq (by decide) dX6_divisor_10) <|
  alls _ (s_lload dX6_divisor_13) <|
  alls _ (s_lload dX6_divisor_15) <|
  alls _ (s_lrem dX6_divisor_17) <|
  alls _ (s_lstore dX6_divisor_18) <|
  alls _ (s_lload dX6_divisor_20) <|
  alls _ (s_lstore dX6_divisor_22) <|
  alls _ (s_lload dX6_divisor_24) <|
  alls _ (s_lstore dX6_divisor_26) <|
  alls _ (s_goto (by decide) dX6_divisor_28) <|
  alls_nil _
set_option maxRecDepth 100000 in
theorem sX6_divisor_0 (l : Launch) : AllS (pSnd l rmX6_divisor yX6_divisor.cls cX6_divisor wsX6_divisor 10 (some .long)) 0 kX6_divisor_0 :=
  alls _ (s_lload_n rfl dX6_divisor_0) <|
  alls _ (s_lstore dX6_divisor_1) <|
  alls _ (s_lload_n rfl dX6_divisor_3) <|
  alls _ (s_lstore dX6_divisor_4) <|
  alls _ s_fall (alls_nil _)
def KX6_divisor : List (Nat × pProg) := [(0, kX6_divisor_0), (6, kX6_divisor_6), (31, kX6_divisor_31)]
theorem bX6_divisor_0 : blkOf KX6_divisor 0 = some kX6_divisor_0 := rfl
theorem bX6_divisor_6 : blkOf KX6_divisor 6 = some kX6_divisor_6 := rfl
theorem bX6_divisor_31 : blkOf KX6_divisor 31 = some kX6_divisor_31 := rfl
def tX6_divisor : pT := pM KX6_divisor 10
theorem ct_X6_divisor (l : Launch) : pCtr l yX6_divisor wsX6_divisor rmX6_divisor 2 tX6_divisor := ctr_of (by decide +kernel) rfl (List.forall_mem_cons.mpr ⟨sX6_divisor_0 l, List.forall_mem_cons.mpr ⟨sX6_divisor_6 l, List.forall_mem_cons.mpr ⟨sX6_divisor_31 l, fun _ h => absurd h List.not_mem_nil⟩⟩⟩)
theorem dX6_partOf_0 : decode cX6_partOf 0 = .ok (.iload 4, 2) := by decide +kernel
theorem dX6_partOf_2 : decode cX6_partOf 2 = .ok (.ifCond .ne 7, 3) := by decide +kernel
theorem dX6_partOf_5 : decode cX6_partOf 5 = .ok (.lload_n 0, 1) := by decide +kernel
theorem dX6_partOf_6 : decode cX6_partOf 6 = .ok (.goto 4, 3) := by decide +kernel
theorem dX6_partOf_9 : decode cX6_partOf 9 = .ok (.lload_n 2, 1) := by decide +kernel
theorem dX6_partOf_10 : decode cX6_partOf 10 = .ok (.lload_n 0, 1) := by decide +kernel
theorem dX6_partOf_11 : decode cX6_partOf 11 = .ok (.lload_n 2, 1) := by decide +kernel
theorem dX6_partOf_12 : decode cX6_partOf 12 = .ok (.invokestatic 258, 3) := by decide +kernel
theorem dX6_partOf_15 : decode cX6_partOf 15 = .ok (.ldiv, 1) := by decide +kernel
theorem dX6_partOf_16 : decode cX6_partOf 16 = .ok (.lreturn, 1) := by decide +kernel
def rmX6_partOf : Room := { frames := 1, cells := 0, slots := 0, locals := 29 }
abbrev wsX6_partOf : List Cond := .code yX6_partOf cX6_partOf 5 (some .long) :: gw_tbl
def kX6_partOf_10 : pProg := (10, 1, a_lload 0) :: (11, 1, a_lload 2) :: (12, 3, a_calls 2 [] tX6_divisor) :: (15, 1, a_ldiv) :: (16, 1, a_lret) :: []
def kX6_partOf_9 : pProg := (9, 1, a_lload 2) :: (10, 0, a_fall 10) :: []
def kX6_partOf_0 : pProg := (0, 2, a_iload 4) :: (2, 3, a_if_ne 9) :: (5, 1, a_lload 0) :: (6, 3, a_goto 10) :: []
set_option maxRecDepth 100000 in
theorem sX6_partOf_10 (l : Launch) : AllS (pSnd l rmX6_partOf yX6_partOf.cls cX6_partOf wsX6_partOf 5 (some .long)) 10 kX6_partOf_10 :=
  alls _ (s_lload_n rfl dX6_partOf_10) <|
  alls _ (s_lload_n rfl dX6_partOf_11) <|
  alls _ (s_calls (ct_X6_divisor l) rfl rfl (gdS wd_1154) (List.mem_cons_of_mem _ wd_1152) (List.mem_cons_of_mem _ wd_1153) (List.mem_cons_of_mem _ wd_65) rfl rfl (by decide +kernel) ⟨Nat.le_of_ble_eq_true rfl, Nat.le_of_ble_eq_true rfl⟩ dX6_partOf_12) <|
  alls _ (s_ldiv dX6_partOf_15) <|
  alls _ (s_lret dX6_partOf_16) <|
  alls_nil _
set_option maxRecDepth 100000 in
theorem sX6_partOf_9 (l : Launch) : AllS (pSnd l rmX6_partOf yX6_partOf.cls cX6_partOf wsX6_partOf 5 (some .long)) 9 kX6_partOf_9 :=
  alls _ (s_lload_n rfl dX6_partOf_9) <|
  alls _ s_fall (alls_nil _)
set_option maxRecDepth 100000 in
theorem sX6_partOf_0 (l : Launch) : AllS (pSnd l rmX6_partOf yX6_partOf.cls cX6_partOf wsX6_partOf 5 (some .long)) 0 kX6_partOf_0 :=
  alls _ (s_iload dX6_partOf_0) <|
  alls _ (s_if_ne (by decide) dX6_partOf_2) <|
  alls _ (s_lload_n rfl dX6_partOf_5) <|
  alls _ (s_goto (by decide) dX6_partOf_6) <|
  alls_nil _
def KX6_partOf : List (Nat × pProg) := [(0, kX6_partOf_0), (9, kX6_partOf_9), (10, kX6_partOf_10)]
theorem bX6_partOf_0 : blkOf KX6_partOf 0 = some kX6_partOf_0 := rfl
theorem bX6_partOf_9 : blkOf KX6_partOf 9 = some kX6_partOf_9 := rfl
theorem bX6_partOf_10 : blkOf KX6_partOf 10 = some kX6_partOf_10 := rfl
def tX6_partOf : pT := pM KX6_partOf 5
theorem ct_X6_partOf (l : Launch) : pCtr l yX6_partOf wsX6_partOf rmX6_partOf 3 tX6_partOf := ctr_of (by decide +kernel) rfl (List.forall_mem_cons.mpr ⟨sX6_partOf_0 l, List.forall_mem_cons.mpr ⟨sX6_partOf_9 l, List.forall_mem_cons.mpr ⟨sX6_partOf_10 l, fun _ h => absurd h List.not_mem_nil⟩⟩⟩)
theorem dX6_cough_0 : decode cX6_cough 0 = .ok (.aload_n 0, 1) := by decide +kernel
theorem dX6_cough_1 : decode cX6_cough 1 = .ok (.iload_n 1, 1) := by decide +kernel
theorem dX6_cough_2 : decode cX6_cough 2 = .ok (.invokevirtual 106, 3) := by decide +kernel
theorem dX6_cough_5 : decode cX6_cough 5 = .ok (.ifCond .ne 7, 3) := by decide +kernel
theorem dX6_cough_8 : decode cX6_cough 8 = .ok (.iconst (-1), 1) := by decide +kernel
theorem dX6_cough_9 : decode cX6_cough 9 = .ok (.goto 62, 3) := by decide +kernel
theorem dX6_cough_12 : decode cX6_cough 12 = .ok (.iload_n 2, 1) := by decide +kernel
theorem dX6_cough_13 : decode cX6_cough 13 = .ok (.ifCond .lt 13, 3) := by decide +kernel
theorem dX6_cough_16 : decode cX6_cough 16 = .ok (.iload 4, 2) := by decide +kernel
theorem dX6_cough_18 : decode cX6_cough 18 = .ok (.ifCond .lt 8, 3) := by decide +kernel
theorem dX6_cough_21 : decode cX6_cough 21 = .ok (.iload_n 3, 1) := by decide +kernel
theorem dX6_cough_22 : decode cX6_cough 22 = .ok (.iconst 2, 1) := by decide +kernel
theorem dX6_cough_23 : decode cX6_cough 23 = .ok (.if_icmp .ge 8, 3) := by decide +kernel
theorem dX6_cough_26 : decode cX6_cough 26 = .ok (.bipush (-4), 2) := by decide +kernel
theorem dX6_cough_28 : decode cX6_cough 28 = .ok (.goto 43, 3) := by decide +kernel
theorem dX6_cough_31 : decode cX6_cough 31 = .ok (.iload_n 2, 1) := by decide +kernel
theorem dX6_cough_32 : decode cX6_cough 32 = .ok (.bipush 7, 2) := by decide +kernel
theorem dX6_cough_34 : decode cX6_cough 34 = .ok (.if_icmp .gt 16, 3) := by decide +kernel
theorem dX6_cough_37 : decode cX6_cough 37 = .ok (.iload_n 3, 1) := by decide +kernel
theorem dX6_cough_38 : decode cX6_cough 38 = .ok (.bipush 20, 2) := by decide +kernel
theorem dX6_cough_40 : decode cX6_cough 40 = .ok (.if_icmp .gt 10, 3) := by decide +kernel
theorem dX6_cough_43 : decode cX6_cough 43 = .ok (.iload 4, 2) := by decide +kernel
theorem dX6_cough_45 : decode cX6_cough 45 = .ok (.bipush 19, 2) := by decide +kernel
theorem dX6_cough_47 : decode cX6_cough 47 = .ok (.if_icmp .le 8, 3) := by decide +kernel
theorem dX6_cough_50 : decode cX6_cough 50 = .ok (.bipush (-6), 2) := by decide +kernel
theorem dX6_cough_52 : decode cX6_cough 52 = .ok (.goto 19, 3) := by decide +kernel
theorem dX6_cough_55 : decode cX6_cough 55 = .ok (.iload 5, 2) := by decide +kernel
theorem dX6_cough_57 : decode cX6_cough 57 = .ok (.iconst 0, 1) := by decide +kernel
theorem dX6_cough_58 : decode cX6_cough 58 = .ok (.iconst 1, 1) := by decide +kernel
theorem dX6_cough_59 : decode cX6_cough 59 = .ok (.invokestatic 82, 3) := by decide +kernel
theorem dX6_cough_62 : decode cX6_cough 62 = .ok (.ifCond .ne 8, 3) := by decide +kernel
theorem dX6_cough_65 : decode cX6_cough 65 = .ok (.bipush (-2), 2) := by decide +kernel
theorem dX6_cough_67 : decode cX6_cough 67 = .ok (.goto 4, 3) := by decide +kernel
theorem dX6_cough_70 : decode cX6_cough 70 = .ok (.iconst 0, 1) := by decide +kernel
theorem dX6_cough_71 : decode cX6_cough 71 = .ok (.istore 6, 2) := by decide +kernel
theorem dX6_cough_73 : decode cX6_cough 73 = .ok (.iload 6, 2) := by decide +kernel
theorem dX6_cough_75 : decode cX6_cough 75 = .ok (.ifCond .eq 10, 3) := by decide +kernel
theorem dX6_cough_78 : decode cX6_cough 78 = .ok (.aload_n 0, 1) := by decide +kernel
theorem dX6_cough_79 : decode cX6_cough 79 = .ok (.iload 6, 2) := by decide +kernel
theorem dX6_cough_81 : decode cX6_cough 81 = .ok (.invokevirtual 262, 3) := by decide +kernel
theorem dX6_cough_84 : decode cX6_cough 84 = .ok (.lreturn, 1) := by decide +kernel
theorem dX6_cough_85 : decode cX6_cough 85 = .ok (.lconst 0, 1) := by decide +kernel
theorem dX6_cough_86 : decode cX6_cough 86 = .ok (.lstore 7, 2) := by decide +kernel
theorem dX6_cough_88 : decode cX6_cough 88 = .ok (.lconst 1, 1) := by decide +kernel
theorem dX6_cough_89 : decode cX6_cough 89 = .ok (.lstore 9, 2) := by decide +kernel
theorem dX6_cough_91 : decode cX6_cough 91 = .ok (.iconst 0, 1) := by decide +kernel
theorem dX6_cough_92 : decode cX6_cough 92 = .ok (.istore 11, 2) := by decide +kernel
theorem dX6_cough_94 : decode cX6_cough 94 = .ok (.iload 11, 2) := by decide +kernel
theorem dX6_cough_96 : decode cX6_cough 96 = .ok (.iload_n 2, 1) := by decide +kernel
theorem dX6_cough_97 : decode cX6_cough 97 = .ok (.if_icmp .ge 16, 3) := by decide +kernel
theorem dX6_cough_100 : decode cX6_cough 100 = .ok (.lload 9, 2) := by decide +kernel
theorem dX6_cough_102 : decode cX6_cough 102 = .ok (.iload_n 3, 1) := by decide +kernel
theorem dX6_cough_103 : decode cX6_cough 103 = .ok (.i2l, 1) := by decide +kernel
theorem dX6_cough_104 : decode cX6_cough 104 = .ok (.lmul, 1) := by decide +kernel
theorem dX6_cough_105 : decode cX6_cough 105 = .ok (.lstore 9, 2) := by decide +kernel
theorem dX6_cough_107 : decode cX6_cough 107 = .ok (.iinc 11 1, 3) := by decide +kernel
theorem dX6_cough_110 : decode cX6_cough 110 = .ok (.goto (-16), 3) := by decide +kernel
theorem dX6_cough_113 : decode cX6_cough 113 = .ok (.iconst 0, 1) := by decide +kernel
theorem dX6_cough_114 : decode cX6_cough 114 = .ok (.istore 11, 2) := by decide +kernel
theorem dX6_cough_116 : decode cX6_cough 116 = .ok (.iload 11, 2) := by decide +kernel
theorem dX6_cough_118 : decode cX6_cough 118 = .ok (.iconst 1, 1) := by decide +kernel
theorem dX6_cough_119 : decode cX6_cough 119 = .ok (.iload_n 2, 1) := by decide +kernel
theorem dX6_cough_120 : decode cX6_cough 120 = .ok (.ishl, 1) := by decide +kernel
theorem dX6_cough_121 : decode cX6_cough 121 = .ok (.if_icmp .ge 95, 3) := by decide +kernel
theorem dX6_cough_124 : decode cX6_cough 124 = .ok (.aload_n 0, 1) := by decide +kernel
theorem dX6_cough_125 : decode cX6_cough 125 = .ok (.invokevirtual 207, 3) := by decide +kernel
theorem dX6_cough_128 : decode cX6_cough 128 = .ok (.lconst 1, 1) := by decide +kernel
theorem dX6_cough_129 : decode cX6_cough 129 = .ok (.lstore 12, 2) := by decide +kernel
theorem dX6_cough_131 : decode cX6_cough 131 = .ok (.iconst 0, 1) := by decide +kernel
theorem dX6_cough_132 : decode cX6_cough 132 = .ok (.istore 14, 2) := by decide +kernel
theorem dX6_cough_134 : decode cX6_cough 134 = .ok (.iload 14, 2) := by decide +kernel
theorem dX6_cough_136 : decode cX6_cough 136 = .ok (.iload_n 2, 1) := by decide +kernel
theorem dX6_cough_137 : decode cX6_cough 137 = .ok (.if_icmp .ge 47, 3) := by decide +kernel
theorem dX6_cough_140 : decode cX6_cough 140 = .ok (.lload 12, 2) := by decide +kernel
theorem dX6_cough_142 : decode cX6_cough 142 = .ok (.iload 11, 2) := by decide +kernel
theorem dX6_cough_144 : decode cX6_cough 144 = .ok (.iload 14, 2) := by decide +kernel
theorem dX6_cough_146 : decode cX6_cough 146 = .ok (.invokestatic 175, 3) := by decide +kernel
theorem dX6_cough_149 : decode cX6_cough 149 = .ok (.ifCond .eq 7, 3) := by decide +kernel
theorem dX6_cough_152 : decode cX6_cough 152 = .ok (.lconst 1, 1) := by decide +kernel
theorem dX6_cough_153 : decode cX6_cough 153 = .ok (.goto 7, 3) := by decide +kernel
theorem dX6_cough_156 : decode cX6_cough 156 = .ok (.iload_n 3, 1) := by decide +kernel
theorem dX6_cough_157 : decode cX6_cough 157 = .ok (.iconst 1, 1) := by decide +kernel
theorem dX6_cough_158 : decode cX6_cough 158 = .ok (.isub, 1) := by decide +kernel
theorem dX6_cough_159 : decode cX6_cough 159 = .ok (.i2l, 1) := by decide +kernel
theorem dX6_cough_160 : decode cX6_cough 160 = .ok (.lmul, 1) := by decide +kernel
theorem dX6_cough_161 : decode cX6_cough 161 = .ok (.lstore 12, 2) := by decide +kernel
theorem dX6_cough_163 : decode cX6_cough 163 = .ok (.aload_n 0, 1) := by decide +kernel
theorem dX6_cough_164 : decode cX6_cough 164 = .ok (.iload 11, 2) := by decide +kernel
theorem dX6_cough_166 : decode cX6_cough 166 = .ok (.iload 14, 2) := by decide +kernel
theorem dX6_cough_168 : decode cX6_cough 168 = .ok (.invokestatic 175, 3) := by decide +kernel
theorem dX6_cough_171 : decode cX6_cough 171 = .ok (.putfield 163, 3) := by decide +kernel
theorem dX6_cough_174 : decode cX6_cough 174 = .ok (.aload_n 0, 1) := by decide +kernel
theorem dX6_cough_175 : decode cX6_cough 175 = .ok (.invokevirtual 197, 3) := by decide +kernel
theorem dX6_cough_178 : decode cX6_cough 178 = .ok (.iinc 14 1, 3) := by decide +kernel
theorem dX6_cough_181 : decode cX6_cough 181 = .ok (.goto (-47), 3) := by decide +kernel
theorem dX6_cough_184 : decode cX6_cough 184 = .ok (.lload 7, 2) := by decide +kernel
theorem dX6_cough_186 : decode cX6_cough 186 = .ok (.aload_n 0, 1) := by decide +kernel
theorem dX6_cough_187 : decode cX6_cough 187 = .ok (.getfield 25, 3) := by decide +kernel
theorem dX6_cough_190 : decode cX6_cough 190 = .ok (.iload_n 1, 1) := by decide +kernel
theorem dX6_cough_191 : decode cX6_cough 191 = .ok (.iaload, 1) := by decide +kernel
theorem dX6_cough_192 : decode cX6_cough 192 = .ok (.iload 4, 2) := by decide +kernel
theorem dX6_cough_194 : decode cX6_cough 194 = .ok (.if_icmp .lt 8, 3) := by decide +kernel
theorem dX6_cough_197 : decode cX6_cough 197 = .ok (.lload 12, 2) := by decide +kernel
theorem dX6_cough_199 : decode cX6_cough 199 = .ok (.goto 4, 3) := by decide +kernel
theorem dX6_cough_202 : decode cX6_cough 202 = .ok (.lconst 0, 1) := by decide +kernel
theorem dX6_cough_203 : decode cX6_cough 203 = .ok (.ladd, 1) := by decide +kernel
theorem dX6_cough_204 : decode cX6_cough 204 = .ok (.lstore 7, 2) := by decide +kernel
theorem dX6_cough_206 : decode cX6_cough 206 = .ok (.aload_n 0, 1) := by decide +kernel
theorem dX6_cough_207 : decode cX6_cough 207 = .ok (.invokevirtual 210, 3) := by decide +kernel
theorem dX6_cough_210 : decode cX6_cough 210 = .ok (.iinc 11 1, 3) := by decide +kernel
theorem dX6_cough_213 : decode cX6_cough 213 = .ok (.goto (-97), 3) := by decide +kernel
theorem dX6_cough_216 : decode cX6_cough 216 = .ok (.lload 7, 2) := by decide +kernel
theorem dX6_cough_218 : decode cX6_cough 218 = .ok (.lload 9, 2) := by decide +kernel
theorem dX6_cough_220 : decode cX6_cough 220 = .ok (.iload 5, 2) := by decide +kernel
theorem dX6_cough_222 : decode cX6_cough 222 = .ok (.invokestatic 266, 3) := by decide +kernel
theorem dX6_cough_225 : decode cX6_cough 225 = .ok (.lreturn, 1) := by decide +kernel
def rmX6_cough : Room := { frames := 5, cells := 0, slots := 0, locals := 111 }
abbrev wsX6_cough : List Cond := .code yX6_cough cX6_cough 15 (some .long) :: gw_tbl
def kX6_cough_216 : pProg := (216, 2, a_lload 7) :: (218, 2, a_lload 9) :: (220, 2, a_iload 5) :: (222, 3, a_calls 3 [] tX6_partOf) :: (225, 1, a_lret) :: []
def kX6_cough_203 : pProg := (203, 1, a_ladd) :: (204, 2, a_lstore 7) :: (206, 1, a_aload 0) :: (207, 3, a_callv 1 4 [0, 1, 2, 3, 4, 5, 6, 7, 8, 9, 10, 11, 12, 13, 14, 15, 16] tX6_forgets) :: (210, 3, a_iinc 11 1) :: (213, 3, a_goto 116) :: []
def kX6_cough_202 : pProg := (202, 1, a_lconst 0) :: (203, 0, a_fall 203) :: []
def kX6_cough_184 : pProg := (184, 2, a_lload 7) :: (186, 1, a_aload 0) :: (187, 3, a_getf 0 4 5) :: (190, 1, a_iload 1) :: (191, 1, a_iald 6) :: (192, 2, a_iload 4) :: (194, 3, a_icmp_lt 202) :: (197, 2, a_lload 12) :: (199, 3, a_goto 203) :: []
def kX6_cough_160 : pProg := (160, 1, a_lmul) :: (161, 2, a_lstore 12) :: (163, 1, a_aload 0) :: (164, 2, a_iload 11) :: (166, 2, a_iload 14) :: (168, 3, a_calls 2 [] tX6_has) :: (171, 3, a_putf 0 4 20 .boolean) :: (174, 1, a_aload 0) :: (175, 3, a_callv 1 4 [0, 1, 2, 3, 4, 5, 6, 7, 8, 9, 10, 11, 12, 13, 14, 15, 16] tX6_goesMinute) :: (178, 3, a_iinc 14 1) :: (181, 3, a_goto 134) :: []
def kX6_cough_156 : pProg := (156, 1, a_iload 3) :: (157, 1, a_iconst 1) :: (158, 1, a_isub) :: (159, 1, a_i2l) :: (160, 0, a_fall 160) :: []
def kX6_cough_134 : pProg := (134, 2, a_iload 14) :: (136, 1, a_iload 2) :: (137, 3, a_icmp_ge 184) :: (140, 2, a_lload 12) :: (142, 2, a_iload 11) :: (144, 2, a_iload 14) :: (146, 3, a_calls 2 [] tX6_has) :: (149, 3, a_if_eq 156) :: (152, 1, a_lconst 1) :: (153, 3, a_goto 160) :: []
def kX6_cough_116 : pProg := (116, 2, a_iload 11) :: (118, 1, a_iconst 1) :: (119, 1, a_iload 2) :: (120, 1, a_ishl) :: (121, 3, a_icmp_ge 216) :: (124, 1, a_aload 0) :: (125, 3, a_callv 1 4 [0, 1, 2, 3, 4, 5, 6, 7, 8, 9, 10, 11, 12, 13, 14, 15, 16] tX6_thinks) :: (128, 1, a_lconst 1) :: (129, 2, a_lstore 12) :: (131, 1, a_iconst 0) :: (132, 2, a_istore 14) :: (134, 0, a_fall 134) :: []
def kX6_cough_113 : pProg := (113, 1, a_iconst 0) :: (114, 2, a_istore 11) :: (116, 0, a_fall 116) :: []
def kX6_cough_94 : pProg := (94, 2, a_iload 11) :: (96, 1, a_iload 2) :: (97, 3, a_icmp_ge 113) :: (100, 2, a_lload 9) :: (102, 1, a_iload 3) :: (103, 1, a_i2l) :: (104, 1, a_lmul) :: (105, 2, a_lstore 9) :: (107, 3, a_iinc 11 1) :: (110, 3, a_goto 94) :: []
def kX6_cough_85 : pProg := (85, 1, a_lconst 0) :: (86, 2, a_lstore 7) :: (88, 1, a_lconst 1) :: (89, 2, a_lstore 9) :: (91, 1, a_iconst 0) :: (92, 2, a_istore 11) :: (94, 0, a_fall 94) :: []
def kX6_cough_71 : pProg := (71, 2, a_istore 6) :: (73, 2, a_iload 6) :: (75, 3, a_if_eq 85) :: (78, 1, a_aload 0) :: (79, 2, a_iload 6) :: (81, 3, a_callv 2 4 [0, 1, 2, 3, 4, 5, 6, 7, 8, 9, 10, 11, 12, 13, 14, 15, 16] tX6_lowestOf) :: (84, 1, a_lret) :: []
def kX6_cough_70 : pProg := (70, 1, a_iconst 0) :: (71, 0, a_fall 71) :: []
def kX6_cough_55 : pProg := (55, 2, a_iload 5) :: (57, 1, a_iconst 0) :: (58, 1, a_iconst 1) :: (59, 3, a_calls 3 [] tX6_isIn) :: (62, 3, a_if_ne 70) :: (65, 2, a_iconst (-2)) :: (67, 3, a_goto 71) :: []
def kX6_cough_50 : pProg := (50, 2, a_iconst (-6)) :: (52, 3, a_goto 71) :: []
def kX6_cough_31 : pProg := (31, 1, a_iload 2) :: (32, 2, a_iconst 7) :: (34, 3, a_icmp_gt 50) :: (37, 1, a_iload 3) :: (38, 2, a_iconst 20) :: (40, 3, a_icmp_gt 50) :: (43, 2, a_iload 4) :: (45, 2, a_iconst 19) :: (47, 3, a_icmp_le 55) :: (50, 0, a_fall 50) :: []
def kX6_cough_26 : pProg := (26, 2, a_iconst (-4)) :: (28, 3, a_goto 71) :: []
def kX6_cough_12 : pProg := (12, 1, a_iload 2) :: (13, 3, a_if_lt 26) :: (16, 2, a_iload 4) :: (18, 3, a_if_lt 26) :: (21, 1, a_iload 3) :: (22, 1, a_iconst 2) :: (23, 3, a_icmp_ge 31) :: (26, 0, a_fall 26) :: []
def kX6_cough_0 : pProg := (0, 1, a_aload 0) :: (1, 1, a_iload 1) :: (2, 3, a_callv 2 4 [0, 1, 2, 3, 4, 5, 6, 7, 8, 9, 10, 11, 12, 13, 14, 15, 16] tX6_isPair) :: (5, 3, a_if_ne 12) :: (8, 1, a_iconst (-1)) :: (9, 3, a_goto 71) :: []
set_option maxRecDepth 100000 in
theorem sX6_cough_216 (l : Launch) : AllS (pSnd l rmX6_cough yX6_cough.cls cX6_cough wsX6_cough 15 (some .long)) 216 kX6_cough_216 :=
  alls _ (s_lload dX6_cough_216) <|
  alls _ (s_lload dX6_cough_218) <|
  alls _ (s_iload dX6_cough_220) <|
  alls _ (s_calls (ct_X6_partOf l) rfl rfl (gdS wd_1151) (List.mem_cons_of_mem _ wd_1149) (List.mem_cons_of_mem _ wd_1150) (List.mem_cons_of_mem _ wd_65) rfl rfl (by decide +kernel) ⟨Nat.le_of_ble_eq_true rfl, Nat.le_of_ble_eq_true rfl⟩ dX6_cough_222) <|
  alls _ (s_lret dX6_cough_225) <|
  alls_nil _
set_option maxRecDepth 100000 in
theorem sX6_cough_203 (l : Launch) : AllS (pSnd l rmX6_cough yX6_cough.cls cX6_cough wsX6_cough 15 (some .long)) 203 kX6_cough_203 :=
  alls _ (s_ladd dX6_cough_203) <|
  alls _ (s_lstore dX6_cough_204) <|
  alls _ (s_aload_n rfl dX6_cough_206) <|
  alls _ (s_callv (ct_X6_forgets l) rfl rfl rfl (gdV wd_1020 wd_1022 wd_38 wd_65 wd_1023) rfl rfl (by decide +kernel) ⟨Nat.le_of_ble_eq_true rfl, Nat.le_of_ble_eq_true rfl⟩ dX6_cough_207) <|
  alls _ (s_iinc dX6_cough_210) <|
  alls _ (s_goto (by decide) dX6_cough_213) <|
  alls_nil _
set_option maxRecDepth 100000 in
theorem sX6_cough_202 (l : Launch) : AllS (pSnd l rmX6_cough yX6_cough.cls cX6_cough wsX6_cough 15 (some .long)) 202 kX6_cough_202 :=
  alls _ (s_lconst (by decide) dX6_cough_202) <|
  alls _ s_fall (alls_nil _)
set_option maxRecDepth 100000 in
theorem sX6_cough_184 (l : Launch) : AllS (pSnd l rmX6_cough yX6_cough.cls cX6_cough wsX6_cough 15 (some .long)) 184 kX6_cough_184 :=
  alls _ (s_lload dX6_cough_184) <|
  alls _ (s_aload_n rfl dX6_cough_186) <|
  alls _ (s_getf (C := RX6) (T := TX6) (N := 29) rfl (in_c inX6) (by decide) (List.mem_cons_of_mem _ wd_752) rfl dX6_cough_187) <|
  alls _ (s_iload_n rfl dX6_cough_190) <|
  alls _ (s_iald dX6_cough_191) <|
  alls _ (s_iload dX6_cough_192) <|
  alls _ (s_icmp_lt (by decide) dX6_cough_194) <|
  alls _ (s_lload dX6_cough_197) <|
  alls _ (s_goto (by decide) dX6_cough_199) <|
  alls_nil _
set_option maxRecDepth 100000 in
theorem sX6_cough_160 (l : Launch) : AllS (pSnd l rmX6_cough yX6_cough.cls cX6_cough wsX6_cough 15 (some .long)) 160 kX6_cough_160 :=
  alls _ (s_lmul dX6_cough_160) <|
  alls _ (s_lstore dX6_cough_161) <|
  alls _ (s_aload_n rfl dX6_cough_163) <|
  alls _ (s_iload dX6_cough_164) <|
  alls _ (s_iload dX6_cough_166) <|
  alls _ (s_calls (ct_X6_has l) rfl rfl (gdS wd_952) (List.mem_cons_of_mem _ wd_950) (List.mem_cons_of_mem _ wd_951) (List.mem_cons_of_mem _ wd_65) rfl rfl (by decide +kernel) ⟨Nat.le_of_ble_eq_true rfl, Nat.le_of_ble_eq_true rfl⟩ dX6_cough_168) <|
  alls _ (s_putf (C := RX6) (T := TX6) (N := 29) tyX6 rfl (in_c inX6) tyX6_ok nmX6 (by decide) (List.mem_cons_of_mem _ wd_767) rfl rfl (tyX6_ok 20 (by decide)) dX6_cough_171) <|
  alls _ (s_aload_n rfl dX6_cough_174) <|
  alls _ (s_callv (ct_X6_goesMinute l) rfl rfl rfl (gdV wd_934 wd_936 wd_30 wd_65 wd_937) rfl rfl (by decide +kernel) ⟨Nat.le_of_ble_eq_true rfl, Nat.le_of_ble_eq_true rfl⟩ dX6_cough_175) <|
  alls _ (s_iinc dX6_cough_178) <|
  alls _ (s_goto (by decide) dX6_cough_181) <|
  alls_nil _
set_option maxRecDepth 100000 in
theorem sX6_cough_156 (l : Launch) : AllS (pSnd l rmX6_cough yX6_cough.cls cX6_cough wsX6_cough 15 (some .long)) 156 kX6_cough_156 :=
  alls _ (s_iload_n rfl dX6_cough_156) <|
  alls _ (s_iconst dX6_cough_157) <|
  alls _ (s_isub dX6_cough_158) <|
  alls _ (s_i2l dX6_cough_159) <|
  alls _ s_fall (alls_nil _)
set_option maxRecDepth 100000 in
theorem sX6_cough_134 (l : Launch) : AllS (pSnd l rmX6_cough yX6_cough.cls cX6_cough wsX6_cough 15 (some .long)) 134 kX6_cough_134 :=
  alls _ (s_iload dX6_cough_134) <|
  alls _ (s_iload_n rfl dX6_cough_136) <|
  alls _ (s_icmp_ge (by decide) dX6_cough_137) <|
  alls _ (s_lload dX6_cough_140) <|
  alls _ (s_iload dX6_cough_142) <|
  alls _ (s_iload dX6_cough_144) <|
  alls _ (s_calls (ct_X6_has l) rfl rfl (gdS wd_952) (List.mem_cons_of_mem _ wd_950) (List.mem_cons_of_mem _ wd_951) (List.mem_cons_of_mem _ wd_65) rfl rfl (by decide +kernel) ⟨Nat.le_of_ble_eq_true rfl, Nat.le_of_ble_eq_true rfl⟩ dX6_cough_146) <|
  alls _ (s_if_eq (by decide) dX6_cough_149) <|
  alls _ (s_lconst (by decide) dX6_cough_152) <|
  alls _ (s_goto (by decide) dX6_cough_153) <|
  alls_nil _
set_option maxRecDepth 100000 in
theorem sX6_cough_116 (l : Launch) : AllS (pSnd l rmX6_cough yX6_cough.cls cX6_cough wsX6_cough 15 (some .long)) 116 kX6_cough_116 :=
  alls _ (s_iload dX6_cough_116) <|
  alls _ (s_iconst dX6_cough_118) <|
  alls _ (s_iload_n rfl dX6_cough_119) <|
  alls _ (s_ishl dX6_cough_120) <|
  alls _ (s_icmp_ge (by decide) dX6_cough_121) <|
  alls _ (s_aload_n rfl dX6_cough_124) <|
  alls _ (s_callv (ct_X6_thinks l) rfl rfl rfl (gdV wd_1016 wd_1018 wd_37 wd_65 wd_1019) rfl rfl (by decide +kernel) ⟨Nat.le_of_ble_eq_true rfl, Nat.le_of_ble_eq_true rfl⟩ dX6_cough_125) <|
  alls _ (s_lconst (by decide) dX6_cough_128) <|
  alls _ (s_lstore dX6_cough_129) <|
  alls _ (s_iconst dX6_cough_131) <|
  alls _ (s_istore dX6_cough_132) <|
  alls _ s_fall (alls_nil _)
set_option maxRecDepth 100000 in
theorem sX6_cough_113 (l : Launch) : AllS (pSnd l rmX6_cough yX6_cough.cls cX6_cough wsX6_cough 15 (some .long)) 113 kX6_cough_113 :=
  alls _ (s_iconst dX6_cough_113) <|
  alls _ (s_istore dX6_cough_114) <|
  alls _ s_fall (alls_nil _)
set_option maxRecDepth 100000 in
theorem sX6_cough_94 (l : Launch) : AllS (pSnd l rmX6_cough yX6_cough.cls cX6_cough wsX6_cough 15 (some .long)) 94 kX6_cough_94 :=
  alls _ (s_iload dX6_cough_94) <|
  alls _ (s_iload_n rfl dX6_cough_96) <|
  alls _ (s_icmp_ge (by decide) dX6_cough_97) <|
  alls _ (s_lload dX6_cough_100) <|
  alls _ (s_iload_n rfl dX6_cough_102) <|
  alls _ (s_i2l dX6_cough_103) <|
  alls _ (s_lmul dX6_cough_104) <|
  alls _ (s_lstore dX6_cough_105) <|
  alls _ (s_iinc dX6_cough_107) <|
  alls _ (s_goto (by decide) dX6_cough_110) <|
  alls_nil _
set_option maxRecDepth 100000 in
theorem sX6_cough_85 (l : Launch) : AllS (pSnd l rmX6_cough yX6_cough.cls cX6_cough wsX6_cough 15 (some .long)) 85 kX6_cough_85 :=
  alls _ (s_lconst (by decide) dX6_cough_85) <|
  alls _ (s_lstore dX6_cough_86) <|
  alls _ (s_lconst (by decide) dX6_cough_88) <|
  alls _ (s_lstore dX6_cough_89) <|
  alls _ (s_iconst dX6_cough_91) <|
  alls _ (s_istore dX6_cough_92) <|
  alls _ s_fall (alls_nil _)
set_option maxRecDepth 100000 in
theorem sX6_cough_71 (l : Launch) : AllS (pSnd l rmX6_cough yX6_cough.cls cX6_cough wsX6_cough 15 (some .long)) 71 kX6_cough_71 :=
  alls _ (s_istore dX6_cough_71) <|
  alls _ (s_iload dX6_cough_73) <|
  alls _ (s_if_eq (by decide) dX6_cough_75) <|
  alls _ (s_aload_n rfl dX6_cough_78) <|
  alls _ (s_iload dX6_cough_79) <|
  alls _ (s_callv (ct_X6_lowestOf l) rfl rfl rfl (gdV wd_1144 wd_1146 wd_54 wd_65 wd_1147) rfl rfl (by decide +kernel) ⟨Nat.le_of_ble_eq_true rfl, Nat.le_of_ble_eq_true rfl⟩ dX6_cough_81) <|
  alls _ (s_lret dX6_cough_84) <|
  alls_nil _
set_option maxRecDepth 100000 in
theorem sX6_cough_70 (l : Launch) : AllS (pSnd l rmX6_cough yX6_cough.cls cX6_cough wsX6_cough 15 (some .long)) 70 kX6_cough_70 :=
  alls _ (s_iconst dX6_cough_70) <|
  alls _ s_fall (alls_nil _)
set_option maxRecDepth 100000 in
theorem sX6_cough_55 (l : Launch) : AllS (pSnd l rmX6_cough yX6_cough.cls cX6_cough wsX6_cough 15 (some .long)) 55 kX6_cough_55 :=
  alls _ (s_iload dX6_cough_55) <|
  alls _ (s_iconst dX6_cough_57) <|
  alls _ (s_iconst dX6_cough_58) <|
  alls _ (s_calls (ct_X6_isIn l) rfl rfl (gdS wd_868) (List.mem_cons_of_mem _ wd_866) (List.mem_cons_of_mem _ wd_867) (List.mem_cons_of_mem _ wd_65) rfl rfl (by decide +kernel) ⟨Nat.le_of_ble_eq_true rfl, Nat.le_of_ble_eq_true rfl⟩ dX6_cough_59) <|
  alls _ (s_if_ne (by decide) dX6_cough_62) <|
  alls _ (s_bipush (by decide) dX6_cough_65) <|
  alls _ (s_goto (by decide) dX6_cough_67) <|
  alls_nil _
set_option maxRecDepth 100000 in
theorem sX6_cough_50 (l : Launch) : AllS (pSnd l rmX6_cough yX6_cough.cls cX6_cough wsX6_cough 15 (some .long)) 50 kX6_cough_50 :=
  alls _ (s_bipush (by decide) dX6_cough_50) <|
  alls _ (s_goto (by decide) dX6_cough_52) <|
  alls_nil _
set_option maxRecDepth 100000 in
theorem sX6_cough_31 (l : Launch) : AllS (pSnd l rmX6_cough yX6_cough.cls cX6_cough wsX6_cough 15 (some .long)) 31 kX6_cough_31 :=
  alls _ (s_iload_n rfl dX6_cough_31) <|
  alls _ (s_bipush (by decide) dX6_cough_32) <|
  alls _ (s_icmp_gt (by decide) dX6_cough_34) <|
  alls _ (s_iload_n rfl dX6_cough_37) <|
  alls _ (s_bipush (by decide) dX6_cough_38) <|
  alls _ (s_icmp_gt (by decide) dX6_cough_40) <|
  alls _ (s_iload dX6_cough_43) <|
  alls _ (s_bipush (by decide) dX6_cough_45) <|
  alls _ (s_icmp_le (by decide) dX6_cough_47) <|
  alls _ s_fall (alls_nil _)
set_option maxRecDepth 100000 in
theorem sX6_cough_26 (l : Launch) : AllS (pSnd l rmX6_cough yX6_cough.cls cX6_cough wsX6_cough 15 (some .long)) 26 kX6_cough_26 :=
  alls _ (s_bipush (by decide) dX6_cough_26) <|
  alls _ (s_goto (by decide) dX6_cough_28) <|
  alls_nil _
set_option maxRecDepth 100000 in
theorem sX6_cough_12 (l : Launch) : AllS (pSnd l rmX6_cough yX6_cough.cls cX6_cough wsX6_cough 15 (some .long)) 12 kX6_cough_12 :=
  alls _ (s_iload_n rfl dX6_cough_12) <|
  alls _ (s_if_lt (by decide) dX6_cough_13) <|
  alls _ (s_iload dX6_cough_16) <|
  alls _ (s_if_lt (by decide) dX6_cough_18) <|
  alls _ (s_iload_n rfl dX6_cough_21) <|
  alls _ (s_iconst dX6_cough_22) <|
  alls _ (s_icmp_ge (by decide) dX6_cough_23) <|
  alls _ s_fall (alls_nil _)
set_option maxRecDepth 100000 in
theorem sX6_cough_0 (l : Launch) : AllS (pSnd l rmX6_cough yX6_cough.cls cX6_cough wsX6_cough 15 (some .long)) 0 kX6_cough_0 :=
  alls _ (s_aload_n rfl dX6_cough_0) <|
  alls _ (s_iload_n rfl dX6_cough_1) <|
  alls _ (s_callv (ct_X6_isPair l) rfl rfl rfl (gdV wd_907 wd_909 wd_24 wd_65 wd_910) rfl rfl (by decide +kernel) ⟨Nat.le_of_ble_eq_true rfl, Nat.le_of_ble_eq_true rfl⟩ dX6_cough_2) <|
  alls _ (s_if_ne (by decide) dX6_cough_5) <|
  alls _ (s_iconst dX6_cough_8) <|
  alls _ (s_goto (by decide) dX6_cough_9) <|
  alls_nil _
def KX6_cough : List (Nat × pProg) := [(0, kX6_cough_0), (12, kX6_cough_12), (26, kX6_cough_26), (31, kX6_cough_31), (50, kX6_cough_50), (55, kX6_cough_55), (70, kX6_cough_70), (71, kX6_cough_71), (85, kX6_cough_85), (94, kX6_cough_94), (113, kX6_cough_113), (116, kX6_cough_116), (134, kX6_cough_134), (156, kX6_cough_156), (160, kX6_cough_160), (184, kX6_cough_184), (202, kX6_cough_202), (203, kX6_cough_203), (216, kX6_cough_216)]
theorem bX6_cough_0 : blkOf KX6_cough 0 = some kX6_cough_0 := rfl
theorem bX6_cough_12 : blkOf KX6_cough 12 = some kX6_cough_12 := rfl
theorem bX6_cough_26 : blkOf KX6_cough 26 = some kX6_cough_26 := rfl
theorem bX6_cough_31 : blkOf KX6_cough 31 = some kX6_cough_31 := rfl
theorem bX6_cough_50 : blkOf KX6_cough 50 = some kX6_cough_50 := rfl
theorem bX6_cough_55 : blkOf KX6_cough 55 = some kX6_cough_55 := rfl
theorem bX6_cough_70 : blkOf KX6_cough 70 = some kX6_cough_70 := rfl
theorem bX6_cough_71 : blkOf KX6_cough 71 = some kX6_cough_71 := rfl
theorem bX6_cough_85 : blkOf KX6_cough 85 = some kX6_cough_85 := rfl
theorem bX6_cough_94 : blkOf KX6_cough 94 = some kX6_cough_94 := rfl
theorem bX6_cough_113 : blkOf KX6_cough 113 = some kX6_cough_113 := rfl
theorem bX6_cough_116 : blkOf KX6_cough 116 = some kX6_cough_116 := rfl
theorem bX6_cough_134 : blkOf KX6_cough 134 = some kX6_cough_134 := rfl
theorem bX6_cough_156 : blkOf KX6_cough 156 = some kX6_cough_156 := rfl
theorem bX6_cough_160 : blkOf KX6_cough 160 = some kX6_cough_160 := rfl
theorem bX6_cough_184 : blkOf KX6_cough 184 = some kX6_cough_184 := rfl
theorem bX6_cough_202 : blkOf KX6_cough 202 = some kX6_cough_202 := rfl
theorem bX6_cough_203 : blkOf KX6_cough 203 = some kX6_cough_203 := rfl
theorem bX6_cough_216 : blkOf KX6_cough 216 = some kX6_cough_216 := rfl
def tX6_cough : pT := pM KX6_cough 15
theorem ct_X6_cough (l : Launch) : pCtr l yX6_cough wsX6_cough rmX6_cough 6 tX6_cough := ctr_of (by decide +kernel) rfl (List.forall_mem_cons.mpr ⟨sX6_cough_0 l, List.forall_mem_cons.mpr ⟨sX6_cough_12 l, List.forall_mem_cons.mpr ⟨sX6_cough_26 l, List.forall_mem_cons.mpr ⟨sX6_cough_31 l, List.forall_mem_cons.mpr ⟨sX6_cough_50 l, List.forall_mem_cons.mpr ⟨sX6_cough_55 l, List.forall_mem_cons.mpr ⟨sX6_cough_70 l, List.forall_mem_cons.mpr ⟨sX6_cough_71 l, List.forall_mem_cons.mpr ⟨sX6_cough_85 l, List.forall_mem_cons.mpr ⟨sX6_cough_94 l, List.forall_mem_cons.mpr ⟨sX6_cough_113 l, List.forall_mem_cons.mpr ⟨sX6_cough_116 l, List.forall_mem_cons.mpr ⟨sX6_cough_134 l, List.forall_mem_cons.mpr ⟨sX6_cough_156 l, List.forall_mem_cons.mpr ⟨sX6_cough_160 l, List.forall_mem_cons.mpr ⟨sX6_cough_184 l, List.forall_mem_cons.mpr ⟨sX6_cough_202 l, List.forall_mem_cons.mpr ⟨sX6_cough_203 l, List.forall_mem_cons.mpr ⟨sX6_cough_216 l, fun _ h => absurd h List.not_mem_nil⟩⟩⟩⟩⟩⟩⟩⟩⟩⟩⟩⟩⟩⟩⟩⟩⟩⟩⟩)
theorem dX6_mean_0 : decode cX6_mean 0 = .ok (.iload_n 1, 1) := by decide +kernel
theorem dX6_mean_1 : decode cX6_mean 1 = .ok (.iconst 0, 1) := by decide +kernel
theorem dX6_mean_2 : decode cX6_mean 2 = .ok (.iconst 1, 1) := by decide +kernel
theorem dX6_mean_3 : decode cX6_mean 3 = .ok (.invokestatic 82, 3) := by decide +kernel
theorem dX6_mean_6 : decode cX6_mean 6 = .ok (.ifCond .ne 10, 3) := by decide +kernel
theorem dX6_mean_9 : decode cX6_mean 9 = .ok (.aload_n 0, 1) := by decide +kernel
theorem dX6_mean_10 : decode cX6_mean 10 = .ok (.bipush (-2), 2) := by decide +kernel
theorem dX6_mean_12 : decode cX6_mean 12 = .ok (.invokevirtual 262, 3) := by decide +kernel
theorem dX6_mean_15 : decode cX6_mean 15 = .ok (.lreturn, 1) := by decide +kernel
theorem dX6_mean_16 : decode cX6_mean 16 = .ok (.aload_n 0, 1) := by decide +kernel
theorem dX6_mean_17 : decode cX6_mean 17 = .ok (.getfield 58, 3) := by decide +kernel
theorem dX6_mean_20 : decode cX6_mean 20 = .ok (.ifCond .ne 8, 3) := by decide +kernel
theorem dX6_mean_23 : decode cX6_mean 23 = .ok (.iload_n 1, 1) := by decide +kernel
theorem dX6_mean_24 : decode cX6_mean 24 = .ok (.i2l, 1) := by decide +kernel
theorem dX6_mean_25 : decode cX6_mean 25 = .ok (.goto 19, 3) := by decide +kernel
theorem dX6_mean_28 : decode cX6_mean 28 = .ok (.aload_n 0, 1) := by decide +kernel
theorem dX6_mean_29 : decode cX6_mean 29 = .ok (.invokevirtual 213, 3) := by decide +kernel
theorem dX6_mean_32 : decode cX6_mean 32 = .ok (.i2l, 1) := by decide +kernel
theorem dX6_mean_33 : decode cX6_mean 33 = .ok (.iconst 2, 1) := by decide +kernel
theorem dX6_mean_34 : decode cX6_mean 34 = .ok (.aload_n 0, 1) := by decide +kernel
theorem dX6_mean_35 : decode cX6_mean 35 = .ok (.getfield 58, 3) := by decide +kernel
theorem dX6_mean_38 : decode cX6_mean 38 = .ok (.imul, 1) := by decide +kernel
theorem dX6_mean_39 : decode cX6_mean 39 = .ok (.i2l, 1) := by decide +kernel
theorem dX6_mean_40 : decode cX6_mean 40 = .ok (.iload_n 1, 1) := by decide +kernel
theorem dX6_mean_41 : decode cX6_mean 41 = .ok (.invokestatic 266, 3) := by decide +kernel
theorem dX6_mean_44 : decode cX6_mean 44 = .ok (.lreturn, 1) := by decide +kernel
def rmX6_mean : Room := { frames := 2, cells := 0, slots := 0, locals := 53 }
abbrev wsX6_mean : List Cond := .code yX6_mean cX6_mean 2 (some .long) :: gw_tbl
def kX6_mean_44 : pProg := (44, 1, a_lret) :: []
def kX6_mean_28 : pProg := (28, 1, a_aload 0) :: (29, 3, a_callv 1 4 [0, 1, 2, 3, 4, 5, 6, 7, 8, 9, 10, 11, 12, 13, 14, 15, 16] tX6_allBruises) :: (32, 1, a_i2l) :: (33, 1, a_iconst 2) :: (34, 1, a_aload 0) :: (35, 3, a_getf 0 4 7) :: (38, 1, a_imul) :: (39, 1, a_i2l) :: (40, 1, a_iload 1) :: (41, 3, a_calls 3 [] tX6_partOf) :: (44, 0, a_fall 44) :: []
def kX6_mean_16 : pProg := (16, 1, a_aload 0) :: (17, 3, a_getf 0 4 7) :: (20, 3, a_if_ne 28) :: (23, 1, a_iload 1) :: (24, 1, a_i2l) :: (25, 3, a_goto 44) :: []
def kX6_mean_0 : pProg := (0, 1, a_iload 1) :: (1, 1, a_iconst 0) :: (2, 1, a_iconst 1) :: (3, 3, a_calls 3 [] tX6_isIn) :: (6, 3, a_if_ne 16) :: (9, 1, a_aload 0) :: (10, 2, a_iconst (-2)) :: (12, 3, a_callv 2 4 [0, 1, 2, 3, 4, 5, 6, 7, 8, 9, 10, 11, 12, 13, 14, 15, 16] tX6_lowestOf) :: (15, 1, a_lret) :: []
set_option maxRecDepth 100000 in
theorem sX6_mean_44 (l : Launch) : AllS (pSnd l rmX6_mean yX6_mean.cls cX6_mean wsX6_mean 2 (some .long)) 44 kX6_mean_44 :=
  alls _ (s_lret dX6_mean_44) <|
  alls_nil _
set_option maxRecDepth 100000 in
theorem sX6_mean_28 (l : Launch) : AllS (pSnd l rmX6_mean yX6_mean.cls cX6_mean wsX6_mean 2 (some .long)) 28 kX6_mean_28 :=
  alls _ (s_aload_n rfl dX6_mean_28) <|
  alls _ (s_callv (ct_X6_allBruises l) rfl rfl rfl (gdV wd_1032 wd_1034 wd_40 wd_65 wd_1035) rfl rfl (by decide +kernel) ⟨Nat.le_of_ble_eq_true rfl, Nat.le_of_ble_eq_true rfl⟩ dX6_mean_29) <|
  alls _ (s_i2l dX6_mean_32) <|
  alls _ (s_iconst dX6_mean_33) <|
  alls _ (s_aload_n rfl dX6_mean_34) <|
  alls _ (s_getf (C := RX6) (T := TX6) (N := 29) rfl (in_c inX6) (by decide) (List.mem_cons_of_mem _ wd_754) rfl dX6_mean_35) <|
  alls _ (s_imul dX6_mean_38) <|
  alls _ (s_i2l dX6_mean_39) <|
  alls _ (s_iload_n rfl dX6_mean_40) <|
  alls _ (s_calls (ct_X6_partOf l) rfl rfl (gdS wd_1151) (List.mem_cons_of_mem _ wd_1149) (List.mem_cons_of_mem _ wd_1150) (List.mem_cons_of_mem _ wd_65) rfl rfl (by decide +kernel) ⟨Nat.le_of_ble_eq_true rfl, Nat.le_of_ble_eq_true rfl⟩ dX6_mean_41) <|
  alls _ s_fall (alls_nil _)
set_option maxRecDepth 100000 in
theorem sX6_mean_16 (l : Launch) : AllS (pSnd l rmX6_mean yX6_mean.cls cX6_mean wsX6_mean 2 (some .long)) 16 kX6_mean_16 :=
  alls _ (s_aload_n rfl dX6_mean_16) <|
  alls _ (s_getf (C := RX6) (T := TX6) (N := 29) rfl (in_c inX6) (by decide) (List.mem_cons_of_mem _ wd_754) rfl dX6_mean_17) <|
  alls _ (s_if_ne (by decide) dX6_mean_20) <|
  alls _ (s_iload_n rfl dX6_mean_23) <|
  alls _ (s_i2l dX6_mean_24) <|
  alls _ (s_goto (by decide) dX6_mean_25) <|
  alls_nil _
set_option maxRecDepth 100000 in
theorem sX6_mean_0 (l : Launch) : AllS (pSnd l rmX6_mean yX6_mean.cls cX6_mean wsX6_mean 2 (some .long)) 0 kX6_mean_0 :=
  alls _ (s_iload_n rfl dX6_mean_0) <|
  alls _ (s_iconst dX6_mean_1) <|
  alls _ (s_iconst dX6_mean_2) <|
  alls _ (s_calls (ct_X6_isIn l) rfl rfl (gdS wd_868) (List.mem_cons_of_mem _ wd_866) (List.mem_cons_of_mem _ wd_867) (List.mem_cons_of_mem _ wd_65) rfl rfl (by decide +kernel) ⟨Nat.le_of_ble_eq_true rfl, Nat.le_of_ble_eq_true rfl⟩ dX6_mean_3) <|
  alls _ (s_if_ne (by decide) dX6_mean_6) <|
  alls _ (s_aload_n rfl dX6_mean_9) <|
  alls _ (s_bipush (by decide) dX6_mean_10) <|
  alls _ (s_callv (ct_X6_lowestOf l) rfl rfl rfl (gdV wd_1144 wd_1146 wd_54 wd_65 wd_1147) rfl rfl (by decide +kernel) ⟨Nat.le_of_ble_eq_true rfl, Nat.le_of_ble_eq_true rfl⟩ dX6_mean_12) <|
  alls _ (s_lret dX6_mean_15) <|
  alls_nil _
def KX6_mean : List (Nat × pProg) := [(0, kX6_mean_0), (16, kX6_mean_16), (28, kX6_mean_28), (44, kX6_mean_44)]
theorem bX6_mean_0 : blkOf KX6_mean 0 = some kX6_mean_0 := rfl
theorem bX6_mean_16 : blkOf KX6_mean 16 = some kX6_mean_16 := rfl
theorem bX6_mean_28 : blkOf KX6_mean 28 = some kX6_mean_28 := rfl
theorem bX6_mean_44 : blkOf KX6_mean 44 = some kX6_mean_44 := rfl
def tX6_mean : pT := pM KX6_mean 2
theorem ct_X6_mean (l : Launch) : pCtr l yX6_mean wsX6_mean rmX6_mean 2 tX6_mean := ctr_of (by decide +kernel) rfl (List.forall_mem_cons.mpr ⟨sX6_mean_0 l, List.forall_mem_cons.mpr ⟨sX6_mean_16 l, List.forall_mem_cons.mpr ⟨sX6_mean_28 l, List.forall_mem_cons.mpr ⟨sX6_mean_44 l, fun _ h => absurd h List.not_mem_nil⟩⟩⟩⟩)
theorem dX6_isSo_0 : decode cX6_isSo 0 = .ok (.aload_n 0, 1) := by decide +kernel
theorem dX6_isSo_1 : decode cX6_isSo 1 = .ok (.invokevirtual 207, 3) := by decide +kernel
theorem dX6_isSo_4 : decode cX6_isSo 4 = .ok (.iconst 1, 1) := by decide +kernel
theorem dX6_isSo_5 : decode cX6_isSo 5 = .ok (.istore_n 2, 1) := by decide +kernel
theorem dX6_isSo_6 : decode cX6_isSo 6 = .ok (.iconst 0, 1) := by decide +kernel
theorem dX6_isSo_7 : decode cX6_isSo 7 = .ok (.istore_n 3, 1) := by decide +kernel
theorem dX6_isSo_8 : decode cX6_isSo 8 = .ok (.iload_n 3, 1) := by decide +kernel
theorem dX6_isSo_9 : decode cX6_isSo 9 = .ok (.aload_n 0, 1) := by decide +kernel
theorem dX6_isSo_10 : decode cX6_isSo 10 = .ok (.getfield 270, 3) := by decide +kernel
theorem dX6_isSo_13 : decode cX6_isSo 13 = .ok (.if_icmp .ge 38, 3) := by decide +kernel
theorem dX6_isSo_16 : decode cX6_isSo 16 = .ok (.iload_n 2, 1) := by decide +kernel
theorem dX6_isSo_17 : decode cX6_isSo 17 = .ok (.ifCond .eq 34, 3) := by decide +kernel
theorem dX6_isSo_20 : decode cX6_isSo 20 = .ok (.aload_n 0, 1) := by decide +kernel
theorem dX6_isSo_21 : decode cX6_isSo 21 = .ok (.getfield 25, 3) := by decide +kernel
theorem dX6_isSo_24 : decode cX6_isSo 24 = .ok (.iload_n 1, 1) := by decide +kernel
theorem dX6_isSo_25 : decode cX6_isSo 25 = .ok (.iaload, 1) := by decide +kernel
theorem dX6_isSo_26 : decode cX6_isSo 26 = .ok (.aload_n 0, 1) := by decide +kernel
theorem dX6_isSo_27 : decode cX6_isSo 27 = .ok (.getfield 55, 3) := by decide +kernel
theorem dX6_isSo_30 : decode cX6_isSo 30 = .ok (.iload_n 3, 1) := by decide +kernel
theorem dX6_isSo_31 : decode cX6_isSo 31 = .ok (.iaload, 1) := by decide +kernel
theorem dX6_isSo_32 : decode cX6_isSo 32 = .ok (.if_icmp .ne 7, 3) := by decide +kernel
theorem dX6_isSo_35 : decode cX6_isSo 35 = .ok (.iconst 1, 1) := by decide +kernel
theorem dX6_isSo_36 : decode cX6_isSo 36 = .ok (.goto 4, 3) := by decide +kernel
theorem dX6_isSo_39 : decode cX6_isSo 39 = .ok (.iconst 0, 1) := by decide +kernel
theorem dX6_isSo_40 : decode cX6_isSo 40 = .ok (.istore_n 2, 1) := by decide +kernel
theorem dX6_isSo_41 : decode cX6_isSo 41 = .ok (.aload_n 0, 1) := by decide +kernel
theorem dX6_isSo_42 : decode cX6_isSo 42 = .ok (.invokevirtual 197, 3) := by decide +kernel
theorem dX6_isSo_45 : decode cX6_isSo 45 = .ok (.iinc 3 1, 3) := by decide +kernel
theorem dX6_isSo_48 : decode cX6_isSo 48 = .ok (.goto (-40), 3) := by decide +kernel
theorem dX6_isSo_51 : decode cX6_isSo 51 = .ok (.aload_n 0, 1) := by decide +kernel
theorem dX6_isSo_52 : decode cX6_isSo 52 = .ok (.invokevirtual 210, 3) := by decide +kernel
theorem dX6_isSo_55 : decode cX6_isSo 55 = .ok (.iload_n 2, 1) := by decide +kernel
theorem dX6_isSo_56 : decode cX6_isSo 56 = .ok (.ireturn, 1) := by decide +kernel
def rmX6_isSo : Room := { frames := 5, cells := 0, slots := 0, locals := 111 }
abbrev wsX6_isSo : List Cond := .code yX6_isSo cX6_isSo 4 (some .boolean) :: gw_tbl
def kX6_isSo_51 : pProg := (51, 1, a_aload 0) :: (52, 3, a_callv 1 4 [0, 1, 2, 3, 4, 5, 6, 7, 8, 9, 10, 11, 12, 13, 14, 15, 16] tX6_forgets) :: (55, 1, a_iload 2) :: (56, 1, a_zret) :: []
def kX6_isSo_40 : pProg := (40, 1, a_istore 2) :: (41, 1, a_aload 0) :: (42, 3, a_callv 1 4 [0, 1, 2, 3, 4, 5, 6, 7, 8, 9, 10, 11, 12, 13, 14, 15, 16] tX6_goesMinute) :: (45, 3, a_iinc 3 1) :: (48, 3, a_goto 8) :: []
def kX6_isSo_39 : pProg := (39, 1, a_iconst 0) :: (40, 0, a_fall 40) :: []
def kX6_isSo_8 : pProg := (8, 1, a_iload 3) :: (9, 1, a_aload 0) :: (10, 3, a_getf 0 4 27) :: (13, 3, a_icmp_ge 51) :: (16, 1, a_iload 2) :: (17, 3, a_if_eq 51) :: (20, 1, a_aload 0) :: (21, 3, a_getf 0 4 5) :: (24, 1, a_iload 1) :: (25, 1, a_iald 6) :: (26, 1, a_aload 0) :: (27, 3, a_getf 0 4 26) :: (30, 1, a_iload 3) :: (31, 1, a_iald 16) :: (32, 3, a_icmp_ne 39) :: (35, 1, a_iconst 1) :: (36, 3, a_goto 40) :: []
def kX6_isSo_0 : pProg := (0, 1, a_aload 0) :: (1, 3, a_callv 1 4 [0, 1, 2, 3, 4, 5, 6, 7, 8, 9, 10, 11, 12, 13, 14, 15, 16] tX6_thinks) :: (4, 1, a_iconst 1) :: (5, 1, a_istore 2) :: (6, 1, a_iconst 0) :: (7, 1, a_istore 3) :: (8, 0, a_fall 8) :: []
set_option maxRecDepth 100000 in
theorem sX6_isSo_51 (l : Launch) : AllS (pSnd l rmX6_isSo yX6_isSo.cls cX6_isSo wsX6_isSo 4 (some .boolean)) 51 kX6_isSo_51 :=
  alls _ (s_aload_n rfl dX6_isSo_51) <|
  alls _ (s_callv (ct_X6_forgets l) rfl rfl rfl (gdV wd_1020 wd_1022 wd_38 wd_65 wd_1023) rfl rfl (by decide +kernel) ⟨Nat.le_of_ble_eq_true rfl, Nat.le_of_ble_eq_true rfl⟩ dX6_isSo_52) <|
  alls _ (s_iload_n rfl dX6_isSo_55) <|
  alls _ (s_zret dX6_isSo_56) <|
  alls_nil _
set_option maxRecDepth 100000 in
theorem sX6_isSo_40 (l : Launch) : AllS (pSnd l rmX6_isSo yX6_isSo.cls cX6_isSo wsX6_isSo 4 (some .boolean)) 40 kX6_isSo_40 :=
  alls _ (s_istore_n rfl dX6_isSo_40) <|
  alls _ (s_aload_n rfl dX6_isSo_41) <|
  alls _ (s_callv (ct_X6_goesMinute l) rfl rfl rfl (gdV wd_934 wd_936 wd_30 wd_65 wd_937) rfl rfl (by decide +kernel) ⟨Nat.le_of_ble_eq_true rfl, Nat.le_of_ble_eq_true rfl⟩ dX6_isSo_42) <|
  alls _ (s_iinc dX6_isSo_45) <|
  alls _ (s_goto (by decide) dX6_isSo_48) <|
  alls_nil _
set_option maxRecDepth 100000 in
theorem sX6_isSo_39 (l : Launch) : AllS (pSnd l rmX6_isSo yX6_isSo.cls cX6_isSo wsX6_isSo 4 (some .boolean)) 39 kX6_isSo_39 :=
  alls _ (s_iconst dX6_isSo_39) <|
  alls _ s_fall (alls_nil _)
set_option maxRecDepth 100000 in
theorem sX6_isSo_8 (l : Launch) : AllS (pSnd l rmX6_isSo yX6_isSo.cls cX6_isSo wsX6_isSo 4 (some .boolean)) 8 kX6_isSo_8 :=
  alls _ (s_iload_n rfl dX6_isSo_8) <|
  alls _ (s_aload_n rfl dX6_isSo_9) <|
  alls _ (s_getf (C := RX6) (T := TX6) (N := 29) rfl (in_c inX6) (by decide) (List.mem_cons_of_mem _ wd_774) rfl dX6_isSo_10) <|
  alls _ (s_icmp_ge (by decide) dX6_isSo_13) <|
  alls _ (s_iload_n rfl dX6_isSo_16) <|
  alls _ (s_if_eq (by decide) dX6_isSo_17) <|
  alls _ (s_aload_n rfl dX6_isSo_20) <|
  alls _ (s_getf (C := RX6) (T := TX6) (N := 29) rfl (in_c inX6) (by decide) (List.mem_cons_of_mem _ wd_752) rfl dX6_isSo_21) <|
  alls _ (s_iload_n rfl dX6_isSo_24) <|
  alls _ (s_iald dX6_isSo_25) <|
  alls _ (s_aload_n rfl dX6_isSo_26) <|
  alls _ (s_getf (C := RX6) (T := TX6) (N := 29) rfl (in_c inX6) (by decide) (List.mem_cons_of_mem _ wd_773) rfl dX6_isSo_27) <|
  alls _ (s_iload_n rfl dX6_isSo_30) <|
  alls _ (s_iald dX6_isSo_31) <|
  alls _ (s_icmp_ne (by decide) dX6_isSo_32) <|
  alls _ (s_iconst dX6_isSo_35) <|
  alls _ (s_goto (by decide) dX6_isSo_36) <|
  alls_nil _
set_option maxRecDepth 100000 in
theorem sX6_isSo_0 (l : Launch) : AllS (pSnd l rmX6_isSo yX6_isSo.cls cX6_isSo wsX6_isSo 4 (some .boolean)) 0 kX6_isSo_0 :=
  alls _ (s_aload_n rfl dX6_isSo_0) <|
  alls _ (s_callv (ct_X6_thinks l) rfl rfl rfl (gdV wd_1016 wd_1018 wd_37 wd_65 wd_1019) rfl rfl (by decide +kernel) ⟨Nat.le_of_ble_eq_true rfl, Nat.le_of_ble_eq_true rfl⟩ dX6_isSo_1) <|
  alls _ (s_iconst dX6_isSo_4) <|
  alls _ (s_istore_n rfl dX6_isSo_5) <|
  alls _ (s_iconst dX6_isSo_6) <|
  alls _ (s_istore_n rfl dX6_isSo_7) <|
  alls _ s_fall (alls_nil _)
def KX6_isSo : List (Nat × pProg) := [(0, kX6_isSo_0), (8, kX6_isSo_8), (39, kX6_isSo_39), (40, kX6_isSo_40), (51, kX6_isSo_51)]
theorem bX6_isSo_0 : blkOf KX6_isSo 0 = some kX6_isSo_0 := rfl
theorem bX6_isSo_8 : blkOf KX6_isSo 8 = some kX6_isSo_8 := rfl
theorem bX6_isSo_39 : blkOf KX6_isSo 39 = some kX6_isSo_39 := rfl
theorem bX6_isSo_40 : blkOf KX6_isSo 40 = some kX6_isSo_40 := rfl
theorem bX6_isSo_51 : blkOf KX6_isSo 51 = some kX6_isSo_51 := rfl
def tX6_isSo : pT := pM KX6_isSo 4
theorem ct_X6_isSo (l : Launch) : pCtr l yX6_isSo wsX6_isSo rmX6_isSo 2 tX6_isSo := ctr_of (by decide +kernel) rfl (List.forall_mem_cons.mpr ⟨sX6_isSo_0 l, List.forall_mem_cons.mpr ⟨sX6_isSo_8 l, List.forall_mem_cons.mpr ⟨sX6_isSo_39 l, List.forall_mem_cons.mpr ⟨sX6_isSo_40 l, List.forall_mem_cons.mpr ⟨sX6_isSo_51 l, fun _ h => absurd h List.not_mem_nil⟩⟩⟩⟩⟩)
theorem dX6_bitsFor_0 : decode cX6_bitsFor 0 = .ok (.aload_n 1, 1) := by decide +kernel
theorem dX6_bitsFor_1 : decode cX6_bitsFor 1 = .ok (.iload_n 2, 1) := by decide +kernel
theorem dX6_bitsFor_2 : decode cX6_bitsFor 2 = .ok (.iaload, 1) := by decide +kernel
theorem dX6_bitsFor_3 : decode cX6_bitsFor 3 = .ok (.istore 4, 2) := by decide +kernel
theorem dX6_bitsFor_5 : decode cX6_bitsFor 5 = .ok (.iconst 0, 1) := by decide +kernel
theorem dX6_bitsFor_6 : decode cX6_bitsFor 6 = .ok (.istore 5, 2) := by decide +kernel
theorem dX6_bitsFor_8 : decode cX6_bitsFor 8 = .ok (.iconst 0, 1) := by decide +kernel
theorem dX6_bitsFor_9 : decode cX6_bitsFor 9 = .ok (.istore 6, 2) := by decide +kernel
theorem dX6_bitsFor_11 : decode cX6_bitsFor 11 = .ok (.iload 6, 2) := by decide +kernel
theorem dX6_bitsFor_13 : decode cX6_bitsFor 13 = .ok (.iload_n 3, 1) := by decide +kernel
theorem dX6_bitsFor_14 : decode cX6_bitsFor 14 = .ok (.if_icmp .ge 37, 3) := by decide +kernel
theorem dX6_bitsFor_17 : decode cX6_bitsFor 17 = .ok (.aload_n 1, 1) := by decide +kernel
theorem dX6_bitsFor_18 : decode cX6_bitsFor 18 = .ok (.iload_n 2, 1) := by decide +kernel
theorem dX6_bitsFor_19 : decode cX6_bitsFor 19 = .ok (.iload 6, 2) := by decide +kernel
theorem dX6_bitsFor_21 : decode cX6_bitsFor 21 = .ok (.iastore, 1) := by decide +kernel
theorem dX6_bitsFor_22 : decode cX6_bitsFor 22 = .ok (.iload 5, 2) := by decide +kernel
theorem dX6_bitsFor_24 : decode cX6_bitsFor 24 = .ok (.aload_n 0, 1) := by decide +kernel
theorem dX6_bitsFor_25 : decode cX6_bitsFor 25 = .ok (.iload_n 2, 1) := by decide +kernel
theorem dX6_bitsFor_26 : decode cX6_bitsFor 26 = .ok (.iconst 2, 1) := by decide +kernel
theorem dX6_bitsFor_27 : decode cX6_bitsFor 27 = .ok (.idiv, 1) := by decide +kernel
theorem dX6_bitsFor_28 : decode cX6_bitsFor 28 = .ok (.invokevirtual 273, 3) := by decide +kernel
theorem dX6_bitsFor_31 : decode cX6_bitsFor 31 = .ok (.ifCond .eq 10, 3) := by decide +kernel
theorem dX6_bitsFor_34 : decode cX6_bitsFor 34 = .ok (.iconst 1, 1) := by decide +kernel
theorem dX6_bitsFor_35 : decode cX6_bitsFor 35 = .ok (.iload 6, 2) := by decide +kernel
theorem dX6_bitsFor_37 : decode cX6_bitsFor 37 = .ok (.ishl, 1) := by decide +kernel
theorem dX6_bitsFor_38 : decode cX6_bitsFor 38 = .ok (.goto 4, 3) := by decide +kernel
theorem dX6_bitsFor_41 : decode cX6_bitsFor 41 = .ok (.iconst 0, 1) := by decide +kernel
theorem dX6_bitsFor_42 : decode cX6_bitsFor 42 = .ok (.ior, 1) := by decide +kernel
theorem dX6_bitsFor_43 : decode cX6_bitsFor 43 = .ok (.istore 5, 2) := by decide +kernel
theorem dX6_bitsFor_45 : decode cX6_bitsFor 45 = .ok (.iinc 6 1, 3) := by decide +kernel
theorem dX6_bitsFor_48 : decode cX6_bitsFor 48 = .ok (.goto (-37), 3) := by decide +kernel
theorem dX6_bitsFor_51 : decode cX6_bitsFor 51 = .ok (.aload_n 1, 1) := by decide +kernel
theorem dX6_bitsFor_52 : decode cX6_bitsFor 52 = .ok (.iload_n 2, 1) := by decide +kernel
theorem dX6_bitsFor_53 : decode cX6_bitsFor 53 = .ok (.iload 4, 2) := by decide +kernel
theorem dX6_bitsFor_55 : decode cX6_bitsFor 55 = .ok (.iastore, 1) := by decide +kernel
theorem dX6_bitsFor_56 : decode cX6_bitsFor 56 = .ok (.iload 5, 2) := by decide +kernel
theorem dX6_bitsFor_58 : decode cX6_bitsFor 58 = .ok (.ireturn, 1) := by decide +kernel
def rmX6_bitsFor : Room := { frames := 6, cells := 0, slots := 0, locals := 134 }
abbrev wsX6_bitsFor : List Cond := .code yX6_bitsFor cX6_bitsFor 7 (some .int) :: gw_tbl
def kX6_bitsFor_51 : pProg := (51, 1, a_aload 1) :: (52, 1, a_iload 2) :: (53, 2, a_iload 4) :: (55, 1, a_iast 3) :: (56, 2, a_iload 5) :: (58, 1, a_iret) :: []
def kX6_bitsFor_42 : pProg := (42, 1, a_ior) :: (43, 2, a_istore 5) :: (45, 3, a_iinc 6 1) :: (48, 3, a_goto 11) :: []
def kX6_bitsFor_41 : pProg := (41, 1, a_iconst 0) :: (42, 0, a_fall 42) :: []
def kX6_bitsFor_11 : pProg := (11, 2, a_iload 6) :: (13, 1, a_iload 3) :: (14, 3, a_icmp_ge 51) :: (17, 1, a_aload 1) :: (18, 1, a_iload 2) :: (19, 2, a_iload 6) :: (21, 1, a_iast 3) :: (22, 2, a_iload 5) :: (24, 1, a_aload 0) :: (25, 1, a_iload 2) :: (26, 1, a_iconst 2) :: (27, 1, a_idiv) :: (28, 3, a_callv 2 4 [0, 1, 2, 3, 4, 5, 6, 7, 8, 9, 10, 11, 12, 13, 14, 15, 16] tX6_isSo) :: (31, 3, a_if_eq 41) :: (34, 1, a_iconst 1) :: (35, 2, a_iload 6) :: (37, 1, a_ishl) :: (38, 3, a_goto 42) :: []
def kX6_bitsFor_0 : pProg := (0, 1, a_aload 1) :: (1, 1, a_iload 2) :: (2, 1, a_iald 3) :: (3, 2, a_istore 4) :: (5, 1, a_iconst 0) :: (6, 2, a_istore 5) :: (8, 1, a_iconst 0) :: (9, 2, a_istore 6) :: (11, 0, a_fall 11) :: []
set_option maxRecDepth 100000 in
theorem sX6_bitsFor_51 (l : Launch) : AllS (pSnd l rmX6_bitsFor yX6_bitsFor.cls cX6_bitsFor wsX6_bitsFor 7 (some .int)) 51 kX6_bitsFor_51 :=
  alls _ (s_aload_n rfl dX6_bitsFor_51) <|
  alls _ (s_iload_n rfl dX6_bitsFor_52) <|
  alls _ (s_iload dX6_bitsFor_53) <|
  alls _ (s_iast dX6_bitsFor_55) <|
  alls _ (s_iload dX6_bitsFor_56) <|
  alls _ (s_iret dX6_bitsFor_58) <|
  alls_nil _
set_option maxRecDepth 100000 in
theorem sX6_bitsFor_42 (l : Launch) : AllS (pSnd l rmX6_bitsFor yX6_bitsFor.cls cX6_bitsFor wsX6_bitsFor 7 (some .int)) 42 kX6_bitsFor_42 :=
  alls _ (s_ior dX6_bitsFor_42) <|
  alls _ (s_istore dX6_bitsFor_43) <|
  alls _ (s_iinc dX6_bitsFor_45) <|
  alls _ (s_goto (by decide) dX6_bitsFor_48) <|
  alls_nil _
set_option maxRecDepth 100000 in
theorem sX6_bitsFor_41 (l : Launch) : AllS (pSnd l rmX6_bitsFor yX6_bitsFor.cls cX6_bitsFor wsX6_bitsFor 7 (some .int)) 41 kX6_bitsFor_41 :=
  alls _ (s_iconst dX6_bitsFor_41) <|
  alls _ s_fall (alls_nil _)
set_option maxRecDepth 100000 in
theorem sX6_bitsFor_11 (l : Launch) : AllS (pSnd l rmX6_bitsFor yX6_bitsFor.cls cX6_bitsFor wsX6_bitsFor 7 (some .int)) 11 kX6_bitsFor_11 :=
  alls _ (s_iload dX6_bitsFor_11) <|
  alls _ (s_iload_n rfl dX6_bitsFor_13) <|
  alls _ (s_icmp_ge (by decide) dX6_bitsFor_14) <|
  alls _ (s_aload_n rfl dX6_bitsFor_17) <|
  alls _ (s_iload_n rfl dX6_bitsFor_18) <|
  alls _ (s_iload dX6_bitsFor_19) <|
  alls _ (s_iast dX6_bitsFor_21) <|
  alls _ (s_iload dX6_bitsFor_22) <|
  alls _ (s_aload_n rfl dX6_bitsFor_24) <|
  alls _ (s_iload_n rfl dX6_bitsFor_25) <|
  alls _ (s_iconst dX6_bitsFor_26) <|
  alls _ (s_idiv dX6_bitsFor_27) <|
  alls _ (s_callv (ct_X6_isSo l) rfl rfl rfl (gdV wd_1167 wd_1169 wd_56 wd_65 wd_1170) rfl rfl (by decide +kernel) ⟨Nat.le_of_ble_eq_true rfl, Nat.le_of_ble_eq_true rfl⟩ dX6_bitsFor_28) <|
  alls _ (s_if_eq (by decide) dX6_bitsFor_31) <|
  alls _ (s_iconst dX6_bitsFor_34) <|
  alls _ (s_iload dX6_bitsFor_35) <|
  alls _ (s_ishl dX6_bitsFor_37) <|
  alls _ (s_goto (by decide) dX6_bitsFor_38) <|
  alls_nil _
set_option maxRecDepth 100000 in
theorem sX6_bitsFor_0 (l : Launch) : AllS (pSnd l rmX6_bitsFor yX6_bitsFor.cls cX6_bitsFor wsX6_bitsFor 7 (some .int)) 0 kX6_bitsFor_0 :=
  alls _ (s_aload_n rfl dX6_bitsFor_0) <|
  alls _ (s_iload_n rfl dX6_bitsFor_1) <|
  alls _ (s_iald dX6_bitsFor_2) <|
  alls _ (s_istore dX6_bitsFor_3) <|
  alls _ (s_iconst dX6_bitsFor_5) <|
  alls _ (s_istore dX6_bitsFor_6) <|
  alls _ (s_iconst dX6_bitsFor_8) <|
  alls _ (s_istore dX6_bitsFor_9) <|
  alls _ s_fall (alls_nil _)
def KX6_bitsFor : List (Nat × pProg) := [(0, kX6_bitsFor_0), (11, kX6_bitsFor_11), (41, kX6_bitsFor_41), (42, kX6_bitsFor_42), (51, kX6_bitsFor_51)]
theorem bX6_bitsFor_0 : blkOf KX6_bitsFor 0 = some kX6_bitsFor_0 := rfl
theorem bX6_bitsFor_11 : blkOf KX6_bitsFor 11 = some kX6_bitsFor_11 := rfl
theorem bX6_bitsFor_41 : blkOf KX6_bitsFor 41 = some kX6_bitsFor_41 := rfl
theorem bX6_bitsFor_42 : blkOf KX6_bitsFor 42 = some kX6_bitsFor_42 := rfl
theorem bX6_bitsFor_51 : blkOf KX6_bitsFor 51 = some kX6_bitsFor_51 := rfl
def tX6_bitsFor : pT := pM KX6_bitsFor 7
theorem ct_X6_bitsFor (l : Launch) : pCtr l yX6_bitsFor wsX6_bitsFor rmX6_bitsFor 4 tX6_bitsFor := ctr_of (by decide +kernel) rfl (List.forall_mem_cons.mpr ⟨sX6_bitsFor_0 l, List.forall_mem_cons.mpr ⟨sX6_bitsFor_11 l, List.forall_mem_cons.mpr ⟨sX6_bitsFor_41 l, List.forall_mem_cons.mpr ⟨sX6_bitsFor_42 l, List.forall_mem_cons.mpr ⟨sX6_bitsFor_51 l, fun _ h => absurd h List.not_mem_nil⟩⟩⟩⟩⟩)
def rmX6_bitsFor_p0_4 : Room := { frames := 6, cells := 0, slots := 0, locals := 134 }
abbrev wsX6_bitsFor_p0_4 : List Cond := .code yX6_bitsFor cX6_bitsFor 7 (some .int) :: gw_tbl
def kX6_bitsFor_p0_4_51 : pProg := (51, 1, a_aload 1) :: (52, 1, a_iload 2) :: (53, 2, a_iload 4) :: (55, 1, a_iast 4) :: (56, 2, a_iload 5) :: (58, 1, a_iret) :: []
def kX6_bitsFor_p0_4_42 : pProg := (42, 1, a_ior) :: (43, 2, a_istore 5) :: (45, 3, a_iinc 6 1) :: (48, 3, a_goto 11) :: []
def kX6_bitsFor_p0_4_41 : pProg := (41, 1, a_iconst 0) :: (42, 0, a_fall 42) :: []
def kX6_bitsFor_p0_4_11 : pProg := (11, 2, a_iload 6) :: (13, 1, a_iload 3) :: (14, 3, a_icmp_ge 51) :: (17, 1, a_aload 1) :: (18, 1, a_iload 2) :: (19, 2, a_iload 6) :: (21, 1, a_iast 4) :: (22, 2, a_iload 5) :: (24, 1, a_aload 0) :: (25, 1, a_iload 2) :: (26, 1, a_iconst 2) :: (27, 1, a_idiv) :: (28, 3, a_callv 2 4 [0, 1, 2, 3, 4, 5, 6, 7, 8, 9, 10, 11, 12, 13, 14, 15, 16] tX6_isSo) :: (31, 3, a_if_eq 41) :: (34, 1, a_iconst 1) :: (35, 2, a_iload 6) :: (37, 1, a_ishl) :: (38, 3, a_goto 42) :: []
def kX6_bitsFor_p0_4_0 : pProg := (0, 1, a_aload 1) :: (1, 1, a_iload 2) :: (2, 1, a_iald 4) :: (3, 2, a_istore 4) :: (5, 1, a_iconst 0) :: (6, 2, a_istore 5) :: (8, 1, a_iconst 0) :: (9, 2, a_istore 6) :: (11, 0, a_fall 11) :: []
set_option maxRecDepth 100000 in
theorem sX6_bitsFor_p0_4_51 (l : Launch) : AllS (pSnd l rmX6_bitsFor_p0_4 yX6_bitsFor.cls cX6_bitsFor wsX6_bitsFor_p0_4 7 (some .int)) 51 kX6_bitsFor_p0_4_51 :=
  alls _ (s_aload_n rfl dX6_bitsFor_51) <|
  alls _ (s_iload_n rfl dX6_bitsFor_52) <|
  alls _ (s_iload dX6_bitsFor_53) <|
  alls _ (s_iast dX6_bitsFor_55) <|
  alls _ (s_iload dX6_bitsFor_56) <|
  alls _ (s_iret dX6_bitsFor_58) <|
  alls_nil _
set_option maxRecDepth 100000 in
theorem sX6_bitsFor_p0_4_42 (l : Launch) : AllS (pSnd l rmX6_bitsFor_p0_4 yX6_bitsFor.cls cX6_bitsFor wsX6_bitsFor_p0_4 7 (some .int)) 42 kX6_bitsFor_p0_4_42 :=
  alls _ (s_ior dX6_bitsFor_42) <|
  alls _ (s_istore dX6_bitsFor_43) <|
  alls _ (s_iinc dX6_bitsFor_45) <|
  alls _ (s_goto (by decide) dX6_bitsFor_48) <|
  alls_nil _
set_option maxRecDepth 100000 in
theorem sX6_bitsFor_p0_4_41 (l : Launch) : AllS (pSnd l rmX6_bitsFor_p0_4 yX6_bitsFor.cls cX6_bitsFor wsX6_bitsFor_p0_4 7 (some .int)) 41 kX6_bitsFor_p0_4_41 :=
  alls _ (s_iconst dX6_bitsFor_41) <|
  alls _ s_fall (alls_nil _)
set_option maxRecDepth 100000 in
theorem sX6_bitsFor_p0_4_11 (l : Launch) : AllS (pSnd l rmX6_bitsFor_p0_4 yX6_bitsFor.cls cX6_bitsFor wsX6_bitsFor_p0_4 7 (some .int)) 11 kX6_bitsFor_p0_4_11 :=
  alls _ (s_iload dX6_bitsFor_11) <|
  alls _ (s_iload_n rfl dX6_bitsFor_13) <|
  alls _ (s_icmp_ge (by decide) dX6_bitsFor_14) <|
  alls _ (s_aload_n rfl dX6_bitsFor_17) <|
  alls _ (s_iload_n rfl dX6_bitsFor_18) <|
  alls _ (s_iload dX6_bitsFor_19) <|
  alls _ (s_iast dX6_bitsFor_21) <|
  alls _ (s_iload dX6_bitsFor_22) <|
  alls _ (s_aload_n rfl dX6_bitsFor_24) <|
  alls _ (s_iload_n rfl dX6_bitsFor_25) <|
  alls _ (s_iconst dX6_bitsFor_26) <|
  alls _ (s_idiv dX6_bitsFor_27) <|
  alls _ (s_callv (ct_X6_isSo l) rfl rfl rfl (gdV wd_1167 wd_1169 wd_56 wd_65 wd_1170) rfl rfl (by decide +kernel) ⟨Nat.le_of_ble_eq_true rfl, Nat.le_of_ble_eq_true rfl⟩ dX6_bitsFor_28) <|
  alls _ (s_if_eq (by decide) dX6_bitsFor_31) <|
  alls _ (s_iconst dX6_bitsFor_34) <|
  alls _ (s_iload dX6_bitsFor_35) <|
  alls _ (s_ishl dX6_bitsFor_37) <|
  alls _ (s_goto (by decide) dX6_bitsFor_38) <|
  alls_nil _
set_option maxRecDepth 100000 in
theorem sX6_bitsFor_p0_4_0 (l : Launch) : AllS (pSnd l rmX6_bitsFor_p0_4 yX6_bitsFor.cls cX6_bitsFor wsX6_bitsFor_p0_4 7 (some .int)) 0 kX6_bitsFor_p0_4_0 :=
  alls _ (s_aload_n rfl dX6_bitsFor_0) <|
  alls _ (s_iload_n rfl dX6_bitsFor_1) <|
  alls _ (s_iald dX6_bitsFor_2) <|
  alls _ (s_istore dX6_bitsFor_3) <|
  alls _ (s_iconst dX6_bitsFor_5) <|
  alls _ (s_istore dX6_bitsFor_6) <|
  alls _ (s_iconst dX6_bitsFor_8) <|
  alls _ (s_istore dX6_bitsFor_9) <|
  alls _ s_fall (alls_nil _)
def KX6_bitsFor_p0_4 : List (Nat × pProg) := [(0, kX6_bitsFor_p0_4_0), (11, kX6_bitsFor_p0_4_11), (41, kX6_bitsFor_p0_4_41), (42, kX6_bitsFor_p0_4_42), (51, kX6_bitsFor_p0_4_51)]
theorem bX6_bitsFor_p0_4_0 : blkOf KX6_bitsFor_p0_4 0 = some kX6_bitsFor_p0_4_0 := rfl
theorem bX6_bitsFor_p0_4_11 : blkOf KX6_bitsFor_p0_4 11 = some kX6_bitsFor_p0_4_11 := rfl
theorem bX6_bitsFor_p0_4_41 : blkOf KX6_bitsFor_p0_4 41 = some kX6_bitsFor_p0_4_41 := rfl
theorem bX6_bitsFor_p0_4_42 : blkOf KX6_bitsFor_p0_4 42 = some kX6_bitsFor_p0_4_42 := rfl
theorem bX6_bitsFor_p0_4_51 : blkOf KX6_bitsFor_p0_4 51 = some kX6_bitsFor_p0_4_51 := rfl
def tX6_bitsFor_p0_4 : pT := pM KX6_bitsFor_p0_4 7
theorem ct_X6_bitsFor_p0_4 (l : Launch) : pCtr l yX6_bitsFor wsX6_bitsFor_p0_4 rmX6_bitsFor_p0_4 4 tX6_bitsFor_p0_4 := ctr_of (by decide +kernel) rfl (List.forall_mem_cons.mpr ⟨sX6_bitsFor_p0_4_0 l, List.forall_mem_cons.mpr ⟨sX6_bitsFor_p0_4_11 l, List.forall_mem_cons.mpr ⟨sX6_bitsFor_p0_4_41 l, List.forall_mem_cons.mpr ⟨sX6_bitsFor_p0_4_42 l, List.forall_mem_cons.mpr ⟨sX6_bitsFor_p0_4_51 l, fun _ h => absurd h List.not_mem_nil⟩⟩⟩⟩⟩)
theorem dX6_whatIs_0 : decode cX6_whatIs 0 = .ok (.aload_n 0, 1) := by decide +kernel
theorem dX6_whatIs_1 : decode cX6_whatIs 1 = .ok (.iload_n 1, 1) := by decide +kernel
theorem dX6_whatIs_2 : decode cX6_whatIs 2 = .ok (.invokevirtual 128, 3) := by decide +kernel
theorem dX6_whatIs_5 : decode cX6_whatIs 5 = .ok (.ifCond .ne 7, 3) := by decide +kernel
theorem dX6_whatIs_8 : decode cX6_whatIs 8 = .ok (.iconst (-1), 1) := by decide +kernel
theorem dX6_whatIs_9 : decode cX6_whatIs 9 = .ok (.goto 18, 3) := by decide +kernel
theorem dX6_whatIs_12 : decode cX6_whatIs 12 = .ok (.iload_n 2, 1) := by decide +kernel
theorem dX6_whatIs_13 : decode cX6_whatIs 13 = .ok (.iconst 0, 1) := by decide +kernel
theorem dX6_whatIs_14 : decode cX6_whatIs 14 = .ok (.iconst 1, 1) := by decide +kernel
theorem dX6_whatIs_15 : decode cX6_whatIs 15 = .ok (.invokestatic 82, 3) := by decide +kernel
theorem dX6_whatIs_18 : decode cX6_whatIs 18 = .ok (.ifCond .ne 8, 3) := by decide +kernel
theorem dX6_whatIs_21 : decode cX6_whatIs 21 = .ok (.bipush (-2), 2) := by decide +kernel
theorem dX6_whatIs_23 : decode cX6_whatIs 23 = .ok (.goto 4, 3) := by decide +kernel
theorem dX6_whatIs_26 : decode cX6_whatIs 26 = .ok (.iconst 0, 1) := by decide +kernel
theorem dX6_whatIs_27 : decode cX6_whatIs 27 = .ok (.istore_n 3, 1) := by decide +kernel
theorem dX6_whatIs_28 : decode cX6_whatIs 28 = .ok (.iload_n 3, 1) := by decide +kernel
theorem dX6_whatIs_29 : decode cX6_whatIs 29 = .ok (.ifCond .eq 9, 3) := by decide +kernel
theorem dX6_whatIs_32 : decode cX6_whatIs 32 = .ok (.aload_n 0, 1) := by decide +kernel
theorem dX6_whatIs_33 : decode cX6_whatIs 33 = .ok (.iload_n 3, 1) := by decide +kernel
theorem dX6_whatIs_34 : decode cX6_whatIs 34 = .ok (.invokevirtual 71, 3) := by decide +kernel
theorem dX6_whatIs_37 : decode cX6_whatIs 37 = .ok (.ireturn, 1) := by decide +kernel
theorem dX6_whatIs_38 : decode cX6_whatIs 38 = .ok (.iload_n 2, 1) := by decide +kernel
theorem dX6_whatIs_39 : decode cX6_whatIs 39 = .ok (.ifCond .ne 17, 3) := by decide +kernel
theorem dX6_whatIs_42 : decode cX6_whatIs 42 = .ok (.aload_n 0, 1) := by decide +kernel
theorem dX6_whatIs_43 : decode cX6_whatIs 43 = .ok (.aload_n 0, 1) := by decide +kernel
theorem dX6_whatIs_44 : decode cX6_whatIs 44 = .ok (.getfield 16, 3) := by decide +kernel
theorem dX6_whatIs_47 : decode cX6_whatIs 47 = .ok (.iload_n 1, 1) := by decide +kernel
theorem dX6_whatIs_48 : decode cX6_whatIs 48 = .ok (.bipush 6, 2) := by decide +kernel
theorem dX6_whatIs_50 : decode cX6_whatIs 50 = .ok (.invokevirtual 276, 3) := by decide +kernel
theorem dX6_whatIs_53 : decode cX6_whatIs 53 = .ok (.goto 14, 3) := by decide +kernel
theorem dX6_whatIs_56 : decode cX6_whatIs 56 = .ok (.aload_n 0, 1) := by decide +kernel
theorem dX6_whatIs_57 : decode cX6_whatIs 57 = .ok (.aload_n 0, 1) := by decide +kernel
theorem dX6_whatIs_58 : decode cX6_whatIs 58 = .ok (.getfield 19, 3) := by decide +kernel
theorem dX6_whatIs_61 : decode cX6_whatIs 61 = .ok (.iload_n 1, 1) := by decide +kernel
theorem dX6_whatIs_62 : decode cX6_whatIs 62 = .ok (.bipush 10, 2) := by decide +kernel
theorem dX6_whatIs_64 : decode cX6_whatIs 64 = .ok (.invokevirtual 276, 3) := by decide +kernel
theorem dX6_whatIs_67 : decode cX6_whatIs 67 = .ok (.ireturn, 1) := by decide +kernel
def rmX6_whatIs : Room := { frames := 7, cells := 0, slots := 0, locals := 160 }
abbrev wsX6_whatIs : List Cond := .code yX6_whatIs cX6_whatIs 4 (some .int) :: gw_tbl
def kX6_whatIs_67 : pProg := (67, 1, a_iret) :: []
def kX6_whatIs_56 : pProg := (56, 1, a_aload 0) :: (57, 1, a_aload 0) :: (58, 3, a_getf 0 4 3) :: (61, 1, a_iload 1) :: (62, 2, a_iconst 10) :: (64, 3, a_callv 4 4 [0, 1, 2, 3, 4, 5, 6, 7, 8, 9, 10, 11, 12, 13, 14, 15, 16] tX6_bitsFor_p0_4) :: (67, 0, a_fall 67) :: []
def kX6_whatIs_38 : pProg := (38, 1, a_iload 2) :: (39, 3, a_if_ne 56) :: (42, 1, a_aload 0) :: (43, 1, a_aload 0) :: (44, 3, a_getf 0 4 2) :: (47, 1, a_iload 1) :: (48, 2, a_iconst 6) :: (50, 3, a_callv 4 4 [0, 1, 2, 3, 4, 5, 6, 7, 8, 9, 10, 11, 12, 13, 14, 15, 16] tX6_bitsFor) :: (53, 3, a_goto 67) :: []
def kX6_whatIs_27 : pProg := (27, 1, a_istore 3) :: (28, 1, a_iload 3) :: (29, 3, a_if_eq 38) :: (32, 1, a_aload 0) :: (33, 1, a_iload 3) :: (34, 3, a_callv 2 4 [0, 1, 2, 3, 4, 5, 6, 7, 8, 9, 10, 11, 12, 13, 14, 15, 16] tX6_no) :: (37, 1, a_iret) :: []
def kX6_whatIs_26 : pProg := (26, 1, a_iconst 0) :: (27, 0, a_fall 27) :: []
def kX6_whatIs_12 : pProg := (12, 1, a_iload 2) :: (13, 1, a_iconst 0) :: (14, 1, a_iconst 1) :: (15, 3, a_calls 3 [] tX6_isIn) :: (18, 3, a_if_ne 26) :: (21, 2, a_iconst (-2)) :: (23, 3, a_goto 27) :: []
def kX6_whatIs_0 : pProg := (0, 1, a_aload 0) :: (1, 1, a_iload 1) :: (2, 3, a_callv 2 4 [0, 1, 2, 3, 4, 5, 6, 7, 8, 9, 10, 11, 12, 13, 14, 15, 16] tX6_isMiner) :: (5, 3, a_if_ne 12) :: (8, 1, a_iconst (-1)) :: (9, 3, a_goto 27) :: []
set_option maxRecDepth 100000 in
theorem sX6_whatIs_67 (l : Launch) : AllS (pSnd l rmX6_whatIs yX6_whatIs.cls cX6_whatIs wsX6_whatIs 4 (some .int)) 67 kX6_whatIs_67 :=
  alls _ (s_iret dX6_whatIs_67) <|
  alls_nil _
set_option maxRecDepth 100000 in
theorem sX6_whatIs_56 (l : Launch) : AllS (pSnd l rmX6_whatIs yX6_whatIs.cls cX6_whatIs wsX6_whatIs 4 (some .int)) 56 kX6_whatIs_56 :=
  alls _ (s_aload_n rfl dX6_whatIs_56) <|
  alls _ (s_aload_n rfl dX6_whatIs_57) <|
  alls _ (s_getf (C := RX6) (T := TX6) (N := 29) rfl (in_c inX6) (by decide) (List.mem_cons_of_mem _ wd_750) rfl dX6_whatIs_58) <|
  alls _ (s_iload_n rfl dX6_whatIs_61) <|
  alls _ (s_bipush (by decide) dX6_whatIs_62) <|
  alls _ (s_callv (ct_X6_bitsFor_p0_4 l) rfl rfl rfl (gdV wd_1163 wd_1165 wd_55 wd_65 wd_1166) rfl rfl (by decide +kernel) ⟨Nat.le_of_ble_eq_true rfl, Nat.le_of_ble_eq_true rfl⟩ dX6_whatIs_64) <|
  alls _ s_fall (alls_nil _)
set_option maxRecDepth 100000 in
theorem sX6_whatIs_38 (l : Launch) : AllS (pSnd l rmX6_whatIs yX6_whatIs.cls cX6_whatIs wsX6_whatIs 4 (some .int)) 38 kX6_whatIs_38 :=
  alls _ (s_iload_n rfl dX6_whatIs_38) <|
  alls _ (s_if_ne (by decide) dX6_whatIs_39) <|
  alls _ (s_aload_n rfl dX6_whatIs_42) <|
  alls _ (s_aload_n rfl dX6_whatIs_43) <|
  alls _ (s_getf (C := RX6) (T := TX6) (N := 29) rfl (in_c inX6) (by decide) (List.mem_cons_of_mem _ wd_749) rfl dX6_whatIs_44) <|
  alls _ (s_iload_n rfl dX6_whatIs_47) <|
  alls _ (s_bipush (by decide) dX6_whatIs_48) <|
  alls _ (s_callv (ct_X6_bitsFor l) rfl rfl rfl (gdV wd_1163 wd_1165 wd_55 wd_65 wd_1166) rfl rfl (by decide +kernel) ⟨Nat.le_of_ble_eq_true rfl, Nat.le_of_ble_eq_true rfl⟩ dX6_whatIs_50) <|
  alls _ (s_goto (by decide) dX6_whatIs_53) <|
  alls_nil _
set_option maxRecDepth 100000 in
theorem sX6_whatIs_27 (l : Launch) : AllS (pSnd l rmX6_whatIs yX6_whatIs.cls cX6_whatIs wsX6_whatIs 4 (some .int)) 27 kX6_whatIs_27 :=
  alls _ (s_istore_n rfl dX6_whatIs_27) <|
  alls _ (s_iload_n rfl dX6_whatIs_28) <|
  alls _ (s_if_eq (by decide) dX6_whatIs_29) <|
  alls _ (s_aload_n rfl dX6_whatIs_32) <|
  alls _ (s_iload_n rfl dX6_whatIs_33) <|
  alls _ (s_callv (ct_X6_no l) rfl rfl rfl (gdV wd_842 wd_844 wd_11 wd_65 wd_845) rfl rfl (by decide +kernel) ⟨Nat.le_of_ble_eq_true rfl, Nat.le_of_ble_eq_true rfl⟩ dX6_whatIs_34) <|
  alls _ (s_iret dX6_whatIs_37) <|
  alls_nil _
set_option maxRecDepth 100000 in
theorem sX6_whatIs_26 (l : Launch) : AllS (pSnd l rmX6_whatIs yX6_whatIs.cls cX6_whatIs wsX6_whatIs 4 (some .int)) 26 kX6_whatIs_26 :=
  alls _ (s_iconst dX6_whatIs_26) <|
  alls _ s_fall (alls_nil _)
set_option maxRecDepth 100000 in
theorem sX6_whatIs_12 (l : Launch) : AllS (pSnd l rmX6_whatIs yX6_whatIs.cls cX6_whatIs wsX6_whatIs 4 (some .int)) 12 kX6_whatIs_12 :=
  alls _ (s_iload_n rfl dX6_whatIs_12) <|
  alls _ (s_iconst dX6_whatIs_13) <|
  alls _ (s_iconst dX6_whatIs_14) <|
  alls _ (s_calls (ct_X6_isIn l) rfl rfl (gdS wd_868) (List.mem_cons_of_mem _ wd_866) (List.mem_cons_of_mem _ wd_867) (List.mem_cons_of_mem _ wd_65) rfl rfl (by decide +kernel) ⟨Nat.le_of_ble_eq_true rfl, Nat.le_of_ble_eq_true rfl⟩ dX6_whatIs_15) <|
  alls _ (s_if_ne (by decide) dX6_whatIs_18) <|
  alls _ (s_bipush (by decide) dX6_whatIs_21) <|
  alls _ (s_goto (by decide) dX6_whatIs_23) <|
  alls_nil _
set_option maxRecDepth 100000 in
theorem sX6_whatIs_0 (l : Launch) : AllS (pSnd l rmX6_whatIs yX6_whatIs.cls cX6_whatIs wsX6_whatIs 4 (some .int)) 0 kX6_whatIs_0 :=
  alls _ (s_aload_n rfl dX6_whatIs_0) <|
  alls _ (s_iload_n rfl dX6_whatIs_1) <|
  alls _ (s_callv (ct_X6_isMiner l) rfl rfl rfl (gdV wd_914 wd_916 wd_25 wd_65 wd_917) rfl rfl (by decide +kernel) ⟨Nat.le_of_ble_eq_true rfl, Nat.le_of_ble_eq_true rfl⟩ dX6_whatIs_2) <|
  alls _ (s_if_ne (by decide) dX6_whatIs_5) <|
  alls _ (s_iconst dX6_whatIs_8) <|
  alls _ (s_goto (by decide) dX6_whatIs_9) <|
  alls_nil _
def KX6_whatIs : List (Nat × pProg) := [(0, kX6_whatIs_0), (12, kX6_whatIs_12), (26, kX6_whatIs_26), (27, kX6_whatIs_27), (38, kX6_whatIs_38), (56, kX6_whatIs_56), (67, kX6_whatIs_67)]
theorem bX6_whatIs_0 : blkOf KX6_whatIs 0 = some kX6_whatIs_0 := rfl
theorem bX6_whatIs_12 : blkOf KX6_whatIs 12 = some kX6_whatIs_12 := rfl
theorem bX6_whatIs_26 : blkOf KX6_whatIs 26 = some kX6_whatIs_26 := rfl
theorem bX6_whatIs_27 : blkOf KX6_whatIs 27 = some kX6_whatIs_27 := rfl
theorem bX6_whatIs_38 : blkOf KX6_whatIs 38 = some kX6_whatIs_38 := rfl
theorem bX6_whatIs_56 : blkOf KX6_whatIs 56 = some kX6_whatIs_56 := rfl
theorem bX6_whatIs_67 : blkOf KX6_whatIs 67 = some kX6_whatIs_67 := rfl
def tX6_whatIs : pT := pM KX6_whatIs 4
theorem ct_X6_whatIs (l : Launch) : pCtr l yX6_whatIs wsX6_whatIs rmX6_whatIs 3 tX6_whatIs := ctr_of (by decide +kernel) rfl (List.forall_mem_cons.mpr ⟨sX6_whatIs_0 l, List.forall_mem_cons.mpr ⟨sX6_whatIs_12 l, List.forall_mem_cons.mpr ⟨sX6_whatIs_26 l, List.forall_mem_cons.mpr ⟨sX6_whatIs_27 l, List.forall_mem_cons.mpr ⟨sX6_whatIs_38 l, List.forall_mem_cons.mpr ⟨sX6_whatIs_56 l, List.forall_mem_cons.mpr ⟨sX6_whatIs_67 l, fun _ h => absurd h List.not_mem_nil⟩⟩⟩⟩⟩⟩⟩)
theorem dX6_row_0 : decode cX6_row 0 = .ok (.iload_n 1, 1) := by decide +kernel
theorem dX6_row_1 : decode cX6_row 1 = .ok (.iconst 0, 1) := by decide +kernel
theorem dX6_row_2 : decode cX6_row 2 = .ok (.bipush 99, 2) := by decide +kernel
theorem dX6_row_4 : decode cX6_row 4 = .ok (.invokestatic 64, 3) := by decide +kernel
theorem dX6_row_7 : decode cX6_row 7 = .ok (.istore_n 2, 1) := by decide +kernel
theorem dX6_row_8 : decode cX6_row 8 = .ok (.iload_n 2, 1) := by decide +kernel
theorem dX6_row_9 : decode cX6_row 9 = .ok (.ifCond .ne 15, 3) := by decide +kernel
theorem dX6_row_12 : decode cX6_row 12 = .ok (.aload_n 0, 1) := by decide +kernel
theorem dX6_row_13 : decode cX6_row 13 = .ok (.getfield 270, 3) := by decide +kernel
theorem dX6_row_16 : decode cX6_row 16 = .ok (.bipush 16, 2) := by decide +kernel
theorem dX6_row_18 : decode cX6_row 18 = .ok (.if_icmp .ne 6, 3) := by decide +kernel
theorem dX6_row_21 : decode cX6_row 21 = .ok (.bipush (-6), 2) := by decide +kernel
theorem dX6_row_23 : decode cX6_row 23 = .ok (.istore_n 2, 1) := by decide +kernel
theorem dX6_row_24 : decode cX6_row 24 = .ok (.iload_n 2, 1) := by decide +kernel
theorem dX6_row_25 : decode cX6_row 25 = .ok (.ifCond .eq 9, 3) := by decide +kernel
theorem dX6_row_28 : decode cX6_row 28 = .ok (.aload_n 0, 1) := by decide +kernel
theorem dX6_row_29 : decode cX6_row 29 = .ok (.iload_n 2, 1) := by decide +kernel
theorem dX6_row_30 : decode cX6_row 30 = .ok (.invokevirtual 71, 3) := by decide +kernel
theorem dX6_row_33 : decode cX6_row 33 = .ok (.ireturn, 1) := by decide +kernel
theorem dX6_row_34 : decode cX6_row 34 = .ok (.aload_n 0, 1) := by decide +kernel
theorem dX6_row_35 : decode cX6_row 35 = .ok (.getfield 55, 3) := by decide +kernel
theorem dX6_row_38 : decode cX6_row 38 = .ok (.aload_n 0, 1) := by decide +kernel
theorem dX6_row_39 : decode cX6_row 39 = .ok (.getfield 270, 3) := by decide +kernel
theorem dX6_row_42 : decode cX6_row 42 = .ok (.iload_n 1, 1) := by decide +kernel
theorem dX6_row_43 : decode cX6_row 43 = .ok (.iastore, 1) := by decide +kernel
theorem dX6_row_44 : decode cX6_row 44 = .ok (.aload_n 0, 1) := by decide +kernel
theorem dX6_row_45 : decode cX6_row 45 = .ok (.dup, 1) := by decide +kernel
theorem dX6_row_46 : decode cX6_row 46 = .ok (.getfield 270, 3) := by decide +kernel
theorem dX6_row_49 : decode cX6_row 49 = .ok (.iconst 1, 1) := by decide +kernel
theorem dX6_row_50 : decode cX6_row 50 = .ok (.iadd, 1) := by decide +kernel
theorem dX6_row_51 : decode cX6_row 51 = .ok (.putfield 270, 3) := by decide +kernel
theorem dX6_row_54 : decode cX6_row 54 = .ok (.aload_n 0, 1) := by decide +kernel
theorem dX6_row_55 : decode cX6_row 55 = .ok (.getfield 270, 3) := by decide +kernel
theorem dX6_row_58 : decode cX6_row 58 = .ok (.ireturn, 1) := by decide +kernel
def rmX6_row : Room := { frames := 1, cells := 0, slots := 0, locals := 22 }
abbrev wsX6_row : List Cond := .code yX6_row cX6_row 3 (some .int) :: gw_tbl
def kX6_row_34 : pProg := (34, 1, a_aload 0) :: (35, 3, a_getf 0 4 26) :: (38, 1, a_aload 0) :: (39, 3, a_getf 0 4 27) :: (42, 1, a_iload 1) :: (43, 1, a_iast 16) :: (44, 1, a_aload 0) :: (45, 1, a_dup) :: (46, 3, a_getf 0 4 27) :: (49, 1, a_iconst 1) :: (50, 1, a_iadd) :: (51, 3, a_putf 0 4 27 .int) :: (54, 1, a_aload 0) :: (55, 3, a_getf 0 4 27) :: (58, 1, a_iret) :: []
def kX6_row_24 : pProg := (24, 1, a_iload 2) :: (25, 3, a_if_eq 34) :: (28, 1, a_aload 0) :: (29, 1, a_iload 2) :: (30, 3, a_callv 2 4 [0, 1, 2, 3, 4, 5, 6, 7, 8, 9, 10, 11, 12, 13, 14, 15, 16] tX6_no) :: (33, 1, a_iret) :: []
def kX6_row_0 : pProg := (0, 1, a_iload 1) :: (1, 1, a_iconst 0) :: (2, 2, a_iconst 99) :: (4, 3, a_calls 3 [] tX6_bound) :: (7, 1, a_istore 2) :: (8, 1, a_iload 2) :: (9, 3, a_if_ne 24) :: (12, 1, a_aload 0) :: (13, 3, a_getf 0 4 27) :: (16, 2, a_iconst 16) :: (18, 3, a_icmp_ne 24) :: (21, 2, a_iconst (-6)) :: (23, 1, a_istore 2) :: (24, 0, a_fall 24) :: []
set_option maxRecDepth 100000 in
theorem sX6_row_34 (l : Launch) : AllS (pSnd l rmX6_row yX6_row.cls cX6_row wsX6_row 3 (some .int)) 34 kX6_row_34 :=
  alls _ (s_aload_n rfl dX6_row_34) <|
  alls _ (s_getf (C := RX6) (T := TX6) (N := 29) rfl (in_c inX6) (by decide) (List.mem_cons_of_mem _ wd_773) rfl dX6_row_35) <|
  alls _ (s_aload_n rfl dX6_row_38) <|
  alls _ (s_getf (C := RX6) (T := TX6) (N := 29) rfl (in_c inX6) (by decide) (List.mem_cons_of_mem _ wd_774) rfl dX6_row_39) <|
  alls _ (s_iload_n rfl dX6_row_42) <|
  alls _ (s_iast dX6_row_43) <|
  alls _ (s_aload_n rfl dX6_row_44) <|
  alls _ (s_dup dX6_row_45) <|
  alls _ (s_getf (C := RX6) (T := TX6) (N := 29) rfl (in_c inX6) (by decide) (List.mem_cons_of_mem _ wd_774) rfl dX6_row_46) <|
  alls _ (s_iconst dX6_row_49) <|
  alls _ (s_iadd dX6_row_50) <|
  alls _ (s_putf (C := RX6) (T := TX6) (N := 29) tyX6 rfl (in_c inX6) tyX6_ok nmX6 (by decide) (List.mem_cons_of_mem _ wd_774) rfl rfl (tyX6_ok 27 (by decide)) dX6_row_51) <|
  alls _ (s_aload_n rfl dX6_row_54) <|
  alls _ (s_getf (C := RX6) (T := TX6) (N := 29) rfl (in_c inX6) (by decide) (List.mem_cons_of_mem _ wd_774) rfl dX6_row_55) <|
  alls _ (s_iret dX6_row_58) <|
  alls_nil _
set_option maxRecDepth 100000 in
theorem sX6_row_24 (l : Launch) : AllS (pSnd l rmX6_row yX6_row.cls cX6_row wsX6_row 3 (some .int)) 24 kX6_row_24 :=
  alls _ (s_iload_n rfl dX6_row_24) <|
  alls _ (s_if_eq (by decide) dX6_row_25) <|
  alls _ (s_aload_n rfl dX6_row_28) <|
  alls _ (s_iload_n rfl dX6_row_29) <|
  alls _ (s_callv (ct_X6_no l) rfl rfl rfl (gdV wd_842 wd_844 wd_11 wd_65 wd_845) rfl rfl (by decide +kernel) ⟨Nat.le_of_ble_eq_true rfl, Nat.le_of_ble_eq_true rfl⟩ dX6_row_30) <|
  alls _ (s_iret dX6_row_33) <|
  alls_nil _
set_option maxRecDepth 100000 in
theorem sX6_row_0 (l : Launch) : AllS (pSnd l rmX6_row yX6_row.cls cX6_row wsX6_row 3 (some .int)) 0 kX6_row_0 :=
  alls _ (s_iload_n rfl dX6_row_0) <|
  alls _ (s_iconst dX6_row_1) <|
  alls _ (s_bipush (by decide) dX6_row_2) <|
  alls _ (s_calls (ct_X6_bound l) rfl rfl (gdS wd_841) (List.mem_cons_of_mem _ wd_839) (List.mem_cons_of_mem _ wd_840) (List.mem_cons_of_mem _ wd_65) rfl rfl (by decide +kernel) ⟨Nat.le_of_ble_eq_true rfl, Nat.le_of_ble_eq_true rfl⟩ dX6_row_4) <|
  alls _ (s_istore_n rfl dX6_row_7) <|
  alls _ (s_iload_n rfl dX6_row_8) <|
  alls _ (s_if_ne (by decide) dX6_row_9) <|
  alls _ (s_aload_n rfl dX6_row_12) <|
  alls _ (s_getf (C := RX6) (T := TX6) (N := 29) rfl (in_c inX6) (by decide) (List.mem_cons_of_mem _ wd_774) rfl dX6_row_13) <|
  alls _ (s_bipush (by decide) dX6_row_16) <|
  alls _ (s_icmp_ne (by decide) dX6_row_18) <|
  alls _ (s_bipush (by decide) dX6_row_21) <|
  alls _ (s_istore_n rfl dX6_row_23) <|
  alls _ s_fall (alls_nil _)
def KX6_row : List (Nat × pProg) := [(0, kX6_row_0), (24, kX6_row_24), (34, kX6_row_34)]
theorem bX6_row_0 : blkOf KX6_row 0 = some kX6_row_0 := rfl
theorem bX6_row_24 : blkOf KX6_row 24 = some kX6_row_24 := rfl
theorem bX6_row_34 : blkOf KX6_row 34 = some kX6_row_34 := rfl
def tX6_row : pT := pM KX6_row 3
theorem ct_X6_row (l : Launch) : pCtr l yX6_row wsX6_row rmX6_row 2 tX6_row := ctr_of (by decide +kernel) rfl (List.forall_mem_cons.mpr ⟨sX6_row_0 l, List.forall_mem_cons.mpr ⟨sX6_row_24 l, List.forall_mem_cons.mpr ⟨sX6_row_34 l, fun _ h => absurd h List.not_mem_nil⟩⟩⟩)
theorem dX6_judge_0 : decode cX6_judge 0 = .ok (.aload_n 0, 1) := by decide +kernel
theorem dX6_judge_1 : decode cX6_judge 1 = .ok (.getfield 270, 3) := by decide +kernel
theorem dX6_judge_4 : decode cX6_judge 4 = .ok (.istore_n 1, 1) := by decide +kernel
theorem dX6_judge_5 : decode cX6_judge 5 = .ok (.aload_n 0, 1) := by decide +kernel
theorem dX6_judge_6 : decode cX6_judge 6 = .ok (.iconst 0, 1) := by decide +kernel
theorem dX6_judge_7 : decode cX6_judge 7 = .ok (.putfield 270, 3) := by decide +kernel
theorem dX6_judge_10 : decode cX6_judge 10 = .ok (.iconst 0, 1) := by decide +kernel
theorem dX6_judge_11 : decode cX6_judge 11 = .ok (.istore_n 2, 1) := by decide +kernel
theorem dX6_judge_12 : decode cX6_judge 12 = .ok (.iload_n 2, 1) := by decide +kernel
theorem dX6_judge_13 : decode cX6_judge 13 = .ok (.iload_n 1, 1) := by decide +kernel
theorem dX6_judge_14 : decode cX6_judge 14 = .ok (.if_icmp .ge 26, 3) := by decide +kernel
theorem dX6_judge_17 : decode cX6_judge 17 = .ok (.aload_n 0, 1) := by decide +kernel
theorem dX6_judge_18 : decode cX6_judge 18 = .ok (.getfield 13, 3) := by decide +kernel
theorem dX6_judge_21 : decode cX6_judge 21 = .ok (.iload_n 2, 1) := by decide +kernel
theorem dX6_judge_22 : decode cX6_judge 22 = .ok (.iaload, 1) := by decide +kernel
theorem dX6_judge_23 : decode cX6_judge 23 = .ok (.aload_n 0, 1) := by decide +kernel
theorem dX6_judge_24 : decode cX6_judge 24 = .ok (.getfield 55, 3) := by decide +kernel
theorem dX6_judge_27 : decode cX6_judge 27 = .ok (.iload_n 2, 1) := by decide +kernel
theorem dX6_judge_28 : decode cX6_judge 28 = .ok (.iaload, 1) := by decide +kernel
theorem dX6_judge_29 : decode cX6_judge 29 = .ok (.if_icmp .eq 5, 3) := by decide +kernel
theorem dX6_judge_32 : decode cX6_judge 32 = .ok (.iload_n 2, 1) := by decide +kernel
theorem dX6_judge_33 : decode cX6_judge 33 = .ok (.ireturn, 1) := by decide +kernel
theorem dX6_judge_34 : decode cX6_judge 34 = .ok (.iinc 2 1, 3) := by decide +kernel
theorem dX6_judge_37 : decode cX6_judge 37 = .ok (.goto (-25), 3) := by decide +kernel
theorem dX6_judge_40 : decode cX6_judge 40 = .ok (.bipush (-9), 2) := by decide +kernel
theorem dX6_judge_42 : decode cX6_judge 42 = .ok (.ireturn, 1) := by decide +kernel
def rmX6_judge : Room := { frames := 0, cells := 0, slots := 0, locals := 0 }
abbrev wsX6_judge : List Cond := .code yX6_judge cX6_judge 3 (some .int) :: gw_tbl
def kX6_judge_40 : pProg := (40, 2, a_iconst (-9)) :: (42, 1, a_iret) :: []
def kX6_judge_34 : pProg := (34, 3, a_iinc 2 1) :: (37, 3, a_goto 12) :: []
def kX6_judge_12 : pProg := (12, 1, a_iload 2) :: (13, 1, a_iload 1) :: (14, 3, a_icmp_ge 40) :: (17, 1, a_aload 0) :: (18, 3, a_getf 0 4 1) :: (21, 1, a_iload 2) :: (22, 1, a_iald 2) :: (23, 1, a_aload 0) :: (24, 3, a_getf 0 4 26) :: (27, 1, a_iload 2) :: (28, 1, a_iald 16) :: (29, 3, a_icmp_eq 34) :: (32, 1, a_iload 2) :: (33, 1, a_iret) :: []
def kX6_judge_0 : pProg := (0, 1, a_aload 0) :: (1, 3, a_getf 0 4 27) :: (4, 1, a_istore 1) :: (5, 1, a_aload 0) :: (6, 1, a_iconst 0) :: (7, 3, a_putf 0 4 27 .int) :: (10, 1, a_iconst 0) :: (11, 1, a_istore 2) :: (12, 0, a_fall 12) :: []
set_option maxRecDepth 100000 in
theorem sX6_judge_40 (l : Launch) : AllS (pSnd l rmX6_judge yX6_judge.cls cX6_judge wsX6_judge 3 (some .int)) 40 kX6_judge_40 :=
  alls _ (s_bipush (by decide) dX6_judge_40) <|
  alls _ (s_iret dX6_judge_42) <|
  alls_nil _
set_option maxRecDepth 100000 in
theorem sX6_judge_34 (l : Launch) : AllS (pSnd l rmX6_judge yX6_judge.cls cX6_judge wsX6_judge 3 (some .int)) 34 kX6_judge_34 :=
  alls _ (s_iinc dX6_judge_34) <|
  alls _ (s_goto (by decide) dX6_judge_37) <|
  alls_nil _
set_option maxRecDepth 100000 in
theorem sX6_judge_12 (l : Launch) : AllS (pSnd l rmX6_judge yX6_judge.cls cX6_judge wsX6_judge 3 (some .int)) 12 kX6_judge_12 :=
  alls _ (s_iload_n rfl dX6_judge_12) <|
  alls _ (s_iload_n rfl dX6_judge_13) <|
  alls _ (s_icmp_ge (by decide) dX6_judge_14) <|
  alls _ (s_aload_n rfl dX6_judge_17) <|
  alls _ (s_getf (C := RX6) (T := TX6) (N := 29) rfl (in_c inX6) (by decide) (List.mem_cons_of_mem _ wd_748) rfl dX6_judge_18) <|
  alls _ (s_iload_n rfl dX6_judge_21) <|
  alls _ (s_iald dX6_judge_22) <|
  alls _ (s_aload_n rfl dX6_judge_23) <|
  alls _ (s_getf (C := RX6) (T := TX6) (N := 29) rfl (in_c inX6) (by decide) (List.mem_cons_of_mem _ wd_773) rfl dX6_judge_24) <|
  alls _ (s_iload_n rfl dX6_judge_27) <|
  alls _ (s_iald dX6_judge_28) <|
  alls _ (s_icmp_eq (by decide) dX6_judge_29) <|
  alls _ (s_iload_n rfl dX6_judge_32) <|
  alls _ (s_iret dX6_judge_33) <|
  alls_nil _
set_option maxRecDepth 100000 in
theorem sX6_judge_0 (l : Launch) : AllS (pSnd l rmX6_judge yX6_judge.cls cX6_judge wsX6_judge 3 (some .int)) 0 kX6_judge_0 :=
  alls _ (s_aload_n rfl dX6_judge_0) <|
  alls _ (s_getf (C := RX6) (T := TX6) (N := 29) rfl (in_c inX6) (by decide) (List.mem_cons_of_mem _ wd_774) rfl dX6_judge_1) <|
  alls _ (s_istore_n rfl dX6_judge_4) <|
  alls _ (s_aload_n rfl dX6_judge_5) <|
  alls _ (s_iconst dX6_judge_6) <|
  alls _ (s_putf (C := RX6) (T := TX6) (N := 29) tyX6 rfl (in_c inX6) tyX6_ok nmX6 (by decide) (List.mem_cons_of_mem _ wd_774) rfl rfl (tyX6_ok 27 (by decide)) dX6_judge_7) <|
  alls _ (s_iconst dX6_judge_10) <|
  alls _ (s_istore_n rfl dX6_judge_11) <|
  alls _ s_fall (alls_nil _)
def KX6_judge : List (Nat × pProg) := [(0, kX6_judge_0), (12, kX6_judge_12), (34, kX6_judge_34), (40, kX6_judge_40)]
theorem bX6_judge_0 : blkOf KX6_judge 0 = some kX6_judge_0 := rfl
theorem bX6_judge_12 : blkOf KX6_judge 12 = some kX6_judge_12 := rfl
theorem bX6_judge_34 : blkOf KX6_judge 34 = some kX6_judge_34 := rfl
theorem bX6_judge_40 : blkOf KX6_judge 40 = some kX6_judge_40 := rfl
def tX6_judge : pT := pM KX6_judge 3
theorem ct_X6_judge (l : Launch) : pCtr l yX6_judge wsX6_judge rmX6_judge 1 tX6_judge := ctr_of (by decide +kernel) rfl (List.forall_mem_cons.mpr ⟨sX6_judge_0 l, List.forall_mem_cons.mpr ⟨sX6_judge_12 l, List.forall_mem_cons.mpr ⟨sX6_judge_34 l, List.forall_mem_cons.mpr ⟨sX6_judge_40 l, fun _ h => absurd h List.not_mem_nil⟩⟩⟩⟩)
theorem dX6_clear_0 : decode cX6_clear 0 = .ok (.aload_n 0, 1) := by decide +kernel
theorem dX6_clear_1 : decode cX6_clear 1 = .ok (.getfield 270, 3) := by decide +kernel
theorem dX6_clear_4 : decode cX6_clear 4 = .ok (.istore_n 1, 1) := by decide +kernel
theorem dX6_clear_5 : decode cX6_clear 5 = .ok (.aload_n 0, 1) := by decide +kernel
theorem dX6_clear_6 : decode cX6_clear 6 = .ok (.iconst 0, 1) := by decide +kernel
theorem dX6_clear_7 : decode cX6_clear 7 = .ok (.putfield 270, 3) := by decide +kernel
theorem dX6_clear_10 : decode cX6_clear 10 = .ok (.iload_n 1, 1) := by decide +kernel
theorem dX6_clear_11 : decode cX6_clear 11 = .ok (.ireturn, 1) := by decide +kernel
def rmX6_clear : Room := { frames := 0, cells := 0, slots := 0, locals := 0 }
abbrev wsX6_clear : List Cond := .code yX6_clear cX6_clear 2 (some .int) :: gw_tbl
def kX6_clear_0 : pProg := (0, 1, a_aload 0) :: (1, 3, a_getf 0 4 27) :: (4, 1, a_istore 1) :: (5, 1, a_aload 0) :: (6, 1, a_iconst 0) :: (7, 3, a_putf 0 4 27 .int) :: (10, 1, a_iload 1) :: (11, 1, a_iret) :: []
set_option maxRecDepth 100000 in
theorem sX6_clear_0 (l : Launch) : AllS (pSnd l rmX6_clear yX6_clear.cls cX6_clear wsX6_clear 2 (some .int)) 0 kX6_clear_0 :=
  alls _ (s_aload_n rfl dX6_clear_0) <|
  alls _ (s_getf (C := RX6) (T := TX6) (N := 29) rfl (in_c inX6) (by decide) (List.mem_cons_of_mem _ wd_774) rfl dX6_clear_1) <|
  alls _ (s_istore_n rfl dX6_clear_4) <|
  alls _ (s_aload_n rfl dX6_clear_5) <|
  alls _ (s_iconst dX6_clear_6) <|
  alls _ (s_putf (C := RX6) (T := TX6) (N := 29) tyX6 rfl (in_c inX6) tyX6_ok nmX6 (by decide) (List.mem_cons_of_mem _ wd_774) rfl rfl (tyX6_ok 27 (by decide)) dX6_clear_7) <|
  alls _ (s_iload_n rfl dX6_clear_10) <|
  alls _ (s_iret dX6_clear_11) <|
  alls_nil _
def KX6_clear : List (Nat × pProg) := [(0, kX6_clear_0)]
theorem bX6_clear_0 : blkOf KX6_clear 0 = some kX6_clear_0 := rfl
def tX6_clear : pT := pM KX6_clear 2
theorem ct_X6_clear (l : Launch) : pCtr l yX6_clear wsX6_clear rmX6_clear 1 tX6_clear := ctr_of (by decide +kernel) rfl (List.forall_mem_cons.mpr ⟨sX6_clear_0 l, fun _ h => absurd h List.not_mem_nil⟩)
theorem dX6_draw_0 : decode cX6_draw 0 = .ok (.aload_n 0, 1) := by decide +kernel
theorem dX6_draw_1 : decode cX6_draw 1 = .ok (.aload_n 0, 1) := by decide +kernel
theorem dX6_draw_2 : decode cX6_draw 2 = .ok (.getfield 280, 3) := by decide +kernel
theorem dX6_draw_5 : decode cX6_draw 5 = .ok (.ldc_w 283, 3) := by decide +kernel
theorem dX6_draw_8 : decode cX6_draw 8 = .ok (.imul, 1) := by decide +kernel
theorem dX6_draw_9 : decode cX6_draw 9 = .ok (.ldc_w 284, 3) := by decide +kernel
theorem dX6_draw_12 : decode cX6_draw 12 = .ok (.iadd, 1) := by decide +kernel
theorem dX6_draw_13 : decode cX6_draw 13 = .ok (.putfield 280, 3) := by decide +kernel
theorem dX6_draw_16 : decode cX6_draw 16 = .ok (.aload_n 0, 1) := by decide +kernel
theorem dX6_draw_17 : decode cX6_draw 17 = .ok (.getfield 280, 3) := by decide +kernel
theorem dX6_draw_20 : decode cX6_draw 20 = .ok (.ldc_w 285, 3) := by decide +kernel
theorem dX6_draw_23 : decode cX6_draw 23 = .ok (.iand, 1) := by decide +kernel
theorem dX6_draw_24 : decode cX6_draw 24 = .ok (.sipush 256, 3) := by decide +kernel
theorem dX6_draw_27 : decode cX6_draw 27 = .ok (.idiv, 1) := by decide +kernel
theorem dX6_draw_28 : decode cX6_draw 28 = .ok (.iload_n 1, 1) := by decide +kernel
theorem dX6_draw_29 : decode cX6_draw 29 = .ok (.irem, 1) := by decide +kernel
theorem dX6_draw_30 : decode cX6_draw 30 = .ok (.ireturn, 1) := by decide +kernel
def rmX6_draw : Room := { frames := 0, cells := 0, slots := 0, locals := 0 }
abbrev wsX6_draw : List Cond := .code yX6_draw cX6_draw 2 (some .int) :: gw_tbl
def kX6_draw_0 : pProg := (0, 1, a_aload 0) :: (1, 1, a_aload 0) :: (2, 3, a_getf 0 4 28) :: (5, 3, a_iconst 1664525) :: (8, 1, a_imul) :: (9, 3, a_iconst 1013904223) :: (12, 1, a_iadd) :: (13, 3, a_putf 0 4 28 .int) :: (16, 1, a_aload 0) :: (17, 3, a_getf 0 4 28) :: (20, 3, a_iconst 2147483647) :: (23, 1, a_iand) :: (24, 3, a_iconst 256) :: (27, 1, a_idiv) :: (28, 1, a_iload 1) :: (29, 1, a_irem) :: (30, 1, a_iret) :: []
set_option maxRecDepth 100000 in
theorem sX6_draw_0 (l : Launch) : AllS (pSnd l rmX6_draw yX6_draw.cls cX6_draw wsX6_draw 2 (some .int)) 0 kX6_draw_0 :=
  alls _ (s_aload_n rfl dX6_draw_0) <|
  alls _ (s_aload_n rfl dX6_draw_1) <|
  alls _ (s_getf (C := RX6) (T := TX6) (N := 29) rfl (in_c inX6) (by decide) (List.mem_cons_of_mem _ wd_775) rfl dX6_draw_2) <|
  alls _ (s_ldcw (List.mem_cons_of_mem _ wd_1191) dX6_draw_5) <|
  alls _ (s_imul dX6_draw_8) <|
  alls _ (s_ldcw (List.mem_cons_of_mem _ wd_1192) dX6_draw_9) <|
  alls _ (s_iadd dX6_draw_12) <|
  alls _ (s_putf (C := RX6) (T := TX6) (N := 29) tyX6 rfl (in_c inX6) tyX6_ok nmX6 (by decide) (List.mem_cons_of_mem _ wd_775) rfl rfl (tyX6_ok 28 (by decide)) dX6_draw_13) <|
  alls _ (s_aload_n rfl dX6_draw_16) <|
  alls _ (s_getf (C := RX6) (T := TX6) (N := 29) rfl (in_c inX6) (by decide) (List.mem_cons_of_mem _ wd_775) rfl dX6_draw_17) <|
  alls _ (s_ldcw (List.mem_cons_of_mem _ wd_1193) dX6_draw_20) <|
  alls _ (s_iand dX6_draw_23) <|
  alls _ (s_sipush (by decide) dX6_draw_24) <|
  alls _ (s_idiv dX6_draw_27) <|
  alls _ (s_iload_n rfl dX6_draw_28) <|
  alls _ (s_irem dX6_draw_29) <|
  alls _ (s_iret dX6_draw_30) <|
  alls_nil _
def KX6_draw : List (Nat × pProg) := [(0, kX6_draw_0)]
theorem bX6_draw_0 : blkOf KX6_draw 0 = some kX6_draw_0 := rfl
def tX6_draw : pT := pM KX6_draw 2
theorem ct_X6_draw (l : Launch) : pCtr l yX6_draw wsX6_draw rmX6_draw 2 tX6_draw := ctr_of (by decide +kernel) rfl (List.forall_mem_cons.mpr ⟨sX6_draw_0 l, fun _ h => absurd h List.not_mem_nil⟩)
theorem dX6_lots_0 : decode cX6_lots 0 = .ok (.iload_n 1, 1) := by decide +kernel
theorem dX6_lots_1 : decode cX6_lots 1 = .ok (.iconst 1, 1) := by decide +kernel
theorem dX6_lots_2 : decode cX6_lots 2 = .ok (.bipush 20, 2) := by decide +kernel
theorem dX6_lots_4 : decode cX6_lots 4 = .ok (.invokestatic 64, 3) := by decide +kernel
theorem dX6_lots_7 : decode cX6_lots 7 = .ok (.istore 4, 2) := by decide +kernel
theorem dX6_lots_9 : decode cX6_lots 9 = .ok (.iload 4, 2) := by decide +kernel
theorem dX6_lots_11 : decode cX6_lots 11 = .ok (.ifCond .ne 16, 3) := by decide +kernel
theorem dX6_lots_14 : decode cX6_lots 14 = .ok (.iload_n 3, 1) := by decide +kernel
theorem dX6_lots_15 : decode cX6_lots 15 = .ok (.iconst 0, 1) := by decide +kernel
theorem dX6_lots_16 : decode cX6_lots 16 = .ok (.iconst 1, 1) := by decide +kernel
theorem dX6_lots_17 : decode cX6_lots 17 = .ok (.invokestatic 82, 3) := by decide +kernel
theorem dX6_lots_20 : decode cX6_lots 20 = .ok (.ifCond .ne 7, 3) := by decide +kernel
theorem dX6_lots_23 : decode cX6_lots 23 = .ok (.bipush (-2), 2) := by decide +kernel
theorem dX6_lots_25 : decode cX6_lots 25 = .ok (.istore 4, 2) := by decide +kernel
theorem dX6_lots_27 : decode cX6_lots 27 = .ok (.iload 4, 2) := by decide +kernel
theorem dX6_lots_29 : decode cX6_lots 29 = .ok (.ifCond .eq 10, 3) := by decide +kernel
theorem dX6_lots_32 : decode cX6_lots 32 = .ok (.aload_n 0, 1) := by decide +kernel
theorem dX6_lots_33 : decode cX6_lots 33 = .ok (.iload 4, 2) := by decide +kernel
theorem dX6_lots_35 : decode cX6_lots 35 = .ok (.invokevirtual 71, 3) := by decide +kernel
theorem dX6_lots_38 : decode cX6_lots 38 = .ok (.ireturn, 1) := by decide +kernel
theorem dX6_lots_39 : decode cX6_lots 39 = .ok (.aload_n 0, 1) := by decide +kernel
theorem dX6_lots_40 : decode cX6_lots 40 = .ok (.iload_n 2, 1) := by decide +kernel
theorem dX6_lots_41 : decode cX6_lots 41 = .ok (.putfield 280, 3) := by decide +kernel
theorem dX6_lots_44 : decode cX6_lots 44 = .ok (.aload_n 0, 1) := by decide +kernel
theorem dX6_lots_45 : decode cX6_lots 45 = .ok (.invokevirtual 213, 3) := by decide +kernel
theorem dX6_lots_48 : decode cX6_lots 48 = .ok (.istore 5, 2) := by decide +kernel
theorem dX6_lots_50 : decode cX6_lots 50 = .ok (.iconst 0, 1) := by decide +kernel
theorem dX6_lots_51 : decode cX6_lots 51 = .ok (.istore 6, 2) := by decide +kernel
theorem dX6_lots_53 : decode cX6_lots 53 = .ok (.iconst 0, 1) := by decide +kernel
theorem dX6_lots_54 : decode cX6_lots 54 = .ok (.istore 7, 2) := by decide +kernel
theorem dX6_lots_56 : decode cX6_lots 56 = .ok (.iload 7, 2) := by decide +kernel
theorem dX6_lots_58 : decode cX6_lots 58 = .ok (.iload_n 1, 1) := by decide +kernel
theorem dX6_lots_59 : decode cX6_lots 59 = .ok (.if_icmp .ge 90, 3) := by decide +kernel
theorem dX6_lots_62 : decode cX6_lots 62 = .ok (.aload_n 0, 1) := by decide +kernel
theorem dX6_lots_63 : decode cX6_lots 63 = .ok (.invokevirtual 207, 3) := by decide +kernel
theorem dX6_lots_66 : decode cX6_lots 66 = .ok (.iconst 0, 1) := by decide +kernel
theorem dX6_lots_67 : decode cX6_lots 67 = .ok (.istore 8, 2) := by decide +kernel
theorem dX6_lots_69 : decode cX6_lots 69 = .ok (.iload 8, 2) := by decide +kernel
theorem dX6_lots_71 : decode cX6_lots 71 = .ok (.aload_n 0, 1) := by decide +kernel
theorem dX6_lots_72 : decode cX6_lots 72 = .ok (.getfield 58, 3) := by decide +kernel
theorem dX6_lots_75 : decode cX6_lots 75 = .ok (.if_icmp .ge 35, 3) := by decide +kernel
theorem dX6_lots_78 : decode cX6_lots 78 = .ok (.aload_n 0, 1) := by decide +kernel
theorem dX6_lots_79 : decode cX6_lots 79 = .ok (.getfield 25, 3) := by decide +kernel
theorem dX6_lots_82 : decode cX6_lots 82 = .ok (.iload 8, 2) := by decide +kernel
theorem dX6_lots_84 : decode cX6_lots 84 = .ok (.aload_n 0, 1) := by decide +kernel
theorem dX6_lots_85 : decode cX6_lots 85 = .ok (.bipush 20, 2) := by decide +kernel
theorem dX6_lots_87 : decode cX6_lots 87 = .ok (.invokevirtual 286, 3) := by decide +kernel
theorem dX6_lots_90 : decode cX6_lots 90 = .ok (.iastore, 1) := by decide +kernel
theorem dX6_lots_91 : decode cX6_lots 91 = .ok (.aload_n 0, 1) := by decide +kernel
theorem dX6_lots_92 : decode cX6_lots 92 = .ok (.getfield 28, 3) := by decide +kernel
theorem dX6_lots_95 : decode cX6_lots 95 = .ok (.iload 8, 2) := by decide +kernel
theorem dX6_lots_97 : decode cX6_lots 97 = .ok (.aload_n 0, 1) := by decide +kernel
theorem dX6_lots_98 : decode cX6_lots 98 = .ok (.bipush 12, 2) := by decide +kernel
theorem dX6_lots_100 : decode cX6_lots 100 = .ok (.invokevirtual 286, 3) := by decide +kernel
theorem dX6_lots_103 : decode cX6_lots 103 = .ok (.iastore, 1) := by decide +kernel
theorem dX6_lots_104 : decode cX6_lots 104 = .ok (.iinc 8 1, 3) := by decide +kernel
theorem dX6_lots_107 : decode cX6_lots 107 = .ok (.goto (-38), 3) := by decide +kernel
theorem dX6_lots_110 : decode cX6_lots 110 = .ok (.aload_n 0, 1) := by decide +kernel
theorem dX6_lots_111 : decode cX6_lots 111 = .ok (.bipush 10, 2) := by decide +kernel
theorem dX6_lots_113 : decode cX6_lots 113 = .ok (.invokevirtual 115, 3) := by decide +kernel
theorem dX6_lots_116 : decode cX6_lots 116 = .ok (.iload 6, 2) := by decide +kernel
theorem dX6_lots_118 : decode cX6_lots 118 = .ok (.iload_n 3, 1) := by decide +kernel
theorem dX6_lots_119 : decode cX6_lots 119 = .ok (.ifCond .ne 10, 3) := by decide +kernel
theorem dX6_lots_122 : decode cX6_lots 122 = .ok (.aload_n 0, 1) := by decide +kernel
theorem dX6_lots_123 : decode cX6_lots 123 = .ok (.invokevirtual 204, 3) := by decide +kernel
theorem dX6_lots_126 : decode cX6_lots 126 = .ok (.goto 10, 3) := by decide +kernel
theorem dX6_lots_129 : decode cX6_lots 129 = .ok (.aload_n 0, 1) := by decide +kernel
theorem dX6_lots_130 : decode cX6_lots 130 = .ok (.invokevirtual 213, 3) := by decide +kernel
theorem dX6_lots_133 : decode cX6_lots 133 = .ok (.iload 5, 2) := by decide +kernel
theorem dX6_lots_135 : decode cX6_lots 135 = .ok (.isub, 1) := by decide +kernel
theorem dX6_lots_136 : decode cX6_lots 136 = .ok (.iadd, 1) := by decide +kernel
theorem dX6_lots_137 : decode cX6_lots 137 = .ok (.istore 6, 2) := by decide +kernel
theorem dX6_lots_139 : decode cX6_lots 139 = .ok (.aload_n 0, 1) := by decide +kernel
theorem dX6_lots_140 : decode cX6_lots 140 = .ok (.invokevirtual 210, 3) := by decide +kernel
theorem dX6_lots_143 : decode cX6_lots 143 = .ok (.iinc 7 1, 3) := by decide +kernel
theorem dX6_lots_146 : decode cX6_lots 146 = .ok (.goto (-90), 3) := by decide +kernel
theorem dX6_lots_149 : decode cX6_lots 149 = .ok (.iload 6, 2) := by decide +kernel
theorem dX6_lots_151 : decode cX6_lots 151 = .ok (.ireturn, 1) := by decide +kernel
def rmX6_lots : Room := { frames := 6, cells := 0, slots := 0, locals := 133 }
abbrev wsX6_lots : List Cond := .code yX6_lots cX6_lots 9 (some .int) :: gw_tbl
def kX6_lots_149 : pProg := (149, 2, a_iload 6) :: (151, 1, a_iret) :: []
def kX6_lots_136 : pProg := (136, 1, a_iadd) :: (137, 2, a_istore 6) :: (139, 1, a_aload 0) :: (140, 3, a_callv 1 4 [0, 1, 2, 3, 4, 5, 6, 7, 8, 9, 10, 11, 12, 13, 14, 15, 16] tX6_forgets) :: (143, 3, a_iinc 7 1) :: (146, 3, a_goto 56) :: []
def kX6_lots_129 : pProg := (129, 1, a_aload 0) :: (130, 3, a_callv 1 4 [0, 1, 2, 3, 4, 5, 6, 7, 8, 9, 10, 11, 12, 13, 14, 15, 16] tX6_allBruises) :: (133, 2, a_iload 5) :: (135, 1, a_isub) :: (136, 0, a_fall 136) :: []
def kX6_lots_110 : pProg := (110, 1, a_aload 0) :: (111, 2, a_iconst 10) :: (113, 3, a_callv 2 4 [0, 1, 2, 3, 4, 5, 6, 7, 8, 9, 10, 11, 12, 13, 14, 15, 16] tX6_goes) :: (116, 2, a_iload 6) :: (118, 1, a_iload 3) :: (119, 3, a_if_ne 129) :: (122, 1, a_aload 0) :: (123, 3, a_callv 1 4 [0, 1, 2, 3, 4, 5, 6, 7, 8, 9, 10, 11, 12, 13, 14, 15, 16] tX6_facesMany) :: (126, 3, a_goto 136) :: []
def kX6_lots_69 : pProg := (69, 2, a_iload 8) :: (71, 1, a_aload 0) :: (72, 3, a_getf 0 4 7) :: (75, 3, a_icmp_ge 110) :: (78, 1, a_aload 0) :: (79, 3, a_getf 0 4 5) :: (82, 2, a_iload 8) :: (84, 1, a_aload 0) :: (85, 2, a_iconst 20) :: (87, 3, a_callv 2 4 [0, 1, 2, 3, 4, 5, 6, 7, 8, 9, 10, 11, 12, 13, 14, 15, 16] tX6_draw) :: (90, 1, a_iast 6) :: (91, 1, a_aload 0) :: (92, 3, a_getf 0 4 6) :: (95, 2, a_iload 8) :: (97, 1, a_aload 0) :: (98, 2, a_iconst 12) :: (100, 3, a_callv 2 4 [0, 1, 2, 3, 4, 5, 6, 7, 8, 9, 10, 11, 12, 13, 14, 15, 16] tX6_draw) :: (103, 1, a_iast 7) :: (104, 3, a_iinc 8 1) :: (107, 3, a_goto 69) :: []
def kX6_lots_56 : pProg := (56, 2, a_iload 7) :: (58, 1, a_iload 1) :: (59, 3, a_icmp_ge 149) :: (62, 1, a_aload 0) :: (63, 3, a_callv 1 4 [0, 1, 2, 3, 4, 5, 6, 7, 8, 9, 10, 11, 12, 13, 14, 15, 16] tX6_thinks) :: (66, 1, a_iconst 0) :: (67, 2, a_istore 8) :: (69, 0, a_fall 69) :: []
def kX6_lots_39 : pProg := (39, 1, a_aload 0) :: (40, 1, a_iload 2) :: (41, 3, a_putf 0 4 28 .int) :: (44, 1, a_aload 0) :: (45, 3, a_callv 1 4 [0, 1, 2, 3, 4, 5, 6, 7, 8, 9, 10, 11, 12, 13, 14, 15, 16] tX6_allBruises) :: (48, 2, a_istore 5) :: (50, 1, a_iconst 0) :: (51, 2, a_istore 6) :: (53, 1, a_iconst 0) :: (54, 2, a_istore 7) :: (56, 0, a_fall 56) :: []
def kX6_lots_27 : pProg := (27, 2, a_iload 4) :: (29, 3, a_if_eq 39) :: (32, 1, a_aload 0) :: (33, 2, a_iload 4) :: (35, 3, a_callv 2 4 [0, 1, 2, 3, 4, 5, 6, 7, 8, 9, 10, 11, 12, 13, 14, 15, 16] tX6_no) :: (38, 1, a_iret) :: []
def kX6_lots_0 : pProg := (0, 1, a_iload 1) :: (1, 1, a_iconst 1) :: (2, 2, a_iconst 20) :: (4, 3, a_calls 3 [] tX6_bound) :: (7, 2, a_istore 4) :: (9, 2, a_iload 4) :: (11, 3, a_if_ne 27) :: (14, 1, a_iload 3) :: (15, 1, a_iconst 0) :: (16, 1, a_iconst 1) :: (17, 3, a_calls 3 [] tX6_isIn) :: (20, 3, a_if_ne 27) :: (23, 2, a_iconst (-2)) :: (25, 2, a_istore 4) :: (27, 0, a_fall 27) :: []
set_option maxRecDepth 100000 in
theorem sX6_lots_149 (l : Launch) : AllS (pSnd l rmX6_lots yX6_lots.cls cX6_lots wsX6_lots 9 (some .int)) 149 kX6_lots_149 :=
  alls _ (s_iload dX6_lots_149) <|
  alls _ (s_iret dX6_lots_151) <|
  alls_nil _
set_option maxRecDepth 100000 in
theorem sX6_lots_136 (l : Launch) : AllS (pSnd l rmX6_lots yX6_lots.cls cX6_lots wsX6_lots 9 (some .int)) 136 kX6_lots_136 :=
  alls _ (s_iadd dX6_lots_136) <|
  alls _ (s_istore dX6_lots_137) <|
  alls _ (s_aload_n rfl dX6_lots_139) <|
  alls _ (s_callv (ct_X6_forgets l) rfl rfl rfl (gdV wd_1020 wd_1022 wd_38 wd_65 wd_1023) rfl rfl (by decide +kernel) ⟨Nat.le_of_ble_eq_true rfl, Nat.le_of_ble_eq_true rfl⟩ dX6_lots_140) <|
  alls _ (s_iinc dX6_lots_143) <|
  alls _ (s_goto (by decide) dX6_lots_146) <|
  alls_nil _
set_option maxRecDepth 100000 in
theorem sX6_lots_129 (l : Launch) : AllS (pSnd l rmX6_lots yX6_lots.cls cX6_lots wsX6_lots 9 (some .int)) 129 kX6_lots_129 :=
  alls _ (s_aload_n rfl dX6_lots_129) <|
  alls _ (s_callv (ct_X6_allBruises l) rfl rfl rfl (gdV wd_1032 wd_1034 wd_40 wd_65 wd_1035) rfl rfl (by decide +kernel) ⟨Nat.le_of_ble_eq_true rfl, Nat.le_of_ble_eq_true rfl⟩ dX6_lots_130) <|
  alls _ (s_iload dX6_lots_133) <|
  alls _ (s_isub dX6_lots_135) <|
  alls _ s_fall (alls_nil _)
set_option maxRecDepth 100000 in
theorem sX6_lots_110 (l : Launch) : AllS (pSnd l rmX6_lots yX6_lots.cls cX6_lots wsX6_lots 9 (some .int)) 110 kX6_lots_110 :=
  alls _ (s_aload_n rfl dX6_lots_110) <|
  alls _ (s_bipush (by decide) dX6_lots_111) <|
  alls _ (s_callv (ct_X6_goes l) rfl rfl rfl (gdV wd_930 wd_932 wd_29 wd_65 wd_933) rfl rfl (by decide +kernel) ⟨Nat.le_of_ble_eq_true rfl, Nat.le_of_ble_eq_true rfl⟩ dX6_lots_113) <|
  alls _ (s_iload dX6_lots_116) <|
  alls _ (s_iload_n rfl dX6_lots_118) <|
  alls _ (s_if_ne (by decide) dX6_lots_119) <|
  alls _ (s_aload_n rfl dX6_lots_122) <|
  alls _ (s_callv (ct_X6_facesMany l) rfl rfl rfl (gdV wd_1008 wd_1010 wd_36 wd_65 wd_1011) rfl rfl (by decide +kernel) ⟨Nat.le_of_ble_eq_true rfl, Nat.le_of_ble_eq_true rfl⟩ dX6_lots_123) <|
  alls _ (s_goto (by decide) dX6_lots_126) <|
  alls_nil _
set_option maxRecDepth 100000 in
theorem sX6_lots_69 (l : Launch) : AllS (pSnd l rmX6_lots yX6_lots.cls cX6_lots wsX6_lots 9 (some .int)) 69 kX6_lots_69 :=
  alls _ (s_iload dX6_lots_69) <|
  alls _ (s_aload_n rfl dX6_lots_71) <|
  alls _ (s_getf (C := RX6) (T := TX6) (N := 29) rfl (in_c inX6) (by decide) (List.mem_cons_of_mem _ wd_754) rfl dX6_lots_72) <|
  alls _ (s_icmp_ge (by decide) dX6_lots_75) <|
  alls _ (s_aload_n rfl dX6_lots_78) <|
  alls _ (s_getf (C := RX6) (T := TX6) (N := 29) rfl (in_c inX6) (by decide) (List.mem_cons_of_mem _ wd_752) rfl dX6_lots_79) <|
  alls _ (s_iload dX6_lots_82) <|
  alls _ (s_aload_n rfl dX6_lots_84) <|
  alls _ (s_bipush (by decide) dX6_lots_85) <|
  alls _ (s_callv (ct_X6_draw l) rfl rfl rfl (gdV wd_1187 wd_1189 wd_57 wd_65 wd_1190) rfl rfl (by decide +kernel) ⟨Nat.le_of_ble_eq_true rfl, Nat.le_of_ble_eq_true rfl⟩ dX6_lots_87) <|
  alls _ (s_iast dX6_lots_90) <|
  alls _ (s_aload_n rfl dX6_lots_91) <|
  alls _ (s_getf (C := RX6) (T := TX6) (N := 29) rfl (in_c inX6) (by decide) (List.mem_cons_of_mem _ wd_753) rfl dX6_lots_92) <|
  alls _ (s_iload dX6_lots_95) <|
  alls _ (s_aload_n rfl dX6_lots_97) <|
  alls _ (s_bipush (by decide) dX6_lots_98) <|
  alls _ (s_callv (ct_X6_draw l) rfl rfl rfl (gdV wd_1187 wd_1189 wd_57 wd_65 wd_1190) rfl rfl (by decide +kernel) ⟨Nat.le_of_ble_eq_true rfl, Nat.le_of_ble_eq_true rfl⟩ dX6_lots_100) <|
  alls _ (s_iast dX6_lots_103) <|
  alls _ (s_iinc dX6_lots_104) <|
  alls _ (s_goto (by decide) dX6_lots_107) <|
  alls_nil _
set_option maxRecDepth 100000 in
theorem sX6_lots_56 (l : Launch) : AllS (pSnd l rmX6_lots yX6_lots.cls cX6_lots wsX6_lots 9 (some .int)) 56 kX6_lots_56 :=
  alls _ (s_iload dX6_lots_56) <|
  alls _ (s_iload_n rfl dX6_lots_58) <|
  alls _ (s_icmp_ge (by decide) dX6_lots_59) <|
  alls _ (s_aload_n rfl dX6_lots_62) <|
  alls _ (s_callv (ct_X6_thinks l) rfl rfl rfl (gdV wd_1016 wd_1018 wd_37 wd_65 wd_1019) rfl rfl (by decide +kernel) ⟨Nat.le_of_ble_eq_true rfl, Nat.le_of_ble_eq_true rfl⟩ dX6_lots_63) <|
  alls _ (s_iconst dX6_lots_66) <|
  alls _ (s_istore dX6_lots_67) <|
  alls _ s_fall (alls_nil _)
set_option maxRecDepth 100000 in
theorem sX6_lots_39 (l : Launch) : AllS (pSnd l rmX6_lots yX6_lots.cls cX6_lots wsX6_lots 9 (some .int)) 39 kX6_lots_39 :=
  alls _ (s_aload_n rfl dX6_lots_39) <|
  alls _ (s_iload_n rfl dX6_lots_40) <|
  alls _ (s_putf (C := RX6) (T := TX6) (N := 29) tyX6 rfl (in_c inX6) tyX6_ok nmX6 (by decide) (List.mem_cons_of_mem _ wd_775) rfl rfl (tyX6_ok 28 (by decide)) dX6_lots_41) <|
  alls _ (s_aload_n rfl dX6_lots_44) <|
  alls _ (s_callv (ct_X6_allBruises l) rfl rfl rfl (gdV wd_1032 wd_1034 wd_40 wd_65 wd_1035) rfl rfl (by decide +kernel) ⟨Nat.le_of_ble_eq_true rfl, Nat.le_of_ble_eq_true rfl⟩ dX6_lots_45) <|
  alls _ (s_istore dX6_lots_48) <|
  alls _ (s_iconst dX6_lots_50) <|
  alls _ (s_istore dX6_lots_51) <|
  alls _ (s_iconst dX6_lots_53) <|
  alls _ (s_istore dX6_lots_54) <|
  alls _ s_fall (alls_nil _)
set_option maxRecDepth 100000 in
theorem sX6_lots_27 (l : Launch) : AllS (pSnd l rmX6_lots yX6_lots.cls cX6_lots wsX6_lots 9 (some .int)) 27 kX6_lots_27 :=
  alls _ (s_iload dX6_lots_27) <|
  alls _ (s_if_eq (by decide) dX6_lots_29) <|
  alls _ (s_aload_n rfl dX6_lots_32) <|
  alls _ (s_iload dX6_lots_33) <|
  alls _ (s_callv (ct_X6_no l) rfl rfl rfl (gdV wd_842 wd_844 wd_11 wd_65 wd_845) rfl rfl (by decide +kernel) ⟨Nat.le_of_ble_eq_true rfl, Nat.le_of_ble_eq_true rfl⟩ dX6_lots_35) <|
  alls _ (s_iret dX6_lots_38) <|
  alls_nil _
set_option maxRecDepth 100000 in
theorem sX6_lots_0 (l : Launch) : AllS (pSnd l rmX6_lots yX6_lots.cls cX6_lots wsX6_lots 9 (some .int)) 0 kX6_lots_0 :=
  alls _ (s_iload_n rfl dX6_lots_0) <|
  alls _ (s_iconst dX6_lots_1) <|
  alls _ (s_bipush (by decide) dX6_lots_2) <|
  alls _ (s_calls (ct_X6_bound l) rfl rfl (gdS wd_841) (List.mem_cons_of_mem _ wd_839) (List.mem_cons_of_mem _ wd_840) (List.mem_cons_of_mem _ wd_65) rfl rfl (by decide +kernel) ⟨Nat.le_of_ble_eq_true rfl, Nat.le_of_ble_eq_true rfl⟩ dX6_lots_4) <|
  alls _ (s_istore dX6_lots_7) <|
  alls _ (s_iload dX6_lots_9) <|
  alls _ (s_if_ne (by decide) dX6_lots_11) <|
  alls _ (s_iload_n rfl dX6_lots_14) <|
  alls _ (s_iconst dX6_lots_15) <|
  alls _ (s_iconst dX6_lots_16) <|
  alls _ (s_calls (ct_X6_isIn l) rfl rfl (gdS wd_868) (List.mem_cons_of_mem _ wd_866) (List.mem_cons_of_mem _ wd_867) (List.mem_cons_of_mem _ wd_65) rfl rfl (by decide +kernel) ⟨Nat.le_of_ble_eq_true rfl, Nat.le_of_ble_eq_true rfl⟩ dX6_lots_17) <|
  alls _ (s_if_ne (by decide) dX6_lots_20) <|
  alls _ (s_bipush (by decide) dX6_lots_23) <|
  alls _ (s_istore dX6_lots_25) <|
  alls _ s_fall (alls_nil _)
def KX6_lots : List (Nat × pProg) := [(0, kX6_lots_0), (27, kX6_lots_27), (39, kX6_lots_39), (56, kX6_lots_56), (69, kX6_lots_69), (110, kX6_lots_110), (129, kX6_lots_129), (136, kX6_lots_136), (149, kX6_lots_149)]
theorem bX6_lots_0 : blkOf KX6_lots 0 = some kX6_lots_0 := rfl
theorem bX6_lots_27 : blkOf KX6_lots 27 = some kX6_lots_27 := rfl
theorem bX6_lots_39 : blkOf KX6_lots 39 = some kX6_lots_39 := rfl
theorem bX6_lots_56 : blkOf KX6_lots 56 = some kX6_lots_56 := rfl
theorem bX6_lots_69 : blkOf KX6_lots 69 = some kX6_lots_69 := rfl
theorem bX6_lots_110 : blkOf KX6_lots 110 = some kX6_lots_110 := rfl
theorem bX6_lots_129 : blkOf KX6_lots 129 = some kX6_lots_129 := rfl
theorem bX6_lots_136 : blkOf KX6_lots 136 = some kX6_lots_136 := rfl
theorem bX6_lots_149 : blkOf KX6_lots 149 = some kX6_lots_149 := rfl
def tX6_lots : pT := pM KX6_lots 9
theorem ct_X6_lots (l : Launch) : pCtr l yX6_lots wsX6_lots rmX6_lots 4 tX6_lots := ctr_of (by decide +kernel) rfl (List.forall_mem_cons.mpr ⟨sX6_lots_0 l, List.forall_mem_cons.mpr ⟨sX6_lots_27 l, List.forall_mem_cons.mpr ⟨sX6_lots_39 l, List.forall_mem_cons.mpr ⟨sX6_lots_56 l, List.forall_mem_cons.mpr ⟨sX6_lots_69 l, List.forall_mem_cons.mpr ⟨sX6_lots_110 l, List.forall_mem_cons.mpr ⟨sX6_lots_129 l, List.forall_mem_cons.mpr ⟨sX6_lots_136 l, List.forall_mem_cons.mpr ⟨sX6_lots_149 l, fun _ h => absurd h List.not_mem_nil⟩⟩⟩⟩⟩⟩⟩⟩⟩)
theorem dX6_image_0 : decode cX6_image 0 = .ok (.aload_n 0, 1) := by decide +kernel
theorem dX6_image_1 : decode cX6_image 1 = .ok (.iconst 1, 1) := by decide +kernel
theorem dX6_image_2 : decode cX6_image 2 = .ok (.putfield 169, 3) := by decide +kernel
theorem dX6_image_5 : decode cX6_image 5 = .ok (.aload_n 0, 1) := by decide +kernel
theorem dX6_image_6 : decode cX6_image 6 = .ok (.iconst 0, 1) := by decide +kernel
theorem dX6_image_7 : decode cX6_image 7 = .ok (.iconst 1, 1) := by decide +kernel
theorem dX6_image_8 : decode cX6_image 8 = .ok (.invokevirtual 142, 3) := by decide +kernel
theorem dX6_image_11 : decode cX6_image 11 = .ok (.aload_n 0, 1) := by decide +kernel
theorem dX6_image_12 : decode cX6_image 12 = .ok (.getfield 112, 3) := by decide +kernel
theorem dX6_image_15 : decode cX6_image 15 = .ok (.ireturn, 1) := by decide +kernel
def rmX6_image : Room := { frames := 2, cells := 0, slots := 0, locals := 44 }
abbrev wsX6_image : List Cond := .code yX6_image cX6_image 1 (some .int) :: gw_tbl
def kX6_image_0 : pProg := (0, 1, a_aload 0) :: (1, 1, a_iconst 1) :: (2, 3, a_putf 0 4 17 .boolean) :: (5, 1, a_aload 0) :: (6, 1, a_iconst 0) :: (7, 1, a_iconst 1) :: (8, 3, a_callv 3 4 [0, 1, 2, 3, 4, 5, 6, 7, 8, 9, 10, 11, 12, 13, 14, 15, 16] tX6_passesAll) :: (11, 1, a_aload 0) :: (12, 3, a_getf 0 4 8) :: (15, 1, a_iret) :: []
set_option maxRecDepth 100000 in
theorem sX6_image_0 (l : Launch) : AllS (pSnd l rmX6_image yX6_image.cls cX6_image wsX6_image 1 (some .int)) 0 kX6_image_0 :=
  alls _ (s_aload_n rfl dX6_image_0) <|
  alls _ (s_iconst dX6_image_1) <|
  alls _ (s_putf (C := RX6) (T := TX6) (N := 29) tyX6 rfl (in_c inX6) tyX6_ok nmX6 (by decide) (List.mem_cons_of_mem _ wd_764) rfl rfl (tyX6_ok 17 (by decide)) dX6_image_2) <|
  alls _ (s_aload_n rfl dX6_image_5) <|
  alls _ (s_iconst dX6_image_6) <|
  alls _ (s_iconst dX6_image_7) <|
  alls _ (s_callv (ct_X6_passesAll l) rfl rfl rfl (gdV wd_876 wd_878 wd_17 wd_65 wd_879) rfl rfl (by decide +kernel) ⟨Nat.le_of_ble_eq_true rfl, Nat.le_of_ble_eq_true rfl⟩ dX6_image_8) <|
  alls _ (s_aload_n rfl dX6_image_11) <|
  alls _ (s_getf (C := RX6) (T := TX6) (N := 29) rfl (in_c inX6) (by decide) (List.mem_cons_of_mem _ wd_755) rfl dX6_image_12) <|
  alls _ (s_iret dX6_image_15) <|
  alls_nil _
def KX6_image : List (Nat × pProg) := [(0, kX6_image_0)]
theorem bX6_image_0 : blkOf KX6_image 0 = some kX6_image_0 := rfl
def tX6_image : pT := pM KX6_image 1
theorem ct_X6_image (l : Launch) : pCtr l yX6_image wsX6_image rmX6_image 1 tX6_image := ctr_of (by decide +kernel) rfl (List.forall_mem_cons.mpr ⟨sX6_image_0 l, fun _ h => absurd h List.not_mem_nil⟩)
theorem dX6_on_0 : decode cX6_on 0 = .ok (.aload_n 0, 1) := by decide +kernel
theorem dX6_on_1 : decode cX6_on 1 = .ok (.getfield 169, 3) := by decide +kernel
theorem dX6_on_4 : decode cX6_on 4 = .ok (.ifCond .ne 10, 3) := by decide +kernel
theorem dX6_on_7 : decode cX6_on 7 = .ok (.aload_n 0, 1) := by decide +kernel
theorem dX6_on_8 : decode cX6_on 8 = .ok (.bipush (-3), 2) := by decide +kernel
theorem dX6_on_10 : decode cX6_on 10 = .ok (.invokevirtual 71, 3) := by decide +kernel
theorem dX6_on_13 : decode cX6_on 13 = .ok (.ireturn, 1) := by decide +kernel
theorem dX6_on_14 : decode cX6_on 14 = .ok (.aload_n 0, 1) := by decide +kernel
theorem dX6_on_15 : decode cX6_on 15 = .ok (.iconst 0, 1) := by decide +kernel
theorem dX6_on_16 : decode cX6_on 16 = .ok (.iconst 0, 1) := by decide +kernel
theorem dX6_on_17 : decode cX6_on 17 = .ok (.invokevirtual 142, 3) := by decide +kernel
theorem dX6_on_20 : decode cX6_on 20 = .ok (.aload_n 0, 1) := by decide +kernel
theorem dX6_on_21 : decode cX6_on 21 = .ok (.getfield 112, 3) := by decide +kernel
theorem dX6_on_24 : decode cX6_on 24 = .ok (.ireturn, 1) := by decide +kernel
def rmX6_on : Room := { frames := 2, cells := 0, slots := 0, locals := 44 }
abbrev wsX6_on : List Cond := .code yX6_on cX6_on 1 (some .int) :: gw_tbl
def kX6_on_14 : pProg := (14, 1, a_aload 0) :: (15, 1, a_iconst 0) :: (16, 1, a_iconst 0) :: (17, 3, a_callv 3 4 [0, 1, 2, 3, 4, 5, 6, 7, 8, 9, 10, 11, 12, 13, 14, 15, 16] tX6_passesAll) :: (20, 1, a_aload 0) :: (21, 3, a_getf 0 4 8) :: (24, 1, a_iret) :: []
def kX6_on_0 : pProg := (0, 1, a_aload 0) :: (1, 3, a_getf 0 4 17) :: (4, 3, a_if_ne 14) :: (7, 1, a_aload 0) :: (8, 2, a_iconst (-3)) :: (10, 3, a_callv 2 4 [0, 1, 2, 3, 4, 5, 6, 7, 8, 9, 10, 11, 12, 13, 14, 15, 16] tX6_no) :: (13, 1, a_iret) :: []
set_option maxRecDepth 100000 in
theorem sX6_on_14 (l : Launch) : AllS (pSnd l rmX6_on yX6_on.cls cX6_on wsX6_on 1 (some .int)) 14 kX6_on_14 :=
  alls _ (s_aload_n rfl dX6_on_14) <|
  alls _ (s_iconst dX6_on_15) <|
  alls _ (s_iconst dX6_on_16) <|
  alls _ (s_callv (ct_X6_passesAll l) rfl rfl rfl (gdV wd_876 wd_878 wd_17 wd_65 wd_879) rfl rfl (by decide +kernel) ⟨Nat.le_of_ble_eq_true rfl, Nat.le_of_ble_eq_true rfl⟩ dX6_on_17) <|
  alls _ (s_aload_n rfl dX6_on_20) <|
  alls _ (s_getf (C := RX6) (T := TX6) (N := 29) rfl (in_c inX6) (by decide) (List.mem_cons_of_mem _ wd_755) rfl dX6_on_21) <|
  alls _ (s_iret dX6_on_24) <|
  alls_nil _
set_option maxRecDepth 100000 in
theorem sX6_on_0 (l : Launch) : AllS (pSnd l rmX6_on yX6_on.cls cX6_on wsX6_on 1 (some .int)) 0 kX6_on_0 :=
  alls _ (s_aload_n rfl dX6_on_0) <|
  alls _ (s_getf (C := RX6) (T := TX6) (N := 29) rfl (in_c inX6) (by decide) (List.mem_cons_of_mem _ wd_764) rfl dX6_on_1) <|
  alls _ (s_if_ne (by decide) dX6_on_4) <|
  alls _ (s_aload_n rfl dX6_on_7) <|
  alls _ (s_bipush (by decide) dX6_on_8) <|
  alls _ (s_callv (ct_X6_no l) rfl rfl rfl (gdV wd_842 wd_844 wd_11 wd_65 wd_845) rfl rfl (by decide +kernel) ⟨Nat.le_of_ble_eq_true rfl, Nat.le_of_ble_eq_true rfl⟩ dX6_on_10) <|
  alls _ (s_iret dX6_on_13) <|
  alls_nil _
def KX6_on : List (Nat × pProg) := [(0, kX6_on_0), (14, kX6_on_14)]
theorem bX6_on_0 : blkOf KX6_on 0 = some kX6_on_0 := rfl
theorem bX6_on_14 : blkOf KX6_on 14 = some kX6_on_14 := rfl
def tX6_on : pT := pM KX6_on 1
theorem ct_X6_on (l : Launch) : pCtr l yX6_on wsX6_on rmX6_on 1 tX6_on := ctr_of (by decide +kernel) rfl (List.forall_mem_cons.mpr ⟨sX6_on_0 l, List.forall_mem_cons.mpr ⟨sX6_on_14 l, fun _ h => absurd h List.not_mem_nil⟩⟩)
theorem dX6_faces_0 : decode cX6_faces 0 = .ok (.iconst 0, 1) := by decide +kernel
theorem dX6_faces_1 : decode cX6_faces 1 = .ok (.istore_n 1, 1) := by decide +kernel
theorem dX6_faces_2 : decode cX6_faces 2 = .ok (.iconst 0, 1) := by decide +kernel
theorem dX6_faces_3 : decode cX6_faces 3 = .ok (.istore_n 2, 1) := by decide +kernel
theorem dX6_faces_4 : decode cX6_faces 4 = .ok (.iload_n 2, 1) := by decide +kernel
theorem dX6_faces_5 : decode cX6_faces 5 = .ok (.aload_n 0, 1) := by decide +kernel
theorem dX6_faces_6 : decode cX6_faces 6 = .ok (.getfield 58, 3) := by decide +kernel
theorem dX6_faces_9 : decode cX6_faces 9 = .ok (.if_icmp .ge 30, 3) := by decide +kernel
theorem dX6_faces_12 : decode cX6_faces 12 = .ok (.iload_n 1, 1) := by decide +kernel
theorem dX6_faces_13 : decode cX6_faces 13 = .ok (.aload_n 0, 1) := by decide +kernel
theorem dX6_faces_14 : decode cX6_faces 14 = .ok (.getfield 25, 3) := by decide +kernel
theorem dX6_faces_17 : decode cX6_faces 17 = .ok (.iload_n 2, 1) := by decide +kernel
theorem dX6_faces_18 : decode cX6_faces 18 = .ok (.iaload, 1) := by decide +kernel
theorem dX6_faces_19 : decode cX6_faces 19 = .ok (.bipush 19, 2) := by decide +kernel
theorem dX6_faces_21 : decode cX6_faces 21 = .ok (.if_icmp .ne 9, 3) := by decide +kernel
theorem dX6_faces_24 : decode cX6_faces 24 = .ok (.iconst 1, 1) := by decide +kernel
theorem dX6_faces_25 : decode cX6_faces 25 = .ok (.iload_n 2, 1) := by decide +kernel
theorem dX6_faces_26 : decode cX6_faces 26 = .ok (.ishl, 1) := by decide +kernel
theorem dX6_faces_27 : decode cX6_faces 27 = .ok (.goto 4, 3) := by decide +kernel
theorem dX6_faces_30 : decode cX6_faces 30 = .ok (.iconst 0, 1) := by decide +kernel
theorem dX6_faces_31 : decode cX6_faces 31 = .ok (.ior, 1) := by decide +kernel
theorem dX6_faces_32 : decode cX6_faces 32 = .ok (.istore_n 1, 1) := by decide +kernel
theorem dX6_faces_33 : decode cX6_faces 33 = .ok (.iinc 2 1, 3) := by decide +kernel
theorem dX6_faces_36 : decode cX6_faces 36 = .ok (.goto (-32), 3) := by decide +kernel
theorem dX6_faces_39 : decode cX6_faces 39 = .ok (.iload_n 1, 1) := by decide +kernel
theorem dX6_faces_40 : decode cX6_faces 40 = .ok (.ireturn, 1) := by decide +kernel
def rmX6_faces : Room := { frames := 0, cells := 0, slots := 0, locals := 0 }
abbrev wsX6_faces : List Cond := .code yX6_faces cX6_faces 3 (some .int) :: gw_tbl
def kX6_faces_39 : pProg := (39, 1, a_iload 1) :: (40, 1, a_iret) :: []
def kX6_faces_31 : pProg := (31, 1, a_ior) :: (32, 1, a_istore 1) :: (33, 3, a_iinc 2 1) :: (36, 3, a_goto 4) :: []
def kX6_faces_30 : pProg := (30, 1, a_iconst 0) :: (31, 0, a_fall 31) :: []
def kX6_faces_4 : pProg := (4, 1, a_iload 2) :: (5, 1, a_aload 0) :: (6, 3, a_getf 0 4 7) :: (9, 3, a_icmp_ge 39) :: (12, 1, a_iload 1) :: (13, 1, a_aload 0) :: (14, 3, a_getf 0 4 5) :: (17, 1, a_iload 2) :: (18, 1, a_iald 6) :: (19, 2, a_iconst 19) :: (21, 3, a_icmp_ne 30) :: (24, 1, a_iconst 1) :: (25, 1, a_iload 2) :: (26, 1, a_ishl) :: (27, 3, a_goto 31) :: []
def kX6_faces_0 : pProg := (0, 1, a_iconst 0) :: (1, 1, a_istore 1) :: (2, 1, a_iconst 0) :: (3, 1, a_istore 2) :: (4, 0, a_fall 4) :: []
set_option maxRecDepth 100000 in
theorem sX6_faces_39 (l : Launch) : AllS (pSnd l rmX6_faces yX6_faces.cls cX6_faces wsX6_faces 3 (some .int)) 39 kX6_faces_39 :=
  alls _ (s_iload_n rfl dX6_faces_39) <|
  alls _ (s_iret dX6_faces_40) <|
  alls_nil _
set_option maxRecDepth 100000 in
theorem sX6_faces_31 (l : Launch) : AllS (pSnd l rmX6_faces yX6_faces.cls cX6_faces wsX6_faces 3 (some .int)) 31 kX6_faces_31 :=
  alls _ (s_ior dX6_faces_31) <|
  alls _ (s_istore_n rfl dX6_faces_32) <|
  alls _ (s_iinc dX6_faces_33) <|
  alls _ (s_goto (by decide) dX6_faces_36) <|
  alls_nil _
set_option maxRecDepth 100000 in
theorem sX6_faces_30 (l : Launch) : AllS (pSnd l rmX6_faces yX6_faces.cls cX6_faces wsX6_faces 3 (some .int)) 30 kX6_faces_30 :=
  alls _ (s_iconst dX6_faces_30) <|
  alls _ s_fall (alls_nil _)
set_option maxRecDepth 100000 in
theorem sX6_faces_4 (l : Launch) : AllS (pSnd l rmX6_faces yX6_faces.cls cX6_faces wsX6_faces 3 (some .int)) 4 kX6_faces_4 :=
  alls _ (s_iload_n rfl dX6_faces_4) <|
  alls _ (s_aload_n rfl dX6_faces_5) <|
  alls _ (s_getf (C := RX6) (T := TX6) (N := 29) rfl (in_c inX6) (by decide) (List.mem_cons_of_mem _ wd_754) rfl dX6_faces_6) <|
  alls _ (s_icmp_ge (by decide) dX6_faces_9) <|
  alls _ (s_iload_n rfl dX6_faces_12) <|
  alls _ (s_aload_n rfl dX6_faces_13) <|
  alls _ (s_getf (C := RX6) (T := TX6) (N := 29) rfl (in_c inX6) (by decide) (List.mem_cons_of_mem _ wd_752) rfl dX6_faces_14) <|
  alls _ (s_iload_n rfl dX6_faces_17) <|
  alls _ (s_iald dX6_faces_18) <|
  alls _ (s_bipush (by decide) dX6_faces_19) <|
  alls _ (s_icmp_ne (by decide) dX6_faces_21) <|
  alls _ (s_iconst dX6_faces_24) <|
  alls _ (s_iload_n rfl dX6_faces_25) <|
  alls _ (s_ishl dX6_faces_26) <|
  alls _ (s_goto (by decide) dX6_faces_27) <|
  alls_nil _
set_option maxRecDepth 100000 in
theorem sX6_faces_0 (l : Launch) : AllS (pSnd l rmX6_faces yX6_faces.cls cX6_faces wsX6_faces 3 (some .int)) 0 kX6_faces_0 :=
  alls _ (s_iconst dX6_faces_0) <|
  alls _ (s_istore_n rfl dX6_faces_1) <|
  alls _ (s_iconst dX6_faces_2) <|
  alls _ (s_istore_n rfl dX6_faces_3) <|
  alls _ s_fall (alls_nil _)
def KX6_faces : List (Nat × pProg) := [(0, kX6_faces_0), (4, kX6_faces_4), (30, kX6_faces_30), (31, kX6_faces_31), (39, kX6_faces_39)]
theorem bX6_faces_0 : blkOf KX6_faces 0 = some kX6_faces_0 := rfl
theorem bX6_faces_4 : blkOf KX6_faces 4 = some kX6_faces_4 := rfl
theorem bX6_faces_30 : blkOf KX6_faces 30 = some kX6_faces_30 := rfl
theorem bX6_faces_31 : blkOf KX6_faces 31 = some kX6_faces_31 := rfl
theorem bX6_faces_39 : blkOf KX6_faces 39 = some kX6_faces_39 := rfl
def tX6_faces : pT := pM KX6_faces 3
theorem ct_X6_faces (l : Launch) : pCtr l yX6_faces wsX6_faces rmX6_faces 1 tX6_faces := ctr_of (by decide +kernel) rfl (List.forall_mem_cons.mpr ⟨sX6_faces_0 l, List.forall_mem_cons.mpr ⟨sX6_faces_4 l, List.forall_mem_cons.mpr ⟨sX6_faces_30 l, List.forall_mem_cons.mpr ⟨sX6_faces_31 l, List.forall_mem_cons.mpr ⟨sX6_faces_39 l, fun _ h => absurd h List.not_mem_nil⟩⟩⟩⟩⟩)
theorem dX6_count_0 : decode cX6_count 0 = .ok (.iload_n 1, 1) := by decide +kernel
theorem dX6_count_1 : decode cX6_count 1 = .ok (.bipush 11, 2) := by decide +kernel
theorem dX6_count_3 : decode cX6_count 3 = .ok (.bipush 16, 2) := by decide +kernel
theorem dX6_count_5 : decode cX6_count 5 = .ok (.invokestatic 82, 3) := by decide +kernel
theorem dX6_count_8 : decode cX6_count 8 = .ok (.ifCond .eq 13, 3) := by decide +kernel
theorem dX6_count_11 : decode cX6_count 11 = .ok (.aload_n 0, 1) := by decide +kernel
theorem dX6_count_12 : decode cX6_count 12 = .ok (.getfield 7, 3) := by decide +kernel
theorem dX6_count_15 : decode cX6_count 15 = .ok (.iload_n 1, 1) := by decide +kernel
theorem dX6_count_16 : decode cX6_count 16 = .ok (.bipush 10, 2) := by decide +kernel
theorem dX6_count_18 : decode cX6_count 18 = .ok (.isub, 1) := by decide +kernel
theorem dX6_count_19 : decode cX6_count 19 = .ok (.iaload, 1) := by decide +kernel
theorem dX6_count_20 : decode cX6_count 20 = .ok (.ireturn, 1) := by decide +kernel
theorem dX6_count_21 : decode cX6_count 21 = .ok (.iconst 0, 1) := by decide +kernel
theorem dX6_count_22 : decode cX6_count 22 = .ok (.istore_n 2, 1) := by decide +kernel
theorem dX6_count_23 : decode cX6_count 23 = .ok (.iload_n 1, 1) := by decide +kernel
theorem dX6_count_24 : decode cX6_count 24 = .ok (.tableswitch 110 0 7 #[48, 53, 58, 63, 68, 95, 100, 105], 48) := by decide +kernel
theorem dX6_count_72 : decode cX6_count 72 = .ok (.aload_n 0, 1) := by decide +kernel
theorem dX6_count_73 : decode cX6_count 73 = .ok (.getfield 58, 3) := by decide +kernel
theorem dX6_count_76 : decode cX6_count 76 = .ok (.ireturn, 1) := by decide +kernel
theorem dX6_count_77 : decode cX6_count 77 = .ok (.aload_n 0, 1) := by decide +kernel
theorem dX6_count_78 : decode cX6_count 78 = .ok (.getfield 112, 3) := by decide +kernel
theorem dX6_count_81 : decode cX6_count 81 = .ok (.ireturn, 1) := by decide +kernel
theorem dX6_count_82 : decode cX6_count 82 = .ok (.aload_n 0, 1) := by decide +kernel
theorem dX6_count_83 : decode cX6_count 83 = .ok (.invokevirtual 289, 3) := by decide +kernel
theorem dX6_count_86 : decode cX6_count 86 = .ok (.ireturn, 1) := by decide +kernel
theorem dX6_count_87 : decode cX6_count 87 = .ok (.aload_n 0, 1) := by decide +kernel
theorem dX6_count_88 : decode cX6_count 88 = .ok (.invokevirtual 213, 3) := by decide +kernel
theorem dX6_count_91 : decode cX6_count 91 = .ok (.ireturn, 1) := by decide +kernel
theorem dX6_count_92 : decode cX6_count 92 = .ok (.iconst 0, 1) := by decide +kernel
theorem dX6_count_93 : decode cX6_count 93 = .ok (.istore_n 3, 1) := by decide +kernel
theorem dX6_count_94 : decode cX6_count 94 = .ok (.iload_n 3, 1) := by decide +kernel
theorem dX6_count_95 : decode cX6_count 95 = .ok (.aload_n 0, 1) := by decide +kernel
theorem dX6_count_96 : decode cX6_count 96 = .ok (.getfield 58, 3) := by decide +kernel
theorem dX6_count_99 : decode cX6_count 99 = .ok (.if_icmp .ge 18, 3) := by decide +kernel
theorem dX6_count_102 : decode cX6_count 102 = .ok (.iload_n 2, 1) := by decide +kernel
theorem dX6_count_103 : decode cX6_count 103 = .ok (.aload_n 0, 1) := by decide +kernel
theorem dX6_count_104 : decode cX6_count 104 = .ok (.getfield 28, 3) := by decide +kernel
theorem dX6_count_107 : decode cX6_count 107 = .ok (.iload_n 3, 1) := by decide +kernel
theorem dX6_count_108 : decode cX6_count 108 = .ok (.iaload, 1) := by decide +kernel
theorem dX6_count_109 : decode cX6_count 109 = .ok (.iadd, 1) := by decide +kernel
theorem dX6_count_110 : decode cX6_count 110 = .ok (.istore_n 2, 1) := by decide +kernel
theorem dX6_count_111 : decode cX6_count 111 = .ok (.iinc 3 1, 3) := by decide +kernel
theorem dX6_count_114 : decode cX6_count 114 = .ok (.goto (-20), 3) := by decide +kernel
theorem dX6_count_117 : decode cX6_count 117 = .ok (.iload_n 2, 1) := by decide +kernel
theorem dX6_count_118 : decode cX6_count 118 = .ok (.ireturn, 1) := by decide +kernel
theorem dX6_count_119 : decode cX6_count 119 = .ok (.aload_n 0, 1) := by decide +kernel
theorem dX6_count_120 : decode cX6_count 120 = .ok (.invokevirtual 252, 3) := by decide +kernel
theorem dX6_count_123 : decode cX6_count 123 = .ok (.ireturn, 1) := by decide +kernel
theorem dX6_count_124 : decode cX6_count 124 = .ok (.aload_n 0, 1) := by decide +kernel
theorem dX6_count_125 : decode cX6_count 125 = .ok (.getfield 270, 3) := by decide +kernel
theorem dX6_count_128 : decode cX6_count 128 = .ok (.ireturn, 1) := by decide +kernel
theorem dX6_count_129 : decode cX6_count 129 = .ok (.aload_n 0, 1) := by decide +kernel
theorem dX6_count_130 : decode cX6_count 130 = .ok (.getfield 68, 3) := by decide +kernel
theorem dX6_count_133 : decode cX6_count 133 = .ok (.ireturn, 1) := by decide +kernel
theorem dX6_count_134 : decode cX6_count 134 = .ok (.bipush (-9), 2) := by decide +kernel
theorem dX6_count_136 : decode cX6_count 136 = .ok (.ireturn, 1) := by decide +kernel
def rmX6_count : Room := { frames := 1, cells := 0, slots := 0, locals := 22 }
abbrev wsX6_count : List Cond := .code yX6_count cX6_count 4 (some .int) :: gw_tbl
def kX6_count_134 : pProg := (134, 2, a_iconst (-9)) :: (136, 1, a_iret) :: []
def kX6_count_129 : pProg := (129, 1, a_aload 0) :: (130, 3, a_getf 0 4 13) :: (133, 1, a_iret) :: []
def kX6_count_124 : pProg := (124, 1, a_aload 0) :: (125, 3, a_getf 0 4 27) :: (128, 1, a_iret) :: []
def kX6_count_119 : pProg := (119, 1, a_aload 0) :: (120, 3, a_callv 1 4 [0, 1, 2, 3, 4, 5, 6, 7, 8, 9, 10, 11, 12, 13, 14, 15, 16] tX6_allBeams) :: (123, 1, a_iret) :: []
def kX6_count_117 : pProg := (117, 1, a_iload 2) :: (118, 1, a_iret) :: []
def kX6_count_94 : pProg := (94, 1, a_iload 3) :: (95, 1, a_aload 0) :: (96, 3, a_getf 0 4 7) :: (99, 3, a_icmp_ge 117) :: (102, 1, a_iload 2) :: (103, 1, a_aload 0) :: (104, 3, a_getf 0 4 6) :: (107, 1, a_iload 3) :: (108, 1, a_iald 7) :: (109, 1, a_iadd) :: (110, 1, a_istore 2) :: (111, 3, a_iinc 3 1) :: (114, 3, a_goto 94) :: []
def kX6_count_92 : pProg := (92, 1, a_iconst 0) :: (93, 1, a_istore 3) :: (94, 0, a_fall 94) :: []
def kX6_count_87 : pProg := (87, 1, a_aload 0) :: (88, 3, a_callv 1 4 [0, 1, 2, 3, 4, 5, 6, 7, 8, 9, 10, 11, 12, 13, 14, 15, 16] tX6_allBruises) :: (91, 1, a_iret) :: []
def kX6_count_82 : pProg := (82, 1, a_aload 0) :: (83, 3, a_callv 1 4 [0, 1, 2, 3, 4, 5, 6, 7, 8, 9, 10, 11, 12, 13, 14, 15, 16] tX6_faces) :: (86, 1, a_iret) :: []
def kX6_count_77 : pProg := (77, 1, a_aload 0) :: (78, 3, a_getf 0 4 8) :: (81, 1, a_iret) :: []
def kX6_count_72 : pProg := (72, 1, a_aload 0) :: (73, 3, a_getf 0 4 7) :: (76, 1, a_iret) :: []
def kX6_count_21 : pProg := (21, 1, a_iconst 0) :: (22, 1, a_istore 2) :: (23, 1, a_iload 1) :: (24, 48, a_lsw [(0, 72), (1, 77), (2, 82), (3, 87), (4, 92), (5, 119), (6, 124), (7, 129)] 134) :: []
def kX6_count_0 : pProg := (0, 1, a_iload 1) :: (1, 2, a_iconst 11) :: (3, 2, a_iconst 16) :: (5, 3, a_calls 3 [] tX6_isIn) :: (8, 3, a_if_eq 21) :: (11, 1, a_aload 0) :: (12, 3, a_getf 0 4 0) :: (15, 1, a_iload 1) :: (16, 2, a_iconst 10) :: (18, 1, a_isub) :: (19, 1, a_iald 1) :: (20, 1, a_iret) :: []
set_option maxRecDepth 100000 in
theorem sX6_count_134 (l : Launch) : AllS (pSnd l rmX6_count yX6_count.cls cX6_count wsX6_count 4 (some .int)) 134 kX6_count_134 :=
  alls _ (s_bipush (by decide) dX6_count_134) <|
  alls _ (s_iret dX6_count_136) <|
  alls_nil _
set_option maxRecDepth 100000 in
theorem sX6_count_129 (l : Launch) : AllS (pSnd l rmX6_count yX6_count.cls cX6_count wsX6_count 4 (some .int)) 129 kX6_count_129 :=
  alls _ (s_aload_n rfl dX6_count_129) <|
  alls _ (s_getf (C := RX6) (T := TX6) (N := 29) rfl (in_c inX6) (by decide) (List.mem_cons_of_mem _ wd_760) rfl dX6_count_130) <|
  alls _ (s_iret dX6_count_133) <|
  alls_nil _
set_option maxRecDepth 100000 in
theorem sX6_count_124 (l : Launch) : AllS (pSnd l rmX6_count yX6_count.cls cX6_count wsX6_count 4 (some .int)) 124 kX6_count_124 :=
  alls _ (s_aload_n rfl dX6_count_124) <|
  alls _ (s_getf (C := RX6) (T := TX6) (N := 29) rfl (in_c inX6) (by decide) (List.mem_cons_of_mem _ wd_774) rfl dX6_count_125) <|
  alls _ (s_iret dX6_count_128) <|
  alls_nil _
set_option maxRecDepth 100000 in
theorem sX6_count_119 (l : Launch) : AllS (pSnd l rmX6_count yX6_count.cls cX6_count wsX6_count 4 (some .int)) 119 kX6_count_119 :=
  alls _ (s_aload_n rfl dX6_count_119) <|
  alls _ (s_callv (ct_X6_allBeams l) rfl rfl rfl (gdV wd_1124 wd_1126 wd_52 wd_65 wd_1127) rfl rfl (by decide +kernel) ⟨Nat.le_of_ble_eq_true rfl, Nat.le_of_ble_eq_true rfl⟩ dX6_count_120) <|
  alls _ (s_iret dX6_count_123) <|
  alls_nil _
set_option maxRecDepth 100000 in
theorem sX6_count_117 (l : Launch) : AllS (pSnd l rmX6_count yX6_count.cls cX6_count wsX6_count 4 (some .int)) 117 kX6_count_117 :=
  alls _ (s_iload_n rfl dX6_count_117) <|
  alls _ (s_iret dX6_count_118) <|
  alls_nil _
set_option maxRecDepth 100000 in
theorem sX6_count_94 (l : Launch) : AllS (pSnd l rmX6_count yX6_count.cls cX6_count wsX6_count 4 (some .int)) 94 kX6_count_94 :=
  alls _ (s_iload_n rfl dX6_count_94) <|
  alls _ (s_aload_n rfl dX6_count_95) <|
  alls _ (s_getf (C := RX6) (T := TX6) (N := 29) rfl (in_c inX6) (by decide) (List.mem_cons_of_mem _ wd_754) rfl dX6_count_96) <|
  alls _ (s_icmp_ge (by decide) dX6_count_99) <|
  alls _ (s_iload_n rfl dX6_count_102) <|
  alls _ (s_aload_n rfl dX6_count_103) <|
  alls _ (s_getf (C := RX6) (T := TX6) (N := 29) rfl (in_c inX6) (by decide) (List.mem_cons_of_mem _ wd_753) rfl dX6_count_104) <|
  alls _ (s_iload_n rfl dX6_count_107) <|
  alls _ (s_iald dX6_count_108) <|
  alls _ (s_iadd dX6_count_109) <|
  alls _ (s_istore_n rfl dX6_count_110) <|
  alls _ (s_iinc dX6_count_111) <|
  alls _ (s_goto (by decide) dX6_count_114) <|
  alls_nil _
set_option maxRecDepth 100000 in
theorem sX6_count_92 (l : Launch) : AllS (pSnd l rmX6_count yX6_count.cls cX6_count wsX6_count 4 (some .int)) 92 kX6_count_92 :=
  alls _ (s_iconst dX6_count_92) <|
  alls _ (s_istore_n rfl dX6_count_93) <|
  alls _ s_fall (alls_nil _)
set_option maxRecDepth 100000 in
theorem sX6_count_87 (l : Launch) : AllS (pSnd l rmX6_count yX6_count.cls cX6_count wsX6_count 4 (some .int)) 87 kX6_count_87 :=
  alls _ (s_aload_n rfl dX6_count_87) <|
  alls _ (s_callv (ct_X6_allBruises l) rfl rfl rfl (gdV wd_1032 wd_1034 wd_40 wd_65 wd_1035) rfl rfl (by decide +kernel) ⟨Nat.le_of_ble_eq_true rfl, Nat.le_of_ble_eq_true rfl⟩ dX6_count_88) <|
  alls _ (s_iret dX6_count_91) <|
  alls_nil _
set_option maxRecDepth 100000 in
theorem sX6_count_82 (l : Launch) : AllS (pSnd l rmX6_count yX6_count.cls cX6_count wsX6_count 4 (some .int)) 82 kX6_count_82 :=
  alls _ (s_aload_n rfl dX6_count_82) <|
  alls _ (s_callv (ct_X6_faces l) rfl rfl rfl (gdV wd_1198 wd_1200 wd_58 wd_65 wd_1201) rfl rfl (by decide +kernel) ⟨Nat.le_of_ble_eq_true rfl, Nat.le_of_ble_eq_true rfl⟩ dX6_count_83) <|
  alls _ (s_iret dX6_count_86) <|
  alls_nil _
set_option maxRecDepth 100000 in
theorem sX6_count_77 (l : Launch) : AllS (pSnd l rmX6_count yX6_count.cls cX6_count wsX6_count 4 (some .int)) 77 kX6_count_77 :=
  alls _ (s_aload_n rfl dX6_count_77) <|
  alls _ (s_getf (C := RX6) (T := TX6) (N := 29) rfl (in_c inX6) (by decide) (List.mem_cons_of_mem _ wd_755) rfl dX6_count_78) <|
  alls _ (s_iret dX6_count_81) <|
  alls_nil _
set_option maxRecDepth 100000 in
theorem sX6_count_72 (l : Launch) : AllS (pSnd l rmX6_count yX6_count.cls cX6_count wsX6_count 4 (some .int)) 72 kX6_count_72 :=
  alls _ (s_aload_n rfl dX6_count_72) <|
  alls _ (s_getf (C := RX6) (T := TX6) (N := 29) rfl (in_c inX6) (by decide) (List.mem_cons_of_mem _ wd_754) rfl dX6_count_73) <|
  alls _ (s_iret dX6_count_76) <|
  alls_nil _
set_option maxRecDepth 100000 in
theorem sX6_count_21 (l : Launch) : AllS (pSnd l rmX6_count yX6_count.cls cX6_count wsX6_count 4 (some .int)) 21 kX6_count_21 :=
  alls _ (s_iconst dX6_count_21) <|
  alls _ (s_istore_n rfl dX6_count_22) <|
  alls _ (s_iload_n rfl dX6_count_23) <|
  alls _ (s_tsw (by decide) (by decide) (by decide) (by decide) dX6_count_24) <|
  alls_nil _
set_option maxRecDepth 100000 in
theorem sX6_count_0 (l : Launch) : AllS (pSnd l rmX6_count yX6_count.cls cX6_count wsX6_count 4 (some .int)) 0 kX6_count_0 :=
  alls _ (s_iload_n rfl dX6_count_0) <|
  alls _ (s_bipush (by decide) dX6_count_1) <|
  alls _ (s_bipush (by decide) dX6_count_3) <|
  alls _ (s_calls (ct_X6_isIn l) rfl rfl (gdS wd_868) (List.mem_cons_of_mem _ wd_866) (List.mem_cons_of_mem _ wd_867) (List.mem_cons_of_mem _ wd_65) rfl rfl (by decide +kernel) ⟨Nat.le_of_ble_eq_true rfl, Nat.le_of_ble_eq_true rfl⟩ dX6_count_5) <|
  alls _ (s_if_eq (by decide) dX6_count_8) <|
  alls _ (s_aload_n rfl dX6_count_11) <|
  alls _ (s_getf (C := RX6) (T := TX6) (N := 29) rfl (in_c inX6) (by decide) (List.mem_cons_of_mem _ wd_747) rfl dX6_count_12) <|
  alls _ (s_iload_n rfl dX6_count_15) <|
  alls _ (s_bipush (by decide) dX6_count_16) <|
  alls _ (s_isub dX6_count_18) <|
  alls _ (s_iald dX6_count_19) <|
  alls _ (s_iret dX6_count_20) <|
  alls_nil _
def KX6_count : List (Nat × pProg) := [(0, kX6_count_0), (21, kX6_count_21), (72, kX6_count_72), (77, kX6_count_77), (82, kX6_count_82), (87, kX6_count_87), (92, kX6_count_92), (94, kX6_count_94), (117, kX6_count_117), (119, kX6_count_119), (124, kX6_count_124), (129, kX6_count_129), (134, kX6_count_134)]
theorem bX6_count_0 : blkOf KX6_count 0 = some kX6_count_0 := rfl
theorem bX6_count_21 : blkOf KX6_count 21 = some kX6_count_21 := rfl
theorem bX6_count_72 : blkOf KX6_count 72 = some kX6_count_72 := rfl
theorem bX6_count_77 : blkOf KX6_count 77 = some kX6_count_77 := rfl
theorem bX6_count_82 : blkOf KX6_count 82 = some kX6_count_82 := rfl
theorem bX6_count_87 : blkOf KX6_count 87 = some kX6_count_87 := rfl
theorem bX6_count_92 : blkOf KX6_count 92 = some kX6_count_92 := rfl
theorem bX6_count_94 : blkOf KX6_count 94 = some kX6_count_94 := rfl
theorem bX6_count_117 : blkOf KX6_count 117 = some kX6_count_117 := rfl
theorem bX6_count_119 : blkOf KX6_count 119 = some kX6_count_119 := rfl
theorem bX6_count_124 : blkOf KX6_count 124 = some kX6_count_124 := rfl
theorem bX6_count_129 : blkOf KX6_count 129 = some kX6_count_129 := rfl
theorem bX6_count_134 : blkOf KX6_count 134 = some kX6_count_134 := rfl
def tX6_count : pT := pM KX6_count 4
theorem ct_X6_count (l : Launch) : pCtr l yX6_count wsX6_count rmX6_count 2 tX6_count := ctr_of (by decide +kernel) rfl (List.forall_mem_cons.mpr ⟨sX6_count_0 l, List.forall_mem_cons.mpr ⟨sX6_count_21 l, List.forall_mem_cons.mpr ⟨sX6_count_72 l, List.forall_mem_cons.mpr ⟨sX6_count_77 l, List.forall_mem_cons.mpr ⟨sX6_count_82 l, List.forall_mem_cons.mpr ⟨sX6_count_87 l, List.forall_mem_cons.mpr ⟨sX6_count_92 l, List.forall_mem_cons.mpr ⟨sX6_count_94 l, List.forall_mem_cons.mpr ⟨sX6_count_117 l, List.forall_mem_cons.mpr ⟨sX6_count_119 l, List.forall_mem_cons.mpr ⟨sX6_count_124 l, List.forall_mem_cons.mpr ⟨sX6_count_129 l, List.forall_mem_cons.mpr ⟨sX6_count_134 l, fun _ h => absurd h List.not_mem_nil⟩⟩⟩⟩⟩⟩⟩⟩⟩⟩⟩⟩⟩)
