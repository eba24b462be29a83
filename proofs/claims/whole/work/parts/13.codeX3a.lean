theorem dX3_sizeOf_0 : decode cX3_sizeOf 0 = .ok (.iload_n 0, 1) := by decide +kernel
theorem dX3_sizeOf_1 : decode cX3_sizeOf 1 = .ok (.lookupswitch 66 #[(97, 59), (98, 59), (109, 64), (112, 61), (116, 59), (120, 64)], 59) := by decide +kernel
theorem dX3_sizeOf_60 : decode cX3_sizeOf 60 = .ok (.iconst 5, 1) := by decide +kernel
theorem dX3_sizeOf_61 : decode cX3_sizeOf 61 = .ok (.ireturn, 1) := by decide +kernel
theorem dX3_sizeOf_62 : decode cX3_sizeOf 62 = .ok (.bipush 6, 2) := by decide +kernel
theorem dX3_sizeOf_64 : decode cX3_sizeOf 64 = .ok (.ireturn, 1) := by decide +kernel
theorem dX3_sizeOf_65 : decode cX3_sizeOf 65 = .ok (.iconst 4, 1) := by decide +kernel
theorem dX3_sizeOf_66 : decode cX3_sizeOf 66 = .ok (.ireturn, 1) := by decide +kernel
theorem dX3_sizeOf_67 : decode cX3_sizeOf 67 = .ok (.iconst 0, 1) := by decide +kernel
theorem dX3_sizeOf_68 : decode cX3_sizeOf 68 = .ok (.ireturn, 1) := by decide +kernel
def rmX3_sizeOf : Room := { frames := 0, cells := 0, slots := 0, locals := 0 }
abbrev wsX3_sizeOf : List Cond := .code yX3_sizeOf cX3_sizeOf 1 (some .int) :: gw_tbl
def kX3_sizeOf_67 : pProg := (67, 1, a_iconst 0) :: (68, 1, a_iret) :: []
def kX3_sizeOf_65 : pProg := (65, 1, a_iconst 4) :: (66, 1, a_iret) :: []
def kX3_sizeOf_62 : pProg := (62, 2, a_iconst 6) :: (64, 1, a_iret) :: []
def kX3_sizeOf_60 : pProg := (60, 1, a_iconst 5) :: (61, 1, a_iret) :: []
def kX3_sizeOf_0 : pProg := (0, 1, a_iload 0) :: (1, 59, a_lsw [(97, 60), (98, 60), (109, 65), (112, 62), (116, 60), (120, 65)] 67) :: []
set_option maxRecDepth 100000 in
theorem sX3_sizeOf_67 (l : Launch) : AllS (pSnd l rmX3_sizeOf yX3_sizeOf.cls cX3_sizeOf wsX3_sizeOf 1 (some .int)) 67 kX3_sizeOf_67 :=
  alls _ (s_iconst dX3_sizeOf_67) <|
  alls _ (s_iret dX3_sizeOf_68) <|
  alls_nil _
set_option maxRecDepth 100000 in
theorem sX3_sizeOf_65 (l : Launch) : AllS (pSnd l rmX3_sizeOf yX3_sizeOf.cls cX3_sizeOf wsX3_sizeOf 1 (some .int)) 65 kX3_sizeOf_65 :=
  alls _ (s_iconst dX3_sizeOf_65) <|
  alls _ (s_iret dX3_sizeOf_66) <|
  alls_nil _
set_option maxRecDepth 100000 in
theorem sX3_sizeOf_62 (l : Launch) : AllS (pSnd l rmX3_sizeOf yX3_sizeOf.cls cX3_sizeOf wsX3_sizeOf 1 (some .int)) 62 kX3_sizeOf_62 :=
  alls _ (s_bipush (by decide) dX3_sizeOf_62) <|
  alls _ (s_iret dX3_sizeOf_64) <|
  alls_nil _
set_option maxRecDepth 100000 in
theorem sX3_sizeOf_60 (l : Launch) : AllS (pSnd l rmX3_sizeOf yX3_sizeOf.cls cX3_sizeOf wsX3_sizeOf 1 (some .int)) 60 kX3_sizeOf_60 :=
  alls _ (s_iconst dX3_sizeOf_60) <|
  alls _ (s_iret dX3_sizeOf_61) <|
  alls_nil _
set_option maxRecDepth 100000 in
theorem sX3_sizeOf_0 (l : Launch) : AllS (pSnd l rmX3_sizeOf yX3_sizeOf.cls cX3_sizeOf wsX3_sizeOf 1 (some .int)) 0 kX3_sizeOf_0 :=
  alls _ (s_iload_n rfl dX3_sizeOf_0) <|
  alls _ (s_lsw (by decide) (by decide) (by decide) dX3_sizeOf_1) <|
  alls_nil _
def KX3_sizeOf : List (Nat × pProg) := [(0, kX3_sizeOf_0), (60, kX3_sizeOf_60), (62, kX3_sizeOf_62), (65, kX3_sizeOf_65), (67, kX3_sizeOf_67)]
theorem bX3_sizeOf_0 : blkOf KX3_sizeOf 0 = some kX3_sizeOf_0 := rfl
theorem bX3_sizeOf_60 : blkOf KX3_sizeOf 60 = some kX3_sizeOf_60 := rfl
theorem bX3_sizeOf_62 : blkOf KX3_sizeOf 62 = some kX3_sizeOf_62 := rfl
theorem bX3_sizeOf_65 : blkOf KX3_sizeOf 65 = some kX3_sizeOf_65 := rfl
theorem bX3_sizeOf_67 : blkOf KX3_sizeOf 67 = some kX3_sizeOf_67 := rfl
def tX3_sizeOf : pT := pM KX3_sizeOf 1
theorem ct_X3_sizeOf (l : Launch) : pCtr l yX3_sizeOf wsX3_sizeOf rmX3_sizeOf 1 tX3_sizeOf := ctr_of (by decide +kernel) rfl (List.forall_mem_cons.mpr ⟨sX3_sizeOf_0 l, List.forall_mem_cons.mpr ⟨sX3_sizeOf_60 l, List.forall_mem_cons.mpr ⟨sX3_sizeOf_62 l, List.forall_mem_cons.mpr ⟨sX3_sizeOf_65 l, List.forall_mem_cons.mpr ⟨sX3_sizeOf_67 l, fun _ h => absurd h List.not_mem_nil⟩⟩⟩⟩⟩)
theorem dX3_fits_0 : decode cX3_fits 0 = .ok (.aload_n 0, 1) := by decide +kernel
theorem dX3_fits_1 : decode cX3_fits 1 = .ok (.iload_n 1, 1) := by decide +kernel
theorem dX3_fits_2 : decode cX3_fits 2 = .ok (.iload_n 2, 1) := by decide +kernel
theorem dX3_fits_3 : decode cX3_fits 3 = .ok (.iadd, 1) := by decide +kernel
theorem dX3_fits_4 : decode cX3_fits 4 = .ok (.invokevirtual 33, 3) := by decide +kernel
theorem dX3_fits_7 : decode cX3_fits 7 = .ok (.istore 4, 2) := by decide +kernel
theorem dX3_fits_9 : decode cX3_fits 9 = .ok (.iload_n 2, 1) := by decide +kernel
theorem dX3_fits_10 : decode cX3_fits 10 = .ok (.iload_n 3, 1) := by decide +kernel
theorem dX3_fits_11 : decode cX3_fits 11 = .ok (.iconst 1, 1) := by decide +kernel
theorem dX3_fits_12 : decode cX3_fits 12 = .ok (.isub, 1) := by decide +kernel
theorem dX3_fits_13 : decode cX3_fits 13 = .ok (.if_icmp .ne 16, 3) := by decide +kernel
theorem dX3_fits_16 : decode cX3_fits 16 = .ok (.iload 4, 2) := by decide +kernel
theorem dX3_fits_18 : decode cX3_fits 18 = .ok (.bipush 59, 2) := by decide +kernel
theorem dX3_fits_20 : decode cX3_fits 20 = .ok (.if_icmp .ne 7, 3) := by decide +kernel
theorem dX3_fits_23 : decode cX3_fits 23 = .ok (.iconst 1, 1) := by decide +kernel
theorem dX3_fits_24 : decode cX3_fits 24 = .ok (.goto 4, 3) := by decide +kernel
theorem dX3_fits_27 : decode cX3_fits 27 = .ok (.iconst 0, 1) := by decide +kernel
theorem dX3_fits_28 : decode cX3_fits 28 = .ok (.ireturn, 1) := by decide +kernel
theorem dX3_fits_29 : decode cX3_fits 29 = .ok (.aload_n 0, 1) := by decide +kernel
theorem dX3_fits_30 : decode cX3_fits 30 = .ok (.iload_n 1, 1) := by decide +kernel
theorem dX3_fits_31 : decode cX3_fits 31 = .ok (.invokevirtual 33, 3) := by decide +kernel
theorem dX3_fits_34 : decode cX3_fits 34 = .ok (.bipush 112, 2) := by decide +kernel
theorem dX3_fits_36 : decode cX3_fits 36 = .ok (.if_icmp .ne 24, 3) := by decide +kernel
theorem dX3_fits_39 : decode cX3_fits 39 = .ok (.iload_n 2, 1) := by decide +kernel
theorem dX3_fits_40 : decode cX3_fits 40 = .ok (.iconst 2, 1) := by decide +kernel
theorem dX3_fits_41 : decode cX3_fits 41 = .ok (.irem, 1) := by decide +kernel
theorem dX3_fits_42 : decode cX3_fits 42 = .ok (.iconst 1, 1) := by decide +kernel
theorem dX3_fits_43 : decode cX3_fits 43 = .ok (.if_icmp .ne 17, 3) := by decide +kernel
theorem dX3_fits_46 : decode cX3_fits 46 = .ok (.iload 4, 2) := by decide +kernel
theorem dX3_fits_48 : decode cX3_fits 48 = .ok (.invokestatic 54, 3) := by decide +kernel
theorem dX3_fits_51 : decode cX3_fits 51 = .ok (.ifCond .lt 7, 3) := by decide +kernel
theorem dX3_fits_54 : decode cX3_fits 54 = .ok (.iconst 1, 1) := by decide +kernel
theorem dX3_fits_55 : decode cX3_fits 55 = .ok (.goto 4, 3) := by decide +kernel
theorem dX3_fits_58 : decode cX3_fits 58 = .ok (.iconst 0, 1) := by decide +kernel
theorem dX3_fits_59 : decode cX3_fits 59 = .ok (.ireturn, 1) := by decide +kernel
theorem dX3_fits_60 : decode cX3_fits 60 = .ok (.iload 4, 2) := by decide +kernel
theorem dX3_fits_62 : decode cX3_fits 62 = .ok (.bipush 48, 2) := by decide +kernel
theorem dX3_fits_64 : decode cX3_fits 64 = .ok (.if_icmp .lt 14, 3) := by decide +kernel
theorem dX3_fits_67 : decode cX3_fits 67 = .ok (.iload 4, 2) := by decide +kernel
theorem dX3_fits_69 : decode cX3_fits 69 = .ok (.bipush 57, 2) := by decide +kernel
theorem dX3_fits_71 : decode cX3_fits 71 = .ok (.if_icmp .gt 7, 3) := by decide +kernel
theorem dX3_fits_74 : decode cX3_fits 74 = .ok (.iconst 1, 1) := by decide +kernel
theorem dX3_fits_75 : decode cX3_fits 75 = .ok (.goto 4, 3) := by decide +kernel
theorem dX3_fits_78 : decode cX3_fits 78 = .ok (.iconst 0, 1) := by decide +kernel
theorem dX3_fits_79 : decode cX3_fits 79 = .ok (.ireturn, 1) := by decide +kernel
def rmX3_fits : Room := { frames := 1, cells := 0, slots := 0, locals := 21 }
abbrev wsX3_fits : List Cond := .code yX3_fits cX3_fits 5 (some .boolean) :: gw_tbl
def kX3_fits_79 : pProg := (79, 1, a_zret) :: []
def kX3_fits_78 : pProg := (78, 1, a_iconst 0) :: (79, 0, a_fall 79) :: []
def kX3_fits_60 : pProg := (60, 2, a_iload 4) :: (62, 2, a_iconst 48) :: (64, 3, a_icmp_lt 78) :: (67, 2, a_iload 4) :: (69, 2, a_iconst 57) :: (71, 3, a_icmp_gt 78) :: (74, 1, a_iconst 1) :: (75, 3, a_goto 79) :: []
def kX3_fits_59 : pProg := (59, 1, a_zret) :: []
def kX3_fits_58 : pProg := (58, 1, a_iconst 0) :: (59, 0, a_fall 59) :: []
def kX3_fits_29 : pProg := (29, 1, a_aload 0) :: (30, 1, a_iload 1) :: (31, 3, a_callv 2 1 [0, 1] tX2_at) :: (34, 2, a_iconst 112) :: (36, 3, a_icmp_ne 60) :: (39, 1, a_iload 2) :: (40, 1, a_iconst 2) :: (41, 1, a_irem) :: (42, 1, a_iconst 1) :: (43, 3, a_icmp_ne 60) :: (46, 2, a_iload 4) :: (48, 3, a_calls 1 [] tX1_ofLetter) :: (51, 3, a_if_lt 58) :: (54, 1, a_iconst 1) :: (55, 3, a_goto 59) :: []
def kX3_fits_28 : pProg := (28, 1, a_zret) :: []
def kX3_fits_27 : pProg := (27, 1, a_iconst 0) :: (28, 0, a_fall 28) :: []
def kX3_fits_0 : pProg := (0, 1, a_aload 0) :: (1, 1, a_iload 1) :: (2, 1, a_iload 2) :: (3, 1, a_iadd) :: (4, 3, a_callv 2 1 [0, 1] tX2_at) :: (7, 2, a_istore 4) :: (9, 1, a_iload 2) :: (10, 1, a_iload 3) :: (11, 1, a_iconst 1) :: (12, 1, a_isub) :: (13, 3, a_icmp_ne 29) :: (16, 2, a_iload 4) :: (18, 2, a_iconst 59) :: (20, 3, a_icmp_ne 27) :: (23, 1, a_iconst 1) :: (24, 3, a_goto 28) :: []
set_option maxRecDepth 100000 in
theorem sX3_fits_79 (l : Launch) : AllS (pSnd l rmX3_fits yX3_fits.cls cX3_fits wsX3_fits 5 (some .boolean)) 79 kX3_fits_79 :=
  alls _ (s_zret dX3_fits_79) <|
  alls_nil _
set_option maxRecDepth 100000 in
theorem sX3_fits_78 (l : Launch) : AllS (pSnd l rmX3_fits yX3_fits.cls cX3_fits wsX3_fits 5 (some .boolean)) 78 kX3_fits_78 :=
  alls _ (s_iconst dX3_fits_78) <|
  alls _ s_fall (alls_nil _)
set_option maxRecDepth 100000 in
theorem sX3_fits_60 (l : Launch) : AllS (pSnd l rmX3_fits yX3_fits.cls cX3_fits wsX3_fits 5 (some .boolean)) 60 kX3_fits_60 :=
  alls _ (s_iload dX3_fits_60) <|
  alls _ (s_bipush (by decide) dX3_fits_62) <|
  alls _ (s_icmp_lt (by decide) dX3_fits_64) <|
  alls _ (s_iload dX3_fits_67) <|
  alls _ (s_bipush (by decide) dX3_fits_69) <|
  alls _ (s_icmp_gt (by decide) dX3_fits_71) <|
  alls _ (s_iconst dX3_fits_74) <|
  alls _ (s_goto (by decide) dX3_fits_75) <|
  alls_nil _
set_option maxRecDepth 100000 in
theorem sX3_fits_59 (l : Launch) : AllS (pSnd l rmX3_fits yX3_fits.cls cX3_fits wsX3_fits 5 (some .boolean)) 59 kX3_fits_59 :=
  alls _ (s_zret dX3_fits_59) <|
  alls_nil _
set_option maxRecDepth 100000 in
theorem sX3_fits_58 (l : Launch) : AllS (pSnd l rmX3_fits yX3_fits.cls cX3_fits wsX3_fits 5 (some .boolean)) 58 kX3_fits_58 :=
  alls _ (s_iconst dX3_fits_58) <|
  alls _ s_fall (alls_nil _)
set_option maxRecDepth 100000 in
theorem sX3_fits_29 (l : Launch) : AllS (pSnd l rmX3_fits yX3_fits.cls cX3_fits wsX3_fits 5 (some .boolean)) 29 kX3_fits_29 :=
  alls _ (s_aload_n rfl dX3_fits_29) <|
  alls _ (s_iload_n rfl dX3_fits_30) <|
  alls _ (s_callv (ct_X2_at l) rfl rfl rfl (gdV wd_195 wd_196 wd_197 wd_63 wd_198) rfl rfl (by decide +kernel) ⟨Nat.le_of_ble_eq_true rfl, Nat.le_of_ble_eq_true rfl⟩ dX3_fits_31) <|
  alls _ (s_bipush (by decide) dX3_fits_34) <|
  alls _ (s_icmp_ne (by decide) dX3_fits_36) <|
  alls _ (s_iload_n rfl dX3_fits_39) <|
  alls _ (s_iconst dX3_fits_40) <|
  alls _ (s_irem dX3_fits_41) <|
  alls _ (s_iconst dX3_fits_42) <|
  alls _ (s_icmp_ne (by decide) dX3_fits_43) <|
  alls _ (s_iload dX3_fits_46) <|
  alls _ (s_calls (ct_X1_ofLetter l) rfl rfl (gdS wd_207) (List.mem_cons_of_mem _ wd_205) (List.mem_cons_of_mem _ wd_206) (List.mem_cons_of_mem _ wd_67) rfl rfl (by decide +kernel) ⟨Nat.le_of_ble_eq_true rfl, Nat.le_of_ble_eq_true rfl⟩ dX3_fits_48) <|
  alls _ (s_if_lt (by decide) dX3_fits_51) <|
  alls _ (s_iconst dX3_fits_54) <|
  alls _ (s_goto (by decide) dX3_fits_55) <|
  alls_nil _
set_option maxRecDepth 100000 in
theorem sX3_fits_28 (l : Launch) : AllS (pSnd l rmX3_fits yX3_fits.cls cX3_fits wsX3_fits 5 (some .boolean)) 28 kX3_fits_28 :=
  alls _ (s_zret dX3_fits_28) <|
  alls_nil _
set_option maxRecDepth 100000 in
theorem sX3_fits_27 (l : Launch) : AllS (pSnd l rmX3_fits yX3_fits.cls cX3_fits wsX3_fits 5 (some .boolean)) 27 kX3_fits_27 :=
  alls _ (s_iconst dX3_fits_27) <|
  alls _ s_fall (alls_nil _)
set_option maxRecDepth 100000 in
theorem sX3_fits_0 (l : Launch) : AllS (pSnd l rmX3_fits yX3_fits.cls cX3_fits wsX3_fits 5 (some .boolean)) 0 kX3_fits_0 :=
  alls _ (s_aload_n rfl dX3_fits_0) <|
  alls _ (s_iload_n rfl dX3_fits_1) <|
  alls _ (s_iload_n rfl dX3_fits_2) <|
  alls _ (s_iadd dX3_fits_3) <|
  alls _ (s_callv (ct_X2_at l) rfl rfl rfl (gdV wd_195 wd_196 wd_197 wd_63 wd_198) rfl rfl (by decide +kernel) ⟨Nat.le_of_ble_eq_true rfl, Nat.le_of_ble_eq_true rfl⟩ dX3_fits_4) <|
  alls _ (s_istore dX3_fits_7) <|
  alls _ (s_iload_n rfl dX3_fits_9) <|
  alls _ (s_iload_n rfl dX3_fits_10) <|
  alls _ (s_iconst dX3_fits_11) <|
  alls _ (s_isub dX3_fits_12) <|
  alls _ (s_icmp_ne (by decide) dX3_fits_13) <|
  alls _ (s_iload dX3_fits_16) <|
  alls _ (s_bipush (by decide) dX3_fits_18) <|
  alls _ (s_icmp_ne (by decide) dX3_fits_20) <|
  alls _ (s_iconst dX3_fits_23) <|
  alls _ (s_goto (by decide) dX3_fits_24) <|
  alls_nil _
def KX3_fits : List (Nat × pProg) := [(0, kX3_fits_0), (27, kX3_fits_27), (28, kX3_fits_28), (29, kX3_fits_29), (58, kX3_fits_58), (59, kX3_fits_59), (60, kX3_fits_60), (78, kX3_fits_78), (79, kX3_fits_79)]
theorem bX3_fits_0 : blkOf KX3_fits 0 = some kX3_fits_0 := rfl
theorem bX3_fits_27 : blkOf KX3_fits 27 = some kX3_fits_27 := rfl
theorem bX3_fits_28 : blkOf KX3_fits 28 = some kX3_fits_28 := rfl
theorem bX3_fits_29 : blkOf KX3_fits 29 = some kX3_fits_29 := rfl
theorem bX3_fits_58 : blkOf KX3_fits 58 = some kX3_fits_58 := rfl
theorem bX3_fits_59 : blkOf KX3_fits 59 = some kX3_fits_59 := rfl
theorem bX3_fits_60 : blkOf KX3_fits 60 = some kX3_fits_60 := rfl
theorem bX3_fits_78 : blkOf KX3_fits 78 = some kX3_fits_78 := rfl
theorem bX3_fits_79 : blkOf KX3_fits 79 = some kX3_fits_79 := rfl
def tX3_fits : pT := pM KX3_fits 5
theorem ct_X3_fits (l : Launch) : pCtr l yX3_fits wsX3_fits rmX3_fits 4 tX3_fits := ctr_of (by decide +kernel) rfl (List.forall_mem_cons.mpr ⟨sX3_fits_0 l, List.forall_mem_cons.mpr ⟨sX3_fits_27 l, List.forall_mem_cons.mpr ⟨sX3_fits_28 l, List.forall_mem_cons.mpr ⟨sX3_fits_29 l, List.forall_mem_cons.mpr ⟨sX3_fits_58 l, List.forall_mem_cons.mpr ⟨sX3_fits_59 l, List.forall_mem_cons.mpr ⟨sX3_fits_60 l, List.forall_mem_cons.mpr ⟨sX3_fits_78 l, List.forall_mem_cons.mpr ⟨sX3_fits_79 l, fun _ h => absurd h List.not_mem_nil⟩⟩⟩⟩⟩⟩⟩⟩⟩)
theorem dX3_brokenAt_0 : decode cX3_brokenAt 0 = .ok (.aload_n 0, 1) := by decide +kernel
theorem dX3_brokenAt_1 : decode cX3_brokenAt 1 = .ok (.invokevirtual 28, 3) := by decide +kernel
theorem dX3_brokenAt_4 : decode cX3_brokenAt 4 = .ok (.ifCond .ne 5, 3) := by decide +kernel
theorem dX3_brokenAt_7 : decode cX3_brokenAt 7 = .ok (.iconst 0, 1) := by decide +kernel
theorem dX3_brokenAt_8 : decode cX3_brokenAt 8 = .ok (.ireturn, 1) := by decide +kernel
theorem dX3_brokenAt_9 : decode cX3_brokenAt 9 = .ok (.iconst 1, 1) := by decide +kernel
theorem dX3_brokenAt_10 : decode cX3_brokenAt 10 = .ok (.istore_n 1, 1) := by decide +kernel
theorem dX3_brokenAt_11 : decode cX3_brokenAt 11 = .ok (.iconst 0, 1) := by decide +kernel
theorem dX3_brokenAt_12 : decode cX3_brokenAt 12 = .ok (.istore_n 2, 1) := by decide +kernel
theorem dX3_brokenAt_13 : decode cX3_brokenAt 13 = .ok (.iload_n 2, 1) := by decide +kernel
theorem dX3_brokenAt_14 : decode cX3_brokenAt 14 = .ok (.aload_n 0, 1) := by decide +kernel
theorem dX3_brokenAt_15 : decode cX3_brokenAt 15 = .ok (.invokevirtual 28, 3) := by decide +kernel
theorem dX3_brokenAt_18 : decode cX3_brokenAt 18 = .ok (.if_icmp .ge 53, 3) := by decide +kernel
theorem dX3_brokenAt_21 : decode cX3_brokenAt 21 = .ok (.aload_n 0, 1) := by decide +kernel
theorem dX3_brokenAt_22 : decode cX3_brokenAt 22 = .ok (.iload_n 2, 1) := by decide +kernel
theorem dX3_brokenAt_23 : decode cX3_brokenAt 23 = .ok (.invokevirtual 33, 3) := by decide +kernel
theorem dX3_brokenAt_26 : decode cX3_brokenAt 26 = .ok (.invokestatic 37, 3) := by decide +kernel
theorem dX3_brokenAt_29 : decode cX3_brokenAt 29 = .ok (.istore_n 1, 1) := by decide +kernel
theorem dX3_brokenAt_30 : decode cX3_brokenAt 30 = .ok (.iload_n 1, 1) := by decide +kernel
theorem dX3_brokenAt_31 : decode cX3_brokenAt 31 = .ok (.iconst 1, 1) := by decide +kernel
theorem dX3_brokenAt_32 : decode cX3_brokenAt 32 = .ok (.if_icmp .ge 5, 3) := by decide +kernel
theorem dX3_brokenAt_35 : decode cX3_brokenAt 35 = .ok (.iload_n 2, 1) := by decide +kernel
theorem dX3_brokenAt_36 : decode cX3_brokenAt 36 = .ok (.ireturn, 1) := by decide +kernel
theorem dX3_brokenAt_37 : decode cX3_brokenAt 37 = .ok (.iconst 1, 1) := by decide +kernel
theorem dX3_brokenAt_38 : decode cX3_brokenAt 38 = .ok (.istore_n 3, 1) := by decide +kernel
theorem dX3_brokenAt_39 : decode cX3_brokenAt 39 = .ok (.iload_n 3, 1) := by decide +kernel
theorem dX3_brokenAt_40 : decode cX3_brokenAt 40 = .ok (.iload_n 1, 1) := by decide +kernel
theorem dX3_brokenAt_41 : decode cX3_brokenAt 41 = .ok (.if_icmp .ge 23, 3) := by decide +kernel
theorem dX3_brokenAt_44 : decode cX3_brokenAt 44 = .ok (.aload_n 0, 1) := by decide +kernel
theorem dX3_brokenAt_45 : decode cX3_brokenAt 45 = .ok (.iload_n 2, 1) := by decide +kernel
theorem dX3_brokenAt_46 : decode cX3_brokenAt 46 = .ok (.iload_n 3, 1) := by decide +kernel
theorem dX3_brokenAt_47 : decode cX3_brokenAt 47 = .ok (.iload_n 1, 1) := by decide +kernel
theorem dX3_brokenAt_48 : decode cX3_brokenAt 48 = .ok (.invokestatic 50, 3) := by decide +kernel
theorem dX3_brokenAt_51 : decode cX3_brokenAt 51 = .ok (.ifCond .ne 7, 3) := by decide +kernel
theorem dX3_brokenAt_54 : decode cX3_brokenAt 54 = .ok (.iload_n 2, 1) := by decide +kernel
theorem dX3_brokenAt_55 : decode cX3_brokenAt 55 = .ok (.iload_n 3, 1) := by decide +kernel
theorem dX3_brokenAt_56 : decode cX3_brokenAt 56 = .ok (.iadd, 1) := by decide +kernel
theorem dX3_brokenAt_57 : decode cX3_brokenAt 57 = .ok (.ireturn, 1) := by decide +kernel
theorem dX3_brokenAt_58 : decode cX3_brokenAt 58 = .ok (.iinc 3 1, 3) := by decide +kernel
theorem dX3_brokenAt_61 : decode cX3_brokenAt 61 = .ok (.goto (-22), 3) := by decide +kernel
theorem dX3_brokenAt_64 : decode cX3_brokenAt 64 = .ok (.iload_n 2, 1) := by decide +kernel
theorem dX3_brokenAt_65 : decode cX3_brokenAt 65 = .ok (.iload_n 1, 1) := by decide +kernel
theorem dX3_brokenAt_66 : decode cX3_brokenAt 66 = .ok (.iadd, 1) := by decide +kernel
theorem dX3_brokenAt_67 : decode cX3_brokenAt 67 = .ok (.istore_n 2, 1) := by decide +kernel
theorem dX3_brokenAt_68 : decode cX3_brokenAt 68 = .ok (.goto (-55), 3) := by decide +kernel
theorem dX3_brokenAt_71 : decode cX3_brokenAt 71 = .ok (.bipush (-9), 2) := by decide +kernel
theorem dX3_brokenAt_73 : decode cX3_brokenAt 73 = .ok (.ireturn, 1) := by decide +kernel
def rmX3_brokenAt : Room := { frames := 2, cells := 0, slots := 0, locals := 45 }
abbrev wsX3_brokenAt : List Cond := .code yX3_brokenAt cX3_brokenAt 4 (some .int) :: gw_tbl
def kX3_brokenAt_71 : pProg := (71, 2, a_iconst (-9)) :: (73, 1, a_iret) :: []
def kX3_brokenAt_64 : pProg := (64, 1, a_iload 2) :: (65, 1, a_iload 1) :: (66, 1, a_iadd) :: (67, 1, a_istore 2) :: (68, 3, a_goto 13) :: []
def kX3_brokenAt_58 : pProg := (58, 3, a_iinc 3 1) :: (61, 3, a_goto 39) :: []
def kX3_brokenAt_39 : pProg := (39, 1, a_iload 3) :: (40, 1, a_iload 1) :: (41, 3, a_icmp_ge 64) :: (44, 1, a_aload 0) :: (45, 1, a_iload 2) :: (46, 1, a_iload 3) :: (47, 1, a_iload 1) :: (48, 3, a_calls 4 [0, 1] tX3_fits) :: (51, 3, a_if_ne 58) :: (54, 1, a_iload 2) :: (55, 1, a_iload 3) :: (56, 1, a_iadd) :: (57, 1, a_iret) :: []
def kX3_brokenAt_37 : pProg := (37, 1, a_iconst 1) :: (38, 1, a_istore 3) :: (39, 0, a_fall 39) :: []
def kX3_brokenAt_13 : pProg := (13, 1, a_iload 2) :: (14, 1, a_aload 0) :: (15, 3, a_callv 1 1 [0, 1] tX2_size) :: (18, 3, a_icmp_ge 71) :: (21, 1, a_aload 0) :: (22, 1, a_iload 2) :: (23, 3, a_callv 2 1 [0, 1] tX2_at) :: (26, 3, a_calls 1 [] tX3_sizeOf) :: (29, 1, a_istore 1) :: (30, 1, a_iload 1) :: (31, 1, a_iconst 1) :: (32, 3, a_icmp_ge 37) :: (35, 1, a_iload 2) :: (36, 1, a_iret) :: []
def kX3_brokenAt_9 : pProg := (9, 1, a_iconst 1) :: (10, 1, a_istore 1) :: (11, 1, a_iconst 0) :: (12, 1, a_istore 2) :: (13, 0, a_fall 13) :: []
def kX3_brokenAt_0 : pProg := (0, 1, a_aload 0) :: (1, 3, a_callv 1 1 [0, 1] tX2_size) :: (4, 3, a_if_ne 9) :: (7, 1, a_iconst 0) :: (8, 1, a_iret) :: []
set_option maxRecDepth 100000 in
theorem sX3_brokenAt_71 (l : Launch) : AllS (pSnd l rmX3_brokenAt yX3_brokenAt.cls cX3_brokenAt wsX3_brokenAt 4 (some .int)) 71 kX3_brokenAt_71 :=
  alls _ (s_bipush (by decide) dX3_brokenAt_71) <|
  alls _ (s_iret dX3_brokenAt_73) <|
  alls_nil _
set_option maxRecDepth 100000 in
theorem sX3_brokenAt_64 (l : Launch) : AllS (pSnd l rmX3_brokenAt yX3_brokenAt.cls cX3_brokenAt wsX3_brokenAt 4 (some .int)) 64 kX3_brokenAt_64 :=
  alls _ (s_iload_n rfl dX3_brokenAt_64) <|
  alls _ (s_iload_n rfl dX3_brokenAt_65) <|
  alls _ (s_iadd dX3_brokenAt_66) <|
  alls _ (s_istore_n rfl dX3_brokenAt_67) <|
  alls _ (s_goto (by decide) dX3_brokenAt_68) <|
  alls_nil _
set_option maxRecDepth 100000 in
theorem sX3_brokenAt_58 (l : Launch) : AllS (pSnd l rmX3_brokenAt yX3_brokenAt.cls cX3_brokenAt wsX3_brokenAt 4 (some .int)) 58 kX3_brokenAt_58 :=
  alls _ (s_iinc dX3_brokenAt_58) <|
  alls _ (s_goto (by decide) dX3_brokenAt_61) <|
  alls_nil _
set_option maxRecDepth 100000 in
theorem sX3_brokenAt_39 (l : Launch) : AllS (pSnd l rmX3_brokenAt yX3_brokenAt.cls cX3_brokenAt wsX3_brokenAt 4 (some .int)) 39 kX3_brokenAt_39 :=
  alls _ (s_iload_n rfl dX3_brokenAt_39) <|
  alls _ (s_iload_n rfl dX3_brokenAt_40) <|
  alls _ (s_icmp_ge (by decide) dX3_brokenAt_41) <|
  alls _ (s_aload_n rfl dX3_brokenAt_44) <|
  alls _ (s_iload_n rfl dX3_brokenAt_45) <|
  alls _ (s_iload_n rfl dX3_brokenAt_46) <|
  alls _ (s_iload_n rfl dX3_brokenAt_47) <|
  alls _ (s_calls (ct_X3_fits l) rfl rfl (gdS wd_204) (List.mem_cons_of_mem _ wd_202) (List.mem_cons_of_mem _ wd_203) (List.mem_cons_of_mem _ wd_66) rfl rfl (by decide +kernel) ⟨Nat.le_of_ble_eq_true rfl, Nat.le_of_ble_eq_true rfl⟩ dX3_brokenAt_48) <|
  alls _ (s_if_ne (by decide) dX3_brokenAt_51) <|
  alls _ (s_iload_n rfl dX3_brokenAt_54) <|
  alls _ (s_iload_n rfl dX3_brokenAt_55) <|
  alls _ (s_iadd dX3_brokenAt_56) <|
  alls _ (s_iret dX3_brokenAt_57) <|
  alls_nil _
set_option maxRecDepth 100000 in
theorem sX3_brokenAt_37 (l : Launch) : AllS (pSnd l rmX3_brokenAt yX3_brokenAt.cls cX3_brokenAt wsX3_brokenAt 4 (some .int)) 37 kX3_brokenAt_37 :=
  alls _ (s_iconst dX3_brokenAt_37) <|
  alls _ (s_istore_n rfl dX3_brokenAt_38) <|
  alls _ s_fall (alls_nil _)
set_option maxRecDepth 100000 in
theorem sX3_brokenAt_13 (l : Launch) : AllS (pSnd l rmX3_brokenAt yX3_brokenAt.cls cX3_brokenAt wsX3_brokenAt 4 (some .int)) 13 kX3_brokenAt_13 :=
  alls _ (s_iload_n rfl dX3_brokenAt_13) <|
  alls _ (s_aload_n rfl dX3_brokenAt_14) <|
  alls _ (s_callv (ct_X2_size l) rfl rfl rfl (gdV wd_191 wd_192 wd_193 wd_63 wd_194) rfl rfl (by decide +kernel) ⟨Nat.le_of_ble_eq_true rfl, Nat.le_of_ble_eq_true rfl⟩ dX3_brokenAt_15) <|
  alls _ (s_icmp_ge (by decide) dX3_brokenAt_18) <|
  alls _ (s_aload_n rfl dX3_brokenAt_21) <|
  alls _ (s_iload_n rfl dX3_brokenAt_22) <|
  alls _ (s_callv (ct_X2_at l) rfl rfl rfl (gdV wd_195 wd_196 wd_197 wd_63 wd_198) rfl rfl (by decide +kernel) ⟨Nat.le_of_ble_eq_true rfl, Nat.le_of_ble_eq_true rfl⟩ dX3_brokenAt_23) <|
  alls _ (s_calls (ct_X3_sizeOf l) rfl rfl (gdS wd_201) (List.mem_cons_of_mem _ wd_199) (List.mem_cons_of_mem _ wd_200) (List.mem_cons_of_mem _ wd_66) rfl rfl (by decide +kernel) ⟨Nat.le_of_ble_eq_true rfl, Nat.le_of_ble_eq_true rfl⟩ dX3_brokenAt_26) <|
  alls _ (s_istore_n rfl dX3_brokenAt_29) <|
  alls _ (s_iload_n rfl dX3_brokenAt_30) <|
  alls _ (s_iconst dX3_brokenAt_31) <|
  alls _ (s_icmp_ge (by decide) dX3_brokenAt_32) <|
  alls _ (s_iload_n rfl dX3_brokenAt_35) <|
  alls _ (s_iret dX3_brokenAt_36) <|
  alls_nil _
set_option maxRecDepth 100000 in
theorem sX3_brokenAt_9 (l : Launch) : AllS (pSnd l rmX3_brokenAt yX3_brokenAt.cls cX3_brokenAt wsX3_brokenAt 4 (some .int)) 9 kX3_brokenAt_9 :=
  alls _ (s_iconst dX3_brokenAt_9) <|
  alls _ (s_istore_n rfl dX3_brokenAt_10) <|
  alls _ (s_iconst dX3_brokenAt_11) <|
  alls _ (s_istore_n rfl dX3_brokenAt_12) <|
  alls _ s_fall (alls_nil _)
set_option maxRecDepth 100000 in
theorem sX3_brokenAt_0 (l : Launch) : AllS (pSnd l rmX3_brokenAt yX3_brokenAt.cls cX3_brokenAt wsX3_brokenAt 4 (some .int)) 0 kX3_brokenAt_0 :=
  alls _ (s_aload_n rfl dX3_brokenAt_0) <|
  alls _ (s_callv (ct_X2_size l) rfl rfl rfl (gdV wd_191 wd_192 wd_193 wd_63 wd_194) rfl rfl (by decide +kernel) ⟨Nat.le_of_ble_eq_true rfl, Nat.le_of_ble_eq_true rfl⟩ dX3_brokenAt_1) <|
  alls _ (s_if_ne (by decide) dX3_brokenAt_4) <|
  alls _ (s_iconst dX3_brokenAt_7) <|
  alls _ (s_iret dX3_brokenAt_8) <|
  alls_nil _
def KX3_brokenAt : List (Nat × pProg) := [(0, kX3_brokenAt_0), (9, kX3_brokenAt_9), (13, kX3_brokenAt_13), (37, kX3_brokenAt_37), (39, kX3_brokenAt_39), (58, kX3_brokenAt_58), (64, kX3_brokenAt_64), (71, kX3_brokenAt_71)]
theorem bX3_brokenAt_0 : blkOf KX3_brokenAt 0 = some kX3_brokenAt_0 := rfl
theorem bX3_brokenAt_9 : blkOf KX3_brokenAt 9 = some kX3_brokenAt_9 := rfl
theorem bX3_brokenAt_13 : blkOf KX3_brokenAt 13 = some kX3_brokenAt_13 := rfl
theorem bX3_brokenAt_37 : blkOf KX3_brokenAt 37 = some kX3_brokenAt_37 := rfl
theorem bX3_brokenAt_39 : blkOf KX3_brokenAt 39 = some kX3_brokenAt_39 := rfl
theorem bX3_brokenAt_58 : blkOf KX3_brokenAt 58 = some kX3_brokenAt_58 := rfl
theorem bX3_brokenAt_64 : blkOf KX3_brokenAt 64 = some kX3_brokenAt_64 := rfl
theorem bX3_brokenAt_71 : blkOf KX3_brokenAt 71 = some kX3_brokenAt_71 := rfl
def tX3_brokenAt : pT := pM KX3_brokenAt 4
theorem ct_X3_brokenAt (l : Launch) : pCtr l yX3_brokenAt wsX3_brokenAt rmX3_brokenAt 1 tX3_brokenAt := ctr_of (by decide +kernel) rfl (List.forall_mem_cons.mpr ⟨sX3_brokenAt_0 l, List.forall_mem_cons.mpr ⟨sX3_brokenAt_9 l, List.forall_mem_cons.mpr ⟨sX3_brokenAt_13 l, List.forall_mem_cons.mpr ⟨sX3_brokenAt_37 l, List.forall_mem_cons.mpr ⟨sX3_brokenAt_39 l, List.forall_mem_cons.mpr ⟨sX3_brokenAt_58 l, List.forall_mem_cons.mpr ⟨sX3_brokenAt_64 l, List.forall_mem_cons.mpr ⟨sX3_brokenAt_71 l, fun _ h => absurd h List.not_mem_nil⟩⟩⟩⟩⟩⟩⟩⟩)
theorem dX3_digit_0 : decode cX3_digit 0 = .ok (.aload_n 0, 1) := by decide +kernel
theorem dX3_digit_1 : decode cX3_digit 1 = .ok (.iload_n 1, 1) := by decide +kernel
theorem dX3_digit_2 : decode cX3_digit 2 = .ok (.invokevirtual 33, 3) := by decide +kernel
theorem dX3_digit_5 : decode cX3_digit 5 = .ok (.bipush 48, 2) := by decide +kernel
theorem dX3_digit_7 : decode cX3_digit 7 = .ok (.isub, 1) := by decide +kernel
theorem dX3_digit_8 : decode cX3_digit 8 = .ok (.ireturn, 1) := by decide +kernel
def rmX3_digit : Room := { frames := 1, cells := 0, slots := 0, locals := 21 }
abbrev wsX3_digit : List Cond := .code yX3_digit cX3_digit 2 (some .int) :: gw_tbl
def kX3_digit_0 : pProg := (0, 1, a_aload 0) :: (1, 1, a_iload 1) :: (2, 3, a_callv 2 1 [0, 1] tX2_at) :: (5, 2, a_iconst 48) :: (7, 1, a_isub) :: (8, 1, a_iret) :: []
set_option maxRecDepth 100000 in
theorem sX3_digit_0 (l : Launch) : AllS (pSnd l rmX3_digit yX3_digit.cls cX3_digit wsX3_digit 2 (some .int)) 0 kX3_digit_0 :=
  alls _ (s_aload_n rfl dX3_digit_0) <|
  alls _ (s_iload_n rfl dX3_digit_1) <|
  alls _ (s_callv (ct_X2_at l) rfl rfl rfl (gdV wd_195 wd_196 wd_197 wd_63 wd_198) rfl rfl (by decide +kernel) ⟨Nat.le_of_ble_eq_true rfl, Nat.le_of_ble_eq_true rfl⟩ dX3_digit_2) <|
  alls _ (s_bipush (by decide) dX3_digit_5) <|
  alls _ (s_isub dX3_digit_7) <|
  alls _ (s_iret dX3_digit_8) <|
  alls_nil _
def KX3_digit : List (Nat × pProg) := [(0, kX3_digit_0)]
theorem bX3_digit_0 : blkOf KX3_digit 0 = some kX3_digit_0 := rfl
def tX3_digit : pT := pM KX3_digit 2
theorem ct_X3_digit (l : Launch) : pCtr l yX3_digit wsX3_digit rmX3_digit 2 tX3_digit := ctr_of (by decide +kernel) rfl (List.forall_mem_cons.mpr ⟨sX3_digit_0 l, fun _ h => absurd h List.not_mem_nil⟩)
theorem dX3_twoDigits_0 : decode cX3_twoDigits 0 = .ok (.bipush 10, 2) := by decide +kernel
theorem dX3_twoDigits_2 : decode cX3_twoDigits 2 = .ok (.aload_n 0, 1) := by decide +kernel
theorem dX3_twoDigits_3 : decode cX3_twoDigits 3 = .ok (.iload_n 1, 1) := by decide +kernel
theorem dX3_twoDigits_4 : decode cX3_twoDigits 4 = .ok (.invokestatic 66, 3) := by decide +kernel
theorem dX3_twoDigits_7 : decode cX3_twoDigits 7 = .ok (.imul, 1) := by decide +kernel
theorem dX3_twoDigits_8 : decode cX3_twoDigits 8 = .ok (.aload_n 0, 1) := by decide +kernel
theorem dX3_twoDigits_9 : decode cX3_twoDigits 9 = .ok (.iload_n 1, 1) := by decide +kernel
theorem dX3_twoDigits_10 : decode cX3_twoDigits 10 = .ok (.iconst 1, 1) := by decide +kernel
theorem dX3_twoDigits_11 : decode cX3_twoDigits 11 = .ok (.iadd, 1) := by decide +kernel
theorem dX3_twoDigits_12 : decode cX3_twoDigits 12 = .ok (.invokestatic 66, 3) := by decide +kernel
theorem dX3_twoDigits_15 : decode cX3_twoDigits 15 = .ok (.iadd, 1) := by decide +kernel
theorem dX3_twoDigits_16 : decode cX3_twoDigits 16 = .ok (.ireturn, 1) := by decide +kernel
def rmX3_twoDigits : Room := { frames := 2, cells := 0, slots := 0, locals := 42 }
abbrev wsX3_twoDigits : List Cond := .code yX3_twoDigits cX3_twoDigits 2 (some .int) :: gw_tbl
def kX3_twoDigits_0 : pProg := (0, 2, a_iconst 10) :: (2, 1, a_aload 0) :: (3, 1, a_iload 1) :: (4, 3, a_calls 2 [0, 1] tX3_digit) :: (7, 1, a_imul) :: (8, 1, a_aload 0) :: (9, 1, a_iload 1) :: (10, 1, a_iconst 1) :: (11, 1, a_iadd) :: (12, 3, a_calls 2 [0, 1] tX3_digit) :: (15, 1, a_iadd) :: (16, 1, a_iret) :: []
set_option maxRecDepth 100000 in
theorem sX3_twoDigits_0 (l : Launch) : AllS (pSnd l rmX3_twoDigits yX3_twoDigits.cls cX3_twoDigits wsX3_twoDigits 2 (some .int)) 0 kX3_twoDigits_0 :=
  alls _ (s_bipush (by decide) dX3_twoDigits_0) <|
  alls _ (s_aload_n rfl dX3_twoDigits_2) <|
  alls _ (s_iload_n rfl dX3_twoDigits_3) <|
  alls _ (s_calls (ct_X3_digit l) rfl rfl (gdS wd_224) (List.mem_cons_of_mem _ wd_222) (List.mem_cons_of_mem _ wd_223) (List.mem_cons_of_mem _ wd_66) rfl rfl (by decide +kernel) ⟨Nat.le_of_ble_eq_true rfl, Nat.le_of_ble_eq_true rfl⟩ dX3_twoDigits_4) <|
  alls _ (s_imul dX3_twoDigits_7) <|
  alls _ (s_aload_n rfl dX3_twoDigits_8) <|
  alls _ (s_iload_n rfl dX3_twoDigits_9) <|
  alls _ (s_iconst dX3_twoDigits_10) <|
  alls _ (s_iadd dX3_twoDigits_11) <|
  alls _ (s_calls (ct_X3_digit l) rfl rfl (gdS wd_224) (List.mem_cons_of_mem _ wd_222) (List.mem_cons_of_mem _ wd_223) (List.mem_cons_of_mem _ wd_66) rfl rfl (by decide +kernel) ⟨Nat.le_of_ble_eq_true rfl, Nat.le_of_ble_eq_true rfl⟩ dX3_twoDigits_12) <|
  alls _ (s_iadd dX3_twoDigits_15) <|
  alls _ (s_iret dX3_twoDigits_16) <|
  alls_nil _
def KX3_twoDigits : List (Nat × pProg) := [(0, kX3_twoDigits_0)]
theorem bX3_twoDigits_0 : blkOf KX3_twoDigits 0 = some kX3_twoDigits_0 := rfl
def tX3_twoDigits : pT := pM KX3_twoDigits 2
theorem ct_X3_twoDigits (l : Launch) : pCtr l yX3_twoDigits wsX3_twoDigits rmX3_twoDigits 2 tX3_twoDigits := ctr_of (by decide +kernel) rfl (List.forall_mem_cons.mpr ⟨sX3_twoDigits_0 l, fun _ h => absurd h List.not_mem_nil⟩)
theorem dX3_isRight_0 : decode cX3_isRight 0 = .ok (.aload_n 0, 1) := by decide +kernel
theorem dX3_isRight_1 : decode cX3_isRight 1 = .ok (.iload_n 1, 1) := by decide +kernel
theorem dX3_isRight_2 : decode cX3_isRight 2 = .ok (.iconst 1, 1) := by decide +kernel
theorem dX3_isRight_3 : decode cX3_isRight 3 = .ok (.iadd, 1) := by decide +kernel
theorem dX3_isRight_4 : decode cX3_isRight 4 = .ok (.invokestatic 66, 3) := by decide +kernel
theorem dX3_isRight_7 : decode cX3_isRight 7 = .ok (.istore 4, 2) := by decide +kernel
theorem dX3_isRight_9 : decode cX3_isRight 9 = .ok (.aload_n 0, 1) := by decide +kernel
theorem dX3_isRight_10 : decode cX3_isRight 10 = .ok (.iload_n 1, 1) := by decide +kernel
theorem dX3_isRight_11 : decode cX3_isRight 11 = .ok (.iconst 2, 1) := by decide +kernel
theorem dX3_isRight_12 : decode cX3_isRight 12 = .ok (.iadd, 1) := by decide +kernel
theorem dX3_isRight_13 : decode cX3_isRight 13 = .ok (.invokestatic 66, 3) := by decide +kernel
theorem dX3_isRight_16 : decode cX3_isRight 16 = .ok (.istore 5, 2) := by decide +kernel
theorem dX3_isRight_18 : decode cX3_isRight 18 = .ok (.aload_n 0, 1) := by decide +kernel
theorem dX3_isRight_19 : decode cX3_isRight 19 = .ok (.iload_n 1, 1) := by decide +kernel
theorem dX3_isRight_20 : decode cX3_isRight 20 = .ok (.invokevirtual 33, 3) := by decide +kernel
theorem dX3_isRight_23 : decode cX3_isRight 23 = .ok (.lookupswitch 200 #[(97, 97), (98, 57), (109, 162), (112, 86), (116, 121), (120, 133)], 57) := by decide +kernel
theorem dX3_isRight_80 : decode cX3_isRight 80 = .ok (.aload_n 0, 1) := by decide +kernel
theorem dX3_isRight_81 : decode cX3_isRight 81 = .ok (.iload_n 1, 1) := by decide +kernel
theorem dX3_isRight_82 : decode cX3_isRight 82 = .ok (.iconst 1, 1) := by decide +kernel
theorem dX3_isRight_83 : decode cX3_isRight 83 = .ok (.iadd, 1) := by decide +kernel
theorem dX3_isRight_84 : decode cX3_isRight 84 = .ok (.invokestatic 62, 3) := by decide +kernel
theorem dX3_isRight_87 : decode cX3_isRight 87 = .ok (.bipush 20, 2) := by decide +kernel
theorem dX3_isRight_89 : decode cX3_isRight 89 = .ok (.if_icmp .ge 18, 3) := by decide +kernel
theorem dX3_isRight_92 : decode cX3_isRight 92 = .ok (.aload_n 0, 1) := by decide +kernel
theorem dX3_isRight_93 : decode cX3_isRight 93 = .ok (.iload_n 1, 1) := by decide +kernel
theorem dX3_isRight_94 : decode cX3_isRight 94 = .ok (.iconst 3, 1) := by decide +kernel
theorem dX3_isRight_95 : decode cX3_isRight 95 = .ok (.iadd, 1) := by decide +kernel
theorem dX3_isRight_96 : decode cX3_isRight 96 = .ok (.invokestatic 66, 3) := by decide +kernel
theorem dX3_isRight_99 : decode cX3_isRight 99 = .ok (.iconst 3, 1) := by decide +kernel
theorem dX3_isRight_100 : decode cX3_isRight 100 = .ok (.if_icmp .gt 7, 3) := by decide +kernel
theorem dX3_isRight_103 : decode cX3_isRight 103 = .ok (.iconst 1, 1) := by decide +kernel
theorem dX3_isRight_104 : decode cX3_isRight 104 = .ok (.goto 4, 3) := by decide +kernel
theorem dX3_isRight_107 : decode cX3_isRight 107 = .ok (.iconst 0, 1) := by decide +kernel
theorem dX3_isRight_108 : decode cX3_isRight 108 = .ok (.ireturn, 1) := by decide +kernel
theorem dX3_isRight_109 : decode cX3_isRight 109 = .ok (.iload_n 2, 1) := by decide +kernel
theorem dX3_isRight_110 : decode cX3_isRight 110 = .ok (.iconst 4, 1) := by decide +kernel
theorem dX3_isRight_111 : decode cX3_isRight 111 = .ok (.if_icmp .ge 7, 3) := by decide +kernel
theorem dX3_isRight_114 : decode cX3_isRight 114 = .ok (.iconst 1, 1) := by decide +kernel
theorem dX3_isRight_115 : decode cX3_isRight 115 = .ok (.goto 4, 3) := by decide +kernel
theorem dX3_isRight_118 : decode cX3_isRight 118 = .ok (.iconst 0, 1) := by decide +kernel
theorem dX3_isRight_119 : decode cX3_isRight 119 = .ok (.ireturn, 1) := by decide +kernel
theorem dX3_isRight_120 : decode cX3_isRight 120 = .ok (.iload 4, 2) := by decide +kernel
theorem dX3_isRight_122 : decode cX3_isRight 122 = .ok (.iload_n 2, 1) := by decide +kernel
theorem dX3_isRight_123 : decode cX3_isRight 123 = .ok (.if_icmp .ge 19, 3) := by decide +kernel
theorem dX3_isRight_126 : decode cX3_isRight 126 = .ok (.aload_n 0, 1) := by decide +kernel
theorem dX3_isRight_127 : decode cX3_isRight 127 = .ok (.iload_n 1, 1) := by decide +kernel
theorem dX3_isRight_128 : decode cX3_isRight 128 = .ok (.iconst 2, 1) := by decide +kernel
theorem dX3_isRight_129 : decode cX3_isRight 129 = .ok (.iadd, 1) := by decide +kernel
theorem dX3_isRight_130 : decode cX3_isRight 130 = .ok (.invokestatic 62, 3) := by decide +kernel
theorem dX3_isRight_133 : decode cX3_isRight 133 = .ok (.bipush 20, 2) := by decide +kernel
theorem dX3_isRight_135 : decode cX3_isRight 135 = .ok (.if_icmp .ge 7, 3) := by decide +kernel
theorem dX3_isRight_138 : decode cX3_isRight 138 = .ok (.iconst 1, 1) := by decide +kernel
theorem dX3_isRight_139 : decode cX3_isRight 139 = .ok (.goto 4, 3) := by decide +kernel
theorem dX3_isRight_142 : decode cX3_isRight 142 = .ok (.iconst 0, 1) := by decide +kernel
theorem dX3_isRight_143 : decode cX3_isRight 143 = .ok (.ireturn, 1) := by decide +kernel
theorem dX3_isRight_144 : decode cX3_isRight 144 = .ok (.iload 4, 2) := by decide +kernel
theorem dX3_isRight_146 : decode cX3_isRight 146 = .ok (.iload_n 2, 1) := by decide +kernel
theorem dX3_isRight_147 : decode cX3_isRight 147 = .ok (.if_icmp .ge 7, 3) := by decide +kernel
theorem dX3_isRight_150 : decode cX3_isRight 150 = .ok (.iconst 1, 1) := by decide +kernel
theorem dX3_isRight_151 : decode cX3_isRight 151 = .ok (.goto 4, 3) := by decide +kernel
theorem dX3_isRight_154 : decode cX3_isRight 154 = .ok (.iconst 0, 1) := by decide +kernel
theorem dX3_isRight_155 : decode cX3_isRight 155 = .ok (.ireturn, 1) := by decide +kernel
theorem dX3_isRight_156 : decode cX3_isRight 156 = .ok (.iload 4, 2) := by decide +kernel
theorem dX3_isRight_158 : decode cX3_isRight 158 = .ok (.iconst 2, 1) := by decide +kernel
theorem dX3_isRight_159 : decode cX3_isRight 159 = .ok (.iload_n 2, 1) := by decide +kernel
theorem dX3_isRight_160 : decode cX3_isRight 160 = .ok (.imul, 1) := by decide +kernel
theorem dX3_isRight_161 : decode cX3_isRight 161 = .ok (.if_icmp .ge 22, 3) := by decide +kernel
theorem dX3_isRight_164 : decode cX3_isRight 164 = .ok (.iload 5, 2) := by decide +kernel
theorem dX3_isRight_166 : decode cX3_isRight 166 = .ok (.iconst 2, 1) := by decide +kernel
theorem dX3_isRight_167 : decode cX3_isRight 167 = .ok (.iload_n 2, 1) := by decide +kernel
theorem dX3_isRight_168 : decode cX3_isRight 168 = .ok (.imul, 1) := by decide +kernel
theorem dX3_isRight_169 : decode cX3_isRight 169 = .ok (.if_icmp .ge 14, 3) := by decide +kernel
theorem dX3_isRight_172 : decode cX3_isRight 172 = .ok (.iload 4, 2) := by decide +kernel
theorem dX3_isRight_174 : decode cX3_isRight 174 = .ok (.iload 5, 2) := by decide +kernel
theorem dX3_isRight_176 : decode cX3_isRight 176 = .ok (.if_icmp .eq 7, 3) := by decide +kernel
theorem dX3_isRight_179 : decode cX3_isRight 179 = .ok (.iconst 1, 1) := by decide +kernel
theorem dX3_isRight_180 : decode cX3_isRight 180 = .ok (.goto 4, 3) := by decide +kernel
theorem dX3_isRight_183 : decode cX3_isRight 183 = .ok (.iconst 0, 1) := by decide +kernel
theorem dX3_isRight_184 : decode cX3_isRight 184 = .ok (.ireturn, 1) := by decide +kernel
theorem dX3_isRight_185 : decode cX3_isRight 185 = .ok (.aload_n 0, 1) := by decide +kernel
theorem dX3_isRight_186 : decode cX3_isRight 186 = .ok (.iload_n 1, 1) := by decide +kernel
theorem dX3_isRight_187 : decode cX3_isRight 187 = .ok (.iconst 1, 1) := by decide +kernel
theorem dX3_isRight_188 : decode cX3_isRight 188 = .ok (.iadd, 1) := by decide +kernel
theorem dX3_isRight_189 : decode cX3_isRight 189 = .ok (.invokestatic 62, 3) := by decide +kernel
theorem dX3_isRight_192 : decode cX3_isRight 192 = .ok (.istore 6, 2) := by decide +kernel
theorem dX3_isRight_194 : decode cX3_isRight 194 = .ok (.iload 6, 2) := by decide +kernel
theorem dX3_isRight_196 : decode cX3_isRight 196 = .ok (.iconst 1, 1) := by decide +kernel
theorem dX3_isRight_197 : decode cX3_isRight 197 = .ok (.if_icmp .lt 24, 3) := by decide +kernel
theorem dX3_isRight_200 : decode cX3_isRight 200 = .ok (.iload 6, 2) := by decide +kernel
theorem dX3_isRight_202 : decode cX3_isRight 202 = .ok (.bipush 60, 2) := by decide +kernel
theorem dX3_isRight_204 : decode cX3_isRight 204 = .ok (.if_icmp .gt 17, 3) := by decide +kernel
theorem dX3_isRight_207 : decode cX3_isRight 207 = .ok (.iload_n 3, 1) := by decide +kernel
theorem dX3_isRight_208 : decode cX3_isRight 208 = .ok (.iload 6, 2) := by decide +kernel
theorem dX3_isRight_210 : decode cX3_isRight 210 = .ok (.iadd, 1) := by decide +kernel
theorem dX3_isRight_211 : decode cX3_isRight 211 = .ok (.sipush 999, 3) := by decide +kernel
theorem dX3_isRight_214 : decode cX3_isRight 214 = .ok (.if_icmp .gt 7, 3) := by decide +kernel
theorem dX3_isRight_217 : decode cX3_isRight 217 = .ok (.iconst 1, 1) := by decide +kernel
theorem dX3_isRight_218 : decode cX3_isRight 218 = .ok (.goto 4, 3) := by decide +kernel
theorem dX3_isRight_221 : decode cX3_isRight 221 = .ok (.iconst 0, 1) := by decide +kernel
theorem dX3_isRight_222 : decode cX3_isRight 222 = .ok (.ireturn, 1) := by decide +kernel
theorem dX3_isRight_223 : decode cX3_isRight 223 = .ok (.iconst 0, 1) := by decide +kernel
theorem dX3_isRight_224 : decode cX3_isRight 224 = .ok (.ireturn, 1) := by decide +kernel
def rmX3_isRight : Room := { frames := 3, cells := 0, slots := 0, locals := 63 }
abbrev wsX3_isRight : List Cond := .code yX3_isRight cX3_isRight 7 (some .boolean) :: gw_tbl
def kX3_isRight_223 : pProg := (223, 1, a_iconst 0) :: (224, 1, a_zret) :: []
def kX3_isRight_222 : pProg := (222, 1, a_zret) :: []
def kX3_isRight_221 : pProg := (221, 1, a_iconst 0) :: (222, 0, a_fall 222) :: []
def kX3_isRight_185 : pProg := (185, 1, a_aload 0) :: (186, 1, a_iload 1) :: (187, 1, a_iconst 1) :: (188, 1, a_iadd) :: (189, 3, a_calls 2 [0, 1] tX3_twoDigits) :: (192, 2, a_istore 6) :: (194, 2, a_iload 6) :: (196, 1, a_iconst 1) :: (197, 3, a_icmp_lt 221) :: (200, 2, a_iload 6) :: (202, 2, a_iconst 60) :: (204, 3, a_icmp_gt 221) :: (207, 1, a_iload 3) :: (208, 2, a_iload 6) :: (210, 1, a_iadd) :: (211, 3, a_iconst 999) :: (214, 3, a_icmp_gt 221) :: (217, 1, a_iconst 1) :: (218, 3, a_goto 222) :: []
def kX3_isRight_184 : pProg := (184, 1, a_zret) :: []
def kX3_isRight_183 : pProg := (183, 1, a_iconst 0) :: (184, 0, a_fall 184) :: []
def kX3_isRight_156 : pProg := (156, 2, a_iload 4) :: (158, 1, a_iconst 2) :: (159, 1, a_iload 2) :: (160, 1, a_imul) :: (161, 3, a_icmp_ge 183) :: (164, 2, a_iload 5) :: (166, 1, a_iconst 2) :: (167, 1, a_iload 2) :: (168, 1, a_imul) :: (169, 3, a_icmp_ge 183) :: (172, 2, a_iload 4) :: (174, 2, a_iload 5) :: (176, 3, a_icmp_eq 183) :: (179, 1, a_iconst 1) :: (180, 3, a_goto 184) :: []
def kX3_isRight_155 : pProg := (155, 1, a_zret) :: []
def kX3_isRight_154 : pProg := (154, 1, a_iconst 0) :: (155, 0, a_fall 155) :: []
def kX3_isRight_144 : pProg := (144, 2, a_iload 4) :: (146, 1, a_iload 2) :: (147, 3, a_icmp_ge 154) :: (150, 1, a_iconst 1) :: (151, 3, a_goto 155) :: []
def kX3_isRight_143 : pProg := (143, 1, a_zret) :: []
def kX3_isRight_142 : pProg := (142, 1, a_iconst 0) :: (143, 0, a_fall 143) :: []
def kX3_isRight_120 : pProg := (120, 2, a_iload 4) :: (122, 1, a_iload 2) :: (123, 3, a_icmp_ge 142) :: (126, 1, a_aload 0) :: (127, 1, a_iload 1) :: (128, 1, a_iconst 2) :: (129, 1, a_iadd) :: (130, 3, a_calls 2 [0, 1] tX3_twoDigits) :: (133, 2, a_iconst 20) :: (135, 3, a_icmp_ge 142) :: (138, 1, a_iconst 1) :: (139, 3, a_goto 143) :: []
def kX3_isRight_119 : pProg := (119, 1, a_zret) :: []
def kX3_isRight_118 : pProg := (118, 1, a_iconst 0) :: (119, 0, a_fall 119) :: []
def kX3_isRight_109 : pProg := (109, 1, a_iload 2) :: (110, 1, a_iconst 4) :: (111, 3, a_icmp_ge 118) :: (114, 1, a_iconst 1) :: (115, 3, a_goto 119) :: []
def kX3_isRight_108 : pProg := (108, 1, a_zret) :: []
def kX3_isRight_107 : pProg := (107, 1, a_iconst 0) :: (108, 0, a_fall 108) :: []
def kX3_isRight_80 : pProg := (80, 1, a_aload 0) :: (81, 1, a_iload 1) :: (82, 1, a_iconst 1) :: (83, 1, a_iadd) :: (84, 3, a_calls 2 [0, 1] tX3_twoDigits) :: (87, 2, a_iconst 20) :: (89, 3, a_icmp_ge 107) :: (92, 1, a_aload 0) :: (93, 1, a_iload 1) :: (94, 1, a_iconst 3) :: (95, 1, a_iadd) :: (96, 3, a_calls 2 [0, 1] tX3_digit) :: (99, 1, a_iconst 3) :: (100, 3, a_icmp_gt 107) :: (103, 1, a_iconst 1) :: (104, 3, a_goto 108) :: []
def kX3_isRight_0 : pProg := (0, 1, a_aload 0) :: (1, 1, a_iload 1) :: (2, 1, a_iconst 1) :: (3, 1, a_iadd) :: (4, 3, a_calls 2 [0, 1] tX3_digit) :: (7, 2, a_istore 4) :: (9, 1, a_aload 0) :: (10, 1, a_iload 1) :: (11, 1, a_iconst 2) :: (12, 1, a_iadd) :: (13, 3, a_calls 2 [0, 1] tX3_digit) :: (16, 2, a_istore 5) :: (18, 1, a_aload 0) :: (19, 1, a_iload 1) :: (20, 3, a_callv 2 1 [0, 1] tX2_at) :: (23, 57, a_lsw [(97, 120), (98, 80), (109, 185), (112, 109), (116, 144), (120, 156)] 223) :: []
set_option maxRecDepth 100000 in
theorem sX3_isRight_223 (l : Launch) : AllS (pSnd l rmX3_isRight yX3_isRight.cls cX3_isRight wsX3_isRight 7 (some .boolean)) 223 kX3_isRight_223 :=
  alls _ (s_iconst dX3_isRight_223) <|
  alls _ (s_zret dX3_isRight_224) <|
  alls_nil _
set_option maxRecDepth 100000 in
theorem sX3_isRight_222 (l : Launch) : AllS (pSnd l rmX3_isRight yX3_isRight.cls cX3_isRight wsX3_isRight 7 (some .boolean)) 222 kX3_isRight_222 :=
  alls _ (s_zret dX3_isRight_222) <|
  alls_nil _
set_option maxRecDepth 100000 in
theorem sX3_isRight_221 (l : Launch) : AllS (pSnd l rmX3_isRight yX3_isRight.cls cX3_isRight wsX3_isRight 7 (some .boolean)) 221 kX3_isRight_221 :=
  alls _ (s_iconst dX3_isRight_221) <|
  alls _ s_fall (alls_nil _)
set_option maxRecDepth 100000 in
theorem sX3_isRight_185 (l : Launch) : AllS (pSnd l rmX3_isRight yX3_isRight.cls cX3_isRight wsX3_isRight 7 (some .boolean)) 185 kX3_isRight_185 :=
  alls _ (s_aload_n rfl dX3_isRight_185) <|
  alls _ (s_iload_n rfl dX3_isRight_186) <|
  alls _ (s_iconst dX3_isRight_187) <|
  alls _ (s_iadd dX3_isRight_188) <|
  alls _ (s_calls (ct_X3_twoDigits l) rfl rfl (gdS wd_227) (List.mem_cons_of_mem _ wd_225) (List.mem_cons_of_mem _ wd_226) (List.mem_cons_of_mem _ wd_66) rfl rfl (by decide +kernel) ⟨Nat.le_of_ble_eq_true rfl, Nat.le_of_ble_eq_true rfl⟩ dX3_isRight_189) <|
  alls _ (s_istore dX3_isRight_192) <|
  alls _ (s_iload dX3_isRight_194) <|
  alls _ (s_iconst dX3_isRight_196) <|
  alls _ (s_icmp_lt (by decide) dX3_isRight_197) <|
  alls _ (s_iload dX3_isRight_200) <|
  alls _ (s_bipush (by decide) dX3_isRight_202) <|
  alls _ (s_icmp_gt (by decide) dX3_isRight_204) <|
  alls _ (s_iload_n rfl dX3_isRight_207) <|
  alls _ (s_iload dX3_isRight_208) <|
  alls _ (s_iadd dX3_isRight_210) <|
  alls _ (s_sipush (by decide) dX3_isRight_211) <|
  alls _ (s_icmp_gt (by decide) dX3_isRight_214) <|
  alls _ (s_iconst dX3_isRight_217) <|
  alls _ (s_goto (by decide) dX3_isRight_218) <|
  alls_nil _
set_option maxRecDepth 100000 in
theorem sX3_isRight_184 (l : Launch) : AllS (pSnd l rmX3_isRight yX3_isRight.cls cX3_isRight wsX3_isRight 7 (some .boolean)) 184 kX3_isRight_184 :=
  alls _ (s_zret dX3_isRight_184) <|
  alls_nil _
set_option maxRecDepth 100000 in
theorem sX3_isRight_183 (l : Launch) : AllS (pSnd l rmX3_isRight yX3_isRight.cls cX3_isRight wsX3_isRight 7 (some .boolean)) 183 kX3_isRight_183 :=
  alls _ (s_iconst dX3_isRight_183) <|
  alls _ s_fall (alls_nil _)
set_option maxRecDepth 100000 in
theorem sX3_isRight_156 (l : Launch) : AllS (pSnd l rmX3_isRight yX3_isRight.cls cX3_isRight wsX3_isRight 7 (some .boolean)) 156 kX3_isRight_156 :=
  alls _ (s_iload dX3_isRight_156) <|
  alls _ (s_iconst dX3_isRight_158) <|
  alls _ (s_iload_n rfl dX3_isRight_159) <|
  alls _ (s_imul dX3_isRight_160) <|
  alls _ (s_icmp_ge (by decide) dX3_isRight_161) <|
  alls _ (s_iload dX3_isRight_164) <|
  alls _ (s_iconst dX3_isRight_166) <|
  alls _ (s_iload_n rfl dX3_isRight_167) <|
  alls _ (s_imul dX3_isRight_168) <|
  alls _ (s_icmp_ge (by decide) dX3_isRight_169) <|
  alls _ (s_iload dX3_isRight_172) <|
  alls _ (s_iload dX3_isRight_174) <|
  alls _ (s_icmp_eq (by decide) dX3_isRight_176) <|
  alls _ (s_iconst dX3_isRight_179) <|
  alls _ (s_goto (by decide) dX3_isRight_180) <|
  alls_nil _
set_option maxRecDepth 100000 in
theorem sX3_isRight_155 (l : Launch) : AllS (pSnd l rmX3_isRight yX3_isRight.cls cX3_isRight wsX3_isRight 7 (some .boolean)) 155 kX3_isRight_155 :=
  alls _ (s_zret dX3_isRight_155) <|
  alls_nil _
set_option maxRecDepth 100000 in
theorem sX3_isRight_154 (l : Launch) : AllS (pSnd l rmX3_isRight yX3_isRight.cls cX3_isRight wsX3_isRight 7 (some .boolean)) 154 kX3_isRight_154 :=
  alls _ (s_iconst dX3_isRight_154) <|
  alls _ s_fall (alls_nil _)
set_option maxRecDepth 100000 in
theorem sX3_isRight_144 (l : Launch) : AllS (pSnd l rmX3_isRight yX3_isRight.cls cX3_isRight wsX3_isRight 7 (some .boolean)) 144 kX3_isRight_144 :=
  alls _ (s_iload dX3_isRight_144) <|
  alls _ (s_iload_n rfl dX3_isRight_146) <|
  alls _ (s_icmp_ge (by decide) dX3_isRight_147) <|
  alls _ (s_iconst dX3_isRight_150) <|
  alls _ (s_goto (by decide) dX3_isRight_151) <|
  alls_nil _
set_option maxRecDepth 100000 in
theorem sX3_isRight_143 (l : Launch) : AllS (pSnd l rmX3_isRight yX3_isRight.cls cX3_isRight wsX3_isRight 7 (some .boolean)) 143 kX3_isRight_143 :=
  alls _ (s_zret dX3_isRight_143) <|
  alls_nil _
set_option maxRecDepth 100000 in
theorem sX3_isRight_142 (l : Launch) : AllS (pSnd l rmX3_isRight yX3_isRight.cls cX3_isRight wsX3_isRight 7 (some .boolean)) 142 kX3_isRight_142 :=
  alls _ (s_iconst dX3_isRight_142) <|
  alls _ s_fall (alls_nil _)
set_option maxRecDepth 100000 in
theorem sX3_isRight_120 (l : Launch) : AllS (pSnd l rmX3_isRight yX3_isRight.cls cX3_isRight wsX3_isRight 7 (some .boolean)) 120 kX3_isRight_120 :=
  alls _ (s_iload dX3_isRight_120) <|
  alls _ (s_iload_n rfl dX3_isRight_122) <|
  alls _ (s_icmp_ge (by decide) dX3_isRight_123) <|
  alls _ (s_aload_n rfl dX3_isRight_126) <|
  alls _ (s_iload_n rfl dX3_isRight_127) <|
  alls _ (s_iconst dX3_isRight_128) <|
  alls _ (s_iadd dX3_isRight_129) <|
  alls _ (s_calls (ct_X3_twoDigits l) rfl rfl (gdS wd_227) (List.mem_cons_of_mem _ wd_225) (List.mem_cons_of_mem _ wd_226) (List.mem_cons_of_mem _ wd_66) rfl rfl (by decide +kernel) ⟨Nat.le_of_ble_eq_true rfl, Nat.le_of_ble_eq_true rfl⟩ dX3_isRight_130) <|
  alls _ (s_bipush (by decide) dX3_isRight_133) <|
  alls _ (s_icmp_ge (by decide) dX3_isRight_135) <|
  alls _ (s_iconst dX3_isRight_138) <|
  alls _ (s_goto (by decide) dX3_isRight_139) <|
  alls_nil _
set_option maxRecDepth 100000 in
theorem sX3_isRight_119 (l : Launch) : AllS (pSnd l rmX3_isRight yX3_isRight.cls cX3_isRight wsX3_isRight 7 (some .boolean)) 119 kX3_isRight_119 :=
  alls _ (s_zret dX3_isRight_119) <|
  alls_nil _
set_option maxRecDepth 100000 in
theorem sX3_isRight_118 (l : Launch) : AllS (pSnd l rmX3_isRight yX3_isRight.cls cX3_isRight wsX3_isRight 7 (some .boolean)) 118 kX3_isRight_118 :=
  alls _ (s_iconst dX3_isRight_118) <|
  alls _ s_fall (alls_nil _)
set_option maxRecDepth 100000 in
theorem sX3_isRight_109 (l : Launch) : AllS (pSnd l rmX3_isRight yX3_isRight.cls cX3_isRight wsX3_isRight 7 (some .boolean)) 109 kX3_isRight_109 :=
  alls _ (s_iload_n rfl dX3_isRight_109) <|
  alls _ (s_iconst dX3_isRight_110) <|
  alls _ (s_icmp_ge (by decide) dX3_isRight_111) <|
  alls _ (s_iconst dX3_isRight_114) <|
  alls _ (s_goto (by decide) dX3_isRight_115) <|
  alls_nil _
set_option maxRecDepth 100000 in
theorem sX3_isRight_108 (l : Launch) : AllS (pSnd l rmX3_isRight yX3_isRight.cls cX3_isRight wsX3_isRight 7 (some .boolean)) 108 kX3_isRight_108 :=
  alls _ (s_zret dX3_isRight_108) <|
  alls_nil _
set_option maxRecDepth 100000 in
theorem sX3_isRight_107 (l : Launch) : AllS (pSnd l rmX3_isRight yX3_isRight.cls cX3_isRight wsX3_isRight 7 (some .boolean)) 107 kX3_isRight_107 :=
  alls _ (s_iconst dX3_isRight_107) <|
  alls _ s_fall (alls_nil _)
set_option maxRecDepth 100000 in
theorem sX3_isRight_80 (l : Launch) : AllS (pSnd l rmX3_isRight yX3_isRight.cls cX3_isRight wsX3_isRight 7 (some .boolean)) 80 kX3_isRight_80 :=
  alls _ (s_aload_n rfl dX3_isRight_80) <|
  alls _ (s_iload_n rfl dX3_isRight_81) <|
  alls _ (s_iconst dX3_isRight_82) <|
  alls _ (s_iadd dX3_isRight_83) <|
  alls _ (s_calls (ct_X3_twoDigits l) rfl rfl (gdS wd_227) (List.mem_cons_of_mem _ wd_225) (List.mem_cons_of_mem _ wd_226) (List.mem_cons_of_mem _ wd_66) rfl rfl (by decide +kernel) ⟨Nat.le_of_ble_eq_true rfl, Nat.le_of_ble_eq_true rfl⟩ dX3_isRight_84) <|
  alls _ (s_bipush (by decide) dX3_isRight_87) <|
  alls _ (s_icmp_ge (by decide) dX3_isRight_89) <|
  alls _ (s_aload_n rfl dX3_isRight_92) <|
  alls _ (s_iload_n rfl dX3_isRight_93) <|
  alls _ (s_iconst dX3_isRight_94) <|
  alls _ (s_iadd dX3_isRight_95) <|
  alls _ (s_calls (ct_X3_digit l) rfl rfl (gdS wd_224) (List.mem_cons_of_mem _ wd_222) (List.mem_cons_of_mem _ wd_223) (List.mem_cons_of_mem _ wd_66) rfl rfl (by decide +kernel) ⟨Nat.le_of_ble_eq_true rfl, Nat.le_of_ble_eq_true rfl⟩ dX3_isRight_96) <|
  alls _ (s_iconst dX3_isRight_99) <|
  alls _ (s_icmp_gt (by decide) dX3_isRight_100) <|
  alls _ (s_iconst dX3_isRight_103) <|
  alls _ (s_goto (by decide) dX3_isRight_104) <|
  alls_nil _
set_option maxRecDepth 100000 in
theorem sX3_isRight_0 (l : Launch) : AllS (pSnd l rmX3_isRight yX3_isRight.cls cX3_isRight wsX3_isRight 7 (some .boolean)) 0 kX3_isRight_0 :=
  alls _ (s_aload_n rfl dX3_isRight_0) <|
  alls _ (s_iload_n rfl dX3_isRight_1) <|
  alls _ (s_iconst dX3_isRight_2) <|
  alls _ (s_iadd dX3_isRight_3) <|
  alls _ (s_calls (ct_X3_digit l) rfl rfl (gdS wd_224) (List.mem_cons_of_mem _ wd_222) (List.mem_cons_of_mem _ wd_223) (List.mem_cons_of_mem _ wd_66) rfl rfl (by decide +kernel) ⟨Nat.le_of_ble_eq_true rfl, Nat.le_of_ble_eq_true rfl⟩ dX3_isRight_4) <|
  alls _ (s_istore dX3_isRight_7) <|
  alls _ (s_aload_n rfl dX3_isRight_9) <|
  alls _ (s_iload_n rfl dX3_isRight_10) <|
  alls _ (s_iconst dX3_isRight_11) <|
  alls _ (s_iadd dX3_isRight_12) <|
  alls _ (s_calls (ct_X3_digit l) rfl rfl (gdS wd_224) (List.mem_cons_of_mem _ wd_222) (List.mem_cons_of_mem _ wd_223) (List.mem_cons_of_mem _ wd_66) rfl rfl (by decide +kernel) ⟨Nat.le_of_ble_eq_true rfl, Nat.le_of_ble_eq_true rfl⟩ dX3_isRight_13) <|
  alls _ (s_istore dX3_isRight_16) <|
  alls _ (s_aload_n rfl dX3_isRight_18) <|
  alls _ (s_iload_n rfl dX3_isRight_19) <|
  alls _ (s_callv (ct_X2_at l) rfl rfl rfl (gdV wd_195 wd_196 wd_197 wd_63 wd_198) rfl rfl (by decide +kernel) ⟨Nat.le_of_ble_eq_true rfl, Nat.le_of_ble_eq_true rfl⟩ dX3_isRight_20) <|
  alls _ (s_lsw (by decide) (by decide) (by decide) dX3_isRight_23) <|
  alls_nil _
def KX3_isRight : List (Nat × pProg) := [(0, kX3_isRight_0), (80, kX3_isRight_80), (107, kX3_isRight_107), (108, kX3_isRight_108), (109, kX3_isRight_109), (118, kX3_isRight_118), (119, kX3_isRight_119), (120, kX3_isRight_120), (142, kX3_isRight_142), (143, kX3_isRight_143), (144, kX3_isRight_144), (154, kX3_isRight_154), (155, kX3_isRight_155), (156, kX3_isRight_156), (183, kX3_isRight_183), (184, kX3_isRight_184), (185, kX3_isRight_185), (221, kX3_isRight_221), (222, kX3_isRight_222), (223, kX3_isRight_223)]
theorem bX3_isRight_0 : blkOf KX3_isRight 0 = some kX3_isRight_0 := rfl
theorem bX3_isRight_80 : blkOf KX3_isRight 80 = some kX3_isRight_80 := rfl
theorem bX3_isRight_107 : blkOf KX3_isRight 107 = some kX3_isRight_107 := rfl
theorem bX3_isRight_108 : blkOf KX3_isRight 108 = some kX3_isRight_108 := rfl
theorem bX3_isRight_109 : blkOf KX3_isRight 109 = some kX3_isRight_109 := rfl
theorem bX3_isRight_118 : blkOf KX3_isRight 118 = some kX3_isRight_118 := rfl
theorem bX3_isRight_119 : blkOf KX3_isRight 119 = some kX3_isRight_119 := rfl
theorem bX3_isRight_120 : blkOf KX3_isRight 120 = some kX3_isRight_120 := rfl
theorem bX3_isRight_142 : blkOf KX3_isRight 142 = some kX3_isRight_142 := rfl
theorem bX3_isRight_143 : blkOf KX3_isRight 143 = some kX3_isRight_143 := rfl
theorem bX3_isRight_144 : blkOf KX3_isRight 144 = some kX3_isRight_144 := rfl
theorem bX3_isRight_154 : blkOf KX3_isRight 154 = some kX3_isRight_154 := rfl
theorem bX3_isRight_155 : blkOf KX3_isRight 155 = some kX3_isRight_155 := rfl
theorem bX3_isRight_156 : blkOf KX3_isRight 156 = some kX3_isRight_156 := rfl
theorem bX3_isRight_183 : blkOf KX3_isRight 183 = some kX3_isRight_183 := rfl
theorem bX3_isRight_184 : blkOf KX3_isRight 184 = some kX3_isRight_184 := rfl
theorem bX3_isRight_185 : blkOf KX3_isRight 185 = some kX3_isRight_185 := rfl
theorem bX3_isRight_221 : blkOf KX3_isRight 221 = some kX3_isRight_221 := rfl
theorem bX3_isRight_222 : blkOf KX3_isRight 222 = some kX3_isRight_222 := rfl
theorem bX3_isRight_223 : blkOf KX3_isRight 223 = some kX3_isRight_223 := rfl
def tX3_isRight : pT := pM KX3_isRight 7
theorem ct_X3_isRight (l : Launch) : pCtr l yX3_isRight wsX3_isRight rmX3_isRight 4 tX3_isRight := ctr_of (by decide +kernel) rfl (List.forall_mem_cons.mpr ⟨sX3_isRight_0 l, List.forall_mem_cons.mpr ⟨sX3_isRight_80 l, List.forall_mem_cons.mpr ⟨sX3_isRight_107 l, List.forall_mem_cons.mpr ⟨sX3_isRight_108 l, List.forall_mem_cons.mpr ⟨sX3_isRight_109 l, List.forall_mem_cons.mpr ⟨sX3_isRight_118 l, List.forall_mem_cons.mpr ⟨sX3_isRight_119 l, List.forall_mem_cons.mpr ⟨sX3_isRight_120 l, List.forall_mem_cons.mpr ⟨sX3_isRight_142 l, List.forall_mem_cons.mpr ⟨sX3_isRight_143 l, List.forall_mem_cons.mpr ⟨sX3_isRight_144 l, List.forall_mem_cons.mpr ⟨sX3_isRight_154 l, List.forall_mem_cons.mpr ⟨sX3_isRight_155 l, List.forall_mem_cons.mpr ⟨sX3_isRight_156 l, List.forall_mem_cons.mpr ⟨sX3_isRight_183 l, List.forall_mem_cons.mpr ⟨sX3_isRight_184 l, List.forall_mem_cons.mpr ⟨sX3_isRight_185 l, List.forall_mem_cons.mpr ⟨sX3_isRight_221 l, List.forall_mem_cons.mpr ⟨sX3_isRight_222 l, List.forall_mem_cons.mpr ⟨sX3_isRight_223 l, fun _ h => absurd h List.not_mem_nil⟩⟩⟩⟩⟩⟩⟩⟩⟩⟩⟩⟩⟩⟩⟩⟩⟩⟩⟩⟩)
theorem dX3_wrongAt_0 : decode cX3_wrongAt 0 = .ok (.iload_n 1, 1) := by decide +kernel
theorem dX3_wrongAt_1 : decode cX3_wrongAt 1 = .ok (.istore_n 3, 1) := by decide +kernel
theorem dX3_wrongAt_2 : decode cX3_wrongAt 2 = .ok (.iload_n 2, 1) := by decide +kernel
theorem dX3_wrongAt_3 : decode cX3_wrongAt 3 = .ok (.istore 4, 2) := by decide +kernel
theorem dX3_wrongAt_5 : decode cX3_wrongAt 5 = .ok (.iconst 1, 1) := by decide +kernel
theorem dX3_wrongAt_6 : decode cX3_wrongAt 6 = .ok (.istore 5, 2) := by decide +kernel
theorem dX3_wrongAt_8 : decode cX3_wrongAt 8 = .ok (.iconst 0, 1) := by decide +kernel
theorem dX3_wrongAt_9 : decode cX3_wrongAt 9 = .ok (.istore 6, 2) := by decide +kernel
theorem dX3_wrongAt_11 : decode cX3_wrongAt 11 = .ok (.iload 6, 2) := by decide +kernel
theorem dX3_wrongAt_13 : decode cX3_wrongAt 13 = .ok (.aload_n 0, 1) := by decide +kernel
theorem dX3_wrongAt_14 : decode cX3_wrongAt 14 = .ok (.invokevirtual 28, 3) := by decide +kernel
theorem dX3_wrongAt_17 : decode cX3_wrongAt 17 = .ok (.if_icmp .ge 92, 3) := by decide +kernel
theorem dX3_wrongAt_20 : decode cX3_wrongAt 20 = .ok (.aload_n 0, 1) := by decide +kernel
theorem dX3_wrongAt_21 : decode cX3_wrongAt 21 = .ok (.iload 6, 2) := by decide +kernel
theorem dX3_wrongAt_23 : decode cX3_wrongAt 23 = .ok (.invokevirtual 33, 3) := by decide +kernel
theorem dX3_wrongAt_26 : decode cX3_wrongAt 26 = .ok (.invokestatic 37, 3) := by decide +kernel
theorem dX3_wrongAt_29 : decode cX3_wrongAt 29 = .ok (.istore 5, 2) := by decide +kernel
theorem dX3_wrongAt_31 : decode cX3_wrongAt 31 = .ok (.iload 5, 2) := by decide +kernel
theorem dX3_wrongAt_33 : decode cX3_wrongAt 33 = .ok (.iconst 1, 1) := by decide +kernel
theorem dX3_wrongAt_34 : decode cX3_wrongAt 34 = .ok (.if_icmp .lt 15, 3) := by decide +kernel
theorem dX3_wrongAt_37 : decode cX3_wrongAt 37 = .ok (.aload_n 0, 1) := by decide +kernel
theorem dX3_wrongAt_38 : decode cX3_wrongAt 38 = .ok (.iload 6, 2) := by decide +kernel
theorem dX3_wrongAt_40 : decode cX3_wrongAt 40 = .ok (.iload_n 3, 1) := by decide +kernel
theorem dX3_wrongAt_41 : decode cX3_wrongAt 41 = .ok (.iload 4, 2) := by decide +kernel
theorem dX3_wrongAt_43 : decode cX3_wrongAt 43 = .ok (.invokestatic 59, 3) := by decide +kernel
theorem dX3_wrongAt_46 : decode cX3_wrongAt 46 = .ok (.ifCond .ne 6, 3) := by decide +kernel
theorem dX3_wrongAt_49 : decode cX3_wrongAt 49 = .ok (.iload 6, 2) := by decide +kernel
theorem dX3_wrongAt_51 : decode cX3_wrongAt 51 = .ok (.ireturn, 1) := by decide +kernel
theorem dX3_wrongAt_52 : decode cX3_wrongAt 52 = .ok (.iload_n 3, 1) := by decide +kernel
theorem dX3_wrongAt_53 : decode cX3_wrongAt 53 = .ok (.aload_n 0, 1) := by decide +kernel
theorem dX3_wrongAt_54 : decode cX3_wrongAt 54 = .ok (.iload 6, 2) := by decide +kernel
theorem dX3_wrongAt_56 : decode cX3_wrongAt 56 = .ok (.invokevirtual 33, 3) := by decide +kernel
theorem dX3_wrongAt_59 : decode cX3_wrongAt 59 = .ok (.bipush 112, 2) := by decide +kernel
theorem dX3_wrongAt_61 : decode cX3_wrongAt 61 = .ok (.if_icmp .ne 7, 3) := by decide +kernel
theorem dX3_wrongAt_64 : decode cX3_wrongAt 64 = .ok (.iconst 1, 1) := by decide +kernel
theorem dX3_wrongAt_65 : decode cX3_wrongAt 65 = .ok (.goto 4, 3) := by decide +kernel
theorem dX3_wrongAt_68 : decode cX3_wrongAt 68 = .ok (.iconst 0, 1) := by decide +kernel
theorem dX3_wrongAt_69 : decode cX3_wrongAt 69 = .ok (.iadd, 1) := by decide +kernel
theorem dX3_wrongAt_70 : decode cX3_wrongAt 70 = .ok (.istore_n 3, 1) := by decide +kernel
theorem dX3_wrongAt_71 : decode cX3_wrongAt 71 = .ok (.iload 4, 2) := by decide +kernel
theorem dX3_wrongAt_73 : decode cX3_wrongAt 73 = .ok (.aload_n 0, 1) := by decide +kernel
theorem dX3_wrongAt_74 : decode cX3_wrongAt 74 = .ok (.iload 6, 2) := by decide +kernel
theorem dX3_wrongAt_76 : decode cX3_wrongAt 76 = .ok (.invokevirtual 33, 3) := by decide +kernel
theorem dX3_wrongAt_79 : decode cX3_wrongAt 79 = .ok (.bipush 109, 2) := by decide +kernel
theorem dX3_wrongAt_81 : decode cX3_wrongAt 81 = .ok (.if_icmp .ne 14, 3) := by decide +kernel
theorem dX3_wrongAt_84 : decode cX3_wrongAt 84 = .ok (.aload_n 0, 1) := by decide +kernel
theorem dX3_wrongAt_85 : decode cX3_wrongAt 85 = .ok (.iload 6, 2) := by decide +kernel
theorem dX3_wrongAt_87 : decode cX3_wrongAt 87 = .ok (.iconst 1, 1) := by decide +kernel
theorem dX3_wrongAt_88 : decode cX3_wrongAt 88 = .ok (.iadd, 1) := by decide +kernel
theorem dX3_wrongAt_89 : decode cX3_wrongAt 89 = .ok (.invokestatic 62, 3) := by decide +kernel
theorem dX3_wrongAt_92 : decode cX3_wrongAt 92 = .ok (.goto 4, 3) := by decide +kernel
theorem dX3_wrongAt_95 : decode cX3_wrongAt 95 = .ok (.iconst 0, 1) := by decide +kernel
theorem dX3_wrongAt_96 : decode cX3_wrongAt 96 = .ok (.iadd, 1) := by decide +kernel
theorem dX3_wrongAt_97 : decode cX3_wrongAt 97 = .ok (.istore 4, 2) := by decide +kernel
theorem dX3_wrongAt_99 : decode cX3_wrongAt 99 = .ok (.iload 6, 2) := by decide +kernel
theorem dX3_wrongAt_101 : decode cX3_wrongAt 101 = .ok (.iload 5, 2) := by decide +kernel
theorem dX3_wrongAt_103 : decode cX3_wrongAt 103 = .ok (.iadd, 1) := by decide +kernel
theorem dX3_wrongAt_104 : decode cX3_wrongAt 104 = .ok (.istore 6, 2) := by decide +kernel
theorem dX3_wrongAt_106 : decode cX3_wrongAt 106 = .ok (.goto (-95), 3) := by decide +kernel
theorem dX3_wrongAt_109 : decode cX3_wrongAt 109 = .ok (.bipush (-9), 2) := by decide +kernel
theorem dX3_wrongAt_111 : decode cX3_wrongAt 111 = .ok (.ireturn, 1) := by decide +kernel
def rmX3_wrongAt : Room := { frames := 4, cells := 0, slots := 0, locals := 89 }
abbrev wsX3_wrongAt : List Cond := .code yX3_wrongAt cX3_wrongAt 7 (some .int) :: gw_tbl
def kX3_wrongAt_109 : pProg := (109, 2, a_iconst (-9)) :: (111, 1, a_iret) :: []
def kX3_wrongAt_96 : pProg := (96, 1, a_iadd) :: (97, 2, a_istore 4) :: (99, 2, a_iload 6) :: (101, 2, a_iload 5) :: (103, 1, a_iadd) :: (104, 2, a_istore 6) :: (106, 3, a_goto 11) :: []
def kX3_wrongAt_95 : pProg := (95, 1, a_iconst 0) :: (96, 0, a_fall 96) :: []
def kX3_wrongAt_69 : pProg := (69, 1, a_iadd) :: (70, 1, a_istore 3) :: (71, 2, a_iload 4) :: (73, 1, a_aload 0) :: (74, 2, a_iload 6) :: (76, 3, a_callv 2 1 [0, 1] tX2_at) :: (79, 2, a_iconst 109) :: (81, 3, a_icmp_ne 95) :: (84, 1, a_aload 0) :: (85, 2, a_iload 6) :: (87, 1, a_iconst 1) :: (88, 1, a_iadd) :: (89, 3, a_calls 2 [0, 1] tX3_twoDigits) :: (92, 3, a_goto 96) :: []
def kX3_wrongAt_68 : pProg := (68, 1, a_iconst 0) :: (69, 0, a_fall 69) :: []
def kX3_wrongAt_52 : pProg := (52, 1, a_iload 3) :: (53, 1, a_aload 0) :: (54, 2, a_iload 6) :: (56, 3, a_callv 2 1 [0, 1] tX2_at) :: (59, 2, a_iconst 112) :: (61, 3, a_icmp_ne 68) :: (64, 1, a_iconst 1) :: (65, 3, a_goto 69) :: []
def kX3_wrongAt_49 : pProg := (49, 2, a_iload 6) :: (51, 1, a_iret) :: []
def kX3_wrongAt_11 : pProg := (11, 2, a_iload 6) :: (13, 1, a_aload 0) :: (14, 3, a_callv 1 1 [0, 1] tX2_size) :: (17, 3, a_icmp_ge 109) :: (20, 1, a_aload 0) :: (21, 2, a_iload 6) :: (23, 3, a_callv 2 1 [0, 1] tX2_at) :: (26, 3, a_calls 1 [] tX3_sizeOf) :: (29, 2, a_istore 5) :: (31, 2, a_iload 5) :: (33, 1, a_iconst 1) :: (34, 3, a_icmp_lt 49) :: (37, 1, a_aload 0) :: (38, 2, a_iload 6) :: (40, 1, a_iload 3) :: (41, 2, a_iload 4) :: (43, 3, a_calls 4 [0, 1] tX3_isRight) :: (46, 3, a_if_ne 52) :: (49, 0, a_fall 49) :: []
def kX3_wrongAt_0 : pProg := (0, 1, a_iload 1) :: (1, 1, a_istore 3) :: (2, 1, a_iload 2) :: (3, 2, a_istore 4) :: (5, 1, a_iconst 1) :: (6, 2, a_istore 5) :: (8, 1, a_iconst 0) :: (9, 2, a_istore 6) :: (11, 0, a_fall 11) :: []
set_option maxRecDepth 100000 in
theorem sX3_wrongAt_109 (l : Launch) : AllS (pSnd l rmX3_wrongAt yX3_wrongAt.cls cX3_wrongAt wsX3_wrongAt 7 (some .int)) 109 kX3_wrongAt_109 :=
  alls _ (s_bipush (by decide) dX3_wrongAt_109) <|
  alls _ (s_iret dX3_wrongAt_111) <|
  alls_nil _
set_option maxRecDepth 100000 in
theorem sX3_wrongAt_96 (l : Launch) : AllS (pSnd l rmX3_wrongAt yX3_wrongAt.cls cX3_wrongAt wsX3_wrongAt 7 (some .int)) 96 kX3_wrongAt_96 :=
  alls _ (s_iadd dX3_wrongAt_96) <|
  alls _ (s_istore dX3_wrongAt_97) <|
  alls _ (s_iload dX3_wrongAt_99) <|
  alls _ (s_iload dX3_wrongAt_101) <|
  alls _ (s_iadd dX3_wrongAt_103) <|
  alls _ (s_istore dX3_wrongAt_104) <|
  alls _ (s_goto (by decide) dX3_wrongAt_106) <|
  alls_nil _
set_option maxRecDepth 100000 in
theorem sX3_wrongAt_95 (l : Launch) : AllS (pSnd l rmX3_wrongAt yX3_wrongAt.cls cX3_wrongAt wsX3_wrongAt 7 (some .int)) 95 kX3_wrongAt_95 :=
  alls _ (s_iconst dX3_wrongAt_95) <|
  alls _ s_fall (alls_nil _)
set_option maxRecDepth 100000 in
theorem sX3_wrongAt_69 (l : Launch) : AllS (pSnd l rmX3_wrongAt yX3_wrongAt.cls cX3_wrongAt wsX3_wrongAt 7 (some .int)) 69 kX3_wrongAt_69 :=
  alls _ (s_iadd dX3_wrongAt_69) <|
  alls _ (s_istore_n rfl dX3_wrongAt_70) <|
  alls _ (s_iload dX3_wrongAt_71) <|
  alls _ (s_aload_n rfl dX3_wrongAt_73) <|
  alls _ (s_iload dX3_wrongAt_74) <|
  alls _ (s_callv (ct_X2_at l) rfl rfl rfl (gdV wd_195 wd_196 wd_197 wd_63 wd_198) rfl rfl (by decide +kernel) ⟨Nat.le_of_ble_eq_true rfl, Nat.le_of_ble_eq_true rfl⟩ dX3_wrongAt_76) <|
  alls _ (s_bipush (by decide) dX3_wrongAt_79) <|
  alls _ (s_icmp_ne (by decide) dX3_wrongAt_81) <|
  alls _ (s_aload_n rfl dX3_wrongAt_84) <|
  alls _ (s_iload dX3_wrongAt_85) <|
  alls _ (s_iconst dX3_wrongAt_87) <|
  alls _ (s_iadd dX3_wrongAt_88) <|
  alls _ (s_calls (ct_X3_twoDigits l) rfl rfl (gdS wd_227) (List.mem_cons_of_mem _ wd_225) (List.mem_cons_of_mem _ wd_226) (List.mem_cons_of_mem _ wd_66) rfl rfl (by decide +kernel) ⟨Nat.le_of_ble_eq_true rfl, Nat.le_of_ble_eq_true rfl⟩ dX3_wrongAt_89) <|
  alls _ (s_goto (by decide) dX3_wrongAt_92) <|
  alls_nil _
set_option maxRecDepth 100000 in
theorem sX3_wrongAt_68 (l : Launch) : AllS (pSnd l rmX3_wrongAt yX3_wrongAt.cls cX3_wrongAt wsX3_wrongAt 7 (some .int)) 68 kX3_wrongAt_68 :=
  alls _ (s_iconst dX3_wrongAt_68) <|
  alls _ s_fall (alls_nil _)
set_option maxRecDepth 100000 in
theorem sX3_wrongAt_52 (l : Launch) : AllS (pSnd l rmX3_wrongAt yX3_wrongAt.cls cX3_wrongAt wsX3_wrongAt 7 (some .int)) 52 kX3_wrongAt_52 :=
  alls _ (s_iload_n rfl dX3_wrongAt_52) <|
  alls _ (s_aload_n rfl dX3_wrongAt_53) <|
  alls _ (s_iload dX3_wrongAt_54) <|
  alls _ (s_callv (ct_X2_at l) rfl rfl rfl (gdV wd_195 wd_196 wd_197 wd_63 wd_198) rfl rfl (by decide +kernel) ⟨Nat.le_of_ble_eq_true rfl, Nat.le_of_ble_eq_true rfl⟩ dX3_wrongAt_56) <|
  alls _ (s_bipush (by decide) dX3_wrongAt_59) <|
  alls _ (s_icmp_ne (by decide) dX3_wrongAt_61) <|
  alls _ (s_iconst dX3_wrongAt_64) <|
  alls _ (s_goto (by decide) dX3_wrongAt_65) <|
  alls_nil _
set_option maxRecDepth 100000 in
theorem sX3_wrongAt_49 (l : Launch) : AllS (pSnd l rmX3_wrongAt yX3_wrongAt.cls cX3_wrongAt wsX3_wrongAt 7 (some .int)) 49 kX3_wrongAt_49 :=
  alls _ (s_iload dX3_wrongAt_49) <|
  alls _ (s_iret dX3_wrongAt_51) <|
  alls_nil _
set_option maxRecDepth 100000 in
theorem sX3_wrongAt_11 (l : Launch) : AllS (pSnd l rmX3_wrongAt yX3_wrongAt.cls cX3_wrongAt wsX3_wrongAt 7 (some .int)) 11 kX3_wrongAt_11 :=
  alls _ (s_iload dX3_wrongAt_11) <|
  alls _ (s_aload_n rfl dX3_wrongAt_13) <|
  alls _ (s_callv (ct_X2_size l) rfl rfl rfl (gdV wd_191 wd_192 wd_193 wd_63 wd_194) rfl rfl (by decide +kernel) ⟨Nat.le_of_ble_eq_true rfl, Nat.le_of_ble_eq_true rfl⟩ dX3_wrongAt_14) <|
  alls _ (s_icmp_ge (by decide) dX3_wrongAt_17) <|
  alls _ (s_aload_n rfl dX3_wrongAt_20) <|
  alls _ (s_iload dX3_wrongAt_21) <|
  alls _ (s_callv (ct_X2_at l) rfl rfl rfl (gdV wd_195 wd_196 wd_197 wd_63 wd_198) rfl rfl (by decide +kernel) ⟨Nat.le_of_ble_eq_true rfl, Nat.le_of_ble_eq_true rfl⟩ dX3_wrongAt_23) <|
  alls _ (s_calls (ct_X3_sizeOf l) rfl rfl (gdS wd_201) (List.mem_cons_of_mem _ wd_199) (List.mem_cons_of_mem _ wd_200) (List.mem_cons_of_mem _ wd_66) rfl rfl (by decide +kernel) ⟨Nat.le_of_ble_eq_true rfl, Nat.le_of_ble_eq_true rfl⟩ dX3_wrongAt_26) <|
  alls _ (s_istore dX3_wrongAt_29) <|
  alls _ (s_iload dX3_wrongAt_31) <|
  alls _ (s_iconst dX3_wrongAt_33) <|
  alls _ (s_icmp_lt (by decide) dX3_wrongAt_34) <|
  alls _ (s_aload_n rfl dX3_wrongAt_37) <|
  alls _ (s_iload dX3_wrongAt_38) <|
  alls _ (s_iload_n rfl dX3_wrongAt_40) <|
  alls _ (s_iload dX3_wrongAt_41) <|
  alls _ (s_calls (ct_X3_isRight l) rfl rfl (gdS wd_221) (List.mem_cons_of_mem _ wd_219) (List.mem_cons_of_mem _ wd_220) (List.mem_cons_of_mem _ wd_66) rfl rfl (by decide +kernel) ⟨Nat.le_of_ble_eq_true rfl, Nat.le_of_ble_eq_true rfl⟩ dX3_wrongAt_43) <|
  alls _ (s_if_ne (by decide) dX3_wrongAt_46) <|
  alls _ s_fall (alls_nil _)
set_option maxRecDepth 100000 in
theorem sX3_wrongAt_0 (l : Launch) : AllS (pSnd l rmX3_wrongAt yX3_wrongAt.cls cX3_wrongAt wsX3_wrongAt 7 (some .int)) 0 kX3_wrongAt_0 :=
  alls _ (s_iload_n rfl dX3_wrongAt_0) <|
  alls _ (s_istore_n rfl dX3_wrongAt_1) <|
  alls _ (s_iload_n rfl dX3_wrongAt_2) <|
  alls _ (s_istore dX3_wrongAt_3) <|
  alls _ (s_iconst dX3_wrongAt_5) <|
  alls _ (s_istore dX3_wrongAt_6) <|
  alls _ (s_iconst dX3_wrongAt_8) <|
  alls _ (s_istore dX3_wrongAt_9) <|
  alls _ s_fall (alls_nil _)
def KX3_wrongAt : List (Nat × pProg) := [(0, kX3_wrongAt_0), (11, kX3_wrongAt_11), (49, kX3_wrongAt_49), (52, kX3_wrongAt_52), (68, kX3_wrongAt_68), (69, kX3_wrongAt_69), (95, kX3_wrongAt_95), (96, kX3_wrongAt_96), (109, kX3_wrongAt_109)]
theorem bX3_wrongAt_0 : blkOf KX3_wrongAt 0 = some kX3_wrongAt_0 := rfl
theorem bX3_wrongAt_11 : blkOf KX3_wrongAt 11 = some kX3_wrongAt_11 := rfl
theorem bX3_wrongAt_49 : blkOf KX3_wrongAt 49 = some kX3_wrongAt_49 := rfl
theorem bX3_wrongAt_52 : blkOf KX3_wrongAt 52 = some kX3_wrongAt_52 := rfl
theorem bX3_wrongAt_68 : blkOf KX3_wrongAt 68 = some kX3_wrongAt_68 := rfl
theorem bX3_wrongAt_69 : blkOf KX3_wrongAt 69 = some kX3_wrongAt_69 := rfl
theorem bX3_wrongAt_95 : blkOf KX3_wrongAt 95 = some kX3_wrongAt_95 := rfl
theorem bX3_wrongAt_96 : blkOf KX3_wrongAt 96 = some kX3_wrongAt_96 := rfl
theorem bX3_wrongAt_109 : blkOf KX3_wrongAt 109 = some kX3_wrongAt_109 := rfl
def tX3_wrongAt : pT := pM KX3_wrongAt 7
theorem ct_X3_wrongAt (l : Launch) : pCtr l yX3_wrongAt wsX3_wrongAt rmX3_wrongAt 3 tX3_wrongAt := ctr_of (by decide +kernel) rfl (List.forall_mem_cons.mpr ⟨sX3_wrongAt_0 l, List.forall_mem_cons.mpr ⟨sX3_wrongAt_11 l, List.forall_mem_cons.mpr ⟨sX3_wrongAt_49 l, List.forall_mem_cons.mpr ⟨sX3_wrongAt_52 l, List.forall_mem_cons.mpr ⟨sX3_wrongAt_68 l, List.forall_mem_cons.mpr ⟨sX3_wrongAt_69 l, List.forall_mem_cons.mpr ⟨sX3_wrongAt_95 l, List.forall_mem_cons.mpr ⟨sX3_wrongAt_96 l, List.forall_mem_cons.mpr ⟨sX3_wrongAt_109 l, fun _ h => absurd h List.not_mem_nil⟩⟩⟩⟩⟩⟩⟩⟩⟩)
theorem dX3_comePair_0 : decode cX3_comePair 0 = .ok (.aload_n 2, 1) := by decide +kernel
theorem dX3_comePair_1 : decode cX3_comePair 1 = .ok (.invokevirtual 92, 3) := by decide +kernel
theorem dX3_comePair_4 : decode cX3_comePair 4 = .ok (.istore_n 3, 1) := by decide +kernel
theorem dX3_comePair_5 : decode cX3_comePair 5 = .ok (.aload_n 2, 1) := by decide +kernel
theorem dX3_comePair_6 : decode cX3_comePair 6 = .ok (.invokevirtual 95, 3) := by decide +kernel
theorem dX3_comePair_9 : decode cX3_comePair 9 = .ok (.aload_n 2, 1) := by decide +kernel
theorem dX3_comePair_10 : decode cX3_comePair 10 = .ok (.iload_n 3, 1) := by decide +kernel
theorem dX3_comePair_11 : decode cX3_comePair 11 = .ok (.aload_n 0, 1) := by decide +kernel
theorem dX3_comePair_12 : decode cX3_comePair 12 = .ok (.iload_n 1, 1) := by decide +kernel
theorem dX3_comePair_13 : decode cX3_comePair 13 = .ok (.iconst 1, 1) := by decide +kernel
theorem dX3_comePair_14 : decode cX3_comePair 14 = .ok (.iadd, 1) := by decide +kernel
theorem dX3_comePair_15 : decode cX3_comePair 15 = .ok (.invokevirtual 33, 3) := by decide +kernel
theorem dX3_comePair_18 : decode cX3_comePair 18 = .ok (.invokestatic 54, 3) := by decide +kernel
theorem dX3_comePair_21 : decode cX3_comePair 21 = .ok (.invokevirtual 98, 3) := by decide +kernel
theorem dX3_comePair_24 : decode cX3_comePair 24 = .ok (.aload_n 2, 1) := by decide +kernel
theorem dX3_comePair_25 : decode cX3_comePair 25 = .ok (.iload_n 3, 1) := by decide +kernel
theorem dX3_comePair_26 : decode cX3_comePair 26 = .ok (.aload_n 0, 1) := by decide +kernel
theorem dX3_comePair_27 : decode cX3_comePair 27 = .ok (.iload_n 1, 1) := by decide +kernel
theorem dX3_comePair_28 : decode cX3_comePair 28 = .ok (.iconst 2, 1) := by decide +kernel
theorem dX3_comePair_29 : decode cX3_comePair 29 = .ok (.iadd, 1) := by decide +kernel
theorem dX3_comePair_30 : decode cX3_comePair 30 = .ok (.invokestatic 66, 3) := by decide +kernel
theorem dX3_comePair_33 : decode cX3_comePair 33 = .ok (.invokevirtual 101, 3) := by decide +kernel
theorem dX3_comePair_36 : decode cX3_comePair 36 = .ok (.aload_n 2, 1) := by decide +kernel
theorem dX3_comePair_37 : decode cX3_comePair 37 = .ok (.iload_n 3, 1) := by decide +kernel
theorem dX3_comePair_38 : decode cX3_comePair 38 = .ok (.iconst 1, 1) := by decide +kernel
theorem dX3_comePair_39 : decode cX3_comePair 39 = .ok (.iadd, 1) := by decide +kernel
theorem dX3_comePair_40 : decode cX3_comePair 40 = .ok (.aload_n 0, 1) := by decide +kernel
theorem dX3_comePair_41 : decode cX3_comePair 41 = .ok (.iload_n 1, 1) := by decide +kernel
theorem dX3_comePair_42 : decode cX3_comePair 42 = .ok (.iconst 3, 1) := by decide +kernel
theorem dX3_comePair_43 : decode cX3_comePair 43 = .ok (.iadd, 1) := by decide +kernel
theorem dX3_comePair_44 : decode cX3_comePair 44 = .ok (.invokevirtual 33, 3) := by decide +kernel
theorem dX3_comePair_47 : decode cX3_comePair 47 = .ok (.invokestatic 54, 3) := by decide +kernel
theorem dX3_comePair_50 : decode cX3_comePair 50 = .ok (.invokevirtual 98, 3) := by decide +kernel
theorem dX3_comePair_53 : decode cX3_comePair 53 = .ok (.aload_n 2, 1) := by decide +kernel
theorem dX3_comePair_54 : decode cX3_comePair 54 = .ok (.iload_n 3, 1) := by decide +kernel
theorem dX3_comePair_55 : decode cX3_comePair 55 = .ok (.iconst 1, 1) := by decide +kernel
theorem dX3_comePair_56 : decode cX3_comePair 56 = .ok (.iadd, 1) := by decide +kernel
theorem dX3_comePair_57 : decode cX3_comePair 57 = .ok (.aload_n 0, 1) := by decide +kernel
theorem dX3_comePair_58 : decode cX3_comePair 58 = .ok (.iload_n 1, 1) := by decide +kernel
theorem dX3_comePair_59 : decode cX3_comePair 59 = .ok (.iconst 4, 1) := by decide +kernel
theorem dX3_comePair_60 : decode cX3_comePair 60 = .ok (.iadd, 1) := by decide +kernel
theorem dX3_comePair_61 : decode cX3_comePair 61 = .ok (.invokestatic 66, 3) := by decide +kernel
theorem dX3_comePair_64 : decode cX3_comePair 64 = .ok (.invokevirtual 101, 3) := by decide +kernel
theorem dX3_comePair_67 : decode cX3_comePair 67 = .ok (.return_, 1) := by decide +kernel
def rmX3_comePair : Room := { frames := 2, cells := 0, slots := 0, locals := 42 }
abbrev wsX3_comePair : List Cond := .code yX3_comePair cX3_comePair 4 none :: gw_tbl
def kX3_comePair_0 : pProg := (0, 1, a_aload 2) :: (1, 3, a_callv 1 0 [2, 3, 4, 5, 6, 7, 8] tX0_miners) :: (4, 1, a_istore 3) :: (5, 1, a_aload 2) :: (6, 3, a_callv 1 0 [2, 3, 4, 5, 6, 7, 8] tX0_addPair) :: (9, 1, a_aload 2) :: (10, 1, a_iload 3) :: (11, 1, a_aload 0) :: (12, 1, a_iload 1) :: (13, 1, a_iconst 1) :: (14, 1, a_iadd) :: (15, 3, a_callv 2 1 [0, 1] tX2_at) :: (18, 3, a_calls 1 [] tX1_ofLetter) :: (21, 3, a_callv 3 0 [2, 3, 4, 5, 6, 7, 8] tX0_setKind) :: (24, 1, a_aload 2) :: (25, 1, a_iload 3) :: (26, 1, a_aload 0) :: (27, 1, a_iload 1) :: (28, 1, a_iconst 2) :: (29, 1, a_iadd) :: (30, 3, a_calls 2 [0, 1] tX3_digit) :: (33, 3, a_callv 3 0 [2, 3, 4, 5, 6, 7, 8] tX0_setFigure) :: (36, 1, a_aload 2) :: (37, 1, a_iload 3) :: (38, 1, a_iconst 1) :: (39, 1, a_iadd) :: (40, 1, a_aload 0) :: (41, 1, a_iload 1) :: (42, 1, a_iconst 3) :: (43, 1, a_iadd) :: (44, 3, a_callv 2 1 [0, 1] tX2_at) :: (47, 3, a_calls 1 [] tX1_ofLetter) :: (50, 3, a_callv 3 0 [2, 3, 4, 5, 6, 7, 8] tX0_setKind) :: (53, 1, a_aload 2) :: (54, 1, a_iload 3) :: (55, 1, a_iconst 1) :: (56, 1, a_iadd) :: (57, 1, a_aload 0) :: (58, 1, a_iload 1) :: (59, 1, a_iconst 4) :: (60, 1, a_iadd) :: (61, 3, a_calls 2 [0, 1] tX3_digit) :: (64, 3, a_callv 3 0 [2, 3, 4, 5, 6, 7, 8] tX0_setFigure) :: (67, 1, a_vret) :: []
set_option maxRecDepth 100000 in
theorem sX3_comePair_0 (l : Launch) : AllS (pSnd l rmX3_comePair yX3_comePair.cls cX3_comePair wsX3_comePair 4 none) 0 kX3_comePair_0 :=
  alls _ (s_aload_n rfl dX3_comePair_0) <|
  alls _ (s_callv (ct_X0_miners l) rfl rfl rfl (gdV wd_239 wd_240 wd_241 wd_61 wd_242) rfl rfl (by decide +kernel) ⟨Nat.le_of_ble_eq_true rfl, Nat.le_of_ble_eq_true rfl⟩ dX3_comePair_1) <|
  alls _ (s_istore_n rfl dX3_comePair_4) <|
  alls _ (s_aload_n rfl dX3_comePair_5) <|
  alls _ (s_callv (ct_X0_addPair l) rfl rfl rfl (gdV wd_243 wd_244 wd_245 wd_61 wd_246) rfl rfl (by decide +kernel) ⟨Nat.le_of_ble_eq_true rfl, Nat.le_of_ble_eq_true rfl⟩ dX3_comePair_6) <|
  alls _ (s_aload_n rfl dX3_comePair_9) <|
  alls _ (s_iload_n rfl dX3_comePair_10) <|
  alls _ (s_aload_n rfl dX3_comePair_11) <|
  alls _ (s_iload_n rfl dX3_comePair_12) <|
  alls _ (s_iconst dX3_comePair_13) <|
  alls _ (s_iadd dX3_comePair_14) <|
  alls _ (s_callv (ct_X2_at l) rfl rfl rfl (gdV wd_195 wd_196 wd_197 wd_63 wd_198) rfl rfl (by decide +kernel) ⟨Nat.le_of_ble_eq_true rfl, Nat.le_of_ble_eq_true rfl⟩ dX3_comePair_15) <|
  alls _ (s_calls (ct_X1_ofLetter l) rfl rfl (gdS wd_207) (List.mem_cons_of_mem _ wd_205) (List.mem_cons_of_mem _ wd_206) (List.mem_cons_of_mem _ wd_67) rfl rfl (by decide +kernel) ⟨Nat.le_of_ble_eq_true rfl, Nat.le_of_ble_eq_true rfl⟩ dX3_comePair_18) <|
  alls _ (s_callv (ct_X0_setKind l) rfl rfl rfl (gdV wd_247 wd_248 wd_249 wd_61 wd_250) rfl rfl (by decide +kernel) ⟨Nat.le_of_ble_eq_true rfl, Nat.le_of_ble_eq_true rfl⟩ dX3_comePair_21) <|
  alls _ (s_aload_n rfl dX3_comePair_24) <|
  alls _ (s_iload_n rfl dX3_comePair_25) <|
  alls _ (s_aload_n rfl dX3_comePair_26) <|
  alls _ (s_iload_n rfl dX3_comePair_27) <|
  alls _ (s_iconst dX3_comePair_28) <|
  alls _ (s_iadd dX3_comePair_29) <|
  alls _ (s_calls (ct_X3_digit l) rfl rfl (gdS wd_224) (List.mem_cons_of_mem _ wd_222) (List.mem_cons_of_mem _ wd_223) (List.mem_cons_of_mem _ wd_66) rfl rfl (by decide +kernel) ⟨Nat.le_of_ble_eq_true rfl, Nat.le_of_ble_eq_true rfl⟩ dX3_comePair_30) <|
  alls _ (s_callv (ct_X0_setFigure l) rfl rfl rfl (gdV wd_251 wd_252 wd_253 wd_61 wd_254) rfl rfl (by decide +kernel) ⟨Nat.le_of_ble_eq_true rfl, Nat.le_of_ble_eq_true rfl⟩ dX3_comePair_33) <|
  alls _ (s_aload_n rfl dX3_comePair_36) <|
  alls _ (s_iload_n rfl dX3_comePair_37) <|
  alls _ (s_iconst dX3_comePair_38) <|
  alls _ (s_iadd dX3_comePair_39) <|
  alls _ (s_aload_n rfl dX3_comePair_40) <|
  alls _ (s_iload_n rfl dX3_comePair_41) <|
  alls _ (s_iconst dX3_comePair_42) <|
  alls _ (s_iadd dX3_comePair_43) <|
  alls _ (s_callv (ct_X2_at l) rfl rfl rfl (gdV wd_195 wd_196 wd_197 wd_63 wd_198) rfl rfl (by decide +kernel) ⟨Nat.le_of_ble_eq_true rfl, Nat.le_of_ble_eq_true rfl⟩ dX3_comePair_44) <|
  alls _ (s_calls (ct_X1_ofLetter l) rfl rfl (gdS wd_207) (List.mem_cons_of_mem _ wd_205) (List.mem_cons_of_mem _ wd_206) (List.mem_cons_of_mem _ wd_67) rfl rfl (by decide +kernel) ⟨Nat.le_of_ble_eq_true rfl, Nat.le_of_ble_eq_true rfl⟩ dX3_comePair_47) <|
  alls _ (s_callv (ct_X0_setKind l) rfl rfl rfl (gdV wd_247 wd_248 wd_249 wd_61 wd_250) rfl rfl (by decide +kernel) ⟨Nat.le_of_ble_eq_true rfl, Nat.le_of_ble_eq_true rfl⟩ dX3_comePair_50) <|
  alls _ (s_aload_n rfl dX3_comePair_53) <|
  alls _ (s_iload_n rfl dX3_comePair_54) <|
  alls _ (s_iconst dX3_comePair_55) <|
  alls _ (s_iadd dX3_comePair_56) <|
  alls _ (s_aload_n rfl dX3_comePair_57) <|
  alls _ (s_iload_n rfl dX3_comePair_58) <|
  alls _ (s_iconst dX3_comePair_59) <|
  alls _ (s_iadd dX3_comePair_60) <|
  alls _ (s_calls (ct_X3_digit l) rfl rfl (gdS wd_224) (List.mem_cons_of_mem _ wd_222) (List.mem_cons_of_mem _ wd_223) (List.mem_cons_of_mem _ wd_66) rfl rfl (by decide +kernel) ⟨Nat.le_of_ble_eq_true rfl, Nat.le_of_ble_eq_true rfl⟩ dX3_comePair_61) <|
  alls _ (s_callv (ct_X0_setFigure l) rfl rfl rfl (gdV wd_251 wd_252 wd_253 wd_61 wd_254) rfl rfl (by decide +kernel) ⟨Nat.le_of_ble_eq_true rfl, Nat.le_of_ble_eq_true rfl⟩ dX3_comePair_64) <|
  alls _ (s_vret dX3_comePair_67) <|
  alls_nil _
def KX3_comePair : List (Nat × pProg) := [(0, kX3_comePair_0)]
theorem bX3_comePair_0 : blkOf KX3_comePair 0 = some kX3_comePair_0 := rfl
def tX3_comePair : pT := pM KX3_comePair 4
theorem ct_X3_comePair (l : Launch) : pCtr l yX3_comePair wsX3_comePair rmX3_comePair 3 tX3_comePair := ctr_of (by decide +kernel) rfl (List.forall_mem_cons.mpr ⟨sX3_comePair_0 l, fun _ h => absurd h List.not_mem_nil⟩)
theorem dX3_come_0 : decode cX3_come 0 = .ok (.aload_n 0, 1) := by decide +kernel
theorem dX3_come_1 : decode cX3_come 1 = .ok (.iload_n 1, 1) := by decide +kernel
theorem dX3_come_2 : decode cX3_come 2 = .ok (.iconst 1, 1) := by decide +kernel
theorem dX3_come_3 : decode cX3_come 3 = .ok (.iadd, 1) := by decide +kernel
theorem dX3_come_4 : decode cX3_come 4 = .ok (.invokestatic 66, 3) := by decide +kernel
theorem dX3_come_7 : decode cX3_come 7 = .ok (.istore_n 3, 1) := by decide +kernel
theorem dX3_come_8 : decode cX3_come 8 = .ok (.aload_n 0, 1) := by decide +kernel
theorem dX3_come_9 : decode cX3_come 9 = .ok (.iload_n 1, 1) := by decide +kernel
theorem dX3_come_10 : decode cX3_come 10 = .ok (.invokevirtual 33, 3) := by decide +kernel
theorem dX3_come_13 : decode cX3_come 13 = .ok (.lookupswitch 154 #[(97, 89), (98, 59), (109, 140), (112, 80), (116, 104), (120, 125)], 59) := by decide +kernel
theorem dX3_come_72 : decode cX3_come 72 = .ok (.aload_n 2, 1) := by decide +kernel
theorem dX3_come_73 : decode cX3_come 73 = .ok (.aload_n 0, 1) := by decide +kernel
theorem dX3_come_74 : decode cX3_come 74 = .ok (.iload_n 1, 1) := by decide +kernel
theorem dX3_come_75 : decode cX3_come 75 = .ok (.iconst 1, 1) := by decide +kernel
theorem dX3_come_76 : decode cX3_come 76 = .ok (.iadd, 1) := by decide +kernel
theorem dX3_come_77 : decode cX3_come 77 = .ok (.invokestatic 62, 3) := by decide +kernel
theorem dX3_come_80 : decode cX3_come 80 = .ok (.aload_n 0, 1) := by decide +kernel
theorem dX3_come_81 : decode cX3_come 81 = .ok (.iload_n 1, 1) := by decide +kernel
theorem dX3_come_82 : decode cX3_come 82 = .ok (.iconst 3, 1) := by decide +kernel
theorem dX3_come_83 : decode cX3_come 83 = .ok (.iadd, 1) := by decide +kernel
theorem dX3_come_84 : decode cX3_come 84 = .ok (.invokestatic 66, 3) := by decide +kernel
theorem dX3_come_87 : decode cX3_come 87 = .ok (.invokevirtual 69, 3) := by decide +kernel
theorem dX3_come_90 : decode cX3_come 90 = .ok (.goto 77, 3) := by decide +kernel
theorem dX3_come_93 : decode cX3_come 93 = .ok (.aload_n 0, 1) := by decide +kernel
theorem dX3_come_94 : decode cX3_come 94 = .ok (.iload_n 1, 1) := by decide +kernel
theorem dX3_come_95 : decode cX3_come 95 = .ok (.aload_n 2, 1) := by decide +kernel
theorem dX3_come_96 : decode cX3_come 96 = .ok (.invokestatic 73, 3) := by decide +kernel
theorem dX3_come_99 : decode cX3_come 99 = .ok (.goto 68, 3) := by decide +kernel
theorem dX3_come_102 : decode cX3_come 102 = .ok (.aload_n 2, 1) := by decide +kernel
theorem dX3_come_103 : decode cX3_come 103 = .ok (.iload_n 3, 1) := by decide +kernel
theorem dX3_come_104 : decode cX3_come 104 = .ok (.aload_n 0, 1) := by decide +kernel
theorem dX3_come_105 : decode cX3_come 105 = .ok (.iload_n 1, 1) := by decide +kernel
theorem dX3_come_106 : decode cX3_come 106 = .ok (.iconst 2, 1) := by decide +kernel
theorem dX3_come_107 : decode cX3_come 107 = .ok (.iadd, 1) := by decide +kernel
theorem dX3_come_108 : decode cX3_come 108 = .ok (.invokestatic 62, 3) := by decide +kernel
theorem dX3_come_111 : decode cX3_come 111 = .ok (.invokevirtual 76, 3) := by decide +kernel
theorem dX3_come_114 : decode cX3_come 114 = .ok (.goto 53, 3) := by decide +kernel
theorem dX3_come_117 : decode cX3_come 117 = .ok (.aload_n 2, 1) := by decide +kernel
theorem dX3_come_118 : decode cX3_come 118 = .ok (.iload_n 3, 1) := by decide +kernel
theorem dX3_come_119 : decode cX3_come 119 = .ok (.aload_n 2, 1) := by decide +kernel
theorem dX3_come_120 : decode cX3_come 120 = .ok (.iload_n 3, 1) := by decide +kernel
theorem dX3_come_121 : decode cX3_come 121 = .ok (.invokevirtual 79, 3) := by decide +kernel
theorem dX3_come_124 : decode cX3_come 124 = .ok (.aload_n 0, 1) := by decide +kernel
theorem dX3_come_125 : decode cX3_come 125 = .ok (.iload_n 1, 1) := by decide +kernel
theorem dX3_come_126 : decode cX3_come 126 = .ok (.iconst 2, 1) := by decide +kernel
theorem dX3_come_127 : decode cX3_come 127 = .ok (.iadd, 1) := by decide +kernel
theorem dX3_come_128 : decode cX3_come 128 = .ok (.invokestatic 62, 3) := by decide +kernel
theorem dX3_come_131 : decode cX3_come 131 = .ok (.iadd, 1) := by decide +kernel
theorem dX3_come_132 : decode cX3_come 132 = .ok (.invokevirtual 82, 3) := by decide +kernel
theorem dX3_come_135 : decode cX3_come 135 = .ok (.goto 32, 3) := by decide +kernel
theorem dX3_come_138 : decode cX3_come 138 = .ok (.aload_n 2, 1) := by decide +kernel
theorem dX3_come_139 : decode cX3_come 139 = .ok (.iload_n 3, 1) := by decide +kernel
theorem dX3_come_140 : decode cX3_come 140 = .ok (.aload_n 0, 1) := by decide +kernel
theorem dX3_come_141 : decode cX3_come 141 = .ok (.iload_n 1, 1) := by decide +kernel
theorem dX3_come_142 : decode cX3_come 142 = .ok (.iconst 2, 1) := by decide +kernel
theorem dX3_come_143 : decode cX3_come 143 = .ok (.iadd, 1) := by decide +kernel
theorem dX3_come_144 : decode cX3_come 144 = .ok (.invokestatic 66, 3) := by decide +kernel
theorem dX3_come_147 : decode cX3_come 147 = .ok (.invokevirtual 85, 3) := by decide +kernel
theorem dX3_come_150 : decode cX3_come 150 = .ok (.goto 17, 3) := by decide +kernel
theorem dX3_come_153 : decode cX3_come 153 = .ok (.aload_n 2, 1) := by decide +kernel
theorem dX3_come_154 : decode cX3_come 154 = .ok (.aload_n 0, 1) := by decide +kernel
theorem dX3_come_155 : decode cX3_come 155 = .ok (.iload_n 1, 1) := by decide +kernel
theorem dX3_come_156 : decode cX3_come 156 = .ok (.iconst 1, 1) := by decide +kernel
theorem dX3_come_157 : decode cX3_come 157 = .ok (.iadd, 1) := by decide +kernel
theorem dX3_come_158 : decode cX3_come 158 = .ok (.invokestatic 62, 3) := by decide +kernel
theorem dX3_come_161 : decode cX3_come 161 = .ok (.invokevirtual 88, 3) := by decide +kernel
theorem dX3_come_164 : decode cX3_come 164 = .ok (.goto 3, 3) := by decide +kernel
theorem dX3_come_167 : decode cX3_come 167 = .ok (.return_, 1) := by decide +kernel
def rmX3_come : Room := { frames := 4, cells := 0, slots := 0, locals := 94 }
abbrev wsX3_come : List Cond := .code yX3_come cX3_come 4 none :: gw_tbl
def kX3_come_167 : pProg := (167, 1, a_vret) :: []
def kX3_come_153 : pProg := (153, 1, a_aload 2) :: (154, 1, a_aload 0) :: (155, 1, a_iload 1) :: (156, 1, a_iconst 1) :: (157, 1, a_iadd) :: (158, 3, a_calls 2 [0, 1] tX3_twoDigits) :: (161, 3, a_callv 2 0 [2, 3, 4, 5, 6, 7, 8] tX0_pass) :: (164, 3, a_goto 167) :: []
def kX3_come_138 : pProg := (138, 1, a_aload 2) :: (139, 1, a_iload 3) :: (140, 1, a_aload 0) :: (141, 1, a_iload 1) :: (142, 1, a_iconst 2) :: (143, 1, a_iadd) :: (144, 3, a_calls 2 [0, 1] tX3_digit) :: (147, 3, a_callv 3 0 [2, 3, 4, 5, 6, 7, 8] tX0_changePlaces) :: (150, 3, a_goto 167) :: []
def kX3_come_117 : pProg := (117, 1, a_aload 2) :: (118, 1, a_iload 3) :: (119, 1, a_aload 2) :: (120, 1, a_iload 3) :: (121, 3, a_callv 2 0 [2, 3, 4, 5, 6, 7, 8] tX0_toSayOf) :: (124, 1, a_aload 0) :: (125, 1, a_iload 1) :: (126, 1, a_iconst 2) :: (127, 1, a_iadd) :: (128, 3, a_calls 2 [0, 1] tX3_twoDigits) :: (131, 1, a_iadd) :: (132, 3, a_callv 3 0 [2, 3, 4, 5, 6, 7, 8] tX0_setToSay) :: (135, 3, a_goto 167) :: []
def kX3_come_102 : pProg := (102, 1, a_aload 2) :: (103, 1, a_iload 3) :: (104, 1, a_aload 0) :: (105, 1, a_iload 1) :: (106, 1, a_iconst 2) :: (107, 1, a_iadd) :: (108, 3, a_calls 2 [0, 1] tX3_twoDigits) :: (111, 3, a_callv 3 0 [2, 3, 4, 5, 6, 7, 8] tX0_setCell) :: (114, 3, a_goto 167) :: []
def kX3_come_93 : pProg := (93, 1, a_aload 0) :: (94, 1, a_iload 1) :: (95, 1, a_aload 2) :: (96, 3, a_calls 3 [0, 1, 2, 3, 4, 5, 6, 7, 8] tX3_comePair) :: (99, 3, a_goto 167) :: []
def kX3_come_72 : pProg := (72, 1, a_aload 2) :: (73, 1, a_aload 0) :: (74, 1, a_iload 1) :: (75, 1, a_iconst 1) :: (76, 1, a_iadd) :: (77, 3, a_calls 2 [0, 1] tX3_twoDigits) :: (80, 1, a_aload 0) :: (81, 1, a_iload 1) :: (82, 1, a_iconst 3) :: (83, 1, a_iadd) :: (84, 3, a_calls 2 [0, 1] tX3_digit) :: (87, 3, a_callv 3 0 [2, 3, 4, 5, 6, 7, 8] tX0_setBeams) :: (90, 3, a_goto 167) :: []
def kX3_come_0 : pProg := (0, 1, a_aload 0) :: (1, 1, a_iload 1) :: (2, 1, a_iconst 1) :: (3, 1, a_iadd) :: (4, 3, a_calls 2 [0, 1] tX3_digit) :: (7, 1, a_istore 3) :: (8, 1, a_aload 0) :: (9, 1, a_iload 1) :: (10, 3, a_callv 2 1 [0, 1] tX2_at) :: (13, 59, a_lsw [(97, 102), (98, 72), (109, 153), (112, 93), (116, 117), (120, 138)] 167) :: []
set_option maxRecDepth 100000 in
theorem sX3_come_167 (l : Launch) : AllS (pSnd l rmX3_come yX3_come.cls cX3_come wsX3_come 4 none) 167 kX3_come_167 :=
  alls _ (s_vret dX3_come_167) <|
  alls_nil _
set_option maxRecDepth 100000 in
theorem sX3_come_153 (l : Launch) : AllS (pSnd l rmX3_come yX3_come.cls cX3_come wsX3_come 4 none) 153 kX3_come_153 :=
  alls _ (s_aload_n rfl dX3_come_153) <|
  alls _ (s_aload_n rfl dX3_come_154) <|
  alls _ (s_iload_n rfl dX3_come_155) <|
  alls _ (s_iconst dX3_come_156) <|
  alls _ (s_iadd dX3_come_157) <|
  alls _ (s_calls (ct_X3_twoDigits l) rfl rfl (gdS wd_227) (List.mem_cons_of_mem _ wd_225) (List.mem_cons_of_mem _ wd_226) (List.mem_cons_of_mem _ wd_66) rfl rfl (by decide +kernel) ⟨Nat.le_of_ble_eq_true rfl, Nat.le_of_ble_eq_true rfl⟩ dX3_come_158) <|
  alls _ (s_callv (ct_X0_pass l) rfl rfl rfl (gdV wd_293 wd_294 wd_295 wd_61 wd_296) rfl rfl (by decide +kernel) ⟨Nat.le_of_ble_eq_true rfl, Nat.le_of_ble_eq_true rfl⟩ dX3_come_161) <|
  alls _ (s_goto (by decide) dX3_come_164) <|
  alls_nil _
set_option maxRecDepth 100000 in
theorem sX3_come_138 (l : Launch) : AllS (pSnd l rmX3_come yX3_come.cls cX3_come wsX3_come 4 none) 138 kX3_come_138 :=
  alls _ (s_aload_n rfl dX3_come_138) <|
  alls _ (s_iload_n rfl dX3_come_139) <|
  alls _ (s_aload_n rfl dX3_come_140) <|
  alls _ (s_iload_n rfl dX3_come_141) <|
  alls _ (s_iconst dX3_come_142) <|
  alls _ (s_iadd dX3_come_143) <|
  alls _ (s_calls (ct_X3_digit l) rfl rfl (gdS wd_224) (List.mem_cons_of_mem _ wd_222) (List.mem_cons_of_mem _ wd_223) (List.mem_cons_of_mem _ wd_66) rfl rfl (by decide +kernel) ⟨Nat.le_of_ble_eq_true rfl, Nat.le_of_ble_eq_true rfl⟩ dX3_come_144) <|
  alls _ (s_callv (ct_X0_changePlaces l) rfl rfl rfl (gdV wd_271 wd_272 wd_273 wd_61 wd_274) rfl rfl (by decide +kernel) ⟨Nat.le_of_ble_eq_true rfl, Nat.le_of_ble_eq_true rfl⟩ dX3_come_147) <|
  alls _ (s_goto (by decide) dX3_come_150) <|
  alls_nil _
set_option maxRecDepth 100000 in
theorem sX3_come_117 (l : Launch) : AllS (pSnd l rmX3_come yX3_come.cls cX3_come wsX3_come 4 none) 117 kX3_come_117 :=
  alls _ (s_aload_n rfl dX3_come_117) <|
  alls _ (s_iload_n rfl dX3_come_118) <|
  alls _ (s_aload_n rfl dX3_come_119) <|
  alls _ (s_iload_n rfl dX3_come_120) <|
  alls _ (s_callv (ct_X0_toSayOf l) rfl rfl rfl (gdV wd_262 wd_263 wd_264 wd_61 wd_265) rfl rfl (by decide +kernel) ⟨Nat.le_of_ble_eq_true rfl, Nat.le_of_ble_eq_true rfl⟩ dX3_come_121) <|
  alls _ (s_aload_n rfl dX3_come_124) <|
  alls _ (s_iload_n rfl dX3_come_125) <|
  alls _ (s_iconst dX3_come_126) <|
  alls _ (s_iadd dX3_come_127) <|
  alls _ (s_calls (ct_X3_twoDigits l) rfl rfl (gdS wd_227) (List.mem_cons_of_mem _ wd_225) (List.mem_cons_of_mem _ wd_226) (List.mem_cons_of_mem _ wd_66) rfl rfl (by decide +kernel) ⟨Nat.le_of_ble_eq_true rfl, Nat.le_of_ble_eq_true rfl⟩ dX3_come_128) <|
  alls _ (s_iadd dX3_come_131) <|
  alls _ (s_callv (ct_X0_setToSay l) rfl rfl rfl (gdV wd_266 wd_267 wd_268 wd_61 wd_269) rfl rfl (by decide +kernel) ⟨Nat.le_of_ble_eq_true rfl, Nat.le_of_ble_eq_true rfl⟩ dX3_come_132) <|
  alls _ (s_goto (by decide) dX3_come_135) <|
  alls_nil _
set_option maxRecDepth 100000 in
theorem sX3_come_102 (l : Launch) : AllS (pSnd l rmX3_come yX3_come.cls cX3_come wsX3_come 4 none) 102 kX3_come_102 :=
  alls _ (s_aload_n rfl dX3_come_102) <|
  alls _ (s_iload_n rfl dX3_come_103) <|
  alls _ (s_aload_n rfl dX3_come_104) <|
  alls _ (s_iload_n rfl dX3_come_105) <|
  alls _ (s_iconst dX3_come_106) <|
  alls _ (s_iadd dX3_come_107) <|
  alls _ (s_calls (ct_X3_twoDigits l) rfl rfl (gdS wd_227) (List.mem_cons_of_mem _ wd_225) (List.mem_cons_of_mem _ wd_226) (List.mem_cons_of_mem _ wd_66) rfl rfl (by decide +kernel) ⟨Nat.le_of_ble_eq_true rfl, Nat.le_of_ble_eq_true rfl⟩ dX3_come_108) <|
  alls _ (s_callv (ct_X0_setCell l) rfl rfl rfl (gdV wd_255 wd_256 wd_257 wd_61 wd_258) rfl rfl (by decide +kernel) ⟨Nat.le_of_ble_eq_true rfl, Nat.le_of_ble_eq_true rfl⟩ dX3_come_111) <|
  alls _ (s_goto (by decide) dX3_come_114) <|
  alls_nil _
set_option maxRecDepth 100000 in
theorem sX3_come_93 (l : Launch) : AllS (pSnd l rmX3_come yX3_come.cls cX3_come wsX3_come 4 none) 93 kX3_come_93 :=
  alls _ (s_aload_n rfl dX3_come_93) <|
  alls _ (s_iload_n rfl dX3_come_94) <|
  alls _ (s_aload_n rfl dX3_come_95) <|
  alls _ (s_calls (ct_X3_comePair l) rfl rfl (gdS wd_238) (List.mem_cons_of_mem _ wd_236) (List.mem_cons_of_mem _ wd_237) (List.mem_cons_of_mem _ wd_66) rfl rfl (by decide +kernel) ⟨Nat.le_of_ble_eq_true rfl, Nat.le_of_ble_eq_true rfl⟩ dX3_come_96) <|
  alls _ (s_goto (by decide) dX3_come_99) <|
  alls_nil _
set_option maxRecDepth 100000 in
theorem sX3_come_72 (l : Launch) : AllS (pSnd l rmX3_come yX3_come.cls cX3_come wsX3_come 4 none) 72 kX3_come_72 :=
  alls _ (s_aload_n rfl dX3_come_72) <|
  alls _ (s_aload_n rfl dX3_come_73) <|
  alls _ (s_iload_n rfl dX3_come_74) <|
  alls _ (s_iconst dX3_come_75) <|
  alls _ (s_iadd dX3_come_76) <|
  alls _ (s_calls (ct_X3_twoDigits l) rfl rfl (gdS wd_227) (List.mem_cons_of_mem _ wd_225) (List.mem_cons_of_mem _ wd_226) (List.mem_cons_of_mem _ wd_66) rfl rfl (by decide +kernel) ⟨Nat.le_of_ble_eq_true rfl, Nat.le_of_ble_eq_true rfl⟩ dX3_come_77) <|
  alls _ (s_aload_n rfl dX3_come_80) <|
  alls _ (s_iload_n rfl dX3_come_81) <|
  alls _ (s_iconst dX3_come_82) <|
  alls _ (s_iadd dX3_come_83) <|
  alls _ (s_calls (ct_X3_digit l) rfl rfl (gdS wd_224) (List.mem_cons_of_mem _ wd_222) (List.mem_cons_of_mem _ wd_223) (List.mem_cons_of_mem _ wd_66) rfl rfl (by decide +kernel) ⟨Nat.le_of_ble_eq_true rfl, Nat.le_of_ble_eq_true rfl⟩ dX3_come_84) <|
  alls _ (s_callv (ct_X0_setBeams l) rfl rfl rfl (gdV wd_232 wd_233 wd_234 wd_61 wd_235) rfl rfl (by decide +kernel) ⟨Nat.le_of_ble_eq_true rfl, Nat.le_of_ble_eq_true rfl⟩ dX3_come_87) <|
  alls _ (s_goto (by decide) dX3_come_90) <|
  alls_nil _
set_option maxRecDepth 100000 in
theorem sX3_come_0 (l : Launch) : AllS (pSnd l rmX3_come yX3_come.cls cX3_come wsX3_come 4 none) 0 kX3_come_0 :=
  alls _ (s_aload_n rfl dX3_come_0) <|
  alls _ (s_iload_n rfl dX3_come_1) <|
  alls _ (s_iconst dX3_come_2) <|
  alls _ (s_iadd dX3_come_3) <|
  alls _ (s_calls (ct_X3_digit l) rfl rfl (gdS wd_224) (List.mem_cons_of_mem _ wd_222) (List.mem_cons_of_mem _ wd_223) (List.mem_cons_of_mem _ wd_66) rfl rfl (by decide +kernel) ⟨Nat.le_of_ble_eq_true rfl, Nat.le_of_ble_eq_true rfl⟩ dX3_come_4) <|
  alls _ (s_istore_n rfl dX3_come_7) <|
  alls _ (s_aload_n rfl dX3_come_8) <|
  alls _ (s_iload_n rfl dX3_come_9) <|
  alls _ (s_callv (ct_X2_at l) rfl rfl rfl (gdV wd_195 wd_196 wd_197 wd_63 wd_198) rfl rfl (by decide +kernel) ⟨Nat.le_of_ble_eq_true rfl, Nat.le_of_ble_eq_true rfl⟩ dX3_come_10) <|
  alls _ (s_lsw (by decide) (by decide) (by decide) dX3_come_13) <|
  alls_nil _
def KX3_come : List (Nat × pProg) := [(0, kX3_come_0), (72, kX3_come_72), (93, kX3_come_93), (102, kX3_come_102), (117, kX3_come_117), (138, kX3_come_138), (153, kX3_come_153), (167, kX3_come_167)]
theorem bX3_come_0 : blkOf KX3_come 0 = some kX3_come_0 := rfl
theorem bX3_come_72 : blkOf KX3_come 72 = some kX3_come_72 := rfl
theorem bX3_come_93 : blkOf KX3_come 93 = some kX3_come_93 := rfl
theorem bX3_come_102 : blkOf KX3_come 102 = some kX3_come_102 := rfl
theorem bX3_come_117 : blkOf KX3_come 117 = some kX3_come_117 := rfl
theorem bX3_come_138 : blkOf KX3_come 138 = some kX3_come_138 := rfl
theorem bX3_come_153 : blkOf KX3_come 153 = some kX3_come_153 := rfl
theorem bX3_come_167 : blkOf KX3_come 167 = some kX3_come_167 := rfl
def tX3_come : pT := pM KX3_come 4
theorem ct_X3_come (l : Launch) : pCtr l yX3_come wsX3_come rmX3_come 3 tX3_come := ctr_of (by decide +kernel) rfl (List.forall_mem_cons.mpr ⟨sX3_come_0 l, List.forall_mem_cons.mpr ⟨sX3_come_72 l, List.forall_mem_cons.mpr ⟨sX3_come_93 l, List.forall_mem_cons.mpr ⟨sX3_come_102 l, List.forall_mem_cons.mpr ⟨sX3_come_117 l, List.forall_mem_cons.mpr ⟨sX3_come_138 l, List.forall_mem_cons.mpr ⟨sX3_come_153 l, List.forall_mem_cons.mpr ⟨sX3_come_167 l, fun _ h => absurd h List.not_mem_nil⟩⟩⟩⟩⟩⟩⟩⟩)
theorem dX3_comeTo_0 : decode cX3_comeTo 0 = .ok (.aload_n 0, 1) := by decide +kernel
theorem dX3_comeTo_1 : decode cX3_comeTo 1 = .ok (.ifnull 7, 3) := by decide +kernel
theorem dX3_comeTo_4 : decode cX3_comeTo 4 = .ok (.aload_n 1, 1) := by decide +kernel
theorem dX3_comeTo_5 : decode cX3_comeTo 5 = .ok (.ifnonnull 7, 3) := by decide +kernel
theorem dX3_comeTo_12 : decode cX3_comeTo 12 = .ok (.aload_n 0, 1) := by decide +kernel
theorem dX3_comeTo_13 : decode cX3_comeTo 13 = .ok (.invokestatic 11, 3) := by decide +kernel
theorem dX3_comeTo_16 : decode cX3_comeTo 16 = .ok (.istore_n 2, 1) := by decide +kernel
theorem dX3_comeTo_17 : decode cX3_comeTo 17 = .ok (.iload_n 2, 1) := by decide +kernel
theorem dX3_comeTo_18 : decode cX3_comeTo 18 = .ok (.bipush (-9), 2) := by decide +kernel
theorem dX3_comeTo_20 : decode cX3_comeTo 20 = .ok (.if_icmp .eq 9, 3) := by decide +kernel
theorem dX3_comeTo_23 : decode cX3_comeTo 23 = .ok (.sipush (-1000), 3) := by decide +kernel
theorem dX3_comeTo_26 : decode cX3_comeTo 26 = .ok (.iload_n 2, 1) := by decide +kernel
theorem dX3_comeTo_27 : decode cX3_comeTo 27 = .ok (.isub, 1) := by decide +kernel
theorem dX3_comeTo_28 : decode cX3_comeTo 28 = .ok (.ireturn, 1) := by decide +kernel
theorem dX3_comeTo_29 : decode cX3_comeTo 29 = .ok (.aload_n 0, 1) := by decide +kernel
theorem dX3_comeTo_30 : decode cX3_comeTo 30 = .ok (.aload_n 1, 1) := by decide +kernel
theorem dX3_comeTo_31 : decode cX3_comeTo 31 = .ok (.invokevirtual 15, 3) := by decide +kernel
theorem dX3_comeTo_34 : decode cX3_comeTo 34 = .ok (.aload_n 1, 1) := by decide +kernel
theorem dX3_comeTo_35 : decode cX3_comeTo 35 = .ok (.invokevirtual 21, 3) := by decide +kernel
theorem dX3_comeTo_38 : decode cX3_comeTo 38 = .ok (.invokestatic 24, 3) := by decide +kernel
theorem dX3_comeTo_41 : decode cX3_comeTo 41 = .ok (.istore_n 3, 1) := by decide +kernel
theorem dX3_comeTo_42 : decode cX3_comeTo 42 = .ok (.iload_n 3, 1) := by decide +kernel
theorem dX3_comeTo_43 : decode cX3_comeTo 43 = .ok (.bipush (-9), 2) := by decide +kernel
theorem dX3_comeTo_45 : decode cX3_comeTo 45 = .ok (.if_icmp .eq 9, 3) := by decide +kernel
theorem dX3_comeTo_48 : decode cX3_comeTo 48 = .ok (.sipush (-2000), 3) := by decide +kernel
theorem dX3_comeTo_51 : decode cX3_comeTo 51 = .ok (.iload_n 3, 1) := by decide +kernel
theorem dX3_comeTo_52 : decode cX3_comeTo 52 = .ok (.isub, 1) := by decide +kernel
theorem dX3_comeTo_53 : decode cX3_comeTo 53 = .ok (.ireturn, 1) := by decide +kernel
theorem dX3_comeTo_54 : decode cX3_comeTo 54 = .ok (.iconst 0, 1) := by decide +kernel
theorem dX3_comeTo_55 : decode cX3_comeTo 55 = .ok (.istore 4, 2) := by decide +kernel
theorem dX3_comeTo_57 : decode cX3_comeTo 57 = .ok (.iconst 1, 1) := by decide +kernel
theorem dX3_comeTo_58 : decode cX3_comeTo 58 = .ok (.istore 5, 2) := by decide +kernel
theorem dX3_comeTo_60 : decode cX3_comeTo 60 = .ok (.iconst 0, 1) := by decide +kernel
theorem dX3_comeTo_61 : decode cX3_comeTo 61 = .ok (.istore 6, 2) := by decide +kernel
theorem dX3_comeTo_63 : decode cX3_comeTo 63 = .ok (.iload 6, 2) := by decide +kernel
theorem dX3_comeTo_65 : decode cX3_comeTo 65 = .ok (.aload_n 0, 1) := by decide +kernel
theorem dX3_comeTo_66 : decode cX3_comeTo 66 = .ok (.invokevirtual 28, 3) := by decide +kernel
theorem dX3_comeTo_69 : decode cX3_comeTo 69 = .ok (.if_icmp .ge 38, 3) := by decide +kernel
theorem dX3_comeTo_72 : decode cX3_comeTo 72 = .ok (.iconst 1, 1) := by decide +kernel
theorem dX3_comeTo_73 : decode cX3_comeTo 73 = .ok (.aload_n 0, 1) := by decide +kernel
theorem dX3_comeTo_74 : decode cX3_comeTo 74 = .ok (.iload 6, 2) := by decide +kernel
theorem dX3_comeTo_76 : decode cX3_comeTo 76 = .ok (.invokevirtual 33, 3) := by decide +kernel
theorem dX3_comeTo_79 : decode cX3_comeTo 79 = .ok (.invokestatic 37, 3) := by decide +kernel
theorem dX3_comeTo_82 : decode cX3_comeTo 82 = .ok (.invokestatic 40, 3) := by decide +kernel
theorem dX3_comeTo_85 : decode cX3_comeTo 85 = .ok (.istore 5, 2) := by decide +kernel
theorem dX3_comeTo_87 : decode cX3_comeTo 87 = .ok (.aload_n 0, 1) := by decide +kernel
theorem dX3_comeTo_88 : decode cX3_comeTo 88 = .ok (.iload 6, 2) := by decide +kernel
theorem dX3_comeTo_90 : decode cX3_comeTo 90 = .ok (.aload_n 1, 1) := by decide +kernel
theorem dX3_comeTo_91 : decode cX3_comeTo 91 = .ok (.invokestatic 46, 3) := by decide +kernel
theorem dX3_comeTo_94 : decode cX3_comeTo 94 = .ok (.iinc 4 1, 3) := by decide +kernel
theorem dX3_comeTo_97 : decode cX3_comeTo 97 = .ok (.iload 6, 2) := by decide +kernel
theorem dX3_comeTo_99 : decode cX3_comeTo 99 = .ok (.iload 5, 2) := by decide +kernel
theorem dX3_comeTo_101 : decode cX3_comeTo 101 = .ok (.iadd, 1) := by decide +kernel
theorem dX3_comeTo_102 : decode cX3_comeTo 102 = .ok (.istore 6, 2) := by decide +kernel
theorem dX3_comeTo_104 : decode cX3_comeTo 104 = .ok (.goto (-41), 3) := by decide +kernel
theorem dX3_comeTo_107 : decode cX3_comeTo 107 = .ok (.iload 4, 2) := by decide +kernel
theorem dX3_comeTo_109 : decode cX3_comeTo 109 = .ok (.ireturn, 1) := by decide +kernel
def rmX3_comeTo : Room := { frames := 5, cells := 0, slots := 0, locals := 117 }
abbrev wsX3_comeTo : List Cond := .code yX3_comeTo cX3_comeTo 7 (some .int) :: gw_tbl
def kX3_comeTo_107 : pProg := (107, 2, a_iload 4) :: (109, 1, a_iret) :: []
def kX3_comeTo_63 : pProg := (63, 2, a_iload 6) :: (65, 1, a_aload 0) :: (66, 3, a_callv 1 1 [0, 1] tX2_size) :: (69, 3, a_icmp_ge 107) :: (72, 1, a_iconst 1) :: (73, 1, a_aload 0) :: (74, 2, a_iload 6) :: (76, 3, a_callv 2 1 [0, 1] tX2_at) :: (79, 3, a_calls 1 [] tX3_sizeOf) :: (82, 3, a_mmax) :: (85, 2, a_istore 5) :: (87, 1, a_aload 0) :: (88, 2, a_iload 6) :: (90, 1, a_aload 1) :: (91, 3, a_calls 3 [0, 1, 2, 3, 4, 5, 6, 7, 8] tX3_come) :: (94, 3, a_iinc 4 1) :: (97, 2, a_iload 6) :: (99, 2, a_iload 5) :: (101, 1, a_iadd) :: (102, 2, a_istore 6) :: (104, 3, a_goto 63) :: []
def kX3_comeTo_54 : pProg := (54, 1, a_iconst 0) :: (55, 2, a_istore 4) :: (57, 1, a_iconst 1) :: (58, 2, a_istore 5) :: (60, 1, a_iconst 0) :: (61, 2, a_istore 6) :: (63, 0, a_fall 63) :: []
def kX3_comeTo_29 : pProg := (29, 1, a_aload 0) :: (30, 1, a_aload 1) :: (31, 3, a_callv 1 0 [2, 3, 4, 5, 6, 7, 8] tX0_pairs) :: (34, 1, a_aload 1) :: (35, 3, a_callv 1 0 [2, 3, 4, 5, 6, 7, 8] tX0_minute) :: (38, 3, a_calls 3 [0, 1] tX3_wrongAt) :: (41, 1, a_istore 3) :: (42, 1, a_iload 3) :: (43, 2, a_iconst (-9)) :: (45, 3, a_icmp_eq 54) :: (48, 3, a_iconst (-2000)) :: (51, 1, a_iload 3) :: (52, 1, a_isub) :: (53, 1, a_iret) :: []
def kX3_comeTo_12 : pProg := (12, 1, a_aload 0) :: (13, 3, a_calls 1 [0, 1] tX3_brokenAt) :: (16, 1, a_istore 2) :: (17, 1, a_iload 2) :: (18, 2, a_iconst (-9)) :: (20, 3, a_icmp_eq 29) :: (23, 3, a_iconst (-1000)) :: (26, 1, a_iload 2) :: (27, 1, a_isub) :: (28, 1, a_iret) :: []
def kX3_comeTo_0 : pProg := (0, 1, a_aload 0) :: (1, 3, a_ifnull) :: (4, 1, a_aload 1) :: (5, 3, a_ifnonnull 12) :: []
set_option maxRecDepth 100000 in
theorem sX3_comeTo_107 (l : Launch) : AllS (pSnd l rmX3_comeTo yX3_comeTo.cls cX3_comeTo wsX3_comeTo 7 (some .int)) 107 kX3_comeTo_107 :=
  alls _ (s_iload dX3_comeTo_107) <|
  alls _ (s_iret dX3_comeTo_109) <|
  alls_nil _
set_option maxRecDepth 100000 in
theorem sX3_comeTo_63 (l : Launch) : AllS (pSnd l rmX3_comeTo yX3_comeTo.cls cX3_comeTo wsX3_comeTo 7 (some .int)) 63 kX3_comeTo_63 :=
  alls _ (s_iload dX3_comeTo_63) <|
  alls _ (s_aload_n rfl dX3_comeTo_65) <|
  alls _ (s_callv (ct_X2_size l) rfl rfl rfl (gdV wd_191 wd_192 wd_193 wd_63 wd_194) rfl rfl (by decide +kernel) ⟨Nat.le_of_ble_eq_true rfl, Nat.le_of_ble_eq_true rfl⟩ dX3_comeTo_66) <|
  alls _ (s_icmp_ge (by decide) dX3_comeTo_69) <|
  alls _ (s_iconst dX3_comeTo_72) <|
  alls _ (s_aload_n rfl dX3_comeTo_73) <|
  alls _ (s_iload dX3_comeTo_74) <|
  alls _ (s_callv (ct_X2_at l) rfl rfl rfl (gdV wd_195 wd_196 wd_197 wd_63 wd_198) rfl rfl (by decide +kernel) ⟨Nat.le_of_ble_eq_true rfl, Nat.le_of_ble_eq_true rfl⟩ dX3_comeTo_76) <|
  alls _ (s_calls (ct_X3_sizeOf l) rfl rfl (gdS wd_201) (List.mem_cons_of_mem _ wd_199) (List.mem_cons_of_mem _ wd_200) (List.mem_cons_of_mem _ wd_66) rfl rfl (by decide +kernel) ⟨Nat.le_of_ble_eq_true rfl, Nat.le_of_ble_eq_true rfl⟩ dX3_comeTo_79) <|
  alls _ (s_mmax (List.mem_cons_of_mem _ wd_228) (List.mem_cons_of_mem _ wd_134) (List.mem_cons_of_mem _ wd_64) (List.mem_cons_of_mem _ wd_135) ⟨Nat.le_of_ble_eq_true rfl, Nat.le_of_ble_eq_true rfl⟩ dX3_comeTo_82) <|
  alls _ (s_istore dX3_comeTo_85) <|
  alls _ (s_aload_n rfl dX3_comeTo_87) <|
  alls _ (s_iload dX3_comeTo_88) <|
  alls _ (s_aload_n rfl dX3_comeTo_90) <|
  alls _ (s_calls (ct_X3_come l) rfl rfl (gdS wd_231) (List.mem_cons_of_mem _ wd_229) (List.mem_cons_of_mem _ wd_230) (List.mem_cons_of_mem _ wd_66) rfl rfl (by decide +kernel) ⟨Nat.le_of_ble_eq_true rfl, Nat.le_of_ble_eq_true rfl⟩ dX3_comeTo_91) <|
  alls _ (s_iinc dX3_comeTo_94) <|
  alls _ (s_iload dX3_comeTo_97) <|
  alls _ (s_iload dX3_comeTo_99) <|
  alls _ (s_iadd dX3_comeTo_101) <|
  alls _ (s_istore dX3_comeTo_102) <|
  alls _ (s_goto (by decide) dX3_comeTo_104) <|
  alls_nil _
set_option maxRecDepth 100000 in
theorem sX3_comeTo_54 (l : Launch) : AllS (pSnd l rmX3_comeTo yX3_comeTo.cls cX3_comeTo wsX3_comeTo 7 (some .int)) 54 kX3_comeTo_54 :=
  alls _ (s_iconst dX3_comeTo_54) <|
  alls _ (s_istore dX3_comeTo_55) <|
  alls _ (s_iconst dX3_comeTo_57) <|
  alls _ (s_istore dX3_comeTo_58) <|
  alls _ (s_iconst dX3_comeTo_60) <|
  alls _ (s_istore dX3_comeTo_61) <|
  alls _ s_fall (alls_nil _)
set_option maxRecDepth 100000 in
theorem sX3_comeTo_29 (l : Launch) : AllS (pSnd l rmX3_comeTo yX3_comeTo.cls cX3_comeTo wsX3_comeTo 7 (some .int)) 29 kX3_comeTo_29 :=
  alls _ (s_aload_n rfl dX3_comeTo_29) <|
  alls _ (s_aload_n rfl dX3_comeTo_30) <|
  alls _ (s_callv (ct_X0_pairs l) rfl rfl rfl (gdV wd_208 wd_209 wd_210 wd_61 wd_211) rfl rfl (by decide +kernel) ⟨Nat.le_of_ble_eq_true rfl, Nat.le_of_ble_eq_true rfl⟩ dX3_comeTo_31) <|
  alls _ (s_aload_n rfl dX3_comeTo_34) <|
  alls _ (s_callv (ct_X0_minute l) rfl rfl rfl (gdV wd_212 wd_213 wd_214 wd_61 wd_215) rfl rfl (by decide +kernel) ⟨Nat.le_of_ble_eq_true rfl, Nat.le_of_ble_eq_true rfl⟩ dX3_comeTo_35) <|
  alls _ (s_calls (ct_X3_wrongAt l) rfl rfl (gdS wd_218) (List.mem_cons_of_mem _ wd_216) (List.mem_cons_of_mem _ wd_217) (List.mem_cons_of_mem _ wd_66) rfl rfl (by decide +kernel) ⟨Nat.le_of_ble_eq_true rfl, Nat.le_of_ble_eq_true rfl⟩ dX3_comeTo_38) <|
  alls _ (s_istore_n rfl dX3_comeTo_41) <|
  alls _ (s_iload_n rfl dX3_comeTo_42) <|
  alls _ (s_bipush (by decide) dX3_comeTo_43) <|
  alls _ (s_icmp_eq (by decide) dX3_comeTo_45) <|
  alls _ (s_sipush (by decide) dX3_comeTo_48) <|
  alls _ (s_iload_n rfl dX3_comeTo_51) <|
  alls _ (s_isub dX3_comeTo_52) <|
  alls _ (s_iret dX3_comeTo_53) <|
  alls_nil _
set_option maxRecDepth 100000 in
theorem sX3_comeTo_12 (l : Launch) : AllS (pSnd l rmX3_comeTo yX3_comeTo.cls cX3_comeTo wsX3_comeTo 7 (some .int)) 12 kX3_comeTo_12 :=
  alls _ (s_aload_n rfl dX3_comeTo_12) <|
  alls _ (s_calls (ct_X3_brokenAt l) rfl rfl (gdS wd_190) (List.mem_cons_of_mem _ wd_188) (List.mem_cons_of_mem _ wd_189) (List.mem_cons_of_mem _ wd_66) rfl rfl (by decide +kernel) ⟨Nat.le_of_ble_eq_true rfl, Nat.le_of_ble_eq_true rfl⟩ dX3_comeTo_13) <|
  alls _ (s_istore_n rfl dX3_comeTo_16) <|
  alls _ (s_iload_n rfl dX3_comeTo_17) <|
  alls _ (s_bipush (by decide) dX3_comeTo_18) <|
  alls _ (s_icmp_eq (by decide) dX3_comeTo_20) <|
  alls _ (s_sipush (by decide) dX3_comeTo_23) <|
  alls _ (s_iload_n rfl dX3_comeTo_26) <|
  alls _ (s_isub dX3_comeTo_27) <|
  alls _ (s_iret dX3_comeTo_28) <|
  alls_nil _
set_option maxRecDepth 100000 in
theorem sX3_comeTo_0 (l : Launch) : AllS (pSnd l rmX3_comeTo yX3_comeTo.cls cX3_comeTo wsX3_comeTo 7 (some .int)) 0 kX3_comeTo_0 :=
  alls _ (s_aload_n rfl dX3_comeTo_0) <|
  alls _ (s_ifnull dX3_comeTo_1) <|
  alls _ (s_aload_n rfl dX3_comeTo_4) <|
  alls _ (s_ifnonnull (by decide) dX3_comeTo_5) <|
  alls_nil _
def KX3_comeTo : List (Nat × pProg) := [(0, kX3_comeTo_0), (12, kX3_comeTo_12), (29, kX3_comeTo_29), (54, kX3_comeTo_54), (63, kX3_comeTo_63), (107, kX3_comeTo_107)]
theorem bX3_comeTo_0 : blkOf KX3_comeTo 0 = some kX3_comeTo_0 := rfl
theorem bX3_comeTo_12 : blkOf KX3_comeTo 12 = some kX3_comeTo_12 := rfl
theorem bX3_comeTo_29 : blkOf KX3_comeTo 29 = some kX3_comeTo_29 := rfl
theorem bX3_comeTo_54 : blkOf KX3_comeTo 54 = some kX3_comeTo_54 := rfl
theorem bX3_comeTo_63 : blkOf KX3_comeTo 63 = some kX3_comeTo_63 := rfl
theorem bX3_comeTo_107 : blkOf KX3_comeTo 107 = some kX3_comeTo_107 := rfl
def tX3_comeTo : pT := pM KX3_comeTo 7
theorem ct_X3_comeTo (l : Launch) : pCtr l yX3_comeTo wsX3_comeTo rmX3_comeTo 2 tX3_comeTo := ctr_of (by decide +kernel) rfl (List.forall_mem_cons.mpr ⟨sX3_comeTo_0 l, List.forall_mem_cons.mpr ⟨sX3_comeTo_12 l, List.forall_mem_cons.mpr ⟨sX3_comeTo_29 l, List.forall_mem_cons.mpr ⟨sX3_comeTo_54 l, List.forall_mem_cons.mpr ⟨sX3_comeTo_63 l, List.forall_mem_cons.mpr ⟨sX3_comeTo_107 l, fun _ h => absurd h List.not_mem_nil⟩⟩⟩⟩⟩⟩)
