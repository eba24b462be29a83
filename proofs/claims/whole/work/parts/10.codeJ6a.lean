theorem dJ6_bitCount_0f7a4_0 : decode cJ6_bitCount_0f7a4 0 = .ok (.iload_n 0, 1) := by decide +kernel
theorem dJ6_bitCount_0f7a4_1 : decode cJ6_bitCount_0f7a4 1 = .ok (.iload_n 0, 1) := by decide +kernel
theorem dJ6_bitCount_0f7a4_2 : decode cJ6_bitCount_0f7a4 2 = .ok (.iconst 1, 1) := by decide +kernel
theorem dJ6_bitCount_0f7a4_3 : decode cJ6_bitCount_0f7a4 3 = .ok (.iushr, 1) := by decide +kernel
theorem dJ6_bitCount_0f7a4_4 : decode cJ6_bitCount_0f7a4 4 = .ok (.ldc_w 265, 3) := by decide +kernel
theorem dJ6_bitCount_0f7a4_7 : decode cJ6_bitCount_0f7a4 7 = .ok (.iand, 1) := by decide +kernel
theorem dJ6_bitCount_0f7a4_8 : decode cJ6_bitCount_0f7a4 8 = .ok (.isub, 1) := by decide +kernel
theorem dJ6_bitCount_0f7a4_9 : decode cJ6_bitCount_0f7a4 9 = .ok (.istore_n 0, 1) := by decide +kernel
theorem dJ6_bitCount_0f7a4_10 : decode cJ6_bitCount_0f7a4 10 = .ok (.iload_n 0, 1) := by decide +kernel
theorem dJ6_bitCount_0f7a4_11 : decode cJ6_bitCount_0f7a4 11 = .ok (.ldc_w 266, 3) := by decide +kernel
theorem dJ6_bitCount_0f7a4_14 : decode cJ6_bitCount_0f7a4 14 = .ok (.iand, 1) := by decide +kernel
theorem dJ6_bitCount_0f7a4_15 : decode cJ6_bitCount_0f7a4 15 = .ok (.iload_n 0, 1) := by decide +kernel
theorem dJ6_bitCount_0f7a4_16 : decode cJ6_bitCount_0f7a4 16 = .ok (.iconst 2, 1) := by decide +kernel
theorem dJ6_bitCount_0f7a4_17 : decode cJ6_bitCount_0f7a4 17 = .ok (.iushr, 1) := by decide +kernel
theorem dJ6_bitCount_0f7a4_18 : decode cJ6_bitCount_0f7a4 18 = .ok (.ldc_w 266, 3) := by decide +kernel
theorem dJ6_bitCount_0f7a4_21 : decode cJ6_bitCount_0f7a4 21 = .ok (.iand, 1) := by decide +kernel
theorem dJ6_bitCount_0f7a4_22 : decode cJ6_bitCount_0f7a4 22 = .ok (.iadd, 1) := by decide +kernel
theorem dJ6_bitCount_0f7a4_23 : decode cJ6_bitCount_0f7a4 23 = .ok (.istore_n 0, 1) := by decide +kernel
theorem dJ6_bitCount_0f7a4_24 : decode cJ6_bitCount_0f7a4 24 = .ok (.iload_n 0, 1) := by decide +kernel
theorem dJ6_bitCount_0f7a4_25 : decode cJ6_bitCount_0f7a4 25 = .ok (.iload_n 0, 1) := by decide +kernel
theorem dJ6_bitCount_0f7a4_26 : decode cJ6_bitCount_0f7a4 26 = .ok (.iconst 4, 1) := by decide +kernel
theorem dJ6_bitCount_0f7a4_27 : decode cJ6_bitCount_0f7a4 27 = .ok (.iushr, 1) := by decide +kernel
theorem dJ6_bitCount_0f7a4_28 : decode cJ6_bitCount_0f7a4 28 = .ok (.iadd, 1) := by decide +kernel
theorem dJ6_bitCount_0f7a4_29 : decode cJ6_bitCount_0f7a4 29 = .ok (.ldc_w 267, 3) := by decide +kernel
theorem dJ6_bitCount_0f7a4_32 : decode cJ6_bitCount_0f7a4 32 = .ok (.iand, 1) := by decide +kernel
theorem dJ6_bitCount_0f7a4_33 : decode cJ6_bitCount_0f7a4 33 = .ok (.istore_n 0, 1) := by decide +kernel
theorem dJ6_bitCount_0f7a4_34 : decode cJ6_bitCount_0f7a4 34 = .ok (.iload_n 0, 1) := by decide +kernel
theorem dJ6_bitCount_0f7a4_35 : decode cJ6_bitCount_0f7a4 35 = .ok (.iload_n 0, 1) := by decide +kernel
theorem dJ6_bitCount_0f7a4_36 : decode cJ6_bitCount_0f7a4 36 = .ok (.bipush 8, 2) := by decide +kernel
theorem dJ6_bitCount_0f7a4_38 : decode cJ6_bitCount_0f7a4 38 = .ok (.iushr, 1) := by decide +kernel
theorem dJ6_bitCount_0f7a4_39 : decode cJ6_bitCount_0f7a4 39 = .ok (.iadd, 1) := by decide +kernel
theorem dJ6_bitCount_0f7a4_40 : decode cJ6_bitCount_0f7a4 40 = .ok (.istore_n 0, 1) := by decide +kernel
theorem dJ6_bitCount_0f7a4_41 : decode cJ6_bitCount_0f7a4 41 = .ok (.iload_n 0, 1) := by decide +kernel
theorem dJ6_bitCount_0f7a4_42 : decode cJ6_bitCount_0f7a4 42 = .ok (.iload_n 0, 1) := by decide +kernel
theorem dJ6_bitCount_0f7a4_43 : decode cJ6_bitCount_0f7a4 43 = .ok (.bipush 16, 2) := by decide +kernel
theorem dJ6_bitCount_0f7a4_45 : decode cJ6_bitCount_0f7a4 45 = .ok (.iushr, 1) := by decide +kernel
theorem dJ6_bitCount_0f7a4_46 : decode cJ6_bitCount_0f7a4 46 = .ok (.iadd, 1) := by decide +kernel
theorem dJ6_bitCount_0f7a4_47 : decode cJ6_bitCount_0f7a4 47 = .ok (.istore_n 0, 1) := by decide +kernel
theorem dJ6_bitCount_0f7a4_48 : decode cJ6_bitCount_0f7a4 48 = .ok (.iload_n 0, 1) := by decide +kernel
theorem dJ6_bitCount_0f7a4_49 : decode cJ6_bitCount_0f7a4 49 = .ok (.bipush 63, 2) := by decide +kernel
theorem dJ6_bitCount_0f7a4_51 : decode cJ6_bitCount_0f7a4 51 = .ok (.iand, 1) := by decide +kernel
theorem dJ6_bitCount_0f7a4_52 : decode cJ6_bitCount_0f7a4 52 = .ok (.ireturn, 1) := by decide +kernel
def rmJ6_bitCount_0f7a4 : Room := { frames := 0, cells := 0, slots := 0, locals := 0 }
abbrev wsJ6_bitCount_0f7a4 : List Cond := .code yJ6_bitCount_0f7a4 cJ6_bitCount_0f7a4 1 (some .int) :: gw_tbl
def kJ6_bitCount_0f7a4_48 : pProg := (48, 1, a_iload 0) :: (49, 2, a_iconst 63) :: (51, 1, a_iand) :: (52, 1, a_iret) :: []
def kJ6_bitCount_0f7a4_41 : pProg := (41, 1, a_iload 0) :: (42, 1, a_iload 0) :: (43, 2, a_iconst 16) :: (45, 1, a_iushr) :: (46, 1, a_iadd) :: (47, 1, a_istore 0) :: (48, 0, a_fall 48) :: []
def kJ6_bitCount_0f7a4_34 : pProg := (34, 1, a_iload 0) :: (35, 1, a_iload 0) :: (36, 2, a_iconst 8) :: (38, 1, a_iushr) :: (39, 1, a_iadd) :: (40, 1, a_istore 0) :: (41, 0, a_fall 41) :: []
def kJ6_bitCount_0f7a4_24 : pProg := (24, 1, a_iload 0) :: (25, 1, a_iload 0) :: (26, 1, a_iconst 4) :: (27, 1, a_iushr) :: (28, 1, a_iadd) :: (29, 3, a_iconst 252645135) :: (32, 1, a_iand) :: (33, 1, a_istore 0) :: (34, 0, a_fall 34) :: []
def kJ6_bitCount_0f7a4_10 : pProg := (10, 1, a_iload 0) :: (11, 3, a_iconst 858993459) :: (14, 1, a_iand) :: (15, 1, a_iload 0) :: (16, 1, a_iconst 2) :: (17, 1, a_iushr) :: (18, 3, a_iconst 858993459) :: (21, 1, a_iand) :: (22, 1, a_iadd) :: (23, 1, a_istore 0) :: (24, 0, a_fall 24) :: []
def kJ6_bitCount_0f7a4_0 : pProg := (0, 1, a_iload 0) :: (1, 1, a_iload 0) :: (2, 1, a_iconst 1) :: (3, 1, a_iushr) :: (4, 3, a_iconst 1431655765) :: (7, 1, a_iand) :: (8, 1, a_isub) :: (9, 1, a_istore 0) :: (10, 0, a_fall 10) :: []
set_option maxRecDepth 100000 in
theorem sJ6_bitCount_0f7a4_48 (l : Launch) : AllS (pSnd l rmJ6_bitCount_0f7a4 yJ6_bitCount_0f7a4.cls cJ6_bitCount_0f7a4 wsJ6_bitCount_0f7a4 1 (some .int)) 48 kJ6_bitCount_0f7a4_48 :=
  alls _ (s_iload_n rfl dJ6_bitCount_0f7a4_48) <|
  alls _ (s_bipush (by decide) dJ6_bitCount_0f7a4_49) <|
  alls _ (s_iand dJ6_bitCount_0f7a4_51) <|
  alls _ (s_iret dJ6_bitCount_0f7a4_52) <|
  alls_nil _
set_option maxRecDepth 100000 in
theorem sJ6_bitCount_0f7a4_41 (l : Launch) : AllS (pSnd l rmJ6_bitCount_0f7a4 yJ6_bitCount_0f7a4.cls cJ6_bitCount_0f7a4 wsJ6_bitCount_0f7a4 1 (some .int)) 41 kJ6_bitCount_0f7a4_41 :=
  alls _ (s_iload_n rfl dJ6_bitCount_0f7a4_41) <|
  alls _ (s_iload_n rfl dJ6_bitCount_0f7a4_42) <|
  alls _ (s_bipush (by decide) dJ6_bitCount_0f7a4_43) <|
  alls _ (s_iushr dJ6_bitCount_0f7a4_45) <|
  alls _ (s_iadd dJ6_bitCount_0f7a4_46) <|
  alls _ (s_istore_n rfl dJ6_bitCount_0f7a4_47) <|
  alls _ s_fall (alls_nil _)
set_option maxRecDepth 100000 in
theorem sJ6_bitCount_0f7a4_34 (l : Launch) : AllS (pSnd l rmJ6_bitCount_0f7a4 yJ6_bitCount_0f7a4.cls cJ6_bitCount_0f7a4 wsJ6_bitCount_0f7a4 1 (some .int)) 34 kJ6_bitCount_0f7a4_34 :=
  alls _ (s_iload_n rfl dJ6_bitCount_0f7a4_34) <|
  alls _ (s_iload_n rfl dJ6_bitCount_0f7a4_35) <|
  alls _ (s_bipush (by decide) dJ6_bitCount_0f7a4_36) <|
  alls _ (s_iushr dJ6_bitCount_0f7a4_38) <|
  alls _ (s_iadd dJ6_bitCount_0f7a4_39) <|
  alls _ (s_istore_n rfl dJ6_bitCount_0f7a4_40) <|
  alls _ s_fall (alls_nil _)
set_option maxRecDepth 100000 in
theorem sJ6_bitCount_0f7a4_24 (l : Launch) : AllS (pSnd l rmJ6_bitCount_0f7a4 yJ6_bitCount_0f7a4.cls cJ6_bitCount_0f7a4 wsJ6_bitCount_0f7a4 1 (some .int)) 24 kJ6_bitCount_0f7a4_24 :=
  alls _ (s_iload_n rfl dJ6_bitCount_0f7a4_24) <|
  alls _ (s_iload_n rfl dJ6_bitCount_0f7a4_25) <|
  alls _ (s_iconst dJ6_bitCount_0f7a4_26) <|
  alls _ (s_iushr dJ6_bitCount_0f7a4_27) <|
  alls _ (s_iadd dJ6_bitCount_0f7a4_28) <|
  alls _ (s_ldcw (List.mem_cons_of_mem _ wd_406) dJ6_bitCount_0f7a4_29) <|
  alls _ (s_iand dJ6_bitCount_0f7a4_32) <|
  alls _ (s_istore_n rfl dJ6_bitCount_0f7a4_33) <|
  alls _ s_fall (alls_nil _)
set_option maxRecDepth 100000 in
theorem sJ6_bitCount_0f7a4_10 (l : Launch) : AllS (pSnd l rmJ6_bitCount_0f7a4 yJ6_bitCount_0f7a4.cls cJ6_bitCount_0f7a4 wsJ6_bitCount_0f7a4 1 (some .int)) 10 kJ6_bitCount_0f7a4_10 :=
  alls _ (s_iload_n rfl dJ6_bitCount_0f7a4_10) <|
  alls _ (s_ldcw (List.mem_cons_of_mem _ wd_405) dJ6_bitCount_0f7a4_11) <|
  alls _ (s_iand dJ6_bitCount_0f7a4_14) <|
  alls _ (s_iload_n rfl dJ6_bitCount_0f7a4_15) <|
  alls _ (s_iconst dJ6_bitCount_0f7a4_16) <|
  alls _ (s_iushr dJ6_bitCount_0f7a4_17) <|
  alls _ (s_ldcw (List.mem_cons_of_mem _ wd_405) dJ6_bitCount_0f7a4_18) <|
  alls _ (s_iand dJ6_bitCount_0f7a4_21) <|
  alls _ (s_iadd dJ6_bitCount_0f7a4_22) <|
  alls _ (s_istore_n rfl dJ6_bitCount_0f7a4_23) <|
  alls _ s_fall (alls_nil _)
set_option maxRecDepth 100000 in
theorem sJ6_bitCount_0f7a4_0 (l : Launch) : AllS (pSnd l rmJ6_bitCount_0f7a4 yJ6_bitCount_0f7a4.cls cJ6_bitCount_0f7a4 wsJ6_bitCount_0f7a4 1 (some .int)) 0 kJ6_bitCount_0f7a4_0 :=
  alls _ (s_iload_n rfl dJ6_bitCount_0f7a4_0) <|
  alls _ (s_iload_n rfl dJ6_bitCount_0f7a4_1) <|
  alls _ (s_iconst dJ6_bitCount_0f7a4_2) <|
  alls _ (s_iushr dJ6_bitCount_0f7a4_3) <|
  alls _ (s_ldcw (List.mem_cons_of_mem _ wd_404) dJ6_bitCount_0f7a4_4) <|
  alls _ (s_iand dJ6_bitCount_0f7a4_7) <|
  alls _ (s_isub dJ6_bitCount_0f7a4_8) <|
  alls _ (s_istore_n rfl dJ6_bitCount_0f7a4_9) <|
  alls _ s_fall (alls_nil _)
def KJ6_bitCount_0f7a4 : List (Nat × pProg) := [(0, kJ6_bitCount_0f7a4_0), (10, kJ6_bitCount_0f7a4_10), (24, kJ6_bitCount_0f7a4_24), (34, kJ6_bitCount_0f7a4_34), (41, kJ6_bitCount_0f7a4_41), (48, kJ6_bitCount_0f7a4_48)]
theorem bJ6_bitCount_0f7a4_0 : blkOf KJ6_bitCount_0f7a4 0 = some kJ6_bitCount_0f7a4_0 := rfl
theorem bJ6_bitCount_0f7a4_10 : blkOf KJ6_bitCount_0f7a4 10 = some kJ6_bitCount_0f7a4_10 := rfl
theorem bJ6_bitCount_0f7a4_24 : blkOf KJ6_bitCount_0f7a4 24 = some kJ6_bitCount_0f7a4_24 := rfl
theorem bJ6_bitCount_0f7a4_34 : blkOf KJ6_bitCount_0f7a4 34 = some kJ6_bitCount_0f7a4_34 := rfl
theorem bJ6_bitCount_0f7a4_41 : blkOf KJ6_bitCount_0f7a4 41 = some kJ6_bitCount_0f7a4_41 := rfl
theorem bJ6_bitCount_0f7a4_48 : blkOf KJ6_bitCount_0f7a4 48 = some kJ6_bitCount_0f7a4_48 := rfl
def tJ6_bitCount_0f7a4 : pT := pM KJ6_bitCount_0f7a4 1
theorem ct_J6_bitCount_0f7a4 (l : Launch) : pCtr l yJ6_bitCount_0f7a4 wsJ6_bitCount_0f7a4 rmJ6_bitCount_0f7a4 1 tJ6_bitCount_0f7a4 := ctr_of (by decide +kernel) rfl (List.forall_mem_cons.mpr ⟨sJ6_bitCount_0f7a4_0 l, List.forall_mem_cons.mpr ⟨sJ6_bitCount_0f7a4_10 l, List.forall_mem_cons.mpr ⟨sJ6_bitCount_0f7a4_24 l, List.forall_mem_cons.mpr ⟨sJ6_bitCount_0f7a4_34 l, List.forall_mem_cons.mpr ⟨sJ6_bitCount_0f7a4_41 l, List.forall_mem_cons.mpr ⟨sJ6_bitCount_0f7a4_48 l, fun _ h => absurd h List.not_mem_nil⟩⟩⟩⟩⟩⟩)
