theorem dX4_think_0 : decode cX4_think 0 = .ok (.aload_n 0, 1) := by decide +kernel
theorem dX4_think_1 : decode cX4_think 1 = .ok (.getfield 12, 3) := by decide +kernel
theorem dX4_think_4 : decode cX4_think 4 = .ok (.aload_n 0, 1) := by decide +kernel
theorem dX4_think_5 : decode cX4_think 5 = .ok (.getfield 22, 3) := by decide +kernel
theorem dX4_think_8 : decode cX4_think 8 = .ok (.invokevirtual 25, 3) := by decide +kernel
theorem dX4_think_11 : decode cX4_think 11 = .ok (.aload_n 0, 1) := by decide +kernel
theorem dX4_think_12 : decode cX4_think 12 = .ok (.getfield 12, 3) := by decide +kernel
theorem dX4_think_15 : decode cX4_think 15 = .ok (.iload_n 1, 1) := by decide +kernel
theorem dX4_think_16 : decode cX4_think 16 = .ok (.invokevirtual 29, 3) := by decide +kernel
theorem dX4_think_19 : decode cX4_think 19 = .ok (.return_, 1) := by decide +kernel
def rmX4_think : Room := { frames := 4, cells := 0, slots := 0, locals := 94 }
abbrev wsX4_think : List Cond := .code yX4_think cX4_think 2 none :: gw_tbl
def kX4_think_0 : pProg := (0, 1, a_aload 0) :: (1, 3, a_getf 0 2 1) :: (4, 1, a_aload 0) :: (5, 3, a_getf 0 2 0) :: (8, 3, a_callv 2 0 [8, 9, 10, 11, 12, 13, 14, 1, 2, 3, 4, 5, 6, 7] tX0_become) :: (11, 1, a_aload 0) :: (12, 3, a_getf 0 2 1) :: (15, 1, a_iload 1) :: (16, 3, a_callv 2 0 [8, 9, 10, 11, 12, 13, 14] tX0_pass) :: (19, 1, a_vret) :: []
set_option maxRecDepth 100000 in
theorem sX4_think_0 (l : Launch) : AllS (pSnd l rmX4_think yX4_think.cls cX4_think wsX4_think 2 none) 0 kX4_think_0 :=
  alls _ (s_aload_n rfl dX4_think_0) <|
  alls _ (s_getf (C := RX4) (T := TX4) (N := 3) rfl (in_c inX4) (by decide) (List.mem_cons_of_mem _ wd_118) rfl dX4_think_1) <|
  alls _ (s_aload_n rfl dX4_think_4) <|
  alls _ (s_getf (C := RX4) (T := TX4) (N := 3) rfl (in_c inX4) (by decide) (List.mem_cons_of_mem _ wd_117) rfl dX4_think_5) <|
  alls _ (s_callv (ct_X0_become l) rfl rfl rfl (gdV wd_422 wd_423 wd_424 wd_61 wd_425) rfl rfl (by decide +kernel) ⟨Nat.le_of_ble_eq_true rfl, Nat.le_of_ble_eq_true rfl⟩ dX4_think_8) <|
  alls _ (s_aload_n rfl dX4_think_11) <|
  alls _ (s_getf (C := RX4) (T := TX4) (N := 3) rfl (in_c inX4) (by decide) (List.mem_cons_of_mem _ wd_118) rfl dX4_think_12) <|
  alls _ (s_iload_n rfl dX4_think_15) <|
  alls _ (s_callv (ct_X0_pass l) rfl rfl rfl (gdV wd_429 wd_294 wd_295 wd_61 wd_296) rfl rfl (by decide +kernel) ⟨Nat.le_of_ble_eq_true rfl, Nat.le_of_ble_eq_true rfl⟩ dX4_think_16) <|
  alls _ (s_vret dX4_think_19) <|
  alls_nil _
def KX4_think : List (Nat × pProg) := [(0, kX4_think_0)]
theorem bX4_think_0 : blkOf KX4_think 0 = some kX4_think_0 := rfl
def tX4_think : pT := pM KX4_think 2
theorem ct_X4_think (l : Launch) : pCtr l yX4_think wsX4_think rmX4_think 2 tX4_think := ctr_of (by decide +kernel) rfl (List.forall_mem_cons.mpr ⟨sX4_think_0 l, fun _ h => absurd h List.not_mem_nil⟩)
theorem dX4_cellThen_0 : decode cX4_cellThen 0 = .ok (.aload_n 0, 1) := by decide +kernel
theorem dX4_cellThen_1 : decode cX4_cellThen 1 = .ok (.iload_n 2, 1) := by decide +kernel
theorem dX4_cellThen_2 : decode cX4_cellThen 2 = .ok (.invokevirtual 33, 3) := by decide +kernel
theorem dX4_cellThen_5 : decode cX4_cellThen 5 = .ok (.aload_n 0, 1) := by decide +kernel
theorem dX4_cellThen_6 : decode cX4_cellThen 6 = .ok (.getfield 12, 3) := by decide +kernel
theorem dX4_cellThen_9 : decode cX4_cellThen 9 = .ok (.iload_n 1, 1) := by decide +kernel
theorem dX4_cellThen_10 : decode cX4_cellThen 10 = .ok (.invokevirtual 36, 3) := by decide +kernel
theorem dX4_cellThen_13 : decode cX4_cellThen 13 = .ok (.ireturn, 1) := by decide +kernel
def rmX4_cellThen : Room := { frames := 5, cells := 0, slots := 0, locals := 115 }
abbrev wsX4_cellThen : List Cond := .code yX4_cellThen cX4_cellThen 3 (some .int) :: gw_tbl
def kX4_cellThen_0 : pProg := (0, 1, a_aload 0) :: (1, 1, a_iload 2) :: (2, 3, a_callv 2 2 [0, 1, 2, 3, 4, 5, 6, 7, 8, 9, 10, 11, 12, 13, 14, 15] tX4_think) :: (5, 1, a_aload 0) :: (6, 3, a_getf 0 2 1) :: (9, 1, a_iload 1) :: (10, 3, a_callv 2 0 [8, 9, 10, 11, 12, 13, 14] tX0_cellOf) :: (13, 1, a_iret) :: []
set_option maxRecDepth 100000 in
theorem sX4_cellThen_0 (l : Launch) : AllS (pSnd l rmX4_cellThen yX4_cellThen.cls cX4_cellThen wsX4_cellThen 3 (some .int)) 0 kX4_cellThen_0 :=
  alls _ (s_aload_n rfl dX4_cellThen_0) <|
  alls _ (s_iload_n rfl dX4_cellThen_1) <|
  alls _ (s_callv (ct_X4_think l) rfl rfl rfl (gdV wd_418 wd_420 wd_1 wd_62 wd_421) rfl rfl (by decide +kernel) ⟨Nat.le_of_ble_eq_true rfl, Nat.le_of_ble_eq_true rfl⟩ dX4_cellThen_2) <|
  alls _ (s_aload_n rfl dX4_cellThen_5) <|
  alls _ (s_getf (C := RX4) (T := TX4) (N := 3) rfl (in_c inX4) (by decide) (List.mem_cons_of_mem _ wd_118) rfl dX4_cellThen_6) <|
  alls _ (s_iload_n rfl dX4_cellThen_9) <|
  alls _ (s_callv (ct_X0_cellOf l) rfl rfl rfl (gdV wd_430 wd_306 wd_307 wd_61 wd_308) rfl rfl (by decide +kernel) ⟨Nat.le_of_ble_eq_true rfl, Nat.le_of_ble_eq_true rfl⟩ dX4_cellThen_10) <|
  alls _ (s_iret dX4_cellThen_13) <|
  alls_nil _
def KX4_cellThen : List (Nat × pProg) := [(0, kX4_cellThen_0)]
theorem bX4_cellThen_0 : blkOf KX4_cellThen 0 = some kX4_cellThen_0 := rfl
def tX4_cellThen : pT := pM KX4_cellThen 3
theorem ct_X4_cellThen (l : Launch) : pCtr l yX4_cellThen wsX4_cellThen rmX4_cellThen 3 tX4_cellThen := ctr_of (by decide +kernel) rfl (List.forall_mem_cons.mpr ⟨sX4_cellThen_0 l, fun _ h => absurd h List.not_mem_nil⟩)
theorem dX4_toSayThen_0 : decode cX4_toSayThen 0 = .ok (.aload_n 0, 1) := by decide +kernel
theorem dX4_toSayThen_1 : decode cX4_toSayThen 1 = .ok (.iload_n 2, 1) := by decide +kernel
theorem dX4_toSayThen_2 : decode cX4_toSayThen 2 = .ok (.invokevirtual 33, 3) := by decide +kernel
theorem dX4_toSayThen_5 : decode cX4_toSayThen 5 = .ok (.aload_n 0, 1) := by decide +kernel
theorem dX4_toSayThen_6 : decode cX4_toSayThen 6 = .ok (.getfield 12, 3) := by decide +kernel
theorem dX4_toSayThen_9 : decode cX4_toSayThen 9 = .ok (.iload_n 1, 1) := by decide +kernel
theorem dX4_toSayThen_10 : decode cX4_toSayThen 10 = .ok (.invokevirtual 40, 3) := by decide +kernel
theorem dX4_toSayThen_13 : decode cX4_toSayThen 13 = .ok (.ireturn, 1) := by decide +kernel
def rmX4_toSayThen : Room := { frames := 5, cells := 0, slots := 0, locals := 115 }
abbrev wsX4_toSayThen : List Cond := .code yX4_toSayThen cX4_toSayThen 3 (some .int) :: gw_tbl
def kX4_toSayThen_0 : pProg := (0, 1, a_aload 0) :: (1, 1, a_iload 2) :: (2, 3, a_callv 2 2 [0, 1, 2, 3, 4, 5, 6, 7, 8, 9, 10, 11, 12, 13, 14, 15] tX4_think) :: (5, 1, a_aload 0) :: (6, 3, a_getf 0 2 1) :: (9, 1, a_iload 1) :: (10, 3, a_callv 2 0 [8, 9, 10, 11, 12, 13, 14] tX0_toSayOf) :: (13, 1, a_iret) :: []
set_option maxRecDepth 100000 in
theorem sX4_toSayThen_0 (l : Launch) : AllS (pSnd l rmX4_toSayThen yX4_toSayThen.cls cX4_toSayThen wsX4_toSayThen 3 (some .int)) 0 kX4_toSayThen_0 :=
  alls _ (s_aload_n rfl dX4_toSayThen_0) <|
  alls _ (s_iload_n rfl dX4_toSayThen_1) <|
  alls _ (s_callv (ct_X4_think l) rfl rfl rfl (gdV wd_418 wd_420 wd_1 wd_62 wd_421) rfl rfl (by decide +kernel) ⟨Nat.le_of_ble_eq_true rfl, Nat.le_of_ble_eq_true rfl⟩ dX4_toSayThen_2) <|
  alls _ (s_aload_n rfl dX4_toSayThen_5) <|
  alls _ (s_getf (C := RX4) (T := TX4) (N := 3) rfl (in_c inX4) (by decide) (List.mem_cons_of_mem _ wd_118) rfl dX4_toSayThen_6) <|
  alls _ (s_iload_n rfl dX4_toSayThen_9) <|
  alls _ (s_callv (ct_X0_toSayOf l) rfl rfl rfl (gdV wd_435 wd_263 wd_264 wd_61 wd_265) rfl rfl (by decide +kernel) ⟨Nat.le_of_ble_eq_true rfl, Nat.le_of_ble_eq_true rfl⟩ dX4_toSayThen_10) <|
  alls _ (s_iret dX4_toSayThen_13) <|
  alls_nil _
def KX4_toSayThen : List (Nat × pProg) := [(0, kX4_toSayThen_0)]
theorem bX4_toSayThen_0 : blkOf KX4_toSayThen 0 = some kX4_toSayThen_0 := rfl
def tX4_toSayThen : pT := pM KX4_toSayThen 3
theorem ct_X4_toSayThen (l : Launch) : pCtr l yX4_toSayThen wsX4_toSayThen rmX4_toSayThen 3 tX4_toSayThen := ctr_of (by decide +kernel) rfl (List.forall_mem_cons.mpr ⟨sX4_toSayThen_0 l, fun _ h => absurd h List.not_mem_nil⟩)
theorem dX4_allBruisesThen_0 : decode cX4_allBruisesThen 0 = .ok (.aload_n 0, 1) := by decide +kernel
theorem dX4_allBruisesThen_1 : decode cX4_allBruisesThen 1 = .ok (.iload_n 1, 1) := by decide +kernel
theorem dX4_allBruisesThen_2 : decode cX4_allBruisesThen 2 = .ok (.invokevirtual 33, 3) := by decide +kernel
theorem dX4_allBruisesThen_5 : decode cX4_allBruisesThen 5 = .ok (.aload_n 0, 1) := by decide +kernel
theorem dX4_allBruisesThen_6 : decode cX4_allBruisesThen 6 = .ok (.getfield 12, 3) := by decide +kernel
theorem dX4_allBruisesThen_9 : decode cX4_allBruisesThen 9 = .ok (.invokevirtual 46, 3) := by decide +kernel
theorem dX4_allBruisesThen_12 : decode cX4_allBruisesThen 12 = .ok (.ireturn, 1) := by decide +kernel
def rmX4_allBruisesThen : Room := { frames := 5, cells := 0, slots := 0, locals := 115 }
abbrev wsX4_allBruisesThen : List Cond := .code yX4_allBruisesThen cX4_allBruisesThen 2 (some .int) :: gw_tbl
def kX4_allBruisesThen_0 : pProg := (0, 1, a_aload 0) :: (1, 1, a_iload 1) :: (2, 3, a_callv 2 2 [0, 1, 2, 3, 4, 5, 6, 7, 8, 9, 10, 11, 12, 13, 14, 15] tX4_think) :: (5, 1, a_aload 0) :: (6, 3, a_getf 0 2 1) :: (9, 3, a_callv 1 0 [8, 9, 10, 11, 12, 13, 14] tX0_allBruises) :: (12, 1, a_iret) :: []
set_option maxRecDepth 100000 in
theorem sX4_allBruisesThen_0 (l : Launch) : AllS (pSnd l rmX4_allBruisesThen yX4_allBruisesThen.cls cX4_allBruisesThen wsX4_allBruisesThen 2 (some .int)) 0 kX4_allBruisesThen_0 :=
  alls _ (s_aload_n rfl dX4_allBruisesThen_0) <|
  alls _ (s_iload_n rfl dX4_allBruisesThen_1) <|
  alls _ (s_callv (ct_X4_think l) rfl rfl rfl (gdV wd_418 wd_420 wd_1 wd_62 wd_421) rfl rfl (by decide +kernel) ⟨Nat.le_of_ble_eq_true rfl, Nat.le_of_ble_eq_true rfl⟩ dX4_allBruisesThen_2) <|
  alls _ (s_aload_n rfl dX4_allBruisesThen_5) <|
  alls _ (s_getf (C := RX4) (T := TX4) (N := 3) rfl (in_c inX4) (by decide) (List.mem_cons_of_mem _ wd_118) rfl dX4_allBruisesThen_6) <|
  alls _ (s_callv (ct_X0_allBruises l) rfl rfl rfl (gdV wd_444 wd_445 wd_446 wd_61 wd_447) rfl rfl (by decide +kernel) ⟨Nat.le_of_ble_eq_true rfl, Nat.le_of_ble_eq_true rfl⟩ dX4_allBruisesThen_9) <|
  alls _ (s_iret dX4_allBruisesThen_12) <|
  alls_nil _
def KX4_allBruisesThen : List (Nat × pProg) := [(0, kX4_allBruisesThen_0)]
theorem bX4_allBruisesThen_0 : blkOf KX4_allBruisesThen 0 = some kX4_allBruisesThen_0 := rfl
def tX4_allBruisesThen : pT := pM KX4_allBruisesThen 2
theorem ct_X4_allBruisesThen (l : Launch) : pCtr l yX4_allBruisesThen wsX4_allBruisesThen rmX4_allBruisesThen 2 tX4_allBruisesThen := ctr_of (by decide +kernel) rfl (List.forall_mem_cons.mpr ⟨sX4_allBruisesThen_0 l, fun _ h => absurd h List.not_mem_nil⟩)
theorem dX4_bruisesOfThen_0 : decode cX4_bruisesOfThen 0 = .ok (.aload_n 0, 1) := by decide +kernel
theorem dX4_bruisesOfThen_1 : decode cX4_bruisesOfThen 1 = .ok (.iload_n 2, 1) := by decide +kernel
theorem dX4_bruisesOfThen_2 : decode cX4_bruisesOfThen 2 = .ok (.invokevirtual 33, 3) := by decide +kernel
theorem dX4_bruisesOfThen_5 : decode cX4_bruisesOfThen 5 = .ok (.aload_n 0, 1) := by decide +kernel
theorem dX4_bruisesOfThen_6 : decode cX4_bruisesOfThen 6 = .ok (.getfield 12, 3) := by decide +kernel
theorem dX4_bruisesOfThen_9 : decode cX4_bruisesOfThen 9 = .ok (.iload_n 1, 1) := by decide +kernel
theorem dX4_bruisesOfThen_10 : decode cX4_bruisesOfThen 10 = .ok (.invokevirtual 43, 3) := by decide +kernel
theorem dX4_bruisesOfThen_13 : decode cX4_bruisesOfThen 13 = .ok (.ireturn, 1) := by decide +kernel
def rmX4_bruisesOfThen : Room := { frames := 5, cells := 0, slots := 0, locals := 115 }
abbrev wsX4_bruisesOfThen : List Cond := .code yX4_bruisesOfThen cX4_bruisesOfThen 3 (some .int) :: gw_tbl
def kX4_bruisesOfThen_0 : pProg := (0, 1, a_aload 0) :: (1, 1, a_iload 2) :: (2, 3, a_callv 2 2 [0, 1, 2, 3, 4, 5, 6, 7, 8, 9, 10, 11, 12, 13, 14, 15] tX4_think) :: (5, 1, a_aload 0) :: (6, 3, a_getf 0 2 1) :: (9, 1, a_iload 1) :: (10, 3, a_callv 2 0 [8, 9, 10, 11, 12, 13, 14] tX0_bruisesOf) :: (13, 1, a_iret) :: []
set_option maxRecDepth 100000 in
theorem sX4_bruisesOfThen_0 (l : Launch) : AllS (pSnd l rmX4_bruisesOfThen yX4_bruisesOfThen.cls cX4_bruisesOfThen wsX4_bruisesOfThen 3 (some .int)) 0 kX4_bruisesOfThen_0 :=
  alls _ (s_aload_n rfl dX4_bruisesOfThen_0) <|
  alls _ (s_iload_n rfl dX4_bruisesOfThen_1) <|
  alls _ (s_callv (ct_X4_think l) rfl rfl rfl (gdV wd_418 wd_420 wd_1 wd_62 wd_421) rfl rfl (by decide +kernel) ⟨Nat.le_of_ble_eq_true rfl, Nat.le_of_ble_eq_true rfl⟩ dX4_bruisesOfThen_2) <|
  alls _ (s_aload_n rfl dX4_bruisesOfThen_5) <|
  alls _ (s_getf (C := RX4) (T := TX4) (N := 3) rfl (in_c inX4) (by decide) (List.mem_cons_of_mem _ wd_118) rfl dX4_bruisesOfThen_6) <|
  alls _ (s_iload_n rfl dX4_bruisesOfThen_9) <|
  alls _ (s_callv (ct_X0_bruisesOf l) rfl rfl rfl (gdV wd_453 wd_284 wd_285 wd_61 wd_286) rfl rfl (by decide +kernel) ⟨Nat.le_of_ble_eq_true rfl, Nat.le_of_ble_eq_true rfl⟩ dX4_bruisesOfThen_10) <|
  alls _ (s_iret dX4_bruisesOfThen_13) <|
  alls_nil _
def KX4_bruisesOfThen : List (Nat × pProg) := [(0, kX4_bruisesOfThen_0)]
theorem bX4_bruisesOfThen_0 : blkOf KX4_bruisesOfThen 0 = some kX4_bruisesOfThen_0 := rfl
def tX4_bruisesOfThen : pT := pM KX4_bruisesOfThen 3
theorem ct_X4_bruisesOfThen (l : Launch) : pCtr l yX4_bruisesOfThen wsX4_bruisesOfThen rmX4_bruisesOfThen 3 tX4_bruisesOfThen := ctr_of (by decide +kernel) rfl (List.forall_mem_cons.mpr ⟨sX4_bruisesOfThen_0 l, fun _ h => absurd h List.not_mem_nil⟩)
theorem dX4_goToFace_0 : decode cX4_goToFace 0 = .ok (.iconst 0, 1) := by decide +kernel
theorem dX4_goToFace_1 : decode cX4_goToFace 1 = .ok (.istore_n 2, 1) := by decide +kernel
theorem dX4_goToFace_2 : decode cX4_goToFace 2 = .ok (.iload_n 2, 1) := by decide +kernel
theorem dX4_goToFace_3 : decode cX4_goToFace 3 = .ok (.bipush 60, 2) := by decide +kernel
theorem dX4_goToFace_5 : decode cX4_goToFace 5 = .ok (.if_icmp .gt 30, 3) := by decide +kernel
theorem dX4_goToFace_8 : decode cX4_goToFace 8 = .ok (.aload_n 0, 1) := by decide +kernel
theorem dX4_goToFace_9 : decode cX4_goToFace 9 = .ok (.getfield 12, 3) := by decide +kernel
theorem dX4_goToFace_12 : decode cX4_goToFace 12 = .ok (.iload_n 1, 1) := by decide +kernel
theorem dX4_goToFace_13 : decode cX4_goToFace 13 = .ok (.invokevirtual 56, 3) := by decide +kernel
theorem dX4_goToFace_16 : decode cX4_goToFace 16 = .ok (.ifCond .eq 5, 3) := by decide +kernel
theorem dX4_goToFace_19 : decode cX4_goToFace 19 = .ok (.iload_n 2, 1) := by decide +kernel
theorem dX4_goToFace_20 : decode cX4_goToFace 20 = .ok (.ireturn, 1) := by decide +kernel
theorem dX4_goToFace_21 : decode cX4_goToFace 21 = .ok (.aload_n 0, 1) := by decide +kernel
theorem dX4_goToFace_22 : decode cX4_goToFace 22 = .ok (.getfield 12, 3) := by decide +kernel
theorem dX4_goToFace_25 : decode cX4_goToFace 25 = .ok (.iconst 1, 1) := by decide +kernel
theorem dX4_goToFace_26 : decode cX4_goToFace 26 = .ok (.invokevirtual 29, 3) := by decide +kernel
theorem dX4_goToFace_29 : decode cX4_goToFace 29 = .ok (.iinc 2 1, 3) := by decide +kernel
theorem dX4_goToFace_32 : decode cX4_goToFace 32 = .ok (.goto (-30), 3) := by decide +kernel
theorem dX4_goToFace_35 : decode cX4_goToFace 35 = .ok (.bipush (-9), 2) := by decide +kernel
theorem dX4_goToFace_37 : decode cX4_goToFace 37 = .ok (.ireturn, 1) := by decide +kernel
def rmX4_goToFace : Room := { frames := 4, cells := 0, slots := 0, locals := 94 }
abbrev wsX4_goToFace : List Cond := .code yX4_goToFace cX4_goToFace 3 (some .int) :: gw_tbl
def kX4_goToFace_35 : pProg := (35, 2, a_iconst (-9)) :: (37, 1, a_iret) :: []
def kX4_goToFace_21 : pProg := (21, 1, a_aload 0) :: (22, 3, a_getf 0 2 1) :: (25, 1, a_iconst 1) :: (26, 3, a_callv 2 0 [8, 9, 10, 11, 12, 13, 14] tX0_pass) :: (29, 3, a_iinc 2 1) :: (32, 3, a_goto 2) :: []
def kX4_goToFace_2 : pProg := (2, 1, a_iload 2) :: (3, 2, a_iconst 60) :: (5, 3, a_icmp_gt 35) :: (8, 1, a_aload 0) :: (9, 3, a_getf 0 2 1) :: (12, 1, a_iload 1) :: (13, 3, a_callv 2 0 [8, 9, 10, 11, 12, 13, 14] tX0_isFaced) :: (16, 3, a_if_eq 21) :: (19, 1, a_iload 2) :: (20, 1, a_iret) :: []
def kX4_goToFace_0 : pProg := (0, 1, a_iconst 0) :: (1, 1, a_istore 2) :: (2, 0, a_fall 2) :: []
set_option maxRecDepth 100000 in
theorem sX4_goToFace_35 (l : Launch) : AllS (pSnd l rmX4_goToFace yX4_goToFace.cls cX4_goToFace wsX4_goToFace 3 (some .int)) 35 kX4_goToFace_35 :=
  alls _ (s_bipush (by decide) dX4_goToFace_35) <|
  alls _ (s_iret dX4_goToFace_37) <|
  alls_nil _
set_option maxRecDepth 100000 in
theorem sX4_goToFace_21 (l : Launch) : AllS (pSnd l rmX4_goToFace yX4_goToFace.cls cX4_goToFace wsX4_goToFace 3 (some .int)) 21 kX4_goToFace_21 :=
  alls _ (s_aload_n rfl dX4_goToFace_21) <|
  alls _ (s_getf (C := RX4) (T := TX4) (N := 3) rfl (in_c inX4) (by decide) (List.mem_cons_of_mem _ wd_118) rfl dX4_goToFace_22) <|
  alls _ (s_iconst dX4_goToFace_25) <|
  alls _ (s_callv (ct_X0_pass l) rfl rfl rfl (gdV wd_429 wd_294 wd_295 wd_61 wd_296) rfl rfl (by decide +kernel) ⟨Nat.le_of_ble_eq_true rfl, Nat.le_of_ble_eq_true rfl⟩ dX4_goToFace_26) <|
  alls _ (s_iinc dX4_goToFace_29) <|
  alls _ (s_goto (by decide) dX4_goToFace_32) <|
  alls_nil _
set_option maxRecDepth 100000 in
theorem sX4_goToFace_2 (l : Launch) : AllS (pSnd l rmX4_goToFace yX4_goToFace.cls cX4_goToFace wsX4_goToFace 3 (some .int)) 2 kX4_goToFace_2 :=
  alls _ (s_iload_n rfl dX4_goToFace_2) <|
  alls _ (s_bipush (by decide) dX4_goToFace_3) <|
  alls _ (s_icmp_gt (by decide) dX4_goToFace_5) <|
  alls _ (s_aload_n rfl dX4_goToFace_8) <|
  alls _ (s_getf (C := RX4) (T := TX4) (N := 3) rfl (in_c inX4) (by decide) (List.mem_cons_of_mem _ wd_118) rfl dX4_goToFace_9) <|
  alls _ (s_iload_n rfl dX4_goToFace_12) <|
  alls _ (s_callv (ct_X0_isFaced l) rfl rfl rfl (gdV wd_467 wd_322 wd_323 wd_61 wd_324) rfl rfl (by decide +kernel) ⟨Nat.le_of_ble_eq_true rfl, Nat.le_of_ble_eq_true rfl⟩ dX4_goToFace_13) <|
  alls _ (s_if_eq (by decide) dX4_goToFace_16) <|
  alls _ (s_iload_n rfl dX4_goToFace_19) <|
  alls _ (s_iret dX4_goToFace_20) <|
  alls_nil _
set_option maxRecDepth 100000 in
theorem sX4_goToFace_0 (l : Launch) : AllS (pSnd l rmX4_goToFace yX4_goToFace.cls cX4_goToFace wsX4_goToFace 3 (some .int)) 0 kX4_goToFace_0 :=
  alls _ (s_iconst dX4_goToFace_0) <|
  alls _ (s_istore_n rfl dX4_goToFace_1) <|
  alls _ s_fall (alls_nil _)
def KX4_goToFace : List (Nat × pProg) := [(0, kX4_goToFace_0), (2, kX4_goToFace_2), (21, kX4_goToFace_21), (35, kX4_goToFace_35)]
theorem bX4_goToFace_0 : blkOf KX4_goToFace 0 = some kX4_goToFace_0 := rfl
theorem bX4_goToFace_2 : blkOf KX4_goToFace 2 = some kX4_goToFace_2 := rfl
theorem bX4_goToFace_21 : blkOf KX4_goToFace 21 = some kX4_goToFace_21 := rfl
theorem bX4_goToFace_35 : blkOf KX4_goToFace 35 = some kX4_goToFace_35 := rfl
def tX4_goToFace : pT := pM KX4_goToFace 3
theorem ct_X4_goToFace (l : Launch) : pCtr l yX4_goToFace wsX4_goToFace rmX4_goToFace 2 tX4_goToFace := ctr_of (by decide +kernel) rfl (List.forall_mem_cons.mpr ⟨sX4_goToFace_0 l, List.forall_mem_cons.mpr ⟨sX4_goToFace_2 l, List.forall_mem_cons.mpr ⟨sX4_goToFace_21 l, List.forall_mem_cons.mpr ⟨sX4_goToFace_35 l, fun _ h => absurd h List.not_mem_nil⟩⟩⟩⟩)
theorem dX4_isSooner_0 : decode cX4_isSooner 0 = .ok (.iload_n 0, 1) := by decide +kernel
theorem dX4_isSooner_1 : decode cX4_isSooner 1 = .ok (.bipush (-9), 2) := by decide +kernel
theorem dX4_isSooner_3 : decode cX4_isSooner 3 = .ok (.if_icmp .eq 18, 3) := by decide +kernel
theorem dX4_isSooner_6 : decode cX4_isSooner 6 = .ok (.iload_n 1, 1) := by decide +kernel
theorem dX4_isSooner_7 : decode cX4_isSooner 7 = .ok (.bipush (-9), 2) := by decide +kernel
theorem dX4_isSooner_9 : decode cX4_isSooner 9 = .ok (.if_icmp .eq 8, 3) := by decide +kernel
theorem dX4_isSooner_12 : decode cX4_isSooner 12 = .ok (.iload_n 0, 1) := by decide +kernel
theorem dX4_isSooner_13 : decode cX4_isSooner 13 = .ok (.iload_n 1, 1) := by decide +kernel
theorem dX4_isSooner_14 : decode cX4_isSooner 14 = .ok (.if_icmp .ge 7, 3) := by decide +kernel
theorem dX4_isSooner_17 : decode cX4_isSooner 17 = .ok (.iconst 1, 1) := by decide +kernel
theorem dX4_isSooner_18 : decode cX4_isSooner 18 = .ok (.goto 4, 3) := by decide +kernel
theorem dX4_isSooner_21 : decode cX4_isSooner 21 = .ok (.iconst 0, 1) := by decide +kernel
theorem dX4_isSooner_22 : decode cX4_isSooner 22 = .ok (.ireturn, 1) := by decide +kernel
def rmX4_isSooner : Room := { frames := 0, cells := 0, slots := 0, locals := 0 }
abbrev wsX4_isSooner : List Cond := .code yX4_isSooner cX4_isSooner 2 (some .boolean) :: gw_tbl
def kX4_isSooner_22 : pProg := (22, 1, a_zret) :: []
def kX4_isSooner_21 : pProg := (21, 1, a_iconst 0) :: (22, 0, a_fall 22) :: []
def kX4_isSooner_17 : pProg := (17, 1, a_iconst 1) :: (18, 3, a_goto 22) :: []
def kX4_isSooner_0 : pProg := (0, 1, a_iload 0) :: (1, 2, a_iconst (-9)) :: (3, 3, a_icmp_eq 21) :: (6, 1, a_iload 1) :: (7, 2, a_iconst (-9)) :: (9, 3, a_icmp_eq 17) :: (12, 1, a_iload 0) :: (13, 1, a_iload 1) :: (14, 3, a_icmp_ge 21) :: (17, 0, a_fall 17) :: []
set_option maxRecDepth 100000 in
theorem sX4_isSooner_22 (l : Launch) : AllS (pSnd l rmX4_isSooner yX4_isSooner.cls cX4_isSooner wsX4_isSooner 2 (some .boolean)) 22 kX4_isSooner_22 :=
  alls _ (s_zret dX4_isSooner_22) <|
  alls_nil _
set_option maxRecDepth 100000 in
theorem sX4_isSooner_21 (l : Launch) : AllS (pSnd l rmX4_isSooner yX4_isSooner.cls cX4_isSooner wsX4_isSooner 2 (some .boolean)) 21 kX4_isSooner_21 :=
  alls _ (s_iconst dX4_isSooner_21) <|
  alls _ s_fall (alls_nil _)
set_option maxRecDepth 100000 in
theorem sX4_isSooner_17 (l : Launch) : AllS (pSnd l rmX4_isSooner yX4_isSooner.cls cX4_isSooner wsX4_isSooner 2 (some .boolean)) 17 kX4_isSooner_17 :=
  alls _ (s_iconst dX4_isSooner_17) <|
  alls _ (s_goto (by decide) dX4_isSooner_18) <|
  alls_nil _
set_option maxRecDepth 100000 in
theorem sX4_isSooner_0 (l : Launch) : AllS (pSnd l rmX4_isSooner yX4_isSooner.cls cX4_isSooner wsX4_isSooner 2 (some .boolean)) 0 kX4_isSooner_0 :=
  alls _ (s_iload_n rfl dX4_isSooner_0) <|
  alls _ (s_bipush (by decide) dX4_isSooner_1) <|
  alls _ (s_icmp_eq (by decide) dX4_isSooner_3) <|
  alls _ (s_iload_n rfl dX4_isSooner_6) <|
  alls _ (s_bipush (by decide) dX4_isSooner_7) <|
  alls _ (s_icmp_eq (by decide) dX4_isSooner_9) <|
  alls _ (s_iload_n rfl dX4_isSooner_12) <|
  alls _ (s_iload_n rfl dX4_isSooner_13) <|
  alls _ (s_icmp_ge (by decide) dX4_isSooner_14) <|
  alls _ s_fall (alls_nil _)
def KX4_isSooner : List (Nat × pProg) := [(0, kX4_isSooner_0), (17, kX4_isSooner_17), (21, kX4_isSooner_21), (22, kX4_isSooner_22)]
theorem bX4_isSooner_0 : blkOf KX4_isSooner 0 = some kX4_isSooner_0 := rfl
theorem bX4_isSooner_17 : blkOf KX4_isSooner 17 = some kX4_isSooner_17 := rfl
theorem bX4_isSooner_21 : blkOf KX4_isSooner 21 = some kX4_isSooner_21 := rfl
theorem bX4_isSooner_22 : blkOf KX4_isSooner 22 = some kX4_isSooner_22 := rfl
def tX4_isSooner : pT := pM KX4_isSooner 2
theorem ct_X4_isSooner (l : Launch) : pCtr l yX4_isSooner wsX4_isSooner rmX4_isSooner 2 tX4_isSooner := ctr_of (by decide +kernel) rfl (List.forall_mem_cons.mpr ⟨sX4_isSooner_0 l, List.forall_mem_cons.mpr ⟨sX4_isSooner_17 l, List.forall_mem_cons.mpr ⟨sX4_isSooner_21 l, List.forall_mem_cons.mpr ⟨sX4_isSooner_22 l, fun _ h => absurd h List.not_mem_nil⟩⟩⟩⟩)
theorem dX4_firstFaced_0 : decode cX4_firstFaced 0 = .ok (.bipush (-9), 2) := by decide +kernel
theorem dX4_firstFaced_2 : decode cX4_firstFaced 2 = .ok (.istore_n 1, 1) := by decide +kernel
theorem dX4_firstFaced_3 : decode cX4_firstFaced 3 = .ok (.bipush (-9), 2) := by decide +kernel
theorem dX4_firstFaced_5 : decode cX4_firstFaced 5 = .ok (.istore_n 2, 1) := by decide +kernel
theorem dX4_firstFaced_6 : decode cX4_firstFaced 6 = .ok (.iconst 0, 1) := by decide +kernel
theorem dX4_firstFaced_7 : decode cX4_firstFaced 7 = .ok (.istore_n 3, 1) := by decide +kernel
theorem dX4_firstFaced_8 : decode cX4_firstFaced 8 = .ok (.iload_n 3, 1) := by decide +kernel
theorem dX4_firstFaced_9 : decode cX4_firstFaced 9 = .ok (.aload_n 0, 1) := by decide +kernel
theorem dX4_firstFaced_10 : decode cX4_firstFaced 10 = .ok (.getfield 22, 3) := by decide +kernel
theorem dX4_firstFaced_13 : decode cX4_firstFaced 13 = .ok (.invokevirtual 64, 3) := by decide +kernel
theorem dX4_firstFaced_16 : decode cX4_firstFaced 16 = .ok (.if_icmp .ge 35, 3) := by decide +kernel
theorem dX4_firstFaced_19 : decode cX4_firstFaced 19 = .ok (.aload_n 0, 1) := by decide +kernel
theorem dX4_firstFaced_20 : decode cX4_firstFaced 20 = .ok (.iconst 0, 1) := by decide +kernel
theorem dX4_firstFaced_21 : decode cX4_firstFaced 21 = .ok (.invokevirtual 33, 3) := by decide +kernel
theorem dX4_firstFaced_24 : decode cX4_firstFaced 24 = .ok (.aload_n 0, 1) := by decide +kernel
theorem dX4_firstFaced_25 : decode cX4_firstFaced 25 = .ok (.iload_n 3, 1) := by decide +kernel
theorem dX4_firstFaced_26 : decode cX4_firstFaced 26 = .ok (.invokevirtual 50, 3) := by decide +kernel
theorem dX4_firstFaced_29 : decode cX4_firstFaced 29 = .ok (.istore 4, 2) := by decide +kernel
theorem dX4_firstFaced_31 : decode cX4_firstFaced 31 = .ok (.iload 4, 2) := by decide +kernel
theorem dX4_firstFaced_33 : decode cX4_firstFaced 33 = .ok (.iload_n 2, 1) := by decide +kernel
theorem dX4_firstFaced_34 : decode cX4_firstFaced 34 = .ok (.invokestatic 67, 3) := by decide +kernel
theorem dX4_firstFaced_37 : decode cX4_firstFaced 37 = .ok (.ifCond .eq 8, 3) := by decide +kernel
theorem dX4_firstFaced_40 : decode cX4_firstFaced 40 = .ok (.iload_n 3, 1) := by decide +kernel
theorem dX4_firstFaced_41 : decode cX4_firstFaced 41 = .ok (.istore_n 1, 1) := by decide +kernel
theorem dX4_firstFaced_42 : decode cX4_firstFaced 42 = .ok (.iload 4, 2) := by decide +kernel
theorem dX4_firstFaced_44 : decode cX4_firstFaced 44 = .ok (.istore_n 2, 1) := by decide +kernel
theorem dX4_firstFaced_45 : decode cX4_firstFaced 45 = .ok (.iinc 3 1, 3) := by decide +kernel
theorem dX4_firstFaced_48 : decode cX4_firstFaced 48 = .ok (.goto (-40), 3) := by decide +kernel
theorem dX4_firstFaced_51 : decode cX4_firstFaced 51 = .ok (.iload_n 1, 1) := by decide +kernel
theorem dX4_firstFaced_52 : decode cX4_firstFaced 52 = .ok (.ireturn, 1) := by decide +kernel
def rmX4_firstFaced : Room := { frames := 5, cells := 0, slots := 0, locals := 116 }
abbrev wsX4_firstFaced : List Cond := .code yX4_firstFaced cX4_firstFaced 5 (some .int) :: gw_tbl
def kX4_firstFaced_51 : pProg := (51, 1, a_iload 1) :: (52, 1, a_iret) :: []
def kX4_firstFaced_45 : pProg := (45, 3, a_iinc 3 1) :: (48, 3, a_goto 8) :: []
def kX4_firstFaced_8 : pProg := (8, 1, a_iload 3) :: (9, 1, a_aload 0) :: (10, 3, a_getf 0 2 0) :: (13, 3, a_callv 1 0 [1, 2, 3, 4, 5, 6, 7] tX0_pairs) :: (16, 3, a_icmp_ge 51) :: (19, 1, a_aload 0) :: (20, 1, a_iconst 0) :: (21, 3, a_callv 2 2 [0, 1, 2, 3, 4, 5, 6, 7, 8, 9, 10, 11, 12, 13, 14, 15] tX4_think) :: (24, 1, a_aload 0) :: (25, 1, a_iload 3) :: (26, 3, a_callv 2 2 [0, 1, 2, 3, 4, 5, 6, 7, 8, 9, 10, 11, 12, 13, 14, 15] tX4_goToFace) :: (29, 2, a_istore 4) :: (31, 2, a_iload 4) :: (33, 1, a_iload 2) :: (34, 3, a_calls 2 [] tX4_isSooner) :: (37, 3, a_if_eq 45) :: (40, 1, a_iload 3) :: (41, 1, a_istore 1) :: (42, 2, a_iload 4) :: (44, 1, a_istore 2) :: (45, 0, a_fall 45) :: []
def kX4_firstFaced_0 : pProg := (0, 2, a_iconst (-9)) :: (2, 1, a_istore 1) :: (3, 2, a_iconst (-9)) :: (5, 1, a_istore 2) :: (6, 1, a_iconst 0) :: (7, 1, a_istore 3) :: (8, 0, a_fall 8) :: []
set_option maxRecDepth 100000 in
theorem sX4_firstFaced_51 (l : Launch) : AllS (pSnd l rmX4_firstFaced yX4_firstFaced.cls cX4_firstFaced wsX4_firstFaced 5 (some .int)) 51 kX4_firstFaced_51 :=
  alls _ (s_iload_n rfl dX4_firstFaced_51) <|
  alls _ (s_iret dX4_firstFaced_52) <|
  alls_nil _
set_option maxRecDepth 100000 in
theorem sX4_firstFaced_45 (l : Launch) : AllS (pSnd l rmX4_firstFaced yX4_firstFaced.cls cX4_firstFaced wsX4_firstFaced 5 (some .int)) 45 kX4_firstFaced_45 :=
  alls _ (s_iinc dX4_firstFaced_45) <|
  alls _ (s_goto (by decide) dX4_firstFaced_48) <|
  alls_nil _
set_option maxRecDepth 100000 in
theorem sX4_firstFaced_8 (l : Launch) : AllS (pSnd l rmX4_firstFaced yX4_firstFaced.cls cX4_firstFaced wsX4_firstFaced 5 (some .int)) 8 kX4_firstFaced_8 :=
  alls _ (s_iload_n rfl dX4_firstFaced_8) <|
  alls _ (s_aload_n rfl dX4_firstFaced_9) <|
  alls _ (s_getf (C := RX4) (T := TX4) (N := 3) rfl (in_c inX4) (by decide) (List.mem_cons_of_mem _ wd_117) rfl dX4_firstFaced_10) <|
  alls _ (s_callv (ct_X0_pairs l) rfl rfl rfl (gdV wd_462 wd_209 wd_210 wd_61 wd_211) rfl rfl (by decide +kernel) ⟨Nat.le_of_ble_eq_true rfl, Nat.le_of_ble_eq_true rfl⟩ dX4_firstFaced_13) <|
  alls _ (s_icmp_ge (by decide) dX4_firstFaced_16) <|
  alls _ (s_aload_n rfl dX4_firstFaced_19) <|
  alls _ (s_iconst dX4_firstFaced_20) <|
  alls _ (s_callv (ct_X4_think l) rfl rfl rfl (gdV wd_418 wd_420 wd_1 wd_62 wd_421) rfl rfl (by decide +kernel) ⟨Nat.le_of_ble_eq_true rfl, Nat.le_of_ble_eq_true rfl⟩ dX4_firstFaced_21) <|
  alls _ (s_aload_n rfl dX4_firstFaced_24) <|
  alls _ (s_iload_n rfl dX4_firstFaced_25) <|
  alls _ (s_callv (ct_X4_goToFace l) rfl rfl rfl (gdV wd_463 wd_465 wd_2 wd_62 wd_466) rfl rfl (by decide +kernel) ⟨Nat.le_of_ble_eq_true rfl, Nat.le_of_ble_eq_true rfl⟩ dX4_firstFaced_26) <|
  alls _ (s_istore dX4_firstFaced_29) <|
  alls _ (s_iload dX4_firstFaced_31) <|
  alls _ (s_iload_n rfl dX4_firstFaced_33) <|
  alls _ (s_calls (ct_X4_isSooner l) rfl rfl (gdS wd_470) (List.mem_cons_of_mem _ wd_468) (List.mem_cons_of_mem _ wd_469) (List.mem_cons_of_mem _ wd_62) rfl rfl (by decide +kernel) ⟨Nat.le_of_ble_eq_true rfl, Nat.le_of_ble_eq_true rfl⟩ dX4_firstFaced_34) <|
  alls _ (s_if_eq (by decide) dX4_firstFaced_37) <|
  alls _ (s_iload_n rfl dX4_firstFaced_40) <|
  alls _ (s_istore_n rfl dX4_firstFaced_41) <|
  alls _ (s_iload dX4_firstFaced_42) <|
  alls _ (s_istore_n rfl dX4_firstFaced_44) <|
  alls _ s_fall (alls_nil _)
set_option maxRecDepth 100000 in
theorem sX4_firstFaced_0 (l : Launch) : AllS (pSnd l rmX4_firstFaced yX4_firstFaced.cls cX4_firstFaced wsX4_firstFaced 5 (some .int)) 0 kX4_firstFaced_0 :=
  alls _ (s_bipush (by decide) dX4_firstFaced_0) <|
  alls _ (s_istore_n rfl dX4_firstFaced_2) <|
  alls _ (s_bipush (by decide) dX4_firstFaced_3) <|
  alls _ (s_istore_n rfl dX4_firstFaced_5) <|
  alls _ (s_iconst dX4_firstFaced_6) <|
  alls _ (s_istore_n rfl dX4_firstFaced_7) <|
  alls _ s_fall (alls_nil _)
def KX4_firstFaced : List (Nat × pProg) := [(0, kX4_firstFaced_0), (8, kX4_firstFaced_8), (45, kX4_firstFaced_45), (51, kX4_firstFaced_51)]
theorem bX4_firstFaced_0 : blkOf KX4_firstFaced 0 = some kX4_firstFaced_0 := rfl
theorem bX4_firstFaced_8 : blkOf KX4_firstFaced 8 = some kX4_firstFaced_8 := rfl
theorem bX4_firstFaced_45 : blkOf KX4_firstFaced 45 = some kX4_firstFaced_45 := rfl
theorem bX4_firstFaced_51 : blkOf KX4_firstFaced 51 = some kX4_firstFaced_51 := rfl
def tX4_firstFaced : pT := pM KX4_firstFaced 5
theorem ct_X4_firstFaced (l : Launch) : pCtr l yX4_firstFaced wsX4_firstFaced rmX4_firstFaced 1 tX4_firstFaced := ctr_of (by decide +kernel) rfl (List.forall_mem_cons.mpr ⟨sX4_firstFaced_0 l, List.forall_mem_cons.mpr ⟨sX4_firstFaced_8 l, List.forall_mem_cons.mpr ⟨sX4_firstFaced_45 l, List.forall_mem_cons.mpr ⟨sX4_firstFaced_51 l, fun _ h => absurd h List.not_mem_nil⟩⟩⟩⟩)
theorem dX4_goAllToFace_0 : decode cX4_goAllToFace 0 = .ok (.iconst 0, 1) := by decide +kernel
theorem dX4_goAllToFace_1 : decode cX4_goAllToFace 1 = .ok (.istore_n 1, 1) := by decide +kernel
theorem dX4_goAllToFace_2 : decode cX4_goAllToFace 2 = .ok (.iload_n 1, 1) := by decide +kernel
theorem dX4_goAllToFace_3 : decode cX4_goAllToFace 3 = .ok (.bipush 60, 2) := by decide +kernel
theorem dX4_goAllToFace_5 : decode cX4_goAllToFace 5 = .ok (.if_icmp .gt 29, 3) := by decide +kernel
theorem dX4_goAllToFace_8 : decode cX4_goAllToFace 8 = .ok (.aload_n 0, 1) := by decide +kernel
theorem dX4_goAllToFace_9 : decode cX4_goAllToFace 9 = .ok (.getfield 12, 3) := by decide +kernel
theorem dX4_goAllToFace_12 : decode cX4_goAllToFace 12 = .ok (.invokevirtual 60, 3) := by decide +kernel
theorem dX4_goAllToFace_15 : decode cX4_goAllToFace 15 = .ok (.ifCond .eq 5, 3) := by decide +kernel
theorem dX4_goAllToFace_18 : decode cX4_goAllToFace 18 = .ok (.iload_n 1, 1) := by decide +kernel
theorem dX4_goAllToFace_19 : decode cX4_goAllToFace 19 = .ok (.ireturn, 1) := by decide +kernel
theorem dX4_goAllToFace_20 : decode cX4_goAllToFace 20 = .ok (.aload_n 0, 1) := by decide +kernel
theorem dX4_goAllToFace_21 : decode cX4_goAllToFace 21 = .ok (.getfield 12, 3) := by decide +kernel
theorem dX4_goAllToFace_24 : decode cX4_goAllToFace 24 = .ok (.iconst 1, 1) := by decide +kernel
theorem dX4_goAllToFace_25 : decode cX4_goAllToFace 25 = .ok (.invokevirtual 29, 3) := by decide +kernel
theorem dX4_goAllToFace_28 : decode cX4_goAllToFace 28 = .ok (.iinc 1 1, 3) := by decide +kernel
theorem dX4_goAllToFace_31 : decode cX4_goAllToFace 31 = .ok (.goto (-29), 3) := by decide +kernel
theorem dX4_goAllToFace_34 : decode cX4_goAllToFace 34 = .ok (.bipush (-9), 2) := by decide +kernel
theorem dX4_goAllToFace_36 : decode cX4_goAllToFace 36 = .ok (.ireturn, 1) := by decide +kernel
def rmX4_goAllToFace : Room := { frames := 4, cells := 0, slots := 0, locals := 94 }
abbrev wsX4_goAllToFace : List Cond := .code yX4_goAllToFace cX4_goAllToFace 2 (some .int) :: gw_tbl
def kX4_goAllToFace_34 : pProg := (34, 2, a_iconst (-9)) :: (36, 1, a_iret) :: []
def kX4_goAllToFace_20 : pProg := (20, 1, a_aload 0) :: (21, 3, a_getf 0 2 1) :: (24, 1, a_iconst 1) :: (25, 3, a_callv 2 0 [8, 9, 10, 11, 12, 13, 14] tX0_pass) :: (28, 3, a_iinc 1 1) :: (31, 3, a_goto 2) :: []
def kX4_goAllToFace_2 : pProg := (2, 1, a_iload 1) :: (3, 2, a_iconst 60) :: (5, 3, a_icmp_gt 34) :: (8, 1, a_aload 0) :: (9, 3, a_getf 0 2 1) :: (12, 3, a_callv 1 0 [8, 9, 10, 11, 12, 13, 14] tX0_areAllFaced) :: (15, 3, a_if_eq 20) :: (18, 1, a_iload 1) :: (19, 1, a_iret) :: []
def kX4_goAllToFace_0 : pProg := (0, 1, a_iconst 0) :: (1, 1, a_istore 1) :: (2, 0, a_fall 2) :: []
set_option maxRecDepth 100000 in
theorem sX4_goAllToFace_34 (l : Launch) : AllS (pSnd l rmX4_goAllToFace yX4_goAllToFace.cls cX4_goAllToFace wsX4_goAllToFace 2 (some .int)) 34 kX4_goAllToFace_34 :=
  alls _ (s_bipush (by decide) dX4_goAllToFace_34) <|
  alls _ (s_iret dX4_goAllToFace_36) <|
  alls_nil _
set_option maxRecDepth 100000 in
theorem sX4_goAllToFace_20 (l : Launch) : AllS (pSnd l rmX4_goAllToFace yX4_goAllToFace.cls cX4_goAllToFace wsX4_goAllToFace 2 (some .int)) 20 kX4_goAllToFace_20 :=
  alls _ (s_aload_n rfl dX4_goAllToFace_20) <|
  alls _ (s_getf (C := RX4) (T := TX4) (N := 3) rfl (in_c inX4) (by decide) (List.mem_cons_of_mem _ wd_118) rfl dX4_goAllToFace_21) <|
  alls _ (s_iconst dX4_goAllToFace_24) <|
  alls _ (s_callv (ct_X0_pass l) rfl rfl rfl (gdV wd_429 wd_294 wd_295 wd_61 wd_296) rfl rfl (by decide +kernel) ⟨Nat.le_of_ble_eq_true rfl, Nat.le_of_ble_eq_true rfl⟩ dX4_goAllToFace_25) <|
  alls _ (s_iinc dX4_goAllToFace_28) <|
  alls _ (s_goto (by decide) dX4_goAllToFace_31) <|
  alls_nil _
set_option maxRecDepth 100000 in
theorem sX4_goAllToFace_2 (l : Launch) : AllS (pSnd l rmX4_goAllToFace yX4_goAllToFace.cls cX4_goAllToFace wsX4_goAllToFace 2 (some .int)) 2 kX4_goAllToFace_2 :=
  alls _ (s_iload_n rfl dX4_goAllToFace_2) <|
  alls _ (s_bipush (by decide) dX4_goAllToFace_3) <|
  alls _ (s_icmp_gt (by decide) dX4_goAllToFace_5) <|
  alls _ (s_aload_n rfl dX4_goAllToFace_8) <|
  alls _ (s_getf (C := RX4) (T := TX4) (N := 3) rfl (in_c inX4) (by decide) (List.mem_cons_of_mem _ wd_118) rfl dX4_goAllToFace_9) <|
  alls _ (s_callv (ct_X0_areAllFaced l) rfl rfl rfl (gdV wd_479 wd_480 wd_481 wd_61 wd_482) rfl rfl (by decide +kernel) ⟨Nat.le_of_ble_eq_true rfl, Nat.le_of_ble_eq_true rfl⟩ dX4_goAllToFace_12) <|
  alls _ (s_if_eq (by decide) dX4_goAllToFace_15) <|
  alls _ (s_iload_n rfl dX4_goAllToFace_18) <|
  alls _ (s_iret dX4_goAllToFace_19) <|
  alls_nil _
set_option maxRecDepth 100000 in
theorem sX4_goAllToFace_0 (l : Launch) : AllS (pSnd l rmX4_goAllToFace yX4_goAllToFace.cls cX4_goAllToFace wsX4_goAllToFace 2 (some .int)) 0 kX4_goAllToFace_0 :=
  alls _ (s_iconst dX4_goAllToFace_0) <|
  alls _ (s_istore_n rfl dX4_goAllToFace_1) <|
  alls _ s_fall (alls_nil _)
def KX4_goAllToFace : List (Nat × pProg) := [(0, kX4_goAllToFace_0), (2, kX4_goAllToFace_2), (20, kX4_goAllToFace_20), (34, kX4_goAllToFace_34)]
theorem bX4_goAllToFace_0 : blkOf KX4_goAllToFace 0 = some kX4_goAllToFace_0 := rfl
theorem bX4_goAllToFace_2 : blkOf KX4_goAllToFace 2 = some kX4_goAllToFace_2 := rfl
theorem bX4_goAllToFace_20 : blkOf KX4_goAllToFace 20 = some kX4_goAllToFace_20 := rfl
theorem bX4_goAllToFace_34 : blkOf KX4_goAllToFace 34 = some kX4_goAllToFace_34 := rfl
def tX4_goAllToFace : pT := pM KX4_goAllToFace 2
theorem ct_X4_goAllToFace (l : Launch) : pCtr l yX4_goAllToFace wsX4_goAllToFace rmX4_goAllToFace 1 tX4_goAllToFace := ctr_of (by decide +kernel) rfl (List.forall_mem_cons.mpr ⟨sX4_goAllToFace_0 l, List.forall_mem_cons.mpr ⟨sX4_goAllToFace_2 l, List.forall_mem_cons.mpr ⟨sX4_goAllToFace_20 l, List.forall_mem_cons.mpr ⟨sX4_goAllToFace_34 l, fun _ h => absurd h List.not_mem_nil⟩⟩⟩⟩)
theorem dX4_allFaced_0 : decode cX4_allFaced 0 = .ok (.aload_n 0, 1) := by decide +kernel
theorem dX4_allFaced_1 : decode cX4_allFaced 1 = .ok (.iconst 0, 1) := by decide +kernel
theorem dX4_allFaced_2 : decode cX4_allFaced 2 = .ok (.invokevirtual 33, 3) := by decide +kernel
theorem dX4_allFaced_5 : decode cX4_allFaced 5 = .ok (.aload_n 0, 1) := by decide +kernel
theorem dX4_allFaced_6 : decode cX4_allFaced 6 = .ok (.invokevirtual 53, 3) := by decide +kernel
theorem dX4_allFaced_9 : decode cX4_allFaced 9 = .ok (.ireturn, 1) := by decide +kernel
def rmX4_allFaced : Room := { frames := 5, cells := 0, slots := 0, locals := 115 }
abbrev wsX4_allFaced : List Cond := .code yX4_allFaced cX4_allFaced 1 (some .int) :: gw_tbl
def kX4_allFaced_0 : pProg := (0, 1, a_aload 0) :: (1, 1, a_iconst 0) :: (2, 3, a_callv 2 2 [0, 1, 2, 3, 4, 5, 6, 7, 8, 9, 10, 11, 12, 13, 14, 15] tX4_think) :: (5, 1, a_aload 0) :: (6, 3, a_callv 1 2 [0, 1, 2, 3, 4, 5, 6, 7, 8, 9, 10, 11, 12, 13, 14, 15] tX4_goAllToFace) :: (9, 1, a_iret) :: []
set_option maxRecDepth 100000 in
theorem sX4_allFaced_0 (l : Launch) : AllS (pSnd l rmX4_allFaced yX4_allFaced.cls cX4_allFaced wsX4_allFaced 1 (some .int)) 0 kX4_allFaced_0 :=
  alls _ (s_aload_n rfl dX4_allFaced_0) <|
  alls _ (s_iconst dX4_allFaced_1) <|
  alls _ (s_callv (ct_X4_think l) rfl rfl rfl (gdV wd_418 wd_420 wd_1 wd_62 wd_421) rfl rfl (by decide +kernel) ⟨Nat.le_of_ble_eq_true rfl, Nat.le_of_ble_eq_true rfl⟩ dX4_allFaced_2) <|
  alls _ (s_aload_n rfl dX4_allFaced_5) <|
  alls _ (s_callv (ct_X4_goAllToFace l) rfl rfl rfl (gdV wd_475 wd_477 wd_3 wd_62 wd_478) rfl rfl (by decide +kernel) ⟨Nat.le_of_ble_eq_true rfl, Nat.le_of_ble_eq_true rfl⟩ dX4_allFaced_6) <|
  alls _ (s_iret dX4_allFaced_9) <|
  alls_nil _
def KX4_allFaced : List (Nat × pProg) := [(0, kX4_allFaced_0)]
theorem bX4_allFaced_0 : blkOf KX4_allFaced 0 = some kX4_allFaced_0 := rfl
def tX4_allFaced : pT := pM KX4_allFaced 1
theorem ct_X4_allFaced (l : Launch) : pCtr l yX4_allFaced wsX4_allFaced rmX4_allFaced 1 tX4_allFaced := ctr_of (by decide +kernel) rfl (List.forall_mem_cons.mpr ⟨sX4_allFaced_0 l, fun _ h => absurd h List.not_mem_nil⟩)
theorem dX4_facedBehind_0 : decode cX4_facedBehind 0 = .ok (.aload_n 0, 1) := by decide +kernel
theorem dX4_facedBehind_1 : decode cX4_facedBehind 1 = .ok (.iconst 0, 1) := by decide +kernel
theorem dX4_facedBehind_2 : decode cX4_facedBehind 2 = .ok (.invokevirtual 33, 3) := by decide +kernel
theorem dX4_facedBehind_5 : decode cX4_facedBehind 5 = .ok (.aload_n 0, 1) := by decide +kernel
theorem dX4_facedBehind_6 : decode cX4_facedBehind 6 = .ok (.iload_n 1, 1) := by decide +kernel
theorem dX4_facedBehind_7 : decode cX4_facedBehind 7 = .ok (.invokevirtual 50, 3) := by decide +kernel
theorem dX4_facedBehind_10 : decode cX4_facedBehind 10 = .ok (.ireturn, 1) := by decide +kernel
def rmX4_facedBehind : Room := { frames := 5, cells := 0, slots := 0, locals := 116 }
abbrev wsX4_facedBehind : List Cond := .code yX4_facedBehind cX4_facedBehind 2 (some .int) :: gw_tbl
def kX4_facedBehind_0 : pProg := (0, 1, a_aload 0) :: (1, 1, a_iconst 0) :: (2, 3, a_callv 2 2 [0, 1, 2, 3, 4, 5, 6, 7, 8, 9, 10, 11, 12, 13, 14, 15] tX4_think) :: (5, 1, a_aload 0) :: (6, 1, a_iload 1) :: (7, 3, a_callv 2 2 [0, 1, 2, 3, 4, 5, 6, 7, 8, 9, 10, 11, 12, 13, 14, 15] tX4_goToFace) :: (10, 1, a_iret) :: []
set_option maxRecDepth 100000 in
theorem sX4_facedBehind_0 (l : Launch) : AllS (pSnd l rmX4_facedBehind yX4_facedBehind.cls cX4_facedBehind wsX4_facedBehind 2 (some .int)) 0 kX4_facedBehind_0 :=
  alls _ (s_aload_n rfl dX4_facedBehind_0) <|
  alls _ (s_iconst dX4_facedBehind_1) <|
  alls _ (s_callv (ct_X4_think l) rfl rfl rfl (gdV wd_418 wd_420 wd_1 wd_62 wd_421) rfl rfl (by decide +kernel) ⟨Nat.le_of_ble_eq_true rfl, Nat.le_of_ble_eq_true rfl⟩ dX4_facedBehind_2) <|
  alls _ (s_aload_n rfl dX4_facedBehind_5) <|
  alls _ (s_iload_n rfl dX4_facedBehind_6) <|
  alls _ (s_callv (ct_X4_goToFace l) rfl rfl rfl (gdV wd_463 wd_465 wd_2 wd_62 wd_466) rfl rfl (by decide +kernel) ⟨Nat.le_of_ble_eq_true rfl, Nat.le_of_ble_eq_true rfl⟩ dX4_facedBehind_7) <|
  alls _ (s_iret dX4_facedBehind_10) <|
  alls_nil _
def KX4_facedBehind : List (Nat × pProg) := [(0, kX4_facedBehind_0)]
theorem bX4_facedBehind_0 : blkOf KX4_facedBehind 0 = some kX4_facedBehind_0 := rfl
def tX4_facedBehind : pT := pM KX4_facedBehind 2
theorem ct_X4_facedBehind (l : Launch) : pCtr l yX4_facedBehind wsX4_facedBehind rmX4_facedBehind 2 tX4_facedBehind := ctr_of (by decide +kernel) rfl (List.forall_mem_cons.mpr ⟨sX4_facedBehind_0 l, fun _ h => absurd h List.not_mem_nil⟩)
theorem dX4_doneBehind_0 : decode cX4_doneBehind 0 = .ok (.aload_n 0, 1) := by decide +kernel
theorem dX4_doneBehind_1 : decode cX4_doneBehind 1 = .ok (.iconst 0, 1) := by decide +kernel
theorem dX4_doneBehind_2 : decode cX4_doneBehind 2 = .ok (.invokevirtual 33, 3) := by decide +kernel
theorem dX4_doneBehind_5 : decode cX4_doneBehind 5 = .ok (.iconst 0, 1) := by decide +kernel
theorem dX4_doneBehind_6 : decode cX4_doneBehind 6 = .ok (.istore_n 2, 1) := by decide +kernel
theorem dX4_doneBehind_7 : decode cX4_doneBehind 7 = .ok (.iload_n 2, 1) := by decide +kernel
theorem dX4_doneBehind_8 : decode cX4_doneBehind 8 = .ok (.bipush 60, 2) := by decide +kernel
theorem dX4_doneBehind_10 : decode cX4_doneBehind 10 = .ok (.if_icmp .gt 30, 3) := by decide +kernel
theorem dX4_doneBehind_13 : decode cX4_doneBehind 13 = .ok (.aload_n 0, 1) := by decide +kernel
theorem dX4_doneBehind_14 : decode cX4_doneBehind 14 = .ok (.getfield 12, 3) := by decide +kernel
theorem dX4_doneBehind_17 : decode cX4_doneBehind 17 = .ok (.iload_n 1, 1) := by decide +kernel
theorem dX4_doneBehind_18 : decode cX4_doneBehind 18 = .ok (.invokevirtual 40, 3) := by decide +kernel
theorem dX4_doneBehind_21 : decode cX4_doneBehind 21 = .ok (.ifCond .ne 5, 3) := by decide +kernel
theorem dX4_doneBehind_24 : decode cX4_doneBehind 24 = .ok (.iload_n 2, 1) := by decide +kernel
theorem dX4_doneBehind_25 : decode cX4_doneBehind 25 = .ok (.ireturn, 1) := by decide +kernel
theorem dX4_doneBehind_26 : decode cX4_doneBehind 26 = .ok (.aload_n 0, 1) := by decide +kernel
theorem dX4_doneBehind_27 : decode cX4_doneBehind 27 = .ok (.getfield 12, 3) := by decide +kernel
theorem dX4_doneBehind_30 : decode cX4_doneBehind 30 = .ok (.iconst 1, 1) := by decide +kernel
theorem dX4_doneBehind_31 : decode cX4_doneBehind 31 = .ok (.invokevirtual 29, 3) := by decide +kernel
theorem dX4_doneBehind_34 : decode cX4_doneBehind 34 = .ok (.iinc 2 1, 3) := by decide +kernel
theorem dX4_doneBehind_37 : decode cX4_doneBehind 37 = .ok (.goto (-30), 3) := by decide +kernel
theorem dX4_doneBehind_40 : decode cX4_doneBehind 40 = .ok (.bipush (-9), 2) := by decide +kernel
theorem dX4_doneBehind_42 : decode cX4_doneBehind 42 = .ok (.ireturn, 1) := by decide +kernel
def rmX4_doneBehind : Room := { frames := 5, cells := 0, slots := 0, locals := 115 }
abbrev wsX4_doneBehind : List Cond := .code yX4_doneBehind cX4_doneBehind 3 (some .int) :: gw_tbl
def kX4_doneBehind_40 : pProg := (40, 2, a_iconst (-9)) :: (42, 1, a_iret) :: []
def kX4_doneBehind_26 : pProg := (26, 1, a_aload 0) :: (27, 3, a_getf 0 2 1) :: (30, 1, a_iconst 1) :: (31, 3, a_callv 2 0 [8, 9, 10, 11, 12, 13, 14] tX0_pass) :: (34, 3, a_iinc 2 1) :: (37, 3, a_goto 7) :: []
def kX4_doneBehind_7 : pProg := (7, 1, a_iload 2) :: (8, 2, a_iconst 60) :: (10, 3, a_icmp_gt 40) :: (13, 1, a_aload 0) :: (14, 3, a_getf 0 2 1) :: (17, 1, a_iload 1) :: (18, 3, a_callv 2 0 [8, 9, 10, 11, 12, 13, 14] tX0_toSayOf) :: (21, 3, a_if_ne 26) :: (24, 1, a_iload 2) :: (25, 1, a_iret) :: []
def kX4_doneBehind_0 : pProg := (0, 1, a_aload 0) :: (1, 1, a_iconst 0) :: (2, 3, a_callv 2 2 [0, 1, 2, 3, 4, 5, 6, 7, 8, 9, 10, 11, 12, 13, 14, 15] tX4_think) :: (5, 1, a_iconst 0) :: (6, 1, a_istore 2) :: (7, 0, a_fall 7) :: []
set_option maxRecDepth 100000 in
theorem sX4_doneBehind_40 (l : Launch) : AllS (pSnd l rmX4_doneBehind yX4_doneBehind.cls cX4_doneBehind wsX4_doneBehind 3 (some .int)) 40 kX4_doneBehind_40 :=
  alls _ (s_bipush (by decide) dX4_doneBehind_40) <|
  alls _ (s_iret dX4_doneBehind_42) <|
  alls_nil _
set_option maxRecDepth 100000 in
theorem sX4_doneBehind_26 (l : Launch) : AllS (pSnd l rmX4_doneBehind yX4_doneBehind.cls cX4_doneBehind wsX4_doneBehind 3 (some .int)) 26 kX4_doneBehind_26 :=
  alls _ (s_aload_n rfl dX4_doneBehind_26) <|
  alls _ (s_getf (C := RX4) (T := TX4) (N := 3) rfl (in_c inX4) (by decide) (List.mem_cons_of_mem _ wd_118) rfl dX4_doneBehind_27) <|
  alls _ (s_iconst dX4_doneBehind_30) <|
  alls _ (s_callv (ct_X0_pass l) rfl rfl rfl (gdV wd_429 wd_294 wd_295 wd_61 wd_296) rfl rfl (by decide +kernel) ⟨Nat.le_of_ble_eq_true rfl, Nat.le_of_ble_eq_true rfl⟩ dX4_doneBehind_31) <|
  alls _ (s_iinc dX4_doneBehind_34) <|
  alls _ (s_goto (by decide) dX4_doneBehind_37) <|
  alls_nil _
set_option maxRecDepth 100000 in
theorem sX4_doneBehind_7 (l : Launch) : AllS (pSnd l rmX4_doneBehind yX4_doneBehind.cls cX4_doneBehind wsX4_doneBehind 3 (some .int)) 7 kX4_doneBehind_7 :=
  alls _ (s_iload_n rfl dX4_doneBehind_7) <|
  alls _ (s_bipush (by decide) dX4_doneBehind_8) <|
  alls _ (s_icmp_gt (by decide) dX4_doneBehind_10) <|
  alls _ (s_aload_n rfl dX4_doneBehind_13) <|
  alls _ (s_getf (C := RX4) (T := TX4) (N := 3) rfl (in_c inX4) (by decide) (List.mem_cons_of_mem _ wd_118) rfl dX4_doneBehind_14) <|
  alls _ (s_iload_n rfl dX4_doneBehind_17) <|
  alls _ (s_callv (ct_X0_toSayOf l) rfl rfl rfl (gdV wd_435 wd_263 wd_264 wd_61 wd_265) rfl rfl (by decide +kernel) ⟨Nat.le_of_ble_eq_true rfl, Nat.le_of_ble_eq_true rfl⟩ dX4_doneBehind_18) <|
  alls _ (s_if_ne (by decide) dX4_doneBehind_21) <|
  alls _ (s_iload_n rfl dX4_doneBehind_24) <|
  alls _ (s_iret dX4_doneBehind_25) <|
  alls_nil _
set_option maxRecDepth 100000 in
theorem sX4_doneBehind_0 (l : Launch) : AllS (pSnd l rmX4_doneBehind yX4_doneBehind.cls cX4_doneBehind wsX4_doneBehind 3 (some .int)) 0 kX4_doneBehind_0 :=
  alls _ (s_aload_n rfl dX4_doneBehind_0) <|
  alls _ (s_iconst dX4_doneBehind_1) <|
  alls _ (s_callv (ct_X4_think l) rfl rfl rfl (gdV wd_418 wd_420 wd_1 wd_62 wd_421) rfl rfl (by decide +kernel) ⟨Nat.le_of_ble_eq_true rfl, Nat.le_of_ble_eq_true rfl⟩ dX4_doneBehind_2) <|
  alls _ (s_iconst dX4_doneBehind_5) <|
  alls _ (s_istore_n rfl dX4_doneBehind_6) <|
  alls _ s_fall (alls_nil _)
def KX4_doneBehind : List (Nat × pProg) := [(0, kX4_doneBehind_0), (7, kX4_doneBehind_7), (26, kX4_doneBehind_26), (40, kX4_doneBehind_40)]
theorem bX4_doneBehind_0 : blkOf KX4_doneBehind 0 = some kX4_doneBehind_0 := rfl
theorem bX4_doneBehind_7 : blkOf KX4_doneBehind 7 = some kX4_doneBehind_7 := rfl
theorem bX4_doneBehind_26 : blkOf KX4_doneBehind 26 = some kX4_doneBehind_26 := rfl
theorem bX4_doneBehind_40 : blkOf KX4_doneBehind 40 = some kX4_doneBehind_40 := rfl
def tX4_doneBehind : pT := pM KX4_doneBehind 3
theorem ct_X4_doneBehind (l : Launch) : pCtr l yX4_doneBehind wsX4_doneBehind rmX4_doneBehind 2 tX4_doneBehind := ctr_of (by decide +kernel) rfl (List.forall_mem_cons.mpr ⟨sX4_doneBehind_0 l, List.forall_mem_cons.mpr ⟨sX4_doneBehind_7 l, List.forall_mem_cons.mpr ⟨sX4_doneBehind_26 l, List.forall_mem_cons.mpr ⟨sX4_doneBehind_40 l, fun _ h => absurd h List.not_mem_nil⟩⟩⟩⟩)
theorem dX4_hurtBehind_0 : decode cX4_hurtBehind 0 = .ok (.aload_n 0, 1) := by decide +kernel
theorem dX4_hurtBehind_1 : decode cX4_hurtBehind 1 = .ok (.iconst 0, 1) := by decide +kernel
theorem dX4_hurtBehind_2 : decode cX4_hurtBehind 2 = .ok (.invokevirtual 33, 3) := by decide +kernel
theorem dX4_hurtBehind_5 : decode cX4_hurtBehind 5 = .ok (.iconst 0, 1) := by decide +kernel
theorem dX4_hurtBehind_6 : decode cX4_hurtBehind 6 = .ok (.istore_n 3, 1) := by decide +kernel
theorem dX4_hurtBehind_7 : decode cX4_hurtBehind 7 = .ok (.iload_n 3, 1) := by decide +kernel
theorem dX4_hurtBehind_8 : decode cX4_hurtBehind 8 = .ok (.bipush 60, 2) := by decide +kernel
theorem dX4_hurtBehind_10 : decode cX4_hurtBehind 10 = .ok (.if_icmp .gt 31, 3) := by decide +kernel
theorem dX4_hurtBehind_13 : decode cX4_hurtBehind 13 = .ok (.aload_n 0, 1) := by decide +kernel
theorem dX4_hurtBehind_14 : decode cX4_hurtBehind 14 = .ok (.getfield 12, 3) := by decide +kernel
theorem dX4_hurtBehind_17 : decode cX4_hurtBehind 17 = .ok (.iload_n 1, 1) := by decide +kernel
theorem dX4_hurtBehind_18 : decode cX4_hurtBehind 18 = .ok (.invokevirtual 43, 3) := by decide +kernel
theorem dX4_hurtBehind_21 : decode cX4_hurtBehind 21 = .ok (.iload_n 2, 1) := by decide +kernel
theorem dX4_hurtBehind_22 : decode cX4_hurtBehind 22 = .ok (.if_icmp .lt 5, 3) := by decide +kernel
theorem dX4_hurtBehind_25 : decode cX4_hurtBehind 25 = .ok (.iload_n 3, 1) := by decide +kernel
theorem dX4_hurtBehind_26 : decode cX4_hurtBehind 26 = .ok (.ireturn, 1) := by decide +kernel
theorem dX4_hurtBehind_27 : decode cX4_hurtBehind 27 = .ok (.aload_n 0, 1) := by decide +kernel
theorem dX4_hurtBehind_28 : decode cX4_hurtBehind 28 = .ok (.getfield 12, 3) := by decide +kernel
theorem dX4_hurtBehind_31 : decode cX4_hurtBehind 31 = .ok (.iconst 1, 1) := by decide +kernel
theorem dX4_hurtBehind_32 : decode cX4_hurtBehind 32 = .ok (.invokevirtual 29, 3) := by decide +kernel
theorem dX4_hurtBehind_35 : decode cX4_hurtBehind 35 = .ok (.iinc 3 1, 3) := by decide +kernel
theorem dX4_hurtBehind_38 : decode cX4_hurtBehind 38 = .ok (.goto (-31), 3) := by decide +kernel
theorem dX4_hurtBehind_41 : decode cX4_hurtBehind 41 = .ok (.bipush (-9), 2) := by decide +kernel
theorem dX4_hurtBehind_43 : decode cX4_hurtBehind 43 = .ok (.ireturn, 1) := by decide +kernel
def rmX4_hurtBehind : Room := { frames := 5, cells := 0, slots := 0, locals := 115 }
abbrev wsX4_hurtBehind : List Cond := .code yX4_hurtBehind cX4_hurtBehind 4 (some .int) :: gw_tbl
def kX4_hurtBehind_41 : pProg := (41, 2, a_iconst (-9)) :: (43, 1, a_iret) :: []
def kX4_hurtBehind_27 : pProg := (27, 1, a_aload 0) :: (28, 3, a_getf 0 2 1) :: (31, 1, a_iconst 1) :: (32, 3, a_callv 2 0 [8, 9, 10, 11, 12, 13, 14] tX0_pass) :: (35, 3, a_iinc 3 1) :: (38, 3, a_goto 7) :: []
def kX4_hurtBehind_7 : pProg := (7, 1, a_iload 3) :: (8, 2, a_iconst 60) :: (10, 3, a_icmp_gt 41) :: (13, 1, a_aload 0) :: (14, 3, a_getf 0 2 1) :: (17, 1, a_iload 1) :: (18, 3, a_callv 2 0 [8, 9, 10, 11, 12, 13, 14] tX0_bruisesOf) :: (21, 1, a_iload 2) :: (22, 3, a_icmp_lt 27) :: (25, 1, a_iload 3) :: (26, 1, a_iret) :: []
def kX4_hurtBehind_0 : pProg := (0, 1, a_aload 0) :: (1, 1, a_iconst 0) :: (2, 3, a_callv 2 2 [0, 1, 2, 3, 4, 5, 6, 7, 8, 9, 10, 11, 12, 13, 14, 15] tX4_think) :: (5, 1, a_iconst 0) :: (6, 1, a_istore 3) :: (7, 0, a_fall 7) :: []
set_option maxRecDepth 100000 in
theorem sX4_hurtBehind_41 (l : Launch) : AllS (pSnd l rmX4_hurtBehind yX4_hurtBehind.cls cX4_hurtBehind wsX4_hurtBehind 4 (some .int)) 41 kX4_hurtBehind_41 :=
  alls _ (s_bipush (by decide) dX4_hurtBehind_41) <|
  alls _ (s_iret dX4_hurtBehind_43) <|
  alls_nil _
set_option maxRecDepth 100000 in
theorem sX4_hurtBehind_27 (l : Launch) : AllS (pSnd l rmX4_hurtBehind yX4_hurtBehind.cls cX4_hurtBehind wsX4_hurtBehind 4 (some .int)) 27 kX4_hurtBehind_27 :=
  alls _ (s_aload_n rfl dX4_hurtBehind_27) <|
  alls _ (s_getf (C := RX4) (T := TX4) (N := 3) rfl (in_c inX4) (by decide) (List.mem_cons_of_mem _ wd_118) rfl dX4_hurtBehind_28) <|
  alls _ (s_iconst dX4_hurtBehind_31) <|
  alls _ (s_callv (ct_X0_pass l) rfl rfl rfl (gdV wd_429 wd_294 wd_295 wd_61 wd_296) rfl rfl (by decide +kernel) ⟨Nat.le_of_ble_eq_true rfl, Nat.le_of_ble_eq_true rfl⟩ dX4_hurtBehind_32) <|
  alls _ (s_iinc dX4_hurtBehind_35) <|
  alls _ (s_goto (by decide) dX4_hurtBehind_38) <|
  alls_nil _
set_option maxRecDepth 100000 in
theorem sX4_hurtBehind_7 (l : Launch) : AllS (pSnd l rmX4_hurtBehind yX4_hurtBehind.cls cX4_hurtBehind wsX4_hurtBehind 4 (some .int)) 7 kX4_hurtBehind_7 :=
  alls _ (s_iload_n rfl dX4_hurtBehind_7) <|
  alls _ (s_bipush (by decide) dX4_hurtBehind_8) <|
  alls _ (s_icmp_gt (by decide) dX4_hurtBehind_10) <|
  alls _ (s_aload_n rfl dX4_hurtBehind_13) <|
  alls _ (s_getf (C := RX4) (T := TX4) (N := 3) rfl (in_c inX4) (by decide) (List.mem_cons_of_mem _ wd_118) rfl dX4_hurtBehind_14) <|
  alls _ (s_iload_n rfl dX4_hurtBehind_17) <|
  alls _ (s_callv (ct_X0_bruisesOf l) rfl rfl rfl (gdV wd_453 wd_284 wd_285 wd_61 wd_286) rfl rfl (by decide +kernel) ⟨Nat.le_of_ble_eq_true rfl, Nat.le_of_ble_eq_true rfl⟩ dX4_hurtBehind_18) <|
  alls _ (s_iload_n rfl dX4_hurtBehind_21) <|
  alls _ (s_icmp_lt (by decide) dX4_hurtBehind_22) <|
  alls _ (s_iload_n rfl dX4_hurtBehind_25) <|
  alls _ (s_iret dX4_hurtBehind_26) <|
  alls_nil _
set_option maxRecDepth 100000 in
theorem sX4_hurtBehind_0 (l : Launch) : AllS (pSnd l rmX4_hurtBehind yX4_hurtBehind.cls cX4_hurtBehind wsX4_hurtBehind 4 (some .int)) 0 kX4_hurtBehind_0 :=
  alls _ (s_aload_n rfl dX4_hurtBehind_0) <|
  alls _ (s_iconst dX4_hurtBehind_1) <|
  alls _ (s_callv (ct_X4_think l) rfl rfl rfl (gdV wd_418 wd_420 wd_1 wd_62 wd_421) rfl rfl (by decide +kernel) ⟨Nat.le_of_ble_eq_true rfl, Nat.le_of_ble_eq_true rfl⟩ dX4_hurtBehind_2) <|
  alls _ (s_iconst dX4_hurtBehind_5) <|
  alls _ (s_istore_n rfl dX4_hurtBehind_6) <|
  alls _ s_fall (alls_nil _)
def KX4_hurtBehind : List (Nat × pProg) := [(0, kX4_hurtBehind_0), (7, kX4_hurtBehind_7), (27, kX4_hurtBehind_27), (41, kX4_hurtBehind_41)]
theorem bX4_hurtBehind_0 : blkOf KX4_hurtBehind 0 = some kX4_hurtBehind_0 := rfl
theorem bX4_hurtBehind_7 : blkOf KX4_hurtBehind 7 = some kX4_hurtBehind_7 := rfl
theorem bX4_hurtBehind_27 : blkOf KX4_hurtBehind 27 = some kX4_hurtBehind_27 := rfl
theorem bX4_hurtBehind_41 : blkOf KX4_hurtBehind 41 = some kX4_hurtBehind_41 := rfl
def tX4_hurtBehind : pT := pM KX4_hurtBehind 4
theorem ct_X4_hurtBehind (l : Launch) : pCtr l yX4_hurtBehind wsX4_hurtBehind rmX4_hurtBehind 3 tX4_hurtBehind := ctr_of (by decide +kernel) rfl (List.forall_mem_cons.mpr ⟨sX4_hurtBehind_0 l, List.forall_mem_cons.mpr ⟨sX4_hurtBehind_7 l, List.forall_mem_cons.mpr ⟨sX4_hurtBehind_27 l, List.forall_mem_cons.mpr ⟨sX4_hurtBehind_41 l, fun _ h => absurd h List.not_mem_nil⟩⟩⟩⟩)
theorem dX4_bestToSay_0 : decode cX4_bestToSay 0 = .ok (.bipush (-9), 2) := by decide +kernel
theorem dX4_bestToSay_2 : decode cX4_bestToSay 2 = .ok (.istore_n 2, 1) := by decide +kernel
theorem dX4_bestToSay_3 : decode cX4_bestToSay 3 = .ok (.bipush (-9), 2) := by decide +kernel
theorem dX4_bestToSay_5 : decode cX4_bestToSay 5 = .ok (.istore_n 3, 1) := by decide +kernel
theorem dX4_bestToSay_6 : decode cX4_bestToSay 6 = .ok (.bipush 20, 2) := by decide +kernel
theorem dX4_bestToSay_8 : decode cX4_bestToSay 8 = .ok (.istore 4, 2) := by decide +kernel
theorem dX4_bestToSay_10 : decode cX4_bestToSay 10 = .ok (.iload 4, 2) := by decide +kernel
theorem dX4_bestToSay_12 : decode cX4_bestToSay 12 = .ok (.ifCond .lt 57, 3) := by decide +kernel
theorem dX4_bestToSay_15 : decode cX4_bestToSay 15 = .ok (.aload_n 0, 1) := by decide +kernel
theorem dX4_bestToSay_16 : decode cX4_bestToSay 16 = .ok (.iconst 0, 1) := by decide +kernel
theorem dX4_bestToSay_17 : decode cX4_bestToSay 17 = .ok (.invokevirtual 33, 3) := by decide +kernel
theorem dX4_bestToSay_20 : decode cX4_bestToSay 20 = .ok (.aload_n 0, 1) := by decide +kernel
theorem dX4_bestToSay_21 : decode cX4_bestToSay 21 = .ok (.getfield 12, 3) := by decide +kernel
theorem dX4_bestToSay_24 : decode cX4_bestToSay 24 = .ok (.iload_n 1, 1) := by decide +kernel
theorem dX4_bestToSay_25 : decode cX4_bestToSay 25 = .ok (.iload 4, 2) := by decide +kernel
theorem dX4_bestToSay_27 : decode cX4_bestToSay 27 = .ok (.invokevirtual 71, 3) := by decide +kernel
theorem dX4_bestToSay_30 : decode cX4_bestToSay 30 = .ok (.aload_n 0, 1) := by decide +kernel
theorem dX4_bestToSay_31 : decode cX4_bestToSay 31 = .ok (.iload_n 1, 1) := by decide +kernel
theorem dX4_bestToSay_32 : decode cX4_bestToSay 32 = .ok (.invokevirtual 50, 3) := by decide +kernel
theorem dX4_bestToSay_35 : decode cX4_bestToSay 35 = .ok (.istore 5, 2) := by decide +kernel
theorem dX4_bestToSay_37 : decode cX4_bestToSay 37 = .ok (.aload_n 0, 1) := by decide +kernel
theorem dX4_bestToSay_38 : decode cX4_bestToSay 38 = .ok (.getfield 12, 3) := by decide +kernel
theorem dX4_bestToSay_41 : decode cX4_bestToSay 41 = .ok (.iload_n 1, 1) := by decide +kernel
theorem dX4_bestToSay_42 : decode cX4_bestToSay 42 = .ok (.invokevirtual 40, 3) := by decide +kernel
theorem dX4_bestToSay_45 : decode cX4_bestToSay 45 = .ok (.ifCond .ne 18, 3) := by decide +kernel
theorem dX4_bestToSay_48 : decode cX4_bestToSay 48 = .ok (.iload 5, 2) := by decide +kernel
theorem dX4_bestToSay_50 : decode cX4_bestToSay 50 = .ok (.iload_n 3, 1) := by decide +kernel
theorem dX4_bestToSay_51 : decode cX4_bestToSay 51 = .ok (.invokestatic 67, 3) := by decide +kernel
theorem dX4_bestToSay_54 : decode cX4_bestToSay 54 = .ok (.ifCond .eq 9, 3) := by decide +kernel
theorem dX4_bestToSay_57 : decode cX4_bestToSay 57 = .ok (.iload 4, 2) := by decide +kernel
theorem dX4_bestToSay_59 : decode cX4_bestToSay 59 = .ok (.istore_n 2, 1) := by decide +kernel
theorem dX4_bestToSay_60 : decode cX4_bestToSay 60 = .ok (.iload 5, 2) := by decide +kernel
theorem dX4_bestToSay_62 : decode cX4_bestToSay 62 = .ok (.istore_n 3, 1) := by decide +kernel
theorem dX4_bestToSay_63 : decode cX4_bestToSay 63 = .ok (.iinc 4 (-1), 3) := by decide +kernel
theorem dX4_bestToSay_66 : decode cX4_bestToSay 66 = .ok (.goto (-56), 3) := by decide +kernel
theorem dX4_bestToSay_69 : decode cX4_bestToSay 69 = .ok (.iload_n 2, 1) := by decide +kernel
theorem dX4_bestToSay_70 : decode cX4_bestToSay 70 = .ok (.ireturn, 1) := by decide +kernel
def rmX4_bestToSay : Room := { frames := 5, cells := 0, slots := 0, locals := 116 }
abbrev wsX4_bestToSay : List Cond := .code yX4_bestToSay cX4_bestToSay 6 (some .int) :: gw_tbl
def kX4_bestToSay_69 : pProg := (69, 1, a_iload 2) :: (70, 1, a_iret) :: []
def kX4_bestToSay_63 : pProg := (63, 3, a_iinc 4 (-1)) :: (66, 3, a_goto 10) :: []
def kX4_bestToSay_10 : pProg := (10, 2, a_iload 4) :: (12, 3, a_if_lt 69) :: (15, 1, a_aload 0) :: (16, 1, a_iconst 0) :: (17, 3, a_callv 2 2 [0, 1, 2, 3, 4, 5, 6, 7, 8, 9, 10, 11, 12, 13, 14, 15] tX4_think) :: (20, 1, a_aload 0) :: (21, 3, a_getf 0 2 1) :: (24, 1, a_iload 1) :: (25, 2, a_iload 4) :: (27, 3, a_callv 3 0 [8, 9, 10, 11, 12, 13, 14] tX0_setToSay) :: (30, 1, a_aload 0) :: (31, 1, a_iload 1) :: (32, 3, a_callv 2 2 [0, 1, 2, 3, 4, 5, 6, 7, 8, 9, 10, 11, 12, 13, 14, 15] tX4_goToFace) :: (35, 2, a_istore 5) :: (37, 1, a_aload 0) :: (38, 3, a_getf 0 2 1) :: (41, 1, a_iload 1) :: (42, 3, a_callv 2 0 [8, 9, 10, 11, 12, 13, 14] tX0_toSayOf) :: (45, 3, a_if_ne 63) :: (48, 2, a_iload 5) :: (50, 1, a_iload 3) :: (51, 3, a_calls 2 [] tX4_isSooner) :: (54, 3, a_if_eq 63) :: (57, 2, a_iload 4) :: (59, 1, a_istore 2) :: (60, 2, a_iload 5) :: (62, 1, a_istore 3) :: (63, 0, a_fall 63) :: []
def kX4_bestToSay_0 : pProg := (0, 2, a_iconst (-9)) :: (2, 1, a_istore 2) :: (3, 2, a_iconst (-9)) :: (5, 1, a_istore 3) :: (6, 2, a_iconst 20) :: (8, 2, a_istore 4) :: (10, 0, a_fall 10) :: []
set_option maxRecDepth 100000 in
theorem sX4_bestToSay_69 (l : Launch) : AllS (pSnd l rmX4_bestToSay yX4_bestToSay.cls cX4_bestToSay wsX4_bestToSay 6 (some .int)) 69 kX4_bestToSay_69 :=
  alls _ (s_iload_n rfl dX4_bestToSay_69) <|
  alls _ (s_iret dX4_bestToSay_70) <|
  alls_nil _
set_option maxRecDepth 100000 in
theorem sX4_bestToSay_63 (l : Launch) : AllS (pSnd l rmX4_bestToSay yX4_bestToSay.cls cX4_bestToSay wsX4_bestToSay 6 (some .int)) 63 kX4_bestToSay_63 :=
  alls _ (s_iinc dX4_bestToSay_63) <|
  alls _ (s_goto (by decide) dX4_bestToSay_66) <|
  alls_nil _
set_option maxRecDepth 100000 in
theorem sX4_bestToSay_10 (l : Launch) : AllS (pSnd l rmX4_bestToSay yX4_bestToSay.cls cX4_bestToSay wsX4_bestToSay 6 (some .int)) 10 kX4_bestToSay_10 :=
  alls _ (s_iload dX4_bestToSay_10) <|
  alls _ (s_if_lt (by decide) dX4_bestToSay_12) <|
  alls _ (s_aload_n rfl dX4_bestToSay_15) <|
  alls _ (s_iconst dX4_bestToSay_16) <|
  alls _ (s_callv (ct_X4_think l) rfl rfl rfl (gdV wd_418 wd_420 wd_1 wd_62 wd_421) rfl rfl (by decide +kernel) ⟨Nat.le_of_ble_eq_true rfl, Nat.le_of_ble_eq_true rfl⟩ dX4_bestToSay_17) <|
  alls _ (s_aload_n rfl dX4_bestToSay_20) <|
  alls _ (s_getf (C := RX4) (T := TX4) (N := 3) rfl (in_c inX4) (by decide) (List.mem_cons_of_mem _ wd_118) rfl dX4_bestToSay_21) <|
  alls _ (s_iload_n rfl dX4_bestToSay_24) <|
  alls _ (s_iload dX4_bestToSay_25) <|
  alls _ (s_callv (ct_X0_setToSay l) rfl rfl rfl (gdV wd_511 wd_267 wd_268 wd_61 wd_269) rfl rfl (by decide +kernel) ⟨Nat.le_of_ble_eq_true rfl, Nat.le_of_ble_eq_true rfl⟩ dX4_bestToSay_27) <|
  alls _ (s_aload_n rfl dX4_bestToSay_30) <|
  alls _ (s_iload_n rfl dX4_bestToSay_31) <|
  alls _ (s_callv (ct_X4_goToFace l) rfl rfl rfl (gdV wd_463 wd_465 wd_2 wd_62 wd_466) rfl rfl (by decide +kernel) ⟨Nat.le_of_ble_eq_true rfl, Nat.le_of_ble_eq_true rfl⟩ dX4_bestToSay_32) <|
  alls _ (s_istore dX4_bestToSay_35) <|
  alls _ (s_aload_n rfl dX4_bestToSay_37) <|
  alls _ (s_getf (C := RX4) (T := TX4) (N := 3) rfl (in_c inX4) (by decide) (List.mem_cons_of_mem _ wd_118) rfl dX4_bestToSay_38) <|
  alls _ (s_iload_n rfl dX4_bestToSay_41) <|
  alls _ (s_callv (ct_X0_toSayOf l) rfl rfl rfl (gdV wd_435 wd_263 wd_264 wd_61 wd_265) rfl rfl (by decide +kernel) ⟨Nat.le_of_ble_eq_true rfl, Nat.le_of_ble_eq_true rfl⟩ dX4_bestToSay_42) <|
  alls _ (s_if_ne (by decide) dX4_bestToSay_45) <|
  alls _ (s_iload dX4_bestToSay_48) <|
  alls _ (s_iload_n rfl dX4_bestToSay_50) <|
  alls _ (s_calls (ct_X4_isSooner l) rfl rfl (gdS wd_470) (List.mem_cons_of_mem _ wd_468) (List.mem_cons_of_mem _ wd_469) (List.mem_cons_of_mem _ wd_62) rfl rfl (by decide +kernel) ⟨Nat.le_of_ble_eq_true rfl, Nat.le_of_ble_eq_true rfl⟩ dX4_bestToSay_51) <|
  alls _ (s_if_eq (by decide) dX4_bestToSay_54) <|
  alls _ (s_iload dX4_bestToSay_57) <|
  alls _ (s_istore_n rfl dX4_bestToSay_59) <|
  alls _ (s_iload dX4_bestToSay_60) <|
  alls _ (s_istore_n rfl dX4_bestToSay_62) <|
  alls _ s_fall (alls_nil _)
set_option maxRecDepth 100000 in
theorem sX4_bestToSay_0 (l : Launch) : AllS (pSnd l rmX4_bestToSay yX4_bestToSay.cls cX4_bestToSay wsX4_bestToSay 6 (some .int)) 0 kX4_bestToSay_0 :=
  alls _ (s_bipush (by decide) dX4_bestToSay_0) <|
  alls _ (s_istore_n rfl dX4_bestToSay_2) <|
  alls _ (s_bipush (by decide) dX4_bestToSay_3) <|
  alls _ (s_istore_n rfl dX4_bestToSay_5) <|
  alls _ (s_bipush (by decide) dX4_bestToSay_6) <|
  alls _ (s_istore dX4_bestToSay_8) <|
  alls _ s_fall (alls_nil _)
def KX4_bestToSay : List (Nat × pProg) := [(0, kX4_bestToSay_0), (10, kX4_bestToSay_10), (63, kX4_bestToSay_63), (69, kX4_bestToSay_69)]
theorem bX4_bestToSay_0 : blkOf KX4_bestToSay 0 = some kX4_bestToSay_0 := rfl
theorem bX4_bestToSay_10 : blkOf KX4_bestToSay 10 = some kX4_bestToSay_10 := rfl
theorem bX4_bestToSay_63 : blkOf KX4_bestToSay 63 = some kX4_bestToSay_63 := rfl
theorem bX4_bestToSay_69 : blkOf KX4_bestToSay 69 = some kX4_bestToSay_69 := rfl
def tX4_bestToSay : pT := pM KX4_bestToSay 6
theorem ct_X4_bestToSay (l : Launch) : pCtr l yX4_bestToSay wsX4_bestToSay rmX4_bestToSay 2 tX4_bestToSay := ctr_of (by decide +kernel) rfl (List.forall_mem_cons.mpr ⟨sX4_bestToSay_0 l, List.forall_mem_cons.mpr ⟨sX4_bestToSay_10 l, List.forall_mem_cons.mpr ⟨sX4_bestToSay_63 l, List.forall_mem_cons.mpr ⟨sX4_bestToSay_69 l, fun _ h => absurd h List.not_mem_nil⟩⟩⟩⟩)
theorem dX4_dearestCell_0 : decode cX4_dearestCell 0 = .ok (.bipush (-9), 2) := by decide +kernel
theorem dX4_dearestCell_2 : decode cX4_dearestCell 2 = .ok (.istore_n 2, 1) := by decide +kernel
theorem dX4_dearestCell_3 : decode cX4_dearestCell 3 = .ok (.aload_n 0, 1) := by decide +kernel
theorem dX4_dearestCell_4 : decode cX4_dearestCell 4 = .ok (.iload_n 1, 1) := by decide +kernel
theorem dX4_dearestCell_5 : decode cX4_dearestCell 5 = .ok (.invokevirtual 33, 3) := by decide +kernel
theorem dX4_dearestCell_8 : decode cX4_dearestCell 8 = .ok (.aload_n 0, 1) := by decide +kernel
theorem dX4_dearestCell_9 : decode cX4_dearestCell 9 = .ok (.getfield 12, 3) := by decide +kernel
theorem dX4_dearestCell_12 : decode cX4_dearestCell 12 = .ok (.invokevirtual 46, 3) := by decide +kernel
theorem dX4_dearestCell_15 : decode cX4_dearestCell 15 = .ok (.istore_n 3, 1) := by decide +kernel
theorem dX4_dearestCell_16 : decode cX4_dearestCell 16 = .ok (.iconst 0, 1) := by decide +kernel
theorem dX4_dearestCell_17 : decode cX4_dearestCell 17 = .ok (.istore 4, 2) := by decide +kernel
theorem dX4_dearestCell_19 : decode cX4_dearestCell 19 = .ok (.iload 4, 2) := by decide +kernel
theorem dX4_dearestCell_21 : decode cX4_dearestCell 21 = .ok (.bipush 20, 2) := by decide +kernel
theorem dX4_dearestCell_23 : decode cX4_dearestCell 23 = .ok (.if_icmp .ge 54, 3) := by decide +kernel
theorem dX4_dearestCell_26 : decode cX4_dearestCell 26 = .ok (.aload_n 0, 1) := by decide +kernel
theorem dX4_dearestCell_27 : decode cX4_dearestCell 27 = .ok (.iconst 0, 1) := by decide +kernel
theorem dX4_dearestCell_28 : decode cX4_dearestCell 28 = .ok (.invokevirtual 33, 3) := by decide +kernel
theorem dX4_dearestCell_31 : decode cX4_dearestCell 31 = .ok (.aload_n 0, 1) := by decide +kernel
theorem dX4_dearestCell_32 : decode cX4_dearestCell 32 = .ok (.getfield 12, 3) := by decide +kernel
theorem dX4_dearestCell_35 : decode cX4_dearestCell 35 = .ok (.iload 4, 2) := by decide +kernel
theorem dX4_dearestCell_37 : decode cX4_dearestCell 37 = .ok (.iconst 0, 1) := by decide +kernel
theorem dX4_dearestCell_38 : decode cX4_dearestCell 38 = .ok (.invokevirtual 75, 3) := by decide +kernel
theorem dX4_dearestCell_41 : decode cX4_dearestCell 41 = .ok (.aload_n 0, 1) := by decide +kernel
theorem dX4_dearestCell_42 : decode cX4_dearestCell 42 = .ok (.getfield 12, 3) := by decide +kernel
theorem dX4_dearestCell_45 : decode cX4_dearestCell 45 = .ok (.iload_n 1, 1) := by decide +kernel
theorem dX4_dearestCell_46 : decode cX4_dearestCell 46 = .ok (.invokevirtual 29, 3) := by decide +kernel
theorem dX4_dearestCell_49 : decode cX4_dearestCell 49 = .ok (.aload_n 0, 1) := by decide +kernel
theorem dX4_dearestCell_50 : decode cX4_dearestCell 50 = .ok (.getfield 12, 3) := by decide +kernel
theorem dX4_dearestCell_53 : decode cX4_dearestCell 53 = .ok (.invokevirtual 46, 3) := by decide +kernel
theorem dX4_dearestCell_56 : decode cX4_dearestCell 56 = .ok (.iload_n 3, 1) := by decide +kernel
theorem dX4_dearestCell_57 : decode cX4_dearestCell 57 = .ok (.if_icmp .ge 14, 3) := by decide +kernel
theorem dX4_dearestCell_60 : decode cX4_dearestCell 60 = .ok (.iload 4, 2) := by decide +kernel
theorem dX4_dearestCell_62 : decode cX4_dearestCell 62 = .ok (.istore_n 2, 1) := by decide +kernel
theorem dX4_dearestCell_63 : decode cX4_dearestCell 63 = .ok (.aload_n 0, 1) := by decide +kernel
theorem dX4_dearestCell_64 : decode cX4_dearestCell 64 = .ok (.getfield 12, 3) := by decide +kernel
theorem dX4_dearestCell_67 : decode cX4_dearestCell 67 = .ok (.invokevirtual 46, 3) := by decide +kernel
theorem dX4_dearestCell_70 : decode cX4_dearestCell 70 = .ok (.istore_n 3, 1) := by decide +kernel
theorem dX4_dearestCell_71 : decode cX4_dearestCell 71 = .ok (.iinc 4 1, 3) := by decide +kernel
theorem dX4_dearestCell_74 : decode cX4_dearestCell 74 = .ok (.goto (-55), 3) := by decide +kernel
theorem dX4_dearestCell_77 : decode cX4_dearestCell 77 = .ok (.iload_n 2, 1) := by decide +kernel
theorem dX4_dearestCell_78 : decode cX4_dearestCell 78 = .ok (.ireturn, 1) := by decide +kernel
def rmX4_dearestCell : Room := { frames := 5, cells := 0, slots := 0, locals := 115 }
abbrev wsX4_dearestCell : List Cond := .code yX4_dearestCell cX4_dearestCell 5 (some .int) :: gw_tbl
def kX4_dearestCell_77 : pProg := (77, 1, a_iload 2) :: (78, 1, a_iret) :: []
def kX4_dearestCell_71 : pProg := (71, 3, a_iinc 4 1) :: (74, 3, a_goto 19) :: []
def kX4_dearestCell_19 : pProg := (19, 2, a_iload 4) :: (21, 2, a_iconst 20) :: (23, 3, a_icmp_ge 77) :: (26, 1, a_aload 0) :: (27, 1, a_iconst 0) :: (28, 3, a_callv 2 2 [0, 1, 2, 3, 4, 5, 6, 7, 8, 9, 10, 11, 12, 13, 14, 15] tX4_think) :: (31, 1, a_aload 0) :: (32, 3, a_getf 0 2 1) :: (35, 2, a_iload 4) :: (37, 1, a_iconst 0) :: (38, 3, a_callv 3 0 [8, 9, 10, 11, 12, 13, 14] tX0_setBeams) :: (41, 1, a_aload 0) :: (42, 3, a_getf 0 2 1) :: (45, 1, a_iload 1) :: (46, 3, a_callv 2 0 [8, 9, 10, 11, 12, 13, 14] tX0_pass) :: (49, 1, a_aload 0) :: (50, 3, a_getf 0 2 1) :: (53, 3, a_callv 1 0 [8, 9, 10, 11, 12, 13, 14] tX0_allBruises) :: (56, 1, a_iload 3) :: (57, 3, a_icmp_ge 71) :: (60, 2, a_iload 4) :: (62, 1, a_istore 2) :: (63, 1, a_aload 0) :: (64, 3, a_getf 0 2 1) :: (67, 3, a_callv 1 0 [8, 9, 10, 11, 12, 13, 14] tX0_allBruises) :: (70, 1, a_istore 3) :: (71, 0, a_fall 71) :: []
def kX4_dearestCell_0 : pProg := (0, 2, a_iconst (-9)) :: (2, 1, a_istore 2) :: (3, 1, a_aload 0) :: (4, 1, a_iload 1) :: (5, 3, a_callv 2 2 [0, 1, 2, 3, 4, 5, 6, 7, 8, 9, 10, 11, 12, 13, 14, 15] tX4_think) :: (8, 1, a_aload 0) :: (9, 3, a_getf 0 2 1) :: (12, 3, a_callv 1 0 [8, 9, 10, 11, 12, 13, 14] tX0_allBruises) :: (15, 1, a_istore 3) :: (16, 1, a_iconst 0) :: (17, 2, a_istore 4) :: (19, 0, a_fall 19) :: []
set_option maxRecDepth 100000 in
theorem sX4_dearestCell_77 (l : Launch) : AllS (pSnd l rmX4_dearestCell yX4_dearestCell.cls cX4_dearestCell wsX4_dearestCell 5 (some .int)) 77 kX4_dearestCell_77 :=
  alls _ (s_iload_n rfl dX4_dearestCell_77) <|
  alls _ (s_iret dX4_dearestCell_78) <|
  alls_nil _
set_option maxRecDepth 100000 in
theorem sX4_dearestCell_71 (l : Launch) : AllS (pSnd l rmX4_dearestCell yX4_dearestCell.cls cX4_dearestCell wsX4_dearestCell 5 (some .int)) 71 kX4_dearestCell_71 :=
  alls _ (s_iinc dX4_dearestCell_71) <|
  alls _ (s_goto (by decide) dX4_dearestCell_74) <|
  alls_nil _
set_option maxRecDepth 100000 in
theorem sX4_dearestCell_19 (l : Launch) : AllS (pSnd l rmX4_dearestCell yX4_dearestCell.cls cX4_dearestCell wsX4_dearestCell 5 (some .int)) 19 kX4_dearestCell_19 :=
  alls _ (s_iload dX4_dearestCell_19) <|
  alls _ (s_bipush (by decide) dX4_dearestCell_21) <|
  alls _ (s_icmp_ge (by decide) dX4_dearestCell_23) <|
  alls _ (s_aload_n rfl dX4_dearestCell_26) <|
  alls _ (s_iconst dX4_dearestCell_27) <|
  alls _ (s_callv (ct_X4_think l) rfl rfl rfl (gdV wd_418 wd_420 wd_1 wd_62 wd_421) rfl rfl (by decide +kernel) ⟨Nat.le_of_ble_eq_true rfl, Nat.le_of_ble_eq_true rfl⟩ dX4_dearestCell_28) <|
  alls _ (s_aload_n rfl dX4_dearestCell_31) <|
  alls _ (s_getf (C := RX4) (T := TX4) (N := 3) rfl (in_c inX4) (by decide) (List.mem_cons_of_mem _ wd_118) rfl dX4_dearestCell_32) <|
  alls _ (s_iload dX4_dearestCell_35) <|
  alls _ (s_iconst dX4_dearestCell_37) <|
  alls _ (s_callv (ct_X0_setBeams l) rfl rfl rfl (gdV wd_520 wd_233 wd_234 wd_61 wd_235) rfl rfl (by decide +kernel) ⟨Nat.le_of_ble_eq_true rfl, Nat.le_of_ble_eq_true rfl⟩ dX4_dearestCell_38) <|
  alls _ (s_aload_n rfl dX4_dearestCell_41) <|
  alls _ (s_getf (C := RX4) (T := TX4) (N := 3) rfl (in_c inX4) (by decide) (List.mem_cons_of_mem _ wd_118) rfl dX4_dearestCell_42) <|
  alls _ (s_iload_n rfl dX4_dearestCell_45) <|
  alls _ (s_callv (ct_X0_pass l) rfl rfl rfl (gdV wd_429 wd_294 wd_295 wd_61 wd_296) rfl rfl (by decide +kernel) ⟨Nat.le_of_ble_eq_true rfl, Nat.le_of_ble_eq_true rfl⟩ dX4_dearestCell_46) <|
  alls _ (s_aload_n rfl dX4_dearestCell_49) <|
  alls _ (s_getf (C := RX4) (T := TX4) (N := 3) rfl (in_c inX4) (by decide) (List.mem_cons_of_mem _ wd_118) rfl dX4_dearestCell_50) <|
  alls _ (s_callv (ct_X0_allBruises l) rfl rfl rfl (gdV wd_444 wd_445 wd_446 wd_61 wd_447) rfl rfl (by decide +kernel) ⟨Nat.le_of_ble_eq_true rfl, Nat.le_of_ble_eq_true rfl⟩ dX4_dearestCell_53) <|
  alls _ (s_iload_n rfl dX4_dearestCell_56) <|
  alls _ (s_icmp_ge (by decide) dX4_dearestCell_57) <|
  alls _ (s_iload dX4_dearestCell_60) <|
  alls _ (s_istore_n rfl dX4_dearestCell_62) <|
  alls _ (s_aload_n rfl dX4_dearestCell_63) <|
  alls _ (s_getf (C := RX4) (T := TX4) (N := 3) rfl (in_c inX4) (by decide) (List.mem_cons_of_mem _ wd_118) rfl dX4_dearestCell_64) <|
  alls _ (s_callv (ct_X0_allBruises l) rfl rfl rfl (gdV wd_444 wd_445 wd_446 wd_61 wd_447) rfl rfl (by decide +kernel) ⟨Nat.le_of_ble_eq_true rfl, Nat.le_of_ble_eq_true rfl⟩ dX4_dearestCell_67) <|
  alls _ (s_istore_n rfl dX4_dearestCell_70) <|
  alls _ s_fall (alls_nil _)
set_option maxRecDepth 100000 in
theorem sX4_dearestCell_0 (l : Launch) : AllS (pSnd l rmX4_dearestCell yX4_dearestCell.cls cX4_dearestCell wsX4_dearestCell 5 (some .int)) 0 kX4_dearestCell_0 :=
  alls _ (s_bipush (by decide) dX4_dearestCell_0) <|
  alls _ (s_istore_n rfl dX4_dearestCell_2) <|
  alls _ (s_aload_n rfl dX4_dearestCell_3) <|
  alls _ (s_iload_n rfl dX4_dearestCell_4) <|
  alls _ (s_callv (ct_X4_think l) rfl rfl rfl (gdV wd_418 wd_420 wd_1 wd_62 wd_421) rfl rfl (by decide +kernel) ⟨Nat.le_of_ble_eq_true rfl, Nat.le_of_ble_eq_true rfl⟩ dX4_dearestCell_5) <|
  alls _ (s_aload_n rfl dX4_dearestCell_8) <|
  alls _ (s_getf (C := RX4) (T := TX4) (N := 3) rfl (in_c inX4) (by decide) (List.mem_cons_of_mem _ wd_118) rfl dX4_dearestCell_9) <|
  alls _ (s_callv (ct_X0_allBruises l) rfl rfl rfl (gdV wd_444 wd_445 wd_446 wd_61 wd_447) rfl rfl (by decide +kernel) ⟨Nat.le_of_ble_eq_true rfl, Nat.le_of_ble_eq_true rfl⟩ dX4_dearestCell_12) <|
  alls _ (s_istore_n rfl dX4_dearestCell_15) <|
  alls _ (s_iconst dX4_dearestCell_16) <|
  alls _ (s_istore dX4_dearestCell_17) <|
  alls _ s_fall (alls_nil _)
def KX4_dearestCell : List (Nat × pProg) := [(0, kX4_dearestCell_0), (19, kX4_dearestCell_19), (71, kX4_dearestCell_71), (77, kX4_dearestCell_77)]
theorem bX4_dearestCell_0 : blkOf KX4_dearestCell 0 = some kX4_dearestCell_0 := rfl
theorem bX4_dearestCell_19 : blkOf KX4_dearestCell 19 = some kX4_dearestCell_19 := rfl
theorem bX4_dearestCell_71 : blkOf KX4_dearestCell 71 = some kX4_dearestCell_71 := rfl
theorem bX4_dearestCell_77 : blkOf KX4_dearestCell 77 = some kX4_dearestCell_77 := rfl
def tX4_dearestCell : pT := pM KX4_dearestCell 5
theorem ct_X4_dearestCell (l : Launch) : pCtr l yX4_dearestCell wsX4_dearestCell rmX4_dearestCell 2 tX4_dearestCell := ctr_of (by decide +kernel) rfl (List.forall_mem_cons.mpr ⟨sX4_dearestCell_0 l, List.forall_mem_cons.mpr ⟨sX4_dearestCell_19 l, List.forall_mem_cons.mpr ⟨sX4_dearestCell_71 l, List.forall_mem_cons.mpr ⟨sX4_dearestCell_77 l, fun _ h => absurd h List.not_mem_nil⟩⟩⟩⟩)
theorem dX4_bestChange_0 : decode cX4_bestChange 0 = .ok (.bipush (-9), 2) := by decide +kernel
theorem dX4_bestChange_2 : decode cX4_bestChange 2 = .ok (.istore_n 1, 1) := by decide +kernel
theorem dX4_bestChange_3 : decode cX4_bestChange 3 = .ok (.aload_n 0, 1) := by decide +kernel
theorem dX4_bestChange_4 : decode cX4_bestChange 4 = .ok (.invokevirtual 78, 3) := by decide +kernel
theorem dX4_bestChange_7 : decode cX4_bestChange 7 = .ok (.istore_n 2, 1) := by decide +kernel
theorem dX4_bestChange_8 : decode cX4_bestChange 8 = .ok (.iconst 0, 1) := by decide +kernel
theorem dX4_bestChange_9 : decode cX4_bestChange 9 = .ok (.istore_n 3, 1) := by decide +kernel
theorem dX4_bestChange_10 : decode cX4_bestChange 10 = .ok (.iload_n 3, 1) := by decide +kernel
theorem dX4_bestChange_11 : decode cX4_bestChange 11 = .ok (.aload_n 0, 1) := by decide +kernel
theorem dX4_bestChange_12 : decode cX4_bestChange 12 = .ok (.getfield 22, 3) := by decide +kernel
theorem dX4_bestChange_15 : decode cX4_bestChange 15 = .ok (.invokevirtual 81, 3) := by decide +kernel
theorem dX4_bestChange_18 : decode cX4_bestChange 18 = .ok (.if_icmp .ge 77, 3) := by decide +kernel
theorem dX4_bestChange_21 : decode cX4_bestChange 21 = .ok (.iconst 2, 1) := by decide +kernel
theorem dX4_bestChange_22 : decode cX4_bestChange 22 = .ok (.iload_n 3, 1) := by decide +kernel
theorem dX4_bestChange_23 : decode cX4_bestChange 23 = .ok (.iconst 2, 1) := by decide +kernel
theorem dX4_bestChange_24 : decode cX4_bestChange 24 = .ok (.idiv, 1) := by decide +kernel
theorem dX4_bestChange_25 : decode cX4_bestChange 25 = .ok (.imul, 1) := by decide +kernel
theorem dX4_bestChange_26 : decode cX4_bestChange 26 = .ok (.iconst 2, 1) := by decide +kernel
theorem dX4_bestChange_27 : decode cX4_bestChange 27 = .ok (.iadd, 1) := by decide +kernel
theorem dX4_bestChange_28 : decode cX4_bestChange 28 = .ok (.istore 4, 2) := by decide +kernel
theorem dX4_bestChange_30 : decode cX4_bestChange 30 = .ok (.iload 4, 2) := by decide +kernel
theorem dX4_bestChange_32 : decode cX4_bestChange 32 = .ok (.aload_n 0, 1) := by decide +kernel
theorem dX4_bestChange_33 : decode cX4_bestChange 33 = .ok (.getfield 22, 3) := by decide +kernel
theorem dX4_bestChange_36 : decode cX4_bestChange 36 = .ok (.invokevirtual 81, 3) := by decide +kernel
theorem dX4_bestChange_39 : decode cX4_bestChange 39 = .ok (.if_icmp .ge 50, 3) := by decide +kernel
theorem dX4_bestChange_42 : decode cX4_bestChange 42 = .ok (.aload_n 0, 1) := by decide +kernel
theorem dX4_bestChange_43 : decode cX4_bestChange 43 = .ok (.iconst 0, 1) := by decide +kernel
theorem dX4_bestChange_44 : decode cX4_bestChange 44 = .ok (.invokevirtual 33, 3) := by decide +kernel
theorem dX4_bestChange_47 : decode cX4_bestChange 47 = .ok (.aload_n 0, 1) := by decide +kernel
theorem dX4_bestChange_48 : decode cX4_bestChange 48 = .ok (.getfield 12, 3) := by decide +kernel
theorem dX4_bestChange_51 : decode cX4_bestChange 51 = .ok (.iload_n 3, 1) := by decide +kernel
theorem dX4_bestChange_52 : decode cX4_bestChange 52 = .ok (.iload 4, 2) := by decide +kernel
theorem dX4_bestChange_54 : decode cX4_bestChange 54 = .ok (.invokevirtual 84, 3) := by decide +kernel
theorem dX4_bestChange_57 : decode cX4_bestChange 57 = .ok (.aload_n 0, 1) := by decide +kernel
theorem dX4_bestChange_58 : decode cX4_bestChange 58 = .ok (.invokevirtual 53, 3) := by decide +kernel
theorem dX4_bestChange_61 : decode cX4_bestChange 61 = .ok (.istore 5, 2) := by decide +kernel
theorem dX4_bestChange_63 : decode cX4_bestChange 63 = .ok (.iload 5, 2) := by decide +kernel
theorem dX4_bestChange_65 : decode cX4_bestChange 65 = .ok (.iload_n 2, 1) := by decide +kernel
theorem dX4_bestChange_66 : decode cX4_bestChange 66 = .ok (.invokestatic 67, 3) := by decide +kernel
theorem dX4_bestChange_69 : decode cX4_bestChange 69 = .ok (.ifCond .eq 14, 3) := by decide +kernel
theorem dX4_bestChange_72 : decode cX4_bestChange 72 = .ok (.bipush 10, 2) := by decide +kernel
theorem dX4_bestChange_74 : decode cX4_bestChange 74 = .ok (.iload_n 3, 1) := by decide +kernel
theorem dX4_bestChange_75 : decode cX4_bestChange 75 = .ok (.imul, 1) := by decide +kernel
theorem dX4_bestChange_76 : decode cX4_bestChange 76 = .ok (.iload 4, 2) := by decide +kernel
theorem dX4_bestChange_78 : decode cX4_bestChange 78 = .ok (.iadd, 1) := by decide +kernel
theorem dX4_bestChange_79 : decode cX4_bestChange 79 = .ok (.istore_n 1, 1) := by decide +kernel
theorem dX4_bestChange_80 : decode cX4_bestChange 80 = .ok (.iload 5, 2) := by decide +kernel
theorem dX4_bestChange_82 : decode cX4_bestChange 82 = .ok (.istore_n 2, 1) := by decide +kernel
theorem dX4_bestChange_83 : decode cX4_bestChange 83 = .ok (.iinc 4 1, 3) := by decide +kernel
theorem dX4_bestChange_86 : decode cX4_bestChange 86 = .ok (.goto (-56), 3) := by decide +kernel
theorem dX4_bestChange_89 : decode cX4_bestChange 89 = .ok (.iinc 3 1, 3) := by decide +kernel
theorem dX4_bestChange_92 : decode cX4_bestChange 92 = .ok (.goto (-82), 3) := by decide +kernel
theorem dX4_bestChange_95 : decode cX4_bestChange 95 = .ok (.iload_n 1, 1) := by decide +kernel
theorem dX4_bestChange_96 : decode cX4_bestChange 96 = .ok (.ireturn, 1) := by decide +kernel
def rmX4_bestChange : Room := { frames := 6, cells := 0, slots := 0, locals := 135 }
abbrev wsX4_bestChange : List Cond := .code yX4_bestChange cX4_bestChange 6 (some .int) :: gw_tbl
def kX4_bestChange_95 : pProg := (95, 1, a_iload 1) :: (96, 1, a_iret) :: []
def kX4_bestChange_89 : pProg := (89, 3, a_iinc 3 1) :: (92, 3, a_goto 10) :: []
def kX4_bestChange_83 : pProg := (83, 3, a_iinc 4 1) :: (86, 3, a_goto 30) :: []
def kX4_bestChange_30 : pProg := (30, 2, a_iload 4) :: (32, 1, a_aload 0) :: (33, 3, a_getf 0 2 0) :: (36, 3, a_callv 1 0 [1, 2, 3, 4, 5, 6, 7] tX0_miners) :: (39, 3, a_icmp_ge 89) :: (42, 1, a_aload 0) :: (43, 1, a_iconst 0) :: (44, 3, a_callv 2 2 [0, 1, 2, 3, 4, 5, 6, 7, 8, 9, 10, 11, 12, 13, 14, 15] tX4_think) :: (47, 1, a_aload 0) :: (48, 3, a_getf 0 2 1) :: (51, 1, a_iload 3) :: (52, 2, a_iload 4) :: (54, 3, a_callv 3 0 [8, 9, 10, 11, 12, 13, 14] tX0_changePlaces) :: (57, 1, a_aload 0) :: (58, 3, a_callv 1 2 [0, 1, 2, 3, 4, 5, 6, 7, 8, 9, 10, 11, 12, 13, 14, 15] tX4_goAllToFace) :: (61, 2, a_istore 5) :: (63, 2, a_iload 5) :: (65, 1, a_iload 2) :: (66, 3, a_calls 2 [] tX4_isSooner) :: (69, 3, a_if_eq 83) :: (72, 2, a_iconst 10) :: (74, 1, a_iload 3) :: (75, 1, a_imul) :: (76, 2, a_iload 4) :: (78, 1, a_iadd) :: (79, 1, a_istore 1) :: (80, 2, a_iload 5) :: (82, 1, a_istore 2) :: (83, 0, a_fall 83) :: []
def kX4_bestChange_10 : pProg := (10, 1, a_iload 3) :: (11, 1, a_aload 0) :: (12, 3, a_getf 0 2 0) :: (15, 3, a_callv 1 0 [1, 2, 3, 4, 5, 6, 7] tX0_miners) :: (18, 3, a_icmp_ge 95) :: (21, 1, a_iconst 2) :: (22, 1, a_iload 3) :: (23, 1, a_iconst 2) :: (24, 1, a_idiv) :: (25, 1, a_imul) :: (26, 1, a_iconst 2) :: (27, 1, a_iadd) :: (28, 2, a_istore 4) :: (30, 0, a_fall 30) :: []
def kX4_bestChange_0 : pProg := (0, 2, a_iconst (-9)) :: (2, 1, a_istore 1) :: (3, 1, a_aload 0) :: (4, 3, a_callv 1 2 [0, 1, 2, 3, 4, 5, 6, 7, 8, 9, 10, 11, 12, 13, 14, 15] tX4_allFaced) :: (7, 1, a_istore 2) :: (8, 1, a_iconst 0) :: (9, 1, a_istore 3) :: (10, 0, a_fall 10) :: []
set_option maxRecDepth 100000 in
theorem sX4_bestChange_95 (l : Launch) : AllS (pSnd l rmX4_bestChange yX4_bestChange.cls cX4_bestChange wsX4_bestChange 6 (some .int)) 95 kX4_bestChange_95 :=
  alls _ (s_iload_n rfl dX4_bestChange_95) <|
  alls _ (s_iret dX4_bestChange_96) <|
  alls_nil _
set_option maxRecDepth 100000 in
theorem sX4_bestChange_89 (l : Launch) : AllS (pSnd l rmX4_bestChange yX4_bestChange.cls cX4_bestChange wsX4_bestChange 6 (some .int)) 89 kX4_bestChange_89 :=
  alls _ (s_iinc dX4_bestChange_89) <|
  alls _ (s_goto (by decide) dX4_bestChange_92) <|
  alls_nil _
set_option maxRecDepth 100000 in
theorem sX4_bestChange_83 (l : Launch) : AllS (pSnd l rmX4_bestChange yX4_bestChange.cls cX4_bestChange wsX4_bestChange 6 (some .int)) 83 kX4_bestChange_83 :=
  alls _ (s_iinc dX4_bestChange_83) <|
  alls _ (s_goto (by decide) dX4_bestChange_86) <|
  alls_nil _
set_option maxRecDepth 100000 in
theorem sX4_bestChange_30 (l : Launch) : AllS (pSnd l rmX4_bestChange yX4_bestChange.cls cX4_bestChange wsX4_bestChange 6 (some .int)) 30 kX4_bestChange_30 :=
  alls _ (s_iload dX4_bestChange_30) <|
  alls _ (s_aload_n rfl dX4_bestChange_32) <|
  alls _ (s_getf (C := RX4) (T := TX4) (N := 3) rfl (in_c inX4) (by decide) (List.mem_cons_of_mem _ wd_117) rfl dX4_bestChange_33) <|
  alls _ (s_callv (ct_X0_miners l) rfl rfl rfl (gdV wd_530 wd_240 wd_241 wd_61 wd_242) rfl rfl (by decide +kernel) ⟨Nat.le_of_ble_eq_true rfl, Nat.le_of_ble_eq_true rfl⟩ dX4_bestChange_36) <|
  alls _ (s_icmp_ge (by decide) dX4_bestChange_39) <|
  alls _ (s_aload_n rfl dX4_bestChange_42) <|
  alls _ (s_iconst dX4_bestChange_43) <|
  alls _ (s_callv (ct_X4_think l) rfl rfl rfl (gdV wd_418 wd_420 wd_1 wd_62 wd_421) rfl rfl (by decide +kernel) ⟨Nat.le_of_ble_eq_true rfl, Nat.le_of_ble_eq_true rfl⟩ dX4_bestChange_44) <|
  alls _ (s_aload_n rfl dX4_bestChange_47) <|
  alls _ (s_getf (C := RX4) (T := TX4) (N := 3) rfl (in_c inX4) (by decide) (List.mem_cons_of_mem _ wd_118) rfl dX4_bestChange_48) <|
  alls _ (s_iload_n rfl dX4_bestChange_51) <|
  alls _ (s_iload dX4_bestChange_52) <|
  alls _ (s_callv (ct_X0_changePlaces l) rfl rfl rfl (gdV wd_531 wd_272 wd_273 wd_61 wd_274) rfl rfl (by decide +kernel) ⟨Nat.le_of_ble_eq_true rfl, Nat.le_of_ble_eq_true rfl⟩ dX4_bestChange_54) <|
  alls _ (s_aload_n rfl dX4_bestChange_57) <|
  alls _ (s_callv (ct_X4_goAllToFace l) rfl rfl rfl (gdV wd_475 wd_477 wd_3 wd_62 wd_478) rfl rfl (by decide +kernel) ⟨Nat.le_of_ble_eq_true rfl, Nat.le_of_ble_eq_true rfl⟩ dX4_bestChange_58) <|
  alls _ (s_istore dX4_bestChange_61) <|
  alls _ (s_iload dX4_bestChange_63) <|
  alls _ (s_iload_n rfl dX4_bestChange_65) <|
  alls _ (s_calls (ct_X4_isSooner l) rfl rfl (gdS wd_470) (List.mem_cons_of_mem _ wd_468) (List.mem_cons_of_mem _ wd_469) (List.mem_cons_of_mem _ wd_62) rfl rfl (by decide +kernel) ⟨Nat.le_of_ble_eq_true rfl, Nat.le_of_ble_eq_true rfl⟩ dX4_bestChange_66) <|
  alls _ (s_if_eq (by decide) dX4_bestChange_69) <|
  alls _ (s_bipush (by decide) dX4_bestChange_72) <|
  alls _ (s_iload_n rfl dX4_bestChange_74) <|
  alls _ (s_imul dX4_bestChange_75) <|
  alls _ (s_iload dX4_bestChange_76) <|
  alls _ (s_iadd dX4_bestChange_78) <|
  alls _ (s_istore_n rfl dX4_bestChange_79) <|
  alls _ (s_iload dX4_bestChange_80) <|
  alls _ (s_istore_n rfl dX4_bestChange_82) <|
  alls _ s_fall (alls_nil _)
set_option maxRecDepth 100000 in
theorem sX4_bestChange_10 (l : Launch) : AllS (pSnd l rmX4_bestChange yX4_bestChange.cls cX4_bestChange wsX4_bestChange 6 (some .int)) 10 kX4_bestChange_10 :=
  alls _ (s_iload_n rfl dX4_bestChange_10) <|
  alls _ (s_aload_n rfl dX4_bestChange_11) <|
  alls _ (s_getf (C := RX4) (T := TX4) (N := 3) rfl (in_c inX4) (by decide) (List.mem_cons_of_mem _ wd_117) rfl dX4_bestChange_12) <|
  alls _ (s_callv (ct_X0_miners l) rfl rfl rfl (gdV wd_530 wd_240 wd_241 wd_61 wd_242) rfl rfl (by decide +kernel) ⟨Nat.le_of_ble_eq_true rfl, Nat.le_of_ble_eq_true rfl⟩ dX4_bestChange_15) <|
  alls _ (s_icmp_ge (by decide) dX4_bestChange_18) <|
  alls _ (s_iconst dX4_bestChange_21) <|
  alls _ (s_iload_n rfl dX4_bestChange_22) <|
  alls _ (s_iconst dX4_bestChange_23) <|
  alls _ (s_idiv dX4_bestChange_24) <|
  alls _ (s_imul dX4_bestChange_25) <|
  alls _ (s_iconst dX4_bestChange_26) <|
  alls _ (s_iadd dX4_bestChange_27) <|
  alls _ (s_istore dX4_bestChange_28) <|
  alls _ s_fall (alls_nil _)
set_option maxRecDepth 100000 in
theorem sX4_bestChange_0 (l : Launch) : AllS (pSnd l rmX4_bestChange yX4_bestChange.cls cX4_bestChange wsX4_bestChange 6 (some .int)) 0 kX4_bestChange_0 :=
  alls _ (s_bipush (by decide) dX4_bestChange_0) <|
  alls _ (s_istore_n rfl dX4_bestChange_2) <|
  alls _ (s_aload_n rfl dX4_bestChange_3) <|
  alls _ (s_callv (ct_X4_allFaced l) rfl rfl rfl (gdV wd_529 wd_472 wd_473 wd_62 wd_474) rfl rfl (by decide +kernel) ⟨Nat.le_of_ble_eq_true rfl, Nat.le_of_ble_eq_true rfl⟩ dX4_bestChange_4) <|
  alls _ (s_istore_n rfl dX4_bestChange_7) <|
  alls _ (s_iconst dX4_bestChange_8) <|
  alls _ (s_istore_n rfl dX4_bestChange_9) <|
  alls _ s_fall (alls_nil _)
def KX4_bestChange : List (Nat × pProg) := [(0, kX4_bestChange_0), (10, kX4_bestChange_10), (30, kX4_bestChange_30), (83, kX4_bestChange_83), (89, kX4_bestChange_89), (95, kX4_bestChange_95)]
theorem bX4_bestChange_0 : blkOf KX4_bestChange 0 = some kX4_bestChange_0 := rfl
theorem bX4_bestChange_10 : blkOf KX4_bestChange 10 = some kX4_bestChange_10 := rfl
theorem bX4_bestChange_30 : blkOf KX4_bestChange 30 = some kX4_bestChange_30 := rfl
theorem bX4_bestChange_83 : blkOf KX4_bestChange 83 = some kX4_bestChange_83 := rfl
theorem bX4_bestChange_89 : blkOf KX4_bestChange 89 = some kX4_bestChange_89 := rfl
theorem bX4_bestChange_95 : blkOf KX4_bestChange 95 = some kX4_bestChange_95 := rfl
def tX4_bestChange : pT := pM KX4_bestChange 6
theorem ct_X4_bestChange (l : Launch) : pCtr l yX4_bestChange wsX4_bestChange rmX4_bestChange 1 tX4_bestChange := ctr_of (by decide +kernel) rfl (List.forall_mem_cons.mpr ⟨sX4_bestChange_0 l, List.forall_mem_cons.mpr ⟨sX4_bestChange_10 l, List.forall_mem_cons.mpr ⟨sX4_bestChange_30 l, List.forall_mem_cons.mpr ⟨sX4_bestChange_83 l, List.forall_mem_cons.mpr ⟨sX4_bestChange_89 l, List.forall_mem_cons.mpr ⟨sX4_bestChange_95 l, fun _ h => absurd h List.not_mem_nil⟩⟩⟩⟩⟩⟩)
theorem dX4_soonestKind_0 : decode cX4_soonestKind 0 = .ok (.bipush (-9), 2) := by decide +kernel
theorem dX4_soonestKind_2 : decode cX4_soonestKind 2 = .ok (.istore_n 3, 1) := by decide +kernel
theorem dX4_soonestKind_3 : decode cX4_soonestKind 3 = .ok (.bipush (-9), 2) := by decide +kernel
theorem dX4_soonestKind_5 : decode cX4_soonestKind 5 = .ok (.istore 4, 2) := by decide +kernel
theorem dX4_soonestKind_7 : decode cX4_soonestKind 7 = .ok (.iconst 0, 1) := by decide +kernel
theorem dX4_soonestKind_8 : decode cX4_soonestKind 8 = .ok (.istore 5, 2) := by decide +kernel
theorem dX4_soonestKind_10 : decode cX4_soonestKind 10 = .ok (.iload 5, 2) := by decide +kernel
theorem dX4_soonestKind_12 : decode cX4_soonestKind 12 = .ok (.bipush 6, 2) := by decide +kernel
theorem dX4_soonestKind_14 : decode cX4_soonestKind 14 = .ok (.if_icmp .ge 50, 3) := by decide +kernel
theorem dX4_soonestKind_17 : decode cX4_soonestKind 17 = .ok (.aload_n 0, 1) := by decide +kernel
theorem dX4_soonestKind_18 : decode cX4_soonestKind 18 = .ok (.iconst 0, 1) := by decide +kernel
theorem dX4_soonestKind_19 : decode cX4_soonestKind 19 = .ok (.invokevirtual 33, 3) := by decide +kernel
theorem dX4_soonestKind_22 : decode cX4_soonestKind 22 = .ok (.aload_n 0, 1) := by decide +kernel
theorem dX4_soonestKind_23 : decode cX4_soonestKind 23 = .ok (.getfield 12, 3) := by decide +kernel
theorem dX4_soonestKind_26 : decode cX4_soonestKind 26 = .ok (.iload_n 1, 1) := by decide +kernel
theorem dX4_soonestKind_27 : decode cX4_soonestKind 27 = .ok (.iload 5, 2) := by decide +kernel
theorem dX4_soonestKind_29 : decode cX4_soonestKind 29 = .ok (.invokevirtual 87, 3) := by decide +kernel
theorem dX4_soonestKind_32 : decode cX4_soonestKind 32 = .ok (.aload_n 0, 1) := by decide +kernel
theorem dX4_soonestKind_33 : decode cX4_soonestKind 33 = .ok (.iload_n 1, 1) := by decide +kernel
theorem dX4_soonestKind_34 : decode cX4_soonestKind 34 = .ok (.iconst 2, 1) := by decide +kernel
theorem dX4_soonestKind_35 : decode cX4_soonestKind 35 = .ok (.idiv, 1) := by decide +kernel
theorem dX4_soonestKind_36 : decode cX4_soonestKind 36 = .ok (.invokevirtual 50, 3) := by decide +kernel
theorem dX4_soonestKind_39 : decode cX4_soonestKind 39 = .ok (.istore 6, 2) := by decide +kernel
theorem dX4_soonestKind_41 : decode cX4_soonestKind 41 = .ok (.iload 6, 2) := by decide +kernel
theorem dX4_soonestKind_43 : decode cX4_soonestKind 43 = .ok (.iload 4, 2) := by decide +kernel
theorem dX4_soonestKind_45 : decode cX4_soonestKind 45 = .ok (.invokestatic 67, 3) := by decide +kernel
theorem dX4_soonestKind_48 : decode cX4_soonestKind 48 = .ok (.ifCond .eq 10, 3) := by decide +kernel
theorem dX4_soonestKind_51 : decode cX4_soonestKind 51 = .ok (.iload 5, 2) := by decide +kernel
theorem dX4_soonestKind_53 : decode cX4_soonestKind 53 = .ok (.istore_n 3, 1) := by decide +kernel
theorem dX4_soonestKind_54 : decode cX4_soonestKind 54 = .ok (.iload 6, 2) := by decide +kernel
theorem dX4_soonestKind_56 : decode cX4_soonestKind 56 = .ok (.istore 4, 2) := by decide +kernel
theorem dX4_soonestKind_58 : decode cX4_soonestKind 58 = .ok (.iinc 5 1, 3) := by decide +kernel
theorem dX4_soonestKind_61 : decode cX4_soonestKind 61 = .ok (.goto (-51), 3) := by decide +kernel
theorem dX4_soonestKind_64 : decode cX4_soonestKind 64 = .ok (.iload_n 2, 1) := by decide +kernel
theorem dX4_soonestKind_65 : decode cX4_soonestKind 65 = .ok (.ifCond .ne 7, 3) := by decide +kernel
theorem dX4_soonestKind_68 : decode cX4_soonestKind 68 = .ok (.iload_n 3, 1) := by decide +kernel
theorem dX4_soonestKind_69 : decode cX4_soonestKind 69 = .ok (.goto 5, 3) := by decide +kernel
theorem dX4_soonestKind_72 : decode cX4_soonestKind 72 = .ok (.iload 4, 2) := by decide +kernel
theorem dX4_soonestKind_74 : decode cX4_soonestKind 74 = .ok (.ireturn, 1) := by decide +kernel
def rmX4_soonestKind : Room := { frames := 5, cells := 0, slots := 0, locals := 116 }
abbrev wsX4_soonestKind : List Cond := .code yX4_soonestKind cX4_soonestKind 7 (some .int) :: gw_tbl
def kX4_soonestKind_74 : pProg := (74, 1, a_iret) :: []
def kX4_soonestKind_72 : pProg := (72, 2, a_iload 4) :: (74, 0, a_fall 74) :: []
def kX4_soonestKind_64 : pProg := (64, 1, a_iload 2) :: (65, 3, a_if_ne 72) :: (68, 1, a_iload 3) :: (69, 3, a_goto 74) :: []
def kX4_soonestKind_58 : pProg := (58, 3, a_iinc 5 1) :: (61, 3, a_goto 10) :: []
def kX4_soonestKind_10 : pProg := (10, 2, a_iload 5) :: (12, 2, a_iconst 6) :: (14, 3, a_icmp_ge 64) :: (17, 1, a_aload 0) :: (18, 1, a_iconst 0) :: (19, 3, a_callv 2 2 [0, 1, 2, 3, 4, 5, 6, 7, 8, 9, 10, 11, 12, 13, 14, 15] tX4_think) :: (22, 1, a_aload 0) :: (23, 3, a_getf 0 2 1) :: (26, 1, a_iload 1) :: (27, 2, a_iload 5) :: (29, 3, a_callv 3 0 [8, 9, 10, 11, 12, 13, 14] tX0_setKind) :: (32, 1, a_aload 0) :: (33, 1, a_iload 1) :: (34, 1, a_iconst 2) :: (35, 1, a_idiv) :: (36, 3, a_callv 2 2 [0, 1, 2, 3, 4, 5, 6, 7, 8, 9, 10, 11, 12, 13, 14, 15] tX4_goToFace) :: (39, 2, a_istore 6) :: (41, 2, a_iload 6) :: (43, 2, a_iload 4) :: (45, 3, a_calls 2 [] tX4_isSooner) :: (48, 3, a_if_eq 58) :: (51, 2, a_iload 5) :: (53, 1, a_istore 3) :: (54, 2, a_iload 6) :: (56, 2, a_istore 4) :: (58, 0, a_fall 58) :: []
def kX4_soonestKind_0 : pProg := (0, 2, a_iconst (-9)) :: (2, 1, a_istore 3) :: (3, 2, a_iconst (-9)) :: (5, 2, a_istore 4) :: (7, 1, a_iconst 0) :: (8, 2, a_istore 5) :: (10, 0, a_fall 10) :: []
set_option maxRecDepth 100000 in
theorem sX4_soonestKind_74 (l : Launch) : AllS (pSnd l rmX4_soonestKind yX4_soonestKind.cls cX4_soonestKind wsX4_soonestKind 7 (some .int)) 74 kX4_soonestKind_74 :=
  alls _ (s_iret dX4_soonestKind_74) <|
  alls_nil _
set_option maxRecDepth 100000 in
theorem sX4_soonestKind_72 (l : Launch) : AllS (pSnd l rmX4_soonestKind yX4_soonestKind.cls cX4_soonestKind wsX4_soonestKind 7 (some .int)) 72 kX4_soonestKind_72 :=
  alls _ (s_iload dX4_soonestKind_72) <|
  alls _ s_fall (alls_nil _)
set_option maxRecDepth 100000 in
theorem sX4_soonestKind_64 (l : Launch) : AllS (pSnd l rmX4_soonestKind yX4_soonestKind.cls cX4_soonestKind wsX4_soonestKind 7 (some .int)) 64 kX4_soonestKind_64 :=
  alls _ (s_iload_n rfl dX4_soonestKind_64) <|
  alls _ (s_if_ne (by decide) dX4_soonestKind_65) <|
  alls _ (s_iload_n rfl dX4_soonestKind_68) <|
  alls _ (s_goto (by decide) dX4_soonestKind_69) <|
  alls_nil _
set_option maxRecDepth 100000 in
theorem sX4_soonestKind_58 (l : Launch) : AllS (pSnd l rmX4_soonestKind yX4_soonestKind.cls cX4_soonestKind wsX4_soonestKind 7 (some .int)) 58 kX4_soonestKind_58 :=
  alls _ (s_iinc dX4_soonestKind_58) <|
  alls _ (s_goto (by decide) dX4_soonestKind_61) <|
  alls_nil _
set_option maxRecDepth 100000 in
theorem sX4_soonestKind_10 (l : Launch) : AllS (pSnd l rmX4_soonestKind yX4_soonestKind.cls cX4_soonestKind wsX4_soonestKind 7 (some .int)) 10 kX4_soonestKind_10 :=
  alls _ (s_iload dX4_soonestKind_10) <|
  alls _ (s_bipush (by decide) dX4_soonestKind_12) <|
  alls _ (s_icmp_ge (by decide) dX4_soonestKind_14) <|
  alls _ (s_aload_n rfl dX4_soonestKind_17) <|
  alls _ (s_iconst dX4_soonestKind_18) <|
  alls _ (s_callv (ct_X4_think l) rfl rfl rfl (gdV wd_418 wd_420 wd_1 wd_62 wd_421) rfl rfl (by decide +kernel) ⟨Nat.le_of_ble_eq_true rfl, Nat.le_of_ble_eq_true rfl⟩ dX4_soonestKind_19) <|
  alls _ (s_aload_n rfl dX4_soonestKind_22) <|
  alls _ (s_getf (C := RX4) (T := TX4) (N := 3) rfl (in_c inX4) (by decide) (List.mem_cons_of_mem _ wd_118) rfl dX4_soonestKind_23) <|
  alls _ (s_iload_n rfl dX4_soonestKind_26) <|
  alls _ (s_iload dX4_soonestKind_27) <|
  alls _ (s_callv (ct_X0_setKind l) rfl rfl rfl (gdV wd_540 wd_248 wd_249 wd_61 wd_250) rfl rfl (by decide +kernel) ⟨Nat.le_of_ble_eq_true rfl, Nat.le_of_ble_eq_true rfl⟩ dX4_soonestKind_29) <|
  alls _ (s_aload_n rfl dX4_soonestKind_32) <|
  alls _ (s_iload_n rfl dX4_soonestKind_33) <|
  alls _ (s_iconst dX4_soonestKind_34) <|
  alls _ (s_idiv dX4_soonestKind_35) <|
  alls _ (s_callv (ct_X4_goToFace l) rfl rfl rfl (gdV wd_463 wd_465 wd_2 wd_62 wd_466) rfl rfl (by decide +kernel) ⟨Nat.le_of_ble_eq_true rfl, Nat.le_of_ble_eq_true rfl⟩ dX4_soonestKind_36) <|
  alls _ (s_istore dX4_soonestKind_39) <|
  alls _ (s_iload dX4_soonestKind_41) <|
  alls _ (s_iload dX4_soonestKind_43) <|
  alls _ (s_calls (ct_X4_isSooner l) rfl rfl (gdS wd_470) (List.mem_cons_of_mem _ wd_468) (List.mem_cons_of_mem _ wd_469) (List.mem_cons_of_mem _ wd_62) rfl rfl (by decide +kernel) ⟨Nat.le_of_ble_eq_true rfl, Nat.le_of_ble_eq_true rfl⟩ dX4_soonestKind_45) <|
  alls _ (s_if_eq (by decide) dX4_soonestKind_48) <|
  alls _ (s_iload dX4_soonestKind_51) <|
  alls _ (s_istore_n rfl dX4_soonestKind_53) <|
  alls _ (s_iload dX4_soonestKind_54) <|
  alls _ (s_istore dX4_soonestKind_56) <|
  alls _ s_fall (alls_nil _)
set_option maxRecDepth 100000 in
theorem sX4_soonestKind_0 (l : Launch) : AllS (pSnd l rmX4_soonestKind yX4_soonestKind.cls cX4_soonestKind wsX4_soonestKind 7 (some .int)) 0 kX4_soonestKind_0 :=
  alls _ (s_bipush (by decide) dX4_soonestKind_0) <|
  alls _ (s_istore_n rfl dX4_soonestKind_2) <|
  alls _ (s_bipush (by decide) dX4_soonestKind_3) <|
  alls _ (s_istore dX4_soonestKind_5) <|
  alls _ (s_iconst dX4_soonestKind_7) <|
  alls _ (s_istore dX4_soonestKind_8) <|
  alls _ s_fall (alls_nil _)
def KX4_soonestKind : List (Nat × pProg) := [(0, kX4_soonestKind_0), (10, kX4_soonestKind_10), (58, kX4_soonestKind_58), (64, kX4_soonestKind_64), (72, kX4_soonestKind_72), (74, kX4_soonestKind_74)]
theorem bX4_soonestKind_0 : blkOf KX4_soonestKind 0 = some kX4_soonestKind_0 := rfl
theorem bX4_soonestKind_10 : blkOf KX4_soonestKind 10 = some kX4_soonestKind_10 := rfl
theorem bX4_soonestKind_58 : blkOf KX4_soonestKind 58 = some kX4_soonestKind_58 := rfl
theorem bX4_soonestKind_64 : blkOf KX4_soonestKind 64 = some kX4_soonestKind_64 := rfl
theorem bX4_soonestKind_72 : blkOf KX4_soonestKind 72 = some kX4_soonestKind_72 := rfl
theorem bX4_soonestKind_74 : blkOf KX4_soonestKind 74 = some kX4_soonestKind_74 := rfl
def tX4_soonestKind : pT := pM KX4_soonestKind 7
theorem ct_X4_soonestKind (l : Launch) : pCtr l yX4_soonestKind wsX4_soonestKind rmX4_soonestKind 3 tX4_soonestKind := ctr_of (by decide +kernel) rfl (List.forall_mem_cons.mpr ⟨sX4_soonestKind_0 l, List.forall_mem_cons.mpr ⟨sX4_soonestKind_10 l, List.forall_mem_cons.mpr ⟨sX4_soonestKind_58 l, List.forall_mem_cons.mpr ⟨sX4_soonestKind_64 l, List.forall_mem_cons.mpr ⟨sX4_soonestKind_72 l, List.forall_mem_cons.mpr ⟨sX4_soonestKind_74 l, fun _ h => absurd h List.not_mem_nil⟩⟩⟩⟩⟩⟩)
theorem dX4_beamsToFace_0 : decode cX4_beamsToFace 0 = .ok (.iconst 0, 1) := by decide +kernel
theorem dX4_beamsToFace_1 : decode cX4_beamsToFace 1 = .ok (.istore_n 2, 1) := by decide +kernel
theorem dX4_beamsToFace_2 : decode cX4_beamsToFace 2 = .ok (.iconst 0, 1) := by decide +kernel
theorem dX4_beamsToFace_3 : decode cX4_beamsToFace 3 = .ok (.istore_n 3, 1) := by decide +kernel
theorem dX4_beamsToFace_4 : decode cX4_beamsToFace 4 = .ok (.iload_n 3, 1) := by decide +kernel
theorem dX4_beamsToFace_5 : decode cX4_beamsToFace 5 = .ok (.bipush 60, 2) := by decide +kernel
theorem dX4_beamsToFace_7 : decode cX4_beamsToFace 7 = .ok (.if_icmp .gt 72, 3) := by decide +kernel
theorem dX4_beamsToFace_10 : decode cX4_beamsToFace 10 = .ok (.aload_n 0, 1) := by decide +kernel
theorem dX4_beamsToFace_11 : decode cX4_beamsToFace 11 = .ok (.getfield 12, 3) := by decide +kernel
theorem dX4_beamsToFace_14 : decode cX4_beamsToFace 14 = .ok (.iload_n 1, 1) := by decide +kernel
theorem dX4_beamsToFace_15 : decode cX4_beamsToFace 15 = .ok (.invokevirtual 56, 3) := by decide +kernel
theorem dX4_beamsToFace_18 : decode cX4_beamsToFace 18 = .ok (.ifCond .eq 5, 3) := by decide +kernel
theorem dX4_beamsToFace_21 : decode cX4_beamsToFace 21 = .ok (.iload_n 2, 1) := by decide +kernel
theorem dX4_beamsToFace_22 : decode cX4_beamsToFace 22 = .ok (.ireturn, 1) := by decide +kernel
theorem dX4_beamsToFace_23 : decode cX4_beamsToFace 23 = .ok (.aload_n 0, 1) := by decide +kernel
theorem dX4_beamsToFace_24 : decode cX4_beamsToFace 24 = .ok (.getfield 12, 3) := by decide +kernel
theorem dX4_beamsToFace_27 : decode cX4_beamsToFace 27 = .ok (.iload_n 1, 1) := by decide +kernel
theorem dX4_beamsToFace_28 : decode cX4_beamsToFace 28 = .ok (.aload_n 0, 1) := by decide +kernel
theorem dX4_beamsToFace_29 : decode cX4_beamsToFace 29 = .ok (.getfield 12, 3) := by decide +kernel
theorem dX4_beamsToFace_32 : decode cX4_beamsToFace 32 = .ok (.invokevirtual 96, 3) := by decide +kernel
theorem dX4_beamsToFace_35 : decode cX4_beamsToFace 35 = .ok (.iconst 1, 1) := by decide +kernel
theorem dX4_beamsToFace_36 : decode cX4_beamsToFace 36 = .ok (.iadd, 1) := by decide +kernel
theorem dX4_beamsToFace_37 : decode cX4_beamsToFace 37 = .ok (.invokevirtual 99, 3) := by decide +kernel
theorem dX4_beamsToFace_40 : decode cX4_beamsToFace 40 = .ok (.bipush (-9), 2) := by decide +kernel
theorem dX4_beamsToFace_42 : decode cX4_beamsToFace 42 = .ok (.if_icmp .eq 23, 3) := by decide +kernel
theorem dX4_beamsToFace_45 : decode cX4_beamsToFace 45 = .ok (.iload_n 2, 1) := by decide +kernel
theorem dX4_beamsToFace_46 : decode cX4_beamsToFace 46 = .ok (.aload_n 0, 1) := by decide +kernel
theorem dX4_beamsToFace_47 : decode cX4_beamsToFace 47 = .ok (.getfield 12, 3) := by decide +kernel
theorem dX4_beamsToFace_50 : decode cX4_beamsToFace 50 = .ok (.aload_n 0, 1) := by decide +kernel
theorem dX4_beamsToFace_51 : decode cX4_beamsToFace 51 = .ok (.getfield 12, 3) := by decide +kernel
theorem dX4_beamsToFace_54 : decode cX4_beamsToFace 54 = .ok (.iload_n 1, 1) := by decide +kernel
theorem dX4_beamsToFace_55 : decode cX4_beamsToFace 55 = .ok (.invokevirtual 36, 3) := by decide +kernel
theorem dX4_beamsToFace_58 : decode cX4_beamsToFace 58 = .ok (.iconst 1, 1) := by decide +kernel
theorem dX4_beamsToFace_59 : decode cX4_beamsToFace 59 = .ok (.iadd, 1) := by decide +kernel
theorem dX4_beamsToFace_60 : decode cX4_beamsToFace 60 = .ok (.invokevirtual 103, 3) := by decide +kernel
theorem dX4_beamsToFace_63 : decode cX4_beamsToFace 63 = .ok (.iadd, 1) := by decide +kernel
theorem dX4_beamsToFace_64 : decode cX4_beamsToFace 64 = .ok (.istore_n 2, 1) := by decide +kernel
theorem dX4_beamsToFace_65 : decode cX4_beamsToFace 65 = .ok (.aload_n 0, 1) := by decide +kernel
theorem dX4_beamsToFace_66 : decode cX4_beamsToFace 66 = .ok (.getfield 12, 3) := by decide +kernel
theorem dX4_beamsToFace_69 : decode cX4_beamsToFace 69 = .ok (.iconst 1, 1) := by decide +kernel
theorem dX4_beamsToFace_70 : decode cX4_beamsToFace 70 = .ok (.invokevirtual 29, 3) := by decide +kernel
theorem dX4_beamsToFace_73 : decode cX4_beamsToFace 73 = .ok (.iinc 3 1, 3) := by decide +kernel
theorem dX4_beamsToFace_76 : decode cX4_beamsToFace 76 = .ok (.goto (-72), 3) := by decide +kernel
theorem dX4_beamsToFace_79 : decode cX4_beamsToFace 79 = .ok (.bipush (-9), 2) := by decide +kernel
theorem dX4_beamsToFace_81 : decode cX4_beamsToFace 81 = .ok (.ireturn, 1) := by decide +kernel
def rmX4_beamsToFace : Room := { frames := 4, cells := 0, slots := 0, locals := 94 }
abbrev wsX4_beamsToFace : List Cond := .code yX4_beamsToFace cX4_beamsToFace 4 (some .int) :: gw_tbl
def kX4_beamsToFace_79 : pProg := (79, 2, a_iconst (-9)) :: (81, 1, a_iret) :: []
def kX4_beamsToFace_65 : pProg := (65, 1, a_aload 0) :: (66, 3, a_getf 0 2 1) :: (69, 1, a_iconst 1) :: (70, 3, a_callv 2 0 [8, 9, 10, 11, 12, 13, 14] tX0_pass) :: (73, 3, a_iinc 3 1) :: (76, 3, a_goto 4) :: []
def kX4_beamsToFace_23 : pProg := (23, 1, a_aload 0) :: (24, 3, a_getf 0 2 1) :: (27, 1, a_iload 1) :: (28, 1, a_aload 0) :: (29, 3, a_getf 0 2 1) :: (32, 3, a_callv 1 0 [8, 9, 10, 11, 12, 13, 14] tX0_minute) :: (35, 1, a_iconst 1) :: (36, 1, a_iadd) :: (37, 3, a_callv 3 0 [8, 9, 10, 11, 12, 13, 14] tX0_speakerIn) :: (40, 2, a_iconst (-9)) :: (42, 3, a_icmp_eq 65) :: (45, 1, a_iload 2) :: (46, 1, a_aload 0) :: (47, 3, a_getf 0 2 1) :: (50, 1, a_aload 0) :: (51, 3, a_getf 0 2 1) :: (54, 1, a_iload 1) :: (55, 3, a_callv 2 0 [8, 9, 10, 11, 12, 13, 14] tX0_cellOf) :: (58, 1, a_iconst 1) :: (59, 1, a_iadd) :: (60, 3, a_callv 2 0 [8, 9, 10, 11, 12, 13, 14] tX0_beamsIn) :: (63, 1, a_iadd) :: (64, 1, a_istore 2) :: (65, 0, a_fall 65) :: []
def kX4_beamsToFace_4 : pProg := (4, 1, a_iload 3) :: (5, 2, a_iconst 60) :: (7, 3, a_icmp_gt 79) :: (10, 1, a_aload 0) :: (11, 3, a_getf 0 2 1) :: (14, 1, a_iload 1) :: (15, 3, a_callv 2 0 [8, 9, 10, 11, 12, 13, 14] tX0_isFaced) :: (18, 3, a_if_eq 23) :: (21, 1, a_iload 2) :: (22, 1, a_iret) :: []
def kX4_beamsToFace_0 : pProg := (0, 1, a_iconst 0) :: (1, 1, a_istore 2) :: (2, 1, a_iconst 0) :: (3, 1, a_istore 3) :: (4, 0, a_fall 4) :: []
set_option maxRecDepth 100000 in
theorem sX4_beamsToFace_79 (l : Launch) : AllS (pSnd l rmX4_beamsToFace yX4_beamsToFace.cls cX4_beamsToFace wsX4_beamsToFace 4 (some .int)) 79 kX4_beamsToFace_79 :=
  alls _ (s_bipush (by decide) dX4_beamsToFace_79) <|
  alls _ (s_iret dX4_beamsToFace_81) <|
  alls_nil _
set_option maxRecDepth 100000 in
theorem sX4_beamsToFace_65 (l : Launch) : AllS (pSnd l rmX4_beamsToFace yX4_beamsToFace.cls cX4_beamsToFace wsX4_beamsToFace 4 (some .int)) 65 kX4_beamsToFace_65 :=
  alls _ (s_aload_n rfl dX4_beamsToFace_65) <|
  alls _ (s_getf (C := RX4) (T := TX4) (N := 3) rfl (in_c inX4) (by decide) (List.mem_cons_of_mem _ wd_118) rfl dX4_beamsToFace_66) <|
  alls _ (s_iconst dX4_beamsToFace_69) <|
  alls _ (s_callv (ct_X0_pass l) rfl rfl rfl (gdV wd_429 wd_294 wd_295 wd_61 wd_296) rfl rfl (by decide +kernel) ⟨Nat.le_of_ble_eq_true rfl, Nat.le_of_ble_eq_true rfl⟩ dX4_beamsToFace_70) <|
  alls _ (s_iinc dX4_beamsToFace_73) <|
  alls _ (s_goto (by decide) dX4_beamsToFace_76) <|
  alls_nil _
set_option maxRecDepth 100000 in
theorem sX4_beamsToFace_23 (l : Launch) : AllS (pSnd l rmX4_beamsToFace yX4_beamsToFace.cls cX4_beamsToFace wsX4_beamsToFace 4 (some .int)) 23 kX4_beamsToFace_23 :=
  alls _ (s_aload_n rfl dX4_beamsToFace_23) <|
  alls _ (s_getf (C := RX4) (T := TX4) (N := 3) rfl (in_c inX4) (by decide) (List.mem_cons_of_mem _ wd_118) rfl dX4_beamsToFace_24) <|
  alls _ (s_iload_n rfl dX4_beamsToFace_27) <|
  alls _ (s_aload_n rfl dX4_beamsToFace_28) <|
  alls _ (s_getf (C := RX4) (T := TX4) (N := 3) rfl (in_c inX4) (by decide) (List.mem_cons_of_mem _ wd_118) rfl dX4_beamsToFace_29) <|
  alls _ (s_callv (ct_X0_minute l) rfl rfl rfl (gdV wd_554 wd_213 wd_214 wd_61 wd_215) rfl rfl (by decide +kernel) ⟨Nat.le_of_ble_eq_true rfl, Nat.le_of_ble_eq_true rfl⟩ dX4_beamsToFace_32) <|
  alls _ (s_iconst dX4_beamsToFace_35) <|
  alls _ (s_iadd dX4_beamsToFace_36) <|
  alls _ (s_callv (ct_X0_speakerIn l) rfl rfl rfl (gdV wd_555 wd_298 wd_299 wd_61 wd_300) rfl rfl (by decide +kernel) ⟨Nat.le_of_ble_eq_true rfl, Nat.le_of_ble_eq_true rfl⟩ dX4_beamsToFace_37) <|
  alls _ (s_bipush (by decide) dX4_beamsToFace_40) <|
  alls _ (s_icmp_eq (by decide) dX4_beamsToFace_42) <|
  alls _ (s_iload_n rfl dX4_beamsToFace_45) <|
  alls _ (s_aload_n rfl dX4_beamsToFace_46) <|
  alls _ (s_getf (C := RX4) (T := TX4) (N := 3) rfl (in_c inX4) (by decide) (List.mem_cons_of_mem _ wd_118) rfl dX4_beamsToFace_47) <|
  alls _ (s_aload_n rfl dX4_beamsToFace_50) <|
  alls _ (s_getf (C := RX4) (T := TX4) (N := 3) rfl (in_c inX4) (by decide) (List.mem_cons_of_mem _ wd_118) rfl dX4_beamsToFace_51) <|
  alls _ (s_iload_n rfl dX4_beamsToFace_54) <|
  alls _ (s_callv (ct_X0_cellOf l) rfl rfl rfl (gdV wd_430 wd_306 wd_307 wd_61 wd_308) rfl rfl (by decide +kernel) ⟨Nat.le_of_ble_eq_true rfl, Nat.le_of_ble_eq_true rfl⟩ dX4_beamsToFace_55) <|
  alls _ (s_iconst dX4_beamsToFace_58) <|
  alls _ (s_iadd dX4_beamsToFace_59) <|
  alls _ (s_callv (ct_X0_beamsIn l) rfl rfl rfl (gdV wd_556 wd_311 wd_312 wd_61 wd_313) rfl rfl (by decide +kernel) ⟨Nat.le_of_ble_eq_true rfl, Nat.le_of_ble_eq_true rfl⟩ dX4_beamsToFace_60) <|
  alls _ (s_iadd dX4_beamsToFace_63) <|
  alls _ (s_istore_n rfl dX4_beamsToFace_64) <|
  alls _ s_fall (alls_nil _)
set_option maxRecDepth 100000 in
theorem sX4_beamsToFace_4 (l : Launch) : AllS (pSnd l rmX4_beamsToFace yX4_beamsToFace.cls cX4_beamsToFace wsX4_beamsToFace 4 (some .int)) 4 kX4_beamsToFace_4 :=
  alls _ (s_iload_n rfl dX4_beamsToFace_4) <|
  alls _ (s_bipush (by decide) dX4_beamsToFace_5) <|
  alls _ (s_icmp_gt (by decide) dX4_beamsToFace_7) <|
  alls _ (s_aload_n rfl dX4_beamsToFace_10) <|
  alls _ (s_getf (C := RX4) (T := TX4) (N := 3) rfl (in_c inX4) (by decide) (List.mem_cons_of_mem _ wd_118) rfl dX4_beamsToFace_11) <|
  alls _ (s_iload_n rfl dX4_beamsToFace_14) <|
  alls _ (s_callv (ct_X0_isFaced l) rfl rfl rfl (gdV wd_467 wd_322 wd_323 wd_61 wd_324) rfl rfl (by decide +kernel) ⟨Nat.le_of_ble_eq_true rfl, Nat.le_of_ble_eq_true rfl⟩ dX4_beamsToFace_15) <|
  alls _ (s_if_eq (by decide) dX4_beamsToFace_18) <|
  alls _ (s_iload_n rfl dX4_beamsToFace_21) <|
  alls _ (s_iret dX4_beamsToFace_22) <|
  alls_nil _
set_option maxRecDepth 100000 in
theorem sX4_beamsToFace_0 (l : Launch) : AllS (pSnd l rmX4_beamsToFace yX4_beamsToFace.cls cX4_beamsToFace wsX4_beamsToFace 4 (some .int)) 0 kX4_beamsToFace_0 :=
  alls _ (s_iconst dX4_beamsToFace_0) <|
  alls _ (s_istore_n rfl dX4_beamsToFace_1) <|
  alls _ (s_iconst dX4_beamsToFace_2) <|
  alls _ (s_istore_n rfl dX4_beamsToFace_3) <|
  alls _ s_fall (alls_nil _)
def KX4_beamsToFace : List (Nat × pProg) := [(0, kX4_beamsToFace_0), (4, kX4_beamsToFace_4), (23, kX4_beamsToFace_23), (65, kX4_beamsToFace_65), (79, kX4_beamsToFace_79)]
theorem bX4_beamsToFace_0 : blkOf KX4_beamsToFace 0 = some kX4_beamsToFace_0 := rfl
theorem bX4_beamsToFace_4 : blkOf KX4_beamsToFace 4 = some kX4_beamsToFace_4 := rfl
theorem bX4_beamsToFace_23 : blkOf KX4_beamsToFace 23 = some kX4_beamsToFace_23 := rfl
theorem bX4_beamsToFace_65 : blkOf KX4_beamsToFace 65 = some kX4_beamsToFace_65 := rfl
theorem bX4_beamsToFace_79 : blkOf KX4_beamsToFace 79 = some kX4_beamsToFace_79 := rfl
def tX4_beamsToFace : pT := pM KX4_beamsToFace 4
theorem ct_X4_beamsToFace (l : Launch) : pCtr l yX4_beamsToFace wsX4_beamsToFace rmX4_beamsToFace 2 tX4_beamsToFace := ctr_of (by decide +kernel) rfl (List.forall_mem_cons.mpr ⟨sX4_beamsToFace_0 l, List.forall_mem_cons.mpr ⟨sX4_beamsToFace_4 l, List.forall_mem_cons.mpr ⟨sX4_beamsToFace_23 l, List.forall_mem_cons.mpr ⟨sX4_beamsToFace_65 l, List.forall_mem_cons.mpr ⟨sX4_beamsToFace_79 l, fun _ h => absurd h List.not_mem_nil⟩⟩⟩⟩⟩)
theorem dX4_easiestCell_0 : decode cX4_easiestCell 0 = .ok (.bipush (-9), 2) := by decide +kernel
theorem dX4_easiestCell_2 : decode cX4_easiestCell 2 = .ok (.istore_n 3, 1) := by decide +kernel
theorem dX4_easiestCell_3 : decode cX4_easiestCell 3 = .ok (.bipush (-9), 2) := by decide +kernel
theorem dX4_easiestCell_5 : decode cX4_easiestCell 5 = .ok (.istore 4, 2) := by decide +kernel
theorem dX4_easiestCell_7 : decode cX4_easiestCell 7 = .ok (.iconst 0, 1) := by decide +kernel
theorem dX4_easiestCell_8 : decode cX4_easiestCell 8 = .ok (.istore 5, 2) := by decide +kernel
theorem dX4_easiestCell_10 : decode cX4_easiestCell 10 = .ok (.iload 5, 2) := by decide +kernel
theorem dX4_easiestCell_12 : decode cX4_easiestCell 12 = .ok (.bipush 20, 2) := by decide +kernel
theorem dX4_easiestCell_14 : decode cX4_easiestCell 14 = .ok (.if_icmp .ge 48, 3) := by decide +kernel
theorem dX4_easiestCell_17 : decode cX4_easiestCell 17 = .ok (.aload_n 0, 1) := by decide +kernel
theorem dX4_easiestCell_18 : decode cX4_easiestCell 18 = .ok (.iconst 0, 1) := by decide +kernel
theorem dX4_easiestCell_19 : decode cX4_easiestCell 19 = .ok (.invokevirtual 33, 3) := by decide +kernel
theorem dX4_easiestCell_22 : decode cX4_easiestCell 22 = .ok (.aload_n 0, 1) := by decide +kernel
theorem dX4_easiestCell_23 : decode cX4_easiestCell 23 = .ok (.getfield 12, 3) := by decide +kernel
theorem dX4_easiestCell_26 : decode cX4_easiestCell 26 = .ok (.iload_n 1, 1) := by decide +kernel
theorem dX4_easiestCell_27 : decode cX4_easiestCell 27 = .ok (.iload 5, 2) := by decide +kernel
theorem dX4_easiestCell_29 : decode cX4_easiestCell 29 = .ok (.invokevirtual 90, 3) := by decide +kernel
theorem dX4_easiestCell_32 : decode cX4_easiestCell 32 = .ok (.aload_n 0, 1) := by decide +kernel
theorem dX4_easiestCell_33 : decode cX4_easiestCell 33 = .ok (.iload_n 1, 1) := by decide +kernel
theorem dX4_easiestCell_34 : decode cX4_easiestCell 34 = .ok (.invokevirtual 93, 3) := by decide +kernel
theorem dX4_easiestCell_37 : decode cX4_easiestCell 37 = .ok (.istore 6, 2) := by decide +kernel
theorem dX4_easiestCell_39 : decode cX4_easiestCell 39 = .ok (.iload 6, 2) := by decide +kernel
theorem dX4_easiestCell_41 : decode cX4_easiestCell 41 = .ok (.iload 4, 2) := by decide +kernel
theorem dX4_easiestCell_43 : decode cX4_easiestCell 43 = .ok (.invokestatic 67, 3) := by decide +kernel
theorem dX4_easiestCell_46 : decode cX4_easiestCell 46 = .ok (.ifCond .eq 10, 3) := by decide +kernel
theorem dX4_easiestCell_49 : decode cX4_easiestCell 49 = .ok (.iload 5, 2) := by decide +kernel
theorem dX4_easiestCell_51 : decode cX4_easiestCell 51 = .ok (.istore_n 3, 1) := by decide +kernel
theorem dX4_easiestCell_52 : decode cX4_easiestCell 52 = .ok (.iload 6, 2) := by decide +kernel
theorem dX4_easiestCell_54 : decode cX4_easiestCell 54 = .ok (.istore 4, 2) := by decide +kernel
theorem dX4_easiestCell_56 : decode cX4_easiestCell 56 = .ok (.iinc 5 1, 3) := by decide +kernel
theorem dX4_easiestCell_59 : decode cX4_easiestCell 59 = .ok (.goto (-49), 3) := by decide +kernel
theorem dX4_easiestCell_62 : decode cX4_easiestCell 62 = .ok (.iload_n 2, 1) := by decide +kernel
theorem dX4_easiestCell_63 : decode cX4_easiestCell 63 = .ok (.ifCond .ne 7, 3) := by decide +kernel
theorem dX4_easiestCell_66 : decode cX4_easiestCell 66 = .ok (.iload_n 3, 1) := by decide +kernel
theorem dX4_easiestCell_67 : decode cX4_easiestCell 67 = .ok (.goto 5, 3) := by decide +kernel
theorem dX4_easiestCell_70 : decode cX4_easiestCell 70 = .ok (.iload 4, 2) := by decide +kernel
theorem dX4_easiestCell_72 : decode cX4_easiestCell 72 = .ok (.ireturn, 1) := by decide +kernel
def rmX4_easiestCell : Room := { frames := 5, cells := 0, slots := 0, locals := 117 }
abbrev wsX4_easiestCell : List Cond := .code yX4_easiestCell cX4_easiestCell 7 (some .int) :: gw_tbl
def kX4_easiestCell_72 : pProg := (72, 1, a_iret) :: []
def kX4_easiestCell_70 : pProg := (70, 2, a_iload 4) :: (72, 0, a_fall 72) :: []
def kX4_easiestCell_62 : pProg := (62, 1, a_iload 2) :: (63, 3, a_if_ne 70) :: (66, 1, a_iload 3) :: (67, 3, a_goto 72) :: []
def kX4_easiestCell_56 : pProg := (56, 3, a_iinc 5 1) :: (59, 3, a_goto 10) :: []
def kX4_easiestCell_10 : pProg := (10, 2, a_iload 5) :: (12, 2, a_iconst 20) :: (14, 3, a_icmp_ge 62) :: (17, 1, a_aload 0) :: (18, 1, a_iconst 0) :: (19, 3, a_callv 2 2 [0, 1, 2, 3, 4, 5, 6, 7, 8, 9, 10, 11, 12, 13, 14, 15] tX4_think) :: (22, 1, a_aload 0) :: (23, 3, a_getf 0 2 1) :: (26, 1, a_iload 1) :: (27, 2, a_iload 5) :: (29, 3, a_callv 3 0 [8, 9, 10, 11, 12, 13, 14] tX0_setCell) :: (32, 1, a_aload 0) :: (33, 1, a_iload 1) :: (34, 3, a_callv 2 2 [0, 1, 2, 3, 4, 5, 6, 7, 8, 9, 10, 11, 12, 13, 14, 15] tX4_beamsToFace) :: (37, 2, a_istore 6) :: (39, 2, a_iload 6) :: (41, 2, a_iload 4) :: (43, 3, a_calls 2 [] tX4_isSooner) :: (46, 3, a_if_eq 56) :: (49, 2, a_iload 5) :: (51, 1, a_istore 3) :: (52, 2, a_iload 6) :: (54, 2, a_istore 4) :: (56, 0, a_fall 56) :: []
def kX4_easiestCell_0 : pProg := (0, 2, a_iconst (-9)) :: (2, 1, a_istore 3) :: (3, 2, a_iconst (-9)) :: (5, 2, a_istore 4) :: (7, 1, a_iconst 0) :: (8, 2, a_istore 5) :: (10, 0, a_fall 10) :: []
set_option maxRecDepth 100000 in
theorem sX4_easiestCell_72 (l : Launch) : AllS (pSnd l rmX4_easiestCell yX4_easiestCell.cls cX4_easiestCell wsX4_easiestCell 7 (some .int)) 72 kX4_easiestCell_72 :=
  alls _ (s_iret dX4_easiestCell_72) <|
  alls_nil _
set_option maxRecDepth 100000 in
theorem sX4_easiestCell_70 (l : Launch) : AllS (pSnd l rmX4_easiestCell yX4_easiestCell.cls cX4_easiestCell wsX4_easiestCell 7 (some .int)) 70 kX4_easiestCell_70 :=
  alls _ (s_iload dX4_easiestCell_70) <|
  alls _ s_fall (alls_nil _)
set_option maxRecDepth 100000 in
theorem sX4_easiestCell_62 (l : Launch) : AllS (pSnd l rmX4_easiestCell yX4_easiestCell.cls cX4_easiestCell wsX4_easiestCell 7 (some .int)) 62 kX4_easiestCell_62 :=
  alls _ (s_iload_n rfl dX4_easiestCell_62) <|
  alls _ (s_if_ne (by decide) dX4_easiestCell_63) <|
  alls _ (s_iload_n rfl dX4_easiestCell_66) <|
  alls _ (s_goto (by decide) dX4_easiestCell_67) <|
  alls_nil _
set_option maxRecDepth 100000 in
theorem sX4_easiestCell_56 (l : Launch) : AllS (pSnd l rmX4_easiestCell yX4_easiestCell.cls cX4_easiestCell wsX4_easiestCell 7 (some .int)) 56 kX4_easiestCell_56 :=
  alls _ (s_iinc dX4_easiestCell_56) <|
  alls _ (s_goto (by decide) dX4_easiestCell_59) <|
  alls_nil _
set_option maxRecDepth 100000 in
theorem sX4_easiestCell_10 (l : Launch) : AllS (pSnd l rmX4_easiestCell yX4_easiestCell.cls cX4_easiestCell wsX4_easiestCell 7 (some .int)) 10 kX4_easiestCell_10 :=
  alls _ (s_iload dX4_easiestCell_10) <|
  alls _ (s_bipush (by decide) dX4_easiestCell_12) <|
  alls _ (s_icmp_ge (by decide) dX4_easiestCell_14) <|
  alls _ (s_aload_n rfl dX4_easiestCell_17) <|
  alls _ (s_iconst dX4_easiestCell_18) <|
  alls _ (s_callv (ct_X4_think l) rfl rfl rfl (gdV wd_418 wd_420 wd_1 wd_62 wd_421) rfl rfl (by decide +kernel) ⟨Nat.le_of_ble_eq_true rfl, Nat.le_of_ble_eq_true rfl⟩ dX4_easiestCell_19) <|
  alls _ (s_aload_n rfl dX4_easiestCell_22) <|
  alls _ (s_getf (C := RX4) (T := TX4) (N := 3) rfl (in_c inX4) (by decide) (List.mem_cons_of_mem _ wd_118) rfl dX4_easiestCell_23) <|
  alls _ (s_iload_n rfl dX4_easiestCell_26) <|
  alls _ (s_iload dX4_easiestCell_27) <|
  alls _ (s_callv (ct_X0_setCell l) rfl rfl rfl (gdV wd_549 wd_256 wd_257 wd_61 wd_258) rfl rfl (by decide +kernel) ⟨Nat.le_of_ble_eq_true rfl, Nat.le_of_ble_eq_true rfl⟩ dX4_easiestCell_29) <|
  alls _ (s_aload_n rfl dX4_easiestCell_32) <|
  alls _ (s_iload_n rfl dX4_easiestCell_33) <|
  alls _ (s_callv (ct_X4_beamsToFace l) rfl rfl rfl (gdV wd_550 wd_552 wd_4 wd_62 wd_553) rfl rfl (by decide +kernel) ⟨Nat.le_of_ble_eq_true rfl, Nat.le_of_ble_eq_true rfl⟩ dX4_easiestCell_34) <|
  alls _ (s_istore dX4_easiestCell_37) <|
  alls _ (s_iload dX4_easiestCell_39) <|
  alls _ (s_iload dX4_easiestCell_41) <|
  alls _ (s_calls (ct_X4_isSooner l) rfl rfl (gdS wd_470) (List.mem_cons_of_mem _ wd_468) (List.mem_cons_of_mem _ wd_469) (List.mem_cons_of_mem _ wd_62) rfl rfl (by decide +kernel) ⟨Nat.le_of_ble_eq_true rfl, Nat.le_of_ble_eq_true rfl⟩ dX4_easiestCell_43) <|
  alls _ (s_if_eq (by decide) dX4_easiestCell_46) <|
  alls _ (s_iload dX4_easiestCell_49) <|
  alls _ (s_istore_n rfl dX4_easiestCell_51) <|
  alls _ (s_iload dX4_easiestCell_52) <|
  alls _ (s_istore dX4_easiestCell_54) <|
  alls _ s_fall (alls_nil _)
set_option maxRecDepth 100000 in
theorem sX4_easiestCell_0 (l : Launch) : AllS (pSnd l rmX4_easiestCell yX4_easiestCell.cls cX4_easiestCell wsX4_easiestCell 7 (some .int)) 0 kX4_easiestCell_0 :=
  alls _ (s_bipush (by decide) dX4_easiestCell_0) <|
  alls _ (s_istore_n rfl dX4_easiestCell_2) <|
  alls _ (s_bipush (by decide) dX4_easiestCell_3) <|
  alls _ (s_istore dX4_easiestCell_5) <|
  alls _ (s_iconst dX4_easiestCell_7) <|
  alls _ (s_istore dX4_easiestCell_8) <|
  alls _ s_fall (alls_nil _)
def KX4_easiestCell : List (Nat × pProg) := [(0, kX4_easiestCell_0), (10, kX4_easiestCell_10), (56, kX4_easiestCell_56), (62, kX4_easiestCell_62), (70, kX4_easiestCell_70), (72, kX4_easiestCell_72)]
theorem bX4_easiestCell_0 : blkOf KX4_easiestCell 0 = some kX4_easiestCell_0 := rfl
theorem bX4_easiestCell_10 : blkOf KX4_easiestCell 10 = some kX4_easiestCell_10 := rfl
theorem bX4_easiestCell_56 : blkOf KX4_easiestCell 56 = some kX4_easiestCell_56 := rfl
theorem bX4_easiestCell_62 : blkOf KX4_easiestCell 62 = some kX4_easiestCell_62 := rfl
theorem bX4_easiestCell_70 : blkOf KX4_easiestCell 70 = some kX4_easiestCell_70 := rfl
theorem bX4_easiestCell_72 : blkOf KX4_easiestCell 72 = some kX4_easiestCell_72 := rfl
def tX4_easiestCell : pT := pM KX4_easiestCell 7
theorem ct_X4_easiestCell (l : Launch) : pCtr l yX4_easiestCell wsX4_easiestCell rmX4_easiestCell 3 tX4_easiestCell := ctr_of (by decide +kernel) rfl (List.forall_mem_cons.mpr ⟨sX4_easiestCell_0 l, List.forall_mem_cons.mpr ⟨sX4_easiestCell_10 l, List.forall_mem_cons.mpr ⟨sX4_easiestCell_56 l, List.forall_mem_cons.mpr ⟨sX4_easiestCell_62 l, List.forall_mem_cons.mpr ⟨sX4_easiestCell_70 l, List.forall_mem_cons.mpr ⟨sX4_easiestCell_72 l, fun _ h => absurd h List.not_mem_nil⟩⟩⟩⟩⟩⟩)
theorem dX4_fewestAt_0 : decode cX4_fewestAt 0 = .ok (.iload_n 1, 1) := by decide +kernel
theorem dX4_fewestAt_1 : decode cX4_fewestAt 1 = .ok (.ifCond .lt 21, 3) := by decide +kernel
theorem dX4_fewestAt_4 : decode cX4_fewestAt 4 = .ok (.iload_n 1, 1) := by decide +kernel
theorem dX4_fewestAt_5 : decode cX4_fewestAt 5 = .ok (.aload_n 0, 1) := by decide +kernel
theorem dX4_fewestAt_6 : decode cX4_fewestAt 6 = .ok (.getfield 18, 3) := by decide +kernel
theorem dX4_fewestAt_9 : decode cX4_fewestAt 9 = .ok (.arraylength, 1) := by decide +kernel
theorem dX4_fewestAt_10 : decode cX4_fewestAt 10 = .ok (.if_icmp .ge 12, 3) := by decide +kernel
theorem dX4_fewestAt_13 : decode cX4_fewestAt 13 = .ok (.aload_n 0, 1) := by decide +kernel
theorem dX4_fewestAt_14 : decode cX4_fewestAt 14 = .ok (.getfield 18, 3) := by decide +kernel
theorem dX4_fewestAt_17 : decode cX4_fewestAt 17 = .ok (.iload_n 1, 1) := by decide +kernel
theorem dX4_fewestAt_18 : decode cX4_fewestAt 18 = .ok (.iaload, 1) := by decide +kernel
theorem dX4_fewestAt_19 : decode cX4_fewestAt 19 = .ok (.goto 5, 3) := by decide +kernel
theorem dX4_fewestAt_22 : decode cX4_fewestAt 22 = .ok (.bipush (-9), 2) := by decide +kernel
theorem dX4_fewestAt_24 : decode cX4_fewestAt 24 = .ok (.ireturn, 1) := by decide +kernel
def rmX4_fewestAt : Room := { frames := 0, cells := 0, slots := 0, locals := 0 }
abbrev wsX4_fewestAt : List Cond := .code yX4_fewestAt cX4_fewestAt 2 (some .int) :: gw_tbl
def kX4_fewestAt_24 : pProg := (24, 1, a_iret) :: []
def kX4_fewestAt_22 : pProg := (22, 2, a_iconst (-9)) :: (24, 0, a_fall 24) :: []
def kX4_fewestAt_0 : pProg := (0, 1, a_iload 1) :: (1, 3, a_if_lt 22) :: (4, 1, a_iload 1) :: (5, 1, a_aload 0) :: (6, 3, a_getf 0 2 2) :: (9, 1, a_alen 15) :: (10, 3, a_icmp_ge 22) :: (13, 1, a_aload 0) :: (14, 3, a_getf 0 2 2) :: (17, 1, a_iload 1) :: (18, 1, a_iald 15) :: (19, 3, a_goto 24) :: []
set_option maxRecDepth 100000 in
theorem sX4_fewestAt_24 (l : Launch) : AllS (pSnd l rmX4_fewestAt yX4_fewestAt.cls cX4_fewestAt wsX4_fewestAt 2 (some .int)) 24 kX4_fewestAt_24 :=
  alls _ (s_iret dX4_fewestAt_24) <|
  alls_nil _
set_option maxRecDepth 100000 in
theorem sX4_fewestAt_22 (l : Launch) : AllS (pSnd l rmX4_fewestAt yX4_fewestAt.cls cX4_fewestAt wsX4_fewestAt 2 (some .int)) 22 kX4_fewestAt_22 :=
  alls _ (s_bipush (by decide) dX4_fewestAt_22) <|
  alls _ s_fall (alls_nil _)
set_option maxRecDepth 100000 in
theorem sX4_fewestAt_0 (l : Launch) : AllS (pSnd l rmX4_fewestAt yX4_fewestAt.cls cX4_fewestAt wsX4_fewestAt 2 (some .int)) 0 kX4_fewestAt_0 :=
  alls _ (s_iload_n rfl dX4_fewestAt_0) <|
  alls _ (s_if_lt (by decide) dX4_fewestAt_1) <|
  alls _ (s_iload_n rfl dX4_fewestAt_4) <|
  alls _ (s_aload_n rfl dX4_fewestAt_5) <|
  alls _ (s_getf (C := RX4) (T := TX4) (N := 3) rfl (in_c inX4) (by decide) (List.mem_cons_of_mem _ wd_119) rfl dX4_fewestAt_6) <|
  alls _ (s_alen dX4_fewestAt_9) <|
  alls _ (s_icmp_ge (by decide) dX4_fewestAt_10) <|
  alls _ (s_aload_n rfl dX4_fewestAt_13) <|
  alls _ (s_getf (C := RX4) (T := TX4) (N := 3) rfl (in_c inX4) (by decide) (List.mem_cons_of_mem _ wd_119) rfl dX4_fewestAt_14) <|
  alls _ (s_iload_n rfl dX4_fewestAt_17) <|
  alls _ (s_iald dX4_fewestAt_18) <|
  alls _ (s_goto (by decide) dX4_fewestAt_19) <|
  alls_nil _
def KX4_fewestAt : List (Nat × pProg) := [(0, kX4_fewestAt_0), (22, kX4_fewestAt_22), (24, kX4_fewestAt_24)]
theorem bX4_fewestAt_0 : blkOf KX4_fewestAt 0 = some kX4_fewestAt_0 := rfl
theorem bX4_fewestAt_22 : blkOf KX4_fewestAt 22 = some kX4_fewestAt_22 := rfl
theorem bX4_fewestAt_24 : blkOf KX4_fewestAt 24 = some kX4_fewestAt_24 := rfl
def tX4_fewestAt : pT := pM KX4_fewestAt 2
theorem ct_X4_fewestAt (l : Launch) : pCtr l yX4_fewestAt wsX4_fewestAt rmX4_fewestAt 2 tX4_fewestAt := ctr_of (by decide +kernel) rfl (List.forall_mem_cons.mpr ⟨sX4_fewestAt_0 l, List.forall_mem_cons.mpr ⟨sX4_fewestAt_22 l, List.forall_mem_cons.mpr ⟨sX4_fewestAt_24 l, fun _ h => absurd h List.not_mem_nil⟩⟩⟩)
theorem dX4_humOne_0 : decode cX4_humOne 0 = .ok (.bipush 19, 2) := by decide +kernel
theorem dX4_humOne_2 : decode cX4_humOne 2 = .ok (.istore_n 2, 1) := by decide +kernel
theorem dX4_humOne_3 : decode cX4_humOne 3 = .ok (.iload_n 2, 1) := by decide +kernel
theorem dX4_humOne_4 : decode cX4_humOne 4 = .ok (.ifCond .lt 151, 3) := by decide +kernel
theorem dX4_humOne_7 : decode cX4_humOne 7 = .ok (.iload_n 2, 1) := by decide +kernel
theorem dX4_humOne_8 : decode cX4_humOne 8 = .ok (.aload_n 0, 1) := by decide +kernel
theorem dX4_humOne_9 : decode cX4_humOne 9 = .ok (.getfield 18, 3) := by decide +kernel
theorem dX4_humOne_12 : decode cX4_humOne 12 = .ok (.arraylength, 1) := by decide +kernel
theorem dX4_humOne_13 : decode cX4_humOne 13 = .ok (.if_icmp .ge 142, 3) := by decide +kernel
theorem dX4_humOne_16 : decode cX4_humOne 16 = .ok (.iload_n 2, 1) := by decide +kernel
theorem dX4_humOne_17 : decode cX4_humOne 17 = .ok (.bipush 19, 2) := by decide +kernel
theorem dX4_humOne_19 : decode cX4_humOne 19 = .ok (.if_icmp .ne 12, 3) := by decide +kernel
theorem dX4_humOne_22 : decode cX4_humOne 22 = .ok (.aload_n 0, 1) := by decide +kernel
theorem dX4_humOne_23 : decode cX4_humOne 23 = .ok (.bipush 19, 2) := by decide +kernel
theorem dX4_humOne_25 : decode cX4_humOne 25 = .ok (.invokevirtual 117, 3) := by decide +kernel
theorem dX4_humOne_28 : decode cX4_humOne 28 = .ok (.goto 5, 3) := by decide +kernel
theorem dX4_humOne_31 : decode cX4_humOne 31 = .ok (.bipush (-9), 2) := by decide +kernel
theorem dX4_humOne_33 : decode cX4_humOne 33 = .ok (.istore_n 3, 1) := by decide +kernel
theorem dX4_humOne_34 : decode cX4_humOne 34 = .ok (.aload_n 0, 1) := by decide +kernel
theorem dX4_humOne_35 : decode cX4_humOne 35 = .ok (.iload_n 2, 1) := by decide +kernel
theorem dX4_humOne_36 : decode cX4_humOne 36 = .ok (.iconst 1, 1) := by decide +kernel
theorem dX4_humOne_37 : decode cX4_humOne 37 = .ok (.isub, 1) := by decide +kernel
theorem dX4_humOne_38 : decode cX4_humOne 38 = .ok (.invokevirtual 117, 3) := by decide +kernel
theorem dX4_humOne_41 : decode cX4_humOne 41 = .ok (.bipush (-9), 2) := by decide +kernel
theorem dX4_humOne_43 : decode cX4_humOne 43 = .ok (.if_icmp .ne 8, 3) := by decide +kernel
theorem dX4_humOne_46 : decode cX4_humOne 46 = .ok (.bipush (-9), 2) := by decide +kernel
theorem dX4_humOne_48 : decode cX4_humOne 48 = .ok (.goto 19, 3) := by decide +kernel
theorem dX4_humOne_51 : decode cX4_humOne 51 = .ok (.aload_n 0, 1) := by decide +kernel
theorem dX4_humOne_52 : decode cX4_humOne 52 = .ok (.iload_n 2, 1) := by decide +kernel
theorem dX4_humOne_53 : decode cX4_humOne 53 = .ok (.iconst 1, 1) := by decide +kernel
theorem dX4_humOne_54 : decode cX4_humOne 54 = .ok (.isub, 1) := by decide +kernel
theorem dX4_humOne_55 : decode cX4_humOne 55 = .ok (.invokevirtual 117, 3) := by decide +kernel
theorem dX4_humOne_58 : decode cX4_humOne 58 = .ok (.aload_n 0, 1) := by decide +kernel
theorem dX4_humOne_59 : decode cX4_humOne 59 = .ok (.getfield 22, 3) := by decide +kernel
theorem dX4_humOne_62 : decode cX4_humOne 62 = .ok (.iload_n 2, 1) := by decide +kernel
theorem dX4_humOne_63 : decode cX4_humOne 63 = .ok (.invokevirtual 103, 3) := by decide +kernel
theorem dX4_humOne_66 : decode cX4_humOne 66 = .ok (.iadd, 1) := by decide +kernel
theorem dX4_humOne_67 : decode cX4_humOne 67 = .ok (.istore 4, 2) := by decide +kernel
theorem dX4_humOne_69 : decode cX4_humOne 69 = .ok (.iload 4, 2) := by decide +kernel
theorem dX4_humOne_71 : decode cX4_humOne 71 = .ok (.iload_n 3, 1) := by decide +kernel
theorem dX4_humOne_72 : decode cX4_humOne 72 = .ok (.invokestatic 67, 3) := by decide +kernel
theorem dX4_humOne_75 : decode cX4_humOne 75 = .ok (.ifCond .eq 8, 3) := by decide +kernel
theorem dX4_humOne_78 : decode cX4_humOne 78 = .ok (.iload 4, 2) := by decide +kernel
theorem dX4_humOne_80 : decode cX4_humOne 80 = .ok (.goto 4, 3) := by decide +kernel
theorem dX4_humOne_83 : decode cX4_humOne 83 = .ok (.iload_n 3, 1) := by decide +kernel
theorem dX4_humOne_84 : decode cX4_humOne 84 = .ok (.istore_n 3, 1) := by decide +kernel
theorem dX4_humOne_85 : decode cX4_humOne 85 = .ok (.iload_n 2, 1) := by decide +kernel
theorem dX4_humOne_86 : decode cX4_humOne 86 = .ok (.bipush 19, 2) := by decide +kernel
theorem dX4_humOne_88 : decode cX4_humOne 88 = .ok (.if_icmp .ne 7, 3) := by decide +kernel
theorem dX4_humOne_91 : decode cX4_humOne 91 = .ok (.iconst 1, 1) := by decide +kernel
theorem dX4_humOne_92 : decode cX4_humOne 92 = .ok (.goto 4, 3) := by decide +kernel
theorem dX4_humOne_95 : decode cX4_humOne 95 = .ok (.iload_n 1, 1) := by decide +kernel
theorem dX4_humOne_96 : decode cX4_humOne 96 = .ok (.istore 5, 2) := by decide +kernel
theorem dX4_humOne_98 : decode cX4_humOne 98 = .ok (.iload 5, 2) := by decide +kernel
theorem dX4_humOne_100 : decode cX4_humOne 100 = .ok (.istore 6, 2) := by decide +kernel
theorem dX4_humOne_102 : decode cX4_humOne 102 = .ok (.iload 6, 2) := by decide +kernel
theorem dX4_humOne_104 : decode cX4_humOne 104 = .ok (.iload_n 1, 1) := by decide +kernel
theorem dX4_humOne_105 : decode cX4_humOne 105 = .ok (.if_icmp .gt 37, 3) := by decide +kernel
theorem dX4_humOne_108 : decode cX4_humOne 108 = .ok (.aload_n 0, 1) := by decide +kernel
theorem dX4_humOne_109 : decode cX4_humOne 109 = .ok (.iload_n 2, 1) := by decide +kernel
theorem dX4_humOne_110 : decode cX4_humOne 110 = .ok (.iload 6, 2) := by decide +kernel
theorem dX4_humOne_112 : decode cX4_humOne 112 = .ok (.isub, 1) := by decide +kernel
theorem dX4_humOne_113 : decode cX4_humOne 113 = .ok (.invokevirtual 117, 3) := by decide +kernel
theorem dX4_humOne_116 : decode cX4_humOne 116 = .ok (.iload_n 3, 1) := by decide +kernel
theorem dX4_humOne_117 : decode cX4_humOne 117 = .ok (.invokestatic 67, 3) := by decide +kernel
theorem dX4_humOne_120 : decode cX4_humOne 120 = .ok (.ifCond .eq 14, 3) := by decide +kernel
theorem dX4_humOne_123 : decode cX4_humOne 123 = .ok (.aload_n 0, 1) := by decide +kernel
theorem dX4_humOne_124 : decode cX4_humOne 124 = .ok (.iload_n 2, 1) := by decide +kernel
theorem dX4_humOne_125 : decode cX4_humOne 125 = .ok (.iload 6, 2) := by decide +kernel
theorem dX4_humOne_127 : decode cX4_humOne 127 = .ok (.isub, 1) := by decide +kernel
theorem dX4_humOne_128 : decode cX4_humOne 128 = .ok (.invokevirtual 117, 3) := by decide +kernel
theorem dX4_humOne_131 : decode cX4_humOne 131 = .ok (.goto 4, 3) := by decide +kernel
theorem dX4_humOne_134 : decode cX4_humOne 134 = .ok (.iload_n 3, 1) := by decide +kernel
theorem dX4_humOne_135 : decode cX4_humOne 135 = .ok (.istore_n 3, 1) := by decide +kernel
theorem dX4_humOne_136 : decode cX4_humOne 136 = .ok (.iinc 6 1, 3) := by decide +kernel
theorem dX4_humOne_139 : decode cX4_humOne 139 = .ok (.goto (-37), 3) := by decide +kernel
theorem dX4_humOne_142 : decode cX4_humOne 142 = .ok (.aload_n 0, 1) := by decide +kernel
theorem dX4_humOne_143 : decode cX4_humOne 143 = .ok (.getfield 18, 3) := by decide +kernel
theorem dX4_humOne_146 : decode cX4_humOne 146 = .ok (.iload_n 2, 1) := by decide +kernel
theorem dX4_humOne_147 : decode cX4_humOne 147 = .ok (.iload_n 3, 1) := by decide +kernel
theorem dX4_humOne_148 : decode cX4_humOne 148 = .ok (.iastore, 1) := by decide +kernel
theorem dX4_humOne_149 : decode cX4_humOne 149 = .ok (.iinc 2 (-1), 3) := by decide +kernel
theorem dX4_humOne_152 : decode cX4_humOne 152 = .ok (.goto (-149), 3) := by decide +kernel
theorem dX4_humOne_155 : decode cX4_humOne 155 = .ok (.return_, 1) := by decide +kernel
def rmX4_humOne : Room := { frames := 1, cells := 0, slots := 0, locals := 21 }
abbrev wsX4_humOne : List Cond := .code yX4_humOne cX4_humOne 7 none :: gw_tbl
def kX4_humOne_155 : pProg := (155, 1, a_vret) :: []
def kX4_humOne_142 : pProg := (142, 1, a_aload 0) :: (143, 3, a_getf 0 2 2) :: (146, 1, a_iload 2) :: (147, 1, a_iload 3) :: (148, 1, a_iast 15) :: (149, 3, a_iinc 2 (-1)) :: (152, 3, a_goto 3) :: []
def kX4_humOne_135 : pProg := (135, 1, a_istore 3) :: (136, 3, a_iinc 6 1) :: (139, 3, a_goto 102) :: []
def kX4_humOne_134 : pProg := (134, 1, a_iload 3) :: (135, 0, a_fall 135) :: []
def kX4_humOne_102 : pProg := (102, 2, a_iload 6) :: (104, 1, a_iload 1) :: (105, 3, a_icmp_gt 142) :: (108, 1, a_aload 0) :: (109, 1, a_iload 2) :: (110, 2, a_iload 6) :: (112, 1, a_isub) :: (113, 3, a_callv 2 2 [0, 1, 2, 3, 4, 5, 6, 7, 8, 9, 10, 11, 12, 13, 14, 15] tX4_fewestAt) :: (116, 1, a_iload 3) :: (117, 3, a_calls 2 [] tX4_isSooner) :: (120, 3, a_if_eq 134) :: (123, 1, a_aload 0) :: (124, 1, a_iload 2) :: (125, 2, a_iload 6) :: (127, 1, a_isub) :: (128, 3, a_callv 2 2 [0, 1, 2, 3, 4, 5, 6, 7, 8, 9, 10, 11, 12, 13, 14, 15] tX4_fewestAt) :: (131, 3, a_goto 135) :: []
def kX4_humOne_96 : pProg := (96, 2, a_istore 5) :: (98, 2, a_iload 5) :: (100, 2, a_istore 6) :: (102, 0, a_fall 102) :: []
def kX4_humOne_95 : pProg := (95, 1, a_iload 1) :: (96, 0, a_fall 96) :: []
def kX4_humOne_84 : pProg := (84, 1, a_istore 3) :: (85, 1, a_iload 2) :: (86, 2, a_iconst 19) :: (88, 3, a_icmp_ne 95) :: (91, 1, a_iconst 1) :: (92, 3, a_goto 96) :: []
def kX4_humOne_83 : pProg := (83, 1, a_iload 3) :: (84, 0, a_fall 84) :: []
def kX4_humOne_67 : pProg := (67, 2, a_istore 4) :: (69, 2, a_iload 4) :: (71, 1, a_iload 3) :: (72, 3, a_calls 2 [] tX4_isSooner) :: (75, 3, a_if_eq 83) :: (78, 2, a_iload 4) :: (80, 3, a_goto 84) :: []
def kX4_humOne_51 : pProg := (51, 1, a_aload 0) :: (52, 1, a_iload 2) :: (53, 1, a_iconst 1) :: (54, 1, a_isub) :: (55, 3, a_callv 2 2 [0, 1, 2, 3, 4, 5, 6, 7, 8, 9, 10, 11, 12, 13, 14, 15] tX4_fewestAt) :: (58, 1, a_aload 0) :: (59, 3, a_getf 0 2 0) :: (62, 1, a_iload 2) :: (63, 3, a_callv 2 0 [1, 2, 3, 4, 5, 6, 7] tX0_beamsIn) :: (66, 1, a_iadd) :: (67, 0, a_fall 67) :: []
def kX4_humOne_33 : pProg := (33, 1, a_istore 3) :: (34, 1, a_aload 0) :: (35, 1, a_iload 2) :: (36, 1, a_iconst 1) :: (37, 1, a_isub) :: (38, 3, a_callv 2 2 [0, 1, 2, 3, 4, 5, 6, 7, 8, 9, 10, 11, 12, 13, 14, 15] tX4_fewestAt) :: (41, 2, a_iconst (-9)) :: (43, 3, a_icmp_ne 51) :: (46, 2, a_iconst (-9)) :: (48, 3, a_goto 67) :: []
def kX4_humOne_31 : pProg := (31, 2, a_iconst (-9)) :: (33, 0, a_fall 33) :: []
def kX4_humOne_3 : pProg := (3, 1, a_iload 2) :: (4, 3, a_if_lt 155) :: (7, 1, a_iload 2) :: (8, 1, a_aload 0) :: (9, 3, a_getf 0 2 2) :: (12, 1, a_alen 15) :: (13, 3, a_icmp_ge 155) :: (16, 1, a_iload 2) :: (17, 2, a_iconst 19) :: (19, 3, a_icmp_ne 31) :: (22, 1, a_aload 0) :: (23, 2, a_iconst 19) :: (25, 3, a_callv 2 2 [0, 1, 2, 3, 4, 5, 6, 7, 8, 9, 10, 11, 12, 13, 14, 15] tX4_fewestAt) :: (28, 3, a_goto 33) :: []
def kX4_humOne_0 : pProg := (0, 2, a_iconst 19) :: (2, 1, a_istore 2) :: (3, 0, a_fall 3) :: []
set_option maxRecDepth 100000 in
theorem sX4_humOne_155 (l : Launch) : AllS (pSnd l rmX4_humOne yX4_humOne.cls cX4_humOne wsX4_humOne 7 none) 155 kX4_humOne_155 :=
  alls _ (s_vret dX4_humOne_155) <|
  alls_nil _
set_option maxRecDepth 100000 in
theorem sX4_humOne_142 (l : Launch) : AllS (pSnd l rmX4_humOne yX4_humOne.cls cX4_humOne wsX4_humOne 7 none) 142 kX4_humOne_142 :=
  alls _ (s_aload_n rfl dX4_humOne_142) <|
  alls _ (s_getf (C := RX4) (T := TX4) (N := 3) rfl (in_c inX4) (by decide) (List.mem_cons_of_mem _ wd_119) rfl dX4_humOne_143) <|
  alls _ (s_iload_n rfl dX4_humOne_146) <|
  alls _ (s_iload_n rfl dX4_humOne_147) <|
  alls _ (s_iast dX4_humOne_148) <|
  alls _ (s_iinc dX4_humOne_149) <|
  alls _ (s_goto (by decide) dX4_humOne_152) <|
  alls_nil _
set_option maxRecDepth 100000 in
theorem sX4_humOne_135 (l : Launch) : AllS (pSnd l rmX4_humOne yX4_humOne.cls cX4_humOne wsX4_humOne 7 none) 135 kX4_humOne_135 :=
  alls _ (s_istore_n rfl dX4_humOne_135) <|
  alls _ (s_iinc dX4_humOne_136) <|
  alls _ (s_goto (by decide) dX4_humOne_139) <|
  alls_nil _
set_option maxRecDepth 100000 in
theorem sX4_humOne_134 (l : Launch) : AllS (pSnd l rmX4_humOne yX4_humOne.cls cX4_humOne wsX4_humOne 7 none) 134 kX4_humOne_134 :=
  alls _ (s_iload_n rfl dX4_humOne_134) <|
  alls _ s_fall (alls_nil _)
set_option maxRecDepth 100000 in
theorem sX4_humOne_102 (l : Launch) : AllS (pSnd l rmX4_humOne yX4_humOne.cls cX4_humOne wsX4_humOne 7 none) 102 kX4_humOne_102 :=
  alls _ (s_iload dX4_humOne_102) <|
  alls _ (s_iload_n rfl dX4_humOne_104) <|
  alls _ (s_icmp_gt (by decide) dX4_humOne_105) <|
  alls _ (s_aload_n rfl dX4_humOne_108) <|
  alls _ (s_iload_n rfl dX4_humOne_109) <|
  alls _ (s_iload dX4_humOne_110) <|
  alls _ (s_isub dX4_humOne_112) <|
  alls _ (s_callv (ct_X4_fewestAt l) rfl rfl rfl (gdV wd_571 wd_573 wd_6 wd_62 wd_574) rfl rfl (by decide +kernel) ⟨Nat.le_of_ble_eq_true rfl, Nat.le_of_ble_eq_true rfl⟩ dX4_humOne_113) <|
  alls _ (s_iload_n rfl dX4_humOne_116) <|
  alls _ (s_calls (ct_X4_isSooner l) rfl rfl (gdS wd_470) (List.mem_cons_of_mem _ wd_468) (List.mem_cons_of_mem _ wd_469) (List.mem_cons_of_mem _ wd_62) rfl rfl (by decide +kernel) ⟨Nat.le_of_ble_eq_true rfl, Nat.le_of_ble_eq_true rfl⟩ dX4_humOne_117) <|
  alls _ (s_if_eq (by decide) dX4_humOne_120) <|
  alls _ (s_aload_n rfl dX4_humOne_123) <|
  alls _ (s_iload_n rfl dX4_humOne_124) <|
  alls _ (s_iload dX4_humOne_125) <|
  alls _ (s_isub dX4_humOne_127) <|
  alls _ (s_callv (ct_X4_fewestAt l) rfl rfl rfl (gdV wd_571 wd_573 wd_6 wd_62 wd_574) rfl rfl (by decide +kernel) ⟨Nat.le_of_ble_eq_true rfl, Nat.le_of_ble_eq_true rfl⟩ dX4_humOne_128) <|
  alls _ (s_goto (by decide) dX4_humOne_131) <|
  alls_nil _
set_option maxRecDepth 100000 in
theorem sX4_humOne_96 (l : Launch) : AllS (pSnd l rmX4_humOne yX4_humOne.cls cX4_humOne wsX4_humOne 7 none) 96 kX4_humOne_96 :=
  alls _ (s_istore dX4_humOne_96) <|
  alls _ (s_iload dX4_humOne_98) <|
  alls _ (s_istore dX4_humOne_100) <|
  alls _ s_fall (alls_nil _)
set_option maxRecDepth 100000 in
theorem sX4_humOne_95 (l : Launch) : AllS (pSnd l rmX4_humOne yX4_humOne.cls cX4_humOne wsX4_humOne 7 none) 95 kX4_humOne_95 :=
  alls _ (s_iload_n rfl dX4_humOne_95) <|
  alls _ s_fall (alls_nil _)
set_option maxRecDepth 100000 in
theorem sX4_humOne_84 (l : Launch) : AllS (pSnd l rmX4_humOne yX4_humOne.cls cX4_humOne wsX4_humOne 7 none) 84 kX4_humOne_84 :=
  alls _ (s_istore_n rfl dX4_humOne_84) <|
  alls _ (s_iload_n rfl dX4_humOne_85) <|
  alls _ (s_bipush (by decide) dX4_humOne_86) <|
  alls _ (s_icmp_ne (by decide) dX4_humOne_88) <|
  alls _ (s_iconst dX4_humOne_91) <|
  alls _ (s_goto (by decide) dX4_humOne_92) <|
  alls_nil _
set_option maxRecDepth 100000 in
theorem sX4_humOne_83 (l : Launch) : AllS (pSnd l rmX4_humOne yX4_humOne.cls cX4_humOne wsX4_humOne 7 none) 83 kX4_humOne_83 :=
  alls _ (s_iload_n rfl dX4_humOne_83) <|
  alls _ s_fall (alls_nil _)
set_option maxRecDepth 100000 in
theorem sX4_humOne_67 (l : Launch) : AllS (pSnd l rmX4_humOne yX4_humOne.cls cX4_humOne wsX4_humOne 7 none) 67 kX4_humOne_67 :=
  alls _ (s_istore dX4_humOne_67) <|
  alls _ (s_iload dX4_humOne_69) <|
  alls _ (s_iload_n rfl dX4_humOne_71) <|
  alls _ (s_calls (ct_X4_isSooner l) rfl rfl (gdS wd_470) (List.mem_cons_of_mem _ wd_468) (List.mem_cons_of_mem _ wd_469) (List.mem_cons_of_mem _ wd_62) rfl rfl (by decide +kernel) ⟨Nat.le_of_ble_eq_true rfl, Nat.le_of_ble_eq_true rfl⟩ dX4_humOne_72) <|
  alls _ (s_if_eq (by decide) dX4_humOne_75) <|
  alls _ (s_iload dX4_humOne_78) <|
  alls _ (s_goto (by decide) dX4_humOne_80) <|
  alls_nil _
set_option maxRecDepth 100000 in
theorem sX4_humOne_51 (l : Launch) : AllS (pSnd l rmX4_humOne yX4_humOne.cls cX4_humOne wsX4_humOne 7 none) 51 kX4_humOne_51 :=
  alls _ (s_aload_n rfl dX4_humOne_51) <|
  alls _ (s_iload_n rfl dX4_humOne_52) <|
  alls _ (s_iconst dX4_humOne_53) <|
  alls _ (s_isub dX4_humOne_54) <|
  alls _ (s_callv (ct_X4_fewestAt l) rfl rfl rfl (gdV wd_571 wd_573 wd_6 wd_62 wd_574) rfl rfl (by decide +kernel) ⟨Nat.le_of_ble_eq_true rfl, Nat.le_of_ble_eq_true rfl⟩ dX4_humOne_55) <|
  alls _ (s_aload_n rfl dX4_humOne_58) <|
  alls _ (s_getf (C := RX4) (T := TX4) (N := 3) rfl (in_c inX4) (by decide) (List.mem_cons_of_mem _ wd_117) rfl dX4_humOne_59) <|
  alls _ (s_iload_n rfl dX4_humOne_62) <|
  alls _ (s_callv (ct_X0_beamsIn l) rfl rfl rfl (gdV wd_556 wd_311 wd_312 wd_61 wd_313) rfl rfl (by decide +kernel) ⟨Nat.le_of_ble_eq_true rfl, Nat.le_of_ble_eq_true rfl⟩ dX4_humOne_63) <|
  alls _ (s_iadd dX4_humOne_66) <|
  alls _ s_fall (alls_nil _)
set_option maxRecDepth 100000 in
theorem sX4_humOne_33 (l : Launch) : AllS (pSnd l rmX4_humOne yX4_humOne.cls cX4_humOne wsX4_humOne 7 none) 33 kX4_humOne_33 :=
  alls _ (s_istore_n rfl dX4_humOne_33) <|
  alls _ (s_aload_n rfl dX4_humOne_34) <|
  alls _ (s_iload_n rfl dX4_humOne_35) <|
  alls _ (s_iconst dX4_humOne_36) <|
  alls _ (s_isub dX4_humOne_37) <|
  alls _ (s_callv (ct_X4_fewestAt l) rfl rfl rfl (gdV wd_571 wd_573 wd_6 wd_62 wd_574) rfl rfl (by decide +kernel) ⟨Nat.le_of_ble_eq_true rfl, Nat.le_of_ble_eq_true rfl⟩ dX4_humOne_38) <|
  alls _ (s_bipush (by decide) dX4_humOne_41) <|
  alls _ (s_icmp_ne (by decide) dX4_humOne_43) <|
  alls _ (s_bipush (by decide) dX4_humOne_46) <|
  alls _ (s_goto (by decide) dX4_humOne_48) <|
  alls_nil _
set_option maxRecDepth 100000 in
theorem sX4_humOne_31 (l : Launch) : AllS (pSnd l rmX4_humOne yX4_humOne.cls cX4_humOne wsX4_humOne 7 none) 31 kX4_humOne_31 :=
  alls _ (s_bipush (by decide) dX4_humOne_31) <|
  alls _ s_fall (alls_nil _)
set_option maxRecDepth 100000 in
theorem sX4_humOne_3 (l : Launch) : AllS (pSnd l rmX4_humOne yX4_humOne.cls cX4_humOne wsX4_humOne 7 none) 3 kX4_humOne_3 :=
  alls _ (s_iload_n rfl dX4_humOne_3) <|
  alls _ (s_if_lt (by decide) dX4_humOne_4) <|
  alls _ (s_iload_n rfl dX4_humOne_7) <|
  alls _ (s_aload_n rfl dX4_humOne_8) <|
  alls _ (s_getf (C := RX4) (T := TX4) (N := 3) rfl (in_c inX4) (by decide) (List.mem_cons_of_mem _ wd_119) rfl dX4_humOne_9) <|
  alls _ (s_alen dX4_humOne_12) <|
  alls _ (s_icmp_ge (by decide) dX4_humOne_13) <|
  alls _ (s_iload_n rfl dX4_humOne_16) <|
  alls _ (s_bipush (by decide) dX4_humOne_17) <|
  alls _ (s_icmp_ne (by decide) dX4_humOne_19) <|
  alls _ (s_aload_n rfl dX4_humOne_22) <|
  alls _ (s_bipush (by decide) dX4_humOne_23) <|
  alls _ (s_callv (ct_X4_fewestAt l) rfl rfl rfl (gdV wd_571 wd_573 wd_6 wd_62 wd_574) rfl rfl (by decide +kernel) ⟨Nat.le_of_ble_eq_true rfl, Nat.le_of_ble_eq_true rfl⟩ dX4_humOne_25) <|
  alls _ (s_goto (by decide) dX4_humOne_28) <|
  alls_nil _
set_option maxRecDepth 100000 in
theorem sX4_humOne_0 (l : Launch) : AllS (pSnd l rmX4_humOne yX4_humOne.cls cX4_humOne wsX4_humOne 7 none) 0 kX4_humOne_0 :=
  alls _ (s_bipush (by decide) dX4_humOne_0) <|
  alls _ (s_istore_n rfl dX4_humOne_2) <|
  alls _ s_fall (alls_nil _)
def KX4_humOne : List (Nat × pProg) := [(0, kX4_humOne_0), (3, kX4_humOne_3), (31, kX4_humOne_31), (33, kX4_humOne_33), (51, kX4_humOne_51), (67, kX4_humOne_67), (83, kX4_humOne_83), (84, kX4_humOne_84), (95, kX4_humOne_95), (96, kX4_humOne_96), (102, kX4_humOne_102), (134, kX4_humOne_134), (135, kX4_humOne_135), (142, kX4_humOne_142), (155, kX4_humOne_155)]
theorem bX4_humOne_0 : blkOf KX4_humOne 0 = some kX4_humOne_0 := rfl
theorem bX4_humOne_3 : blkOf KX4_humOne 3 = some kX4_humOne_3 := rfl
theorem bX4_humOne_31 : blkOf KX4_humOne 31 = some kX4_humOne_31 := rfl
theorem bX4_humOne_33 : blkOf KX4_humOne 33 = some kX4_humOne_33 := rfl
theorem bX4_humOne_51 : blkOf KX4_humOne 51 = some kX4_humOne_51 := rfl
theorem bX4_humOne_67 : blkOf KX4_humOne 67 = some kX4_humOne_67 := rfl
theorem bX4_humOne_83 : blkOf KX4_humOne 83 = some kX4_humOne_83 := rfl
theorem bX4_humOne_84 : blkOf KX4_humOne 84 = some kX4_humOne_84 := rfl
theorem bX4_humOne_95 : blkOf KX4_humOne 95 = some kX4_humOne_95 := rfl
theorem bX4_humOne_96 : blkOf KX4_humOne 96 = some kX4_humOne_96 := rfl
theorem bX4_humOne_102 : blkOf KX4_humOne 102 = some kX4_humOne_102 := rfl
theorem bX4_humOne_134 : blkOf KX4_humOne 134 = some kX4_humOne_134 := rfl
theorem bX4_humOne_135 : blkOf KX4_humOne 135 = some kX4_humOne_135 := rfl
theorem bX4_humOne_142 : blkOf KX4_humOne 142 = some kX4_humOne_142 := rfl
theorem bX4_humOne_155 : blkOf KX4_humOne 155 = some kX4_humOne_155 := rfl
def tX4_humOne : pT := pM KX4_humOne 7
theorem ct_X4_humOne (l : Launch) : pCtr l yX4_humOne wsX4_humOne rmX4_humOne 2 tX4_humOne := ctr_of (by decide +kernel) rfl (List.forall_mem_cons.mpr ⟨sX4_humOne_0 l, List.forall_mem_cons.mpr ⟨sX4_humOne_3 l, List.forall_mem_cons.mpr ⟨sX4_humOne_31 l, List.forall_mem_cons.mpr ⟨sX4_humOne_33 l, List.forall_mem_cons.mpr ⟨sX4_humOne_51 l, List.forall_mem_cons.mpr ⟨sX4_humOne_67 l, List.forall_mem_cons.mpr ⟨sX4_humOne_83 l, List.forall_mem_cons.mpr ⟨sX4_humOne_84 l, List.forall_mem_cons.mpr ⟨sX4_humOne_95 l, List.forall_mem_cons.mpr ⟨sX4_humOne_96 l, List.forall_mem_cons.mpr ⟨sX4_humOne_102 l, List.forall_mem_cons.mpr ⟨sX4_humOne_134 l, List.forall_mem_cons.mpr ⟨sX4_humOne_135 l, List.forall_mem_cons.mpr ⟨sX4_humOne_142 l, List.forall_mem_cons.mpr ⟨sX4_humOne_155 l, fun _ h => absurd h List.not_mem_nil⟩⟩⟩⟩⟩⟩⟩⟩⟩⟩⟩⟩⟩⟩⟩)
theorem dX4_fewestBeams_0 : decode cX4_fewestBeams 0 = .ok (.aload_n 0, 1) := by decide +kernel
theorem dX4_fewestBeams_1 : decode cX4_fewestBeams 1 = .ok (.getfield 22, 3) := by decide +kernel
theorem dX4_fewestBeams_4 : decode cX4_fewestBeams 4 = .ok (.iconst 2, 1) := by decide +kernel
theorem dX4_fewestBeams_5 : decode cX4_fewestBeams 5 = .ok (.iload_n 1, 1) := by decide +kernel
theorem dX4_fewestBeams_6 : decode cX4_fewestBeams 6 = .ok (.imul, 1) := by decide +kernel
theorem dX4_fewestBeams_7 : decode cX4_fewestBeams 7 = .ok (.invokevirtual 106, 3) := by decide +kernel
theorem dX4_fewestBeams_10 : decode cX4_fewestBeams 10 = .ok (.invokestatic 109, 3) := by decide +kernel
theorem dX4_fewestBeams_13 : decode cX4_fewestBeams 13 = .ok (.istore_n 3, 1) := by decide +kernel
theorem dX4_fewestBeams_14 : decode cX4_fewestBeams 14 = .ok (.iconst 0, 1) := by decide +kernel
theorem dX4_fewestBeams_15 : decode cX4_fewestBeams 15 = .ok (.istore 4, 2) := by decide +kernel
theorem dX4_fewestBeams_17 : decode cX4_fewestBeams 17 = .ok (.iload 4, 2) := by decide +kernel
theorem dX4_fewestBeams_19 : decode cX4_fewestBeams 19 = .ok (.aload_n 0, 1) := by decide +kernel
theorem dX4_fewestBeams_20 : decode cX4_fewestBeams 20 = .ok (.getfield 18, 3) := by decide +kernel
theorem dX4_fewestBeams_23 : decode cX4_fewestBeams 23 = .ok (.arraylength, 1) := by decide +kernel
theorem dX4_fewestBeams_24 : decode cX4_fewestBeams 24 = .ok (.if_icmp .ge 35, 3) := by decide +kernel
theorem dX4_fewestBeams_27 : decode cX4_fewestBeams 27 = .ok (.aload_n 0, 1) := by decide +kernel
theorem dX4_fewestBeams_28 : decode cX4_fewestBeams 28 = .ok (.getfield 18, 3) := by decide +kernel
theorem dX4_fewestBeams_31 : decode cX4_fewestBeams 31 = .ok (.iload 4, 2) := by decide +kernel
theorem dX4_fewestBeams_33 : decode cX4_fewestBeams 33 = .ok (.iload 4, 2) := by decide +kernel
theorem dX4_fewestBeams_35 : decode cX4_fewestBeams 35 = .ok (.aload_n 0, 1) := by decide +kernel
theorem dX4_fewestBeams_36 : decode cX4_fewestBeams 36 = .ok (.getfield 22, 3) := by decide +kernel
theorem dX4_fewestBeams_39 : decode cX4_fewestBeams 39 = .ok (.iload_n 1, 1) := by decide +kernel
theorem dX4_fewestBeams_40 : decode cX4_fewestBeams 40 = .ok (.invokevirtual 36, 3) := by decide +kernel
theorem dX4_fewestBeams_43 : decode cX4_fewestBeams 43 = .ok (.if_icmp .ne 7, 3) := by decide +kernel
theorem dX4_fewestBeams_46 : decode cX4_fewestBeams 46 = .ok (.iconst 0, 1) := by decide +kernel
theorem dX4_fewestBeams_47 : decode cX4_fewestBeams 47 = .ok (.goto 5, 3) := by decide +kernel
theorem dX4_fewestBeams_50 : decode cX4_fewestBeams 50 = .ok (.bipush (-9), 2) := by decide +kernel
theorem dX4_fewestBeams_52 : decode cX4_fewestBeams 52 = .ok (.iastore, 1) := by decide +kernel
theorem dX4_fewestBeams_53 : decode cX4_fewestBeams 53 = .ok (.iinc 4 1, 3) := by decide +kernel
theorem dX4_fewestBeams_56 : decode cX4_fewestBeams 56 = .ok (.goto (-39), 3) := by decide +kernel
theorem dX4_fewestBeams_59 : decode cX4_fewestBeams 59 = .ok (.iconst 0, 1) := by decide +kernel
theorem dX4_fewestBeams_60 : decode cX4_fewestBeams 60 = .ok (.istore 4, 2) := by decide +kernel
theorem dX4_fewestBeams_62 : decode cX4_fewestBeams 62 = .ok (.iload 4, 2) := by decide +kernel
theorem dX4_fewestBeams_64 : decode cX4_fewestBeams 64 = .ok (.iload_n 2, 1) := by decide +kernel
theorem dX4_fewestBeams_65 : decode cX4_fewestBeams 65 = .ok (.if_icmp .ge 14, 3) := by decide +kernel
theorem dX4_fewestBeams_68 : decode cX4_fewestBeams 68 = .ok (.aload_n 0, 1) := by decide +kernel
theorem dX4_fewestBeams_69 : decode cX4_fewestBeams 69 = .ok (.iload_n 3, 1) := by decide +kernel
theorem dX4_fewestBeams_70 : decode cX4_fewestBeams 70 = .ok (.invokevirtual 114, 3) := by decide +kernel
theorem dX4_fewestBeams_73 : decode cX4_fewestBeams 73 = .ok (.iinc 4 1, 3) := by decide +kernel
theorem dX4_fewestBeams_76 : decode cX4_fewestBeams 76 = .ok (.goto (-14), 3) := by decide +kernel
theorem dX4_fewestBeams_79 : decode cX4_fewestBeams 79 = .ok (.aload_n 0, 1) := by decide +kernel
theorem dX4_fewestBeams_80 : decode cX4_fewestBeams 80 = .ok (.bipush 19, 2) := by decide +kernel
theorem dX4_fewestBeams_82 : decode cX4_fewestBeams 82 = .ok (.invokevirtual 117, 3) := by decide +kernel
theorem dX4_fewestBeams_85 : decode cX4_fewestBeams 85 = .ok (.ireturn, 1) := by decide +kernel
def rmX4_fewestBeams : Room := { frames := 2, cells := 0, slots := 0, locals := 47 }
abbrev wsX4_fewestBeams : List Cond := .code yX4_fewestBeams cX4_fewestBeams 5 (some .int) :: gw_tbl
def kX4_fewestBeams_79 : pProg := (79, 1, a_aload 0) :: (80, 2, a_iconst 19) :: (82, 3, a_callv 2 2 [0, 1, 2, 3, 4, 5, 6, 7, 8, 9, 10, 11, 12, 13, 14, 15] tX4_fewestAt) :: (85, 1, a_iret) :: []
def kX4_fewestBeams_62 : pProg := (62, 2, a_iload 4) :: (64, 1, a_iload 2) :: (65, 3, a_icmp_ge 79) :: (68, 1, a_aload 0) :: (69, 1, a_iload 3) :: (70, 3, a_callv 2 2 [0, 1, 2, 3, 4, 5, 6, 7, 8, 9, 10, 11, 12, 13, 14, 15] tX4_humOne) :: (73, 3, a_iinc 4 1) :: (76, 3, a_goto 62) :: []
def kX4_fewestBeams_59 : pProg := (59, 1, a_iconst 0) :: (60, 2, a_istore 4) :: (62, 0, a_fall 62) :: []
def kX4_fewestBeams_52 : pProg := (52, 1, a_iast 15) :: (53, 3, a_iinc 4 1) :: (56, 3, a_goto 17) :: []
def kX4_fewestBeams_50 : pProg := (50, 2, a_iconst (-9)) :: (52, 0, a_fall 52) :: []
def kX4_fewestBeams_17 : pProg := (17, 2, a_iload 4) :: (19, 1, a_aload 0) :: (20, 3, a_getf 0 2 2) :: (23, 1, a_alen 15) :: (24, 3, a_icmp_ge 59) :: (27, 1, a_aload 0) :: (28, 3, a_getf 0 2 2) :: (31, 2, a_iload 4) :: (33, 2, a_iload 4) :: (35, 1, a_aload 0) :: (36, 3, a_getf 0 2 0) :: (39, 1, a_iload 1) :: (40, 3, a_callv 2 0 [1, 2, 3, 4, 5, 6, 7] tX0_cellOf) :: (43, 3, a_icmp_ne 50) :: (46, 1, a_iconst 0) :: (47, 3, a_goto 52) :: []
def kX4_fewestBeams_0 : pProg := (0, 1, a_aload 0) :: (1, 3, a_getf 0 2 0) :: (4, 1, a_iconst 2) :: (5, 1, a_iload 1) :: (6, 1, a_imul) :: (7, 3, a_callv 2 0 [1, 2, 3, 4, 5, 6, 7] tX0_kindOf) :: (10, 3, a_calls 1 [] tX1_goes) :: (13, 1, a_istore 3) :: (14, 1, a_iconst 0) :: (15, 2, a_istore 4) :: (17, 0, a_fall 17) :: []
set_option maxRecDepth 100000 in
theorem sX4_fewestBeams_79 (l : Launch) : AllS (pSnd l rmX4_fewestBeams yX4_fewestBeams.cls cX4_fewestBeams wsX4_fewestBeams 5 (some .int)) 79 kX4_fewestBeams_79 :=
  alls _ (s_aload_n rfl dX4_fewestBeams_79) <|
  alls _ (s_bipush (by decide) dX4_fewestBeams_80) <|
  alls _ (s_callv (ct_X4_fewestAt l) rfl rfl rfl (gdV wd_571 wd_573 wd_6 wd_62 wd_574) rfl rfl (by decide +kernel) ⟨Nat.le_of_ble_eq_true rfl, Nat.le_of_ble_eq_true rfl⟩ dX4_fewestBeams_82) <|
  alls _ (s_iret dX4_fewestBeams_85) <|
  alls_nil _
set_option maxRecDepth 100000 in
theorem sX4_fewestBeams_62 (l : Launch) : AllS (pSnd l rmX4_fewestBeams yX4_fewestBeams.cls cX4_fewestBeams wsX4_fewestBeams 5 (some .int)) 62 kX4_fewestBeams_62 :=
  alls _ (s_iload dX4_fewestBeams_62) <|
  alls _ (s_iload_n rfl dX4_fewestBeams_64) <|
  alls _ (s_icmp_ge (by decide) dX4_fewestBeams_65) <|
  alls _ (s_aload_n rfl dX4_fewestBeams_68) <|
  alls _ (s_iload_n rfl dX4_fewestBeams_69) <|
  alls _ (s_callv (ct_X4_humOne l) rfl rfl rfl (gdV wd_567 wd_569 wd_5 wd_62 wd_570) rfl rfl (by decide +kernel) ⟨Nat.le_of_ble_eq_true rfl, Nat.le_of_ble_eq_true rfl⟩ dX4_fewestBeams_70) <|
  alls _ (s_iinc dX4_fewestBeams_73) <|
  alls _ (s_goto (by decide) dX4_fewestBeams_76) <|
  alls_nil _
set_option maxRecDepth 100000 in
theorem sX4_fewestBeams_59 (l : Launch) : AllS (pSnd l rmX4_fewestBeams yX4_fewestBeams.cls cX4_fewestBeams wsX4_fewestBeams 5 (some .int)) 59 kX4_fewestBeams_59 :=
  alls _ (s_iconst dX4_fewestBeams_59) <|
  alls _ (s_istore dX4_fewestBeams_60) <|
  alls _ s_fall (alls_nil _)
set_option maxRecDepth 100000 in
theorem sX4_fewestBeams_52 (l : Launch) : AllS (pSnd l rmX4_fewestBeams yX4_fewestBeams.cls cX4_fewestBeams wsX4_fewestBeams 5 (some .int)) 52 kX4_fewestBeams_52 :=
  alls _ (s_iast dX4_fewestBeams_52) <|
  alls _ (s_iinc dX4_fewestBeams_53) <|
  alls _ (s_goto (by decide) dX4_fewestBeams_56) <|
  alls_nil _
set_option maxRecDepth 100000 in
theorem sX4_fewestBeams_50 (l : Launch) : AllS (pSnd l rmX4_fewestBeams yX4_fewestBeams.cls cX4_fewestBeams wsX4_fewestBeams 5 (some .int)) 50 kX4_fewestBeams_50 :=
  alls _ (s_bipush (by decide) dX4_fewestBeams_50) <|
  alls _ s_fall (alls_nil _)
set_option maxRecDepth 100000 in
theorem sX4_fewestBeams_17 (l : Launch) : AllS (pSnd l rmX4_fewestBeams yX4_fewestBeams.cls cX4_fewestBeams wsX4_fewestBeams 5 (some .int)) 17 kX4_fewestBeams_17 :=
  alls _ (s_iload dX4_fewestBeams_17) <|
  alls _ (s_aload_n rfl dX4_fewestBeams_19) <|
  alls _ (s_getf (C := RX4) (T := TX4) (N := 3) rfl (in_c inX4) (by decide) (List.mem_cons_of_mem _ wd_119) rfl dX4_fewestBeams_20) <|
  alls _ (s_alen dX4_fewestBeams_23) <|
  alls _ (s_icmp_ge (by decide) dX4_fewestBeams_24) <|
  alls _ (s_aload_n rfl dX4_fewestBeams_27) <|
  alls _ (s_getf (C := RX4) (T := TX4) (N := 3) rfl (in_c inX4) (by decide) (List.mem_cons_of_mem _ wd_119) rfl dX4_fewestBeams_28) <|
  alls _ (s_iload dX4_fewestBeams_31) <|
  alls _ (s_iload dX4_fewestBeams_33) <|
  alls _ (s_aload_n rfl dX4_fewestBeams_35) <|
  alls _ (s_getf (C := RX4) (T := TX4) (N := 3) rfl (in_c inX4) (by decide) (List.mem_cons_of_mem _ wd_117) rfl dX4_fewestBeams_36) <|
  alls _ (s_iload_n rfl dX4_fewestBeams_39) <|
  alls _ (s_callv (ct_X0_cellOf l) rfl rfl rfl (gdV wd_430 wd_306 wd_307 wd_61 wd_308) rfl rfl (by decide +kernel) ⟨Nat.le_of_ble_eq_true rfl, Nat.le_of_ble_eq_true rfl⟩ dX4_fewestBeams_40) <|
  alls _ (s_icmp_ne (by decide) dX4_fewestBeams_43) <|
  alls _ (s_iconst dX4_fewestBeams_46) <|
  alls _ (s_goto (by decide) dX4_fewestBeams_47) <|
  alls_nil _
set_option maxRecDepth 100000 in
theorem sX4_fewestBeams_0 (l : Launch) : AllS (pSnd l rmX4_fewestBeams yX4_fewestBeams.cls cX4_fewestBeams wsX4_fewestBeams 5 (some .int)) 0 kX4_fewestBeams_0 :=
  alls _ (s_aload_n rfl dX4_fewestBeams_0) <|
  alls _ (s_getf (C := RX4) (T := TX4) (N := 3) rfl (in_c inX4) (by decide) (List.mem_cons_of_mem _ wd_117) rfl dX4_fewestBeams_1) <|
  alls _ (s_iconst dX4_fewestBeams_4) <|
  alls _ (s_iload_n rfl dX4_fewestBeams_5) <|
  alls _ (s_imul dX4_fewestBeams_6) <|
  alls _ (s_callv (ct_X0_kindOf l) rfl rfl rfl (gdV wd_565 wd_276 wd_277 wd_61 wd_278) rfl rfl (by decide +kernel) ⟨Nat.le_of_ble_eq_true rfl, Nat.le_of_ble_eq_true rfl⟩ dX4_fewestBeams_7) <|
  alls _ (s_calls (ct_X1_goes l) rfl rfl (gdS wd_327) (List.mem_cons_of_mem _ wd_566) (List.mem_cons_of_mem _ wd_326) (List.mem_cons_of_mem _ wd_67) rfl rfl (by decide +kernel) ⟨Nat.le_of_ble_eq_true rfl, Nat.le_of_ble_eq_true rfl⟩ dX4_fewestBeams_10) <|
  alls _ (s_istore_n rfl dX4_fewestBeams_13) <|
  alls _ (s_iconst dX4_fewestBeams_14) <|
  alls _ (s_istore dX4_fewestBeams_15) <|
  alls _ s_fall (alls_nil _)
def KX4_fewestBeams : List (Nat × pProg) := [(0, kX4_fewestBeams_0), (17, kX4_fewestBeams_17), (50, kX4_fewestBeams_50), (52, kX4_fewestBeams_52), (59, kX4_fewestBeams_59), (62, kX4_fewestBeams_62), (79, kX4_fewestBeams_79)]
theorem bX4_fewestBeams_0 : blkOf KX4_fewestBeams 0 = some kX4_fewestBeams_0 := rfl
theorem bX4_fewestBeams_17 : blkOf KX4_fewestBeams 17 = some kX4_fewestBeams_17 := rfl
theorem bX4_fewestBeams_50 : blkOf KX4_fewestBeams 50 = some kX4_fewestBeams_50 := rfl
theorem bX4_fewestBeams_52 : blkOf KX4_fewestBeams 52 = some kX4_fewestBeams_52 := rfl
theorem bX4_fewestBeams_59 : blkOf KX4_fewestBeams 59 = some kX4_fewestBeams_59 := rfl
theorem bX4_fewestBeams_62 : blkOf KX4_fewestBeams 62 = some kX4_fewestBeams_62 := rfl
theorem bX4_fewestBeams_79 : blkOf KX4_fewestBeams 79 = some kX4_fewestBeams_79 := rfl
def tX4_fewestBeams : pT := pM KX4_fewestBeams 5
theorem ct_X4_fewestBeams (l : Launch) : pCtr l yX4_fewestBeams wsX4_fewestBeams rmX4_fewestBeams 3 tX4_fewestBeams := ctr_of (by decide +kernel) rfl (List.forall_mem_cons.mpr ⟨sX4_fewestBeams_0 l, List.forall_mem_cons.mpr ⟨sX4_fewestBeams_17 l, List.forall_mem_cons.mpr ⟨sX4_fewestBeams_50 l, List.forall_mem_cons.mpr ⟨sX4_fewestBeams_52 l, List.forall_mem_cons.mpr ⟨sX4_fewestBeams_59 l, List.forall_mem_cons.mpr ⟨sX4_fewestBeams_62 l, List.forall_mem_cons.mpr ⟨sX4_fewestBeams_79 l, fun _ h => absurd h List.not_mem_nil⟩⟩⟩⟩⟩⟩⟩)
theorem dX4_price_0 : decode cX4_price 0 = .ok (.bipush (-9), 2) := by decide +kernel
theorem dX4_price_2 : decode cX4_price 2 = .ok (.istore 6, 2) := by decide +kernel
theorem dX4_price_4 : decode cX4_price 4 = .ok (.iload_n 3, 1) := by decide +kernel
theorem dX4_price_5 : decode cX4_price 5 = .ok (.iconst 1, 1) := by decide +kernel
theorem dX4_price_6 : decode cX4_price 6 = .ok (.if_icmp .ne 9, 3) := by decide +kernel
theorem dX4_price_9 : decode cX4_price 9 = .ok (.iconst 0, 1) := by decide +kernel
theorem dX4_price_10 : decode cX4_price 10 = .ok (.istore 6, 2) := by decide +kernel
theorem dX4_price_12 : decode cX4_price 12 = .ok (.goto 12, 3) := by decide +kernel
theorem dX4_price_15 : decode cX4_price 15 = .ok (.iload 4, 2) := by decide +kernel
theorem dX4_price_17 : decode cX4_price 17 = .ok (.iconst 1, 1) := by decide +kernel
theorem dX4_price_18 : decode cX4_price 18 = .ok (.if_icmp .ne 6, 3) := by decide +kernel
theorem dX4_price_21 : decode cX4_price 21 = .ok (.iconst 1, 1) := by decide +kernel
theorem dX4_price_22 : decode cX4_price 22 = .ok (.istore 6, 2) := by decide +kernel
theorem dX4_price_24 : decode cX4_price 24 = .ok (.aload_n 0, 1) := by decide +kernel
theorem dX4_price_25 : decode cX4_price 25 = .ok (.iconst 0, 1) := by decide +kernel
theorem dX4_price_26 : decode cX4_price 26 = .ok (.invokevirtual 33, 3) := by decide +kernel
theorem dX4_price_29 : decode cX4_price 29 = .ok (.iconst 0, 1) := by decide +kernel
theorem dX4_price_30 : decode cX4_price 30 = .ok (.istore 7, 2) := by decide +kernel
theorem dX4_price_32 : decode cX4_price 32 = .ok (.iload 7, 2) := by decide +kernel
theorem dX4_price_34 : decode cX4_price 34 = .ok (.iload_n 2, 1) := by decide +kernel
theorem dX4_price_35 : decode cX4_price 35 = .ok (.if_icmp .ge 19, 3) := by decide +kernel
theorem dX4_price_38 : decode cX4_price 38 = .ok (.aload_n 0, 1) := by decide +kernel
theorem dX4_price_39 : decode cX4_price 39 = .ok (.getfield 12, 3) := by decide +kernel
theorem dX4_price_42 : decode cX4_price 42 = .ok (.iload_n 1, 1) := by decide +kernel
theorem dX4_price_43 : decode cX4_price 43 = .ok (.iload 6, 2) := by decide +kernel
theorem dX4_price_45 : decode cX4_price 45 = .ok (.invokevirtual 124, 3) := by decide +kernel
theorem dX4_price_48 : decode cX4_price 48 = .ok (.iinc 7 1, 3) := by decide +kernel
theorem dX4_price_51 : decode cX4_price 51 = .ok (.goto (-19), 3) := by decide +kernel
theorem dX4_price_54 : decode cX4_price 54 = .ok (.aload_n 0, 1) := by decide +kernel
theorem dX4_price_55 : decode cX4_price 55 = .ok (.getfield 12, 3) := by decide +kernel
theorem dX4_price_58 : decode cX4_price 58 = .ok (.iload_n 1, 1) := by decide +kernel
theorem dX4_price_59 : decode cX4_price 59 = .ok (.invokevirtual 40, 3) := by decide +kernel
theorem dX4_price_62 : decode cX4_price 62 = .ok (.ifCond .ne 7, 3) := by decide +kernel
theorem dX4_price_65 : decode cX4_price 65 = .ok (.iconst 3, 1) := by decide +kernel
theorem dX4_price_66 : decode cX4_price 66 = .ok (.goto 4, 3) := by decide +kernel
theorem dX4_price_69 : decode cX4_price 69 = .ok (.iconst 0, 1) := by decide +kernel
theorem dX4_price_70 : decode cX4_price 70 = .ok (.istore 7, 2) := by decide +kernel
theorem dX4_price_72 : decode cX4_price 72 = .ok (.aload_n 0, 1) := by decide +kernel
theorem dX4_price_73 : decode cX4_price 73 = .ok (.getfield 12, 3) := by decide +kernel
theorem dX4_price_76 : decode cX4_price 76 = .ok (.iconst 2, 1) := by decide +kernel
theorem dX4_price_77 : decode cX4_price 77 = .ok (.iload_n 1, 1) := by decide +kernel
theorem dX4_price_78 : decode cX4_price 78 = .ok (.imul, 1) := by decide +kernel
theorem dX4_price_79 : decode cX4_price 79 = .ok (.iload 5, 2) := by decide +kernel
theorem dX4_price_81 : decode cX4_price 81 = .ok (.iadd, 1) := by decide +kernel
theorem dX4_price_82 : decode cX4_price 82 = .ok (.invokevirtual 43, 3) := by decide +kernel
theorem dX4_price_85 : decode cX4_price 85 = .ok (.iload 7, 2) := by decide +kernel
theorem dX4_price_87 : decode cX4_price 87 = .ok (.isub, 1) := by decide +kernel
theorem dX4_price_88 : decode cX4_price 88 = .ok (.ireturn, 1) := by decide +kernel
def rmX4_price : Room := { frames := 5, cells := 0, slots := 0, locals := 115 }
abbrev wsX4_price : List Cond := .code yX4_price cX4_price 8 (some .int) :: gw_tbl
def kX4_price_70 : pProg := (70, 2, a_istore 7) :: (72, 1, a_aload 0) :: (73, 3, a_getf 0 2 1) :: (76, 1, a_iconst 2) :: (77, 1, a_iload 1) :: (78, 1, a_imul) :: (79, 2, a_iload 5) :: (81, 1, a_iadd) :: (82, 3, a_callv 2 0 [8, 9, 10, 11, 12, 13, 14] tX0_bruisesOf) :: (85, 2, a_iload 7) :: (87, 1, a_isub) :: (88, 1, a_iret) :: []
def kX4_price_69 : pProg := (69, 1, a_iconst 0) :: (70, 0, a_fall 70) :: []
def kX4_price_54 : pProg := (54, 1, a_aload 0) :: (55, 3, a_getf 0 2 1) :: (58, 1, a_iload 1) :: (59, 3, a_callv 2 0 [8, 9, 10, 11, 12, 13, 14] tX0_toSayOf) :: (62, 3, a_if_ne 69) :: (65, 1, a_iconst 3) :: (66, 3, a_goto 70) :: []
def kX4_price_32 : pProg := (32, 2, a_iload 7) :: (34, 1, a_iload 2) :: (35, 3, a_icmp_ge 54) :: (38, 1, a_aload 0) :: (39, 3, a_getf 0 2 1) :: (42, 1, a_iload 1) :: (43, 2, a_iload 6) :: (45, 3, a_callv 3 0 [8, 9, 10, 11, 12, 13, 14] tX0_walk) :: (48, 3, a_iinc 7 1) :: (51, 3, a_goto 32) :: []
def kX4_price_24 : pProg := (24, 1, a_aload 0) :: (25, 1, a_iconst 0) :: (26, 3, a_callv 2 2 [0, 1, 2, 3, 4, 5, 6, 7, 8, 9, 10, 11, 12, 13, 14, 15] tX4_think) :: (29, 1, a_iconst 0) :: (30, 2, a_istore 7) :: (32, 0, a_fall 32) :: []
def kX4_price_15 : pProg := (15, 2, a_iload 4) :: (17, 1, a_iconst 1) :: (18, 3, a_icmp_ne 24) :: (21, 1, a_iconst 1) :: (22, 2, a_istore 6) :: (24, 0, a_fall 24) :: []
def kX4_price_0 : pProg := (0, 2, a_iconst (-9)) :: (2, 2, a_istore 6) :: (4, 1, a_iload 3) :: (5, 1, a_iconst 1) :: (6, 3, a_icmp_ne 15) :: (9, 1, a_iconst 0) :: (10, 2, a_istore 6) :: (12, 3, a_goto 24) :: []
set_option maxRecDepth 100000 in
theorem sX4_price_70 (l : Launch) : AllS (pSnd l rmX4_price yX4_price.cls cX4_price wsX4_price 8 (some .int)) 70 kX4_price_70 :=
  alls _ (s_istore dX4_price_70) <|
  alls _ (s_aload_n rfl dX4_price_72) <|
  alls _ (s_getf (C := RX4) (T := TX4) (N := 3) rfl (in_c inX4) (by decide) (List.mem_cons_of_mem _ wd_118) rfl dX4_price_73) <|
  alls _ (s_iconst dX4_price_76) <|
  alls _ (s_iload_n rfl dX4_price_77) <|
  alls _ (s_imul dX4_price_78) <|
  alls _ (s_iload dX4_price_79) <|
  alls _ (s_iadd dX4_price_81) <|
  alls _ (s_callv (ct_X0_bruisesOf l) rfl rfl rfl (gdV wd_453 wd_284 wd_285 wd_61 wd_286) rfl rfl (by decide +kernel) ⟨Nat.le_of_ble_eq_true rfl, Nat.le_of_ble_eq_true rfl⟩ dX4_price_82) <|
  alls _ (s_iload dX4_price_85) <|
  alls _ (s_isub dX4_price_87) <|
  alls _ (s_iret dX4_price_88) <|
  alls_nil _
set_option maxRecDepth 100000 in
theorem sX4_price_69 (l : Launch) : AllS (pSnd l rmX4_price yX4_price.cls cX4_price wsX4_price 8 (some .int)) 69 kX4_price_69 :=
  alls _ (s_iconst dX4_price_69) <|
  alls _ s_fall (alls_nil _)
set_option maxRecDepth 100000 in
theorem sX4_price_54 (l : Launch) : AllS (pSnd l rmX4_price yX4_price.cls cX4_price wsX4_price 8 (some .int)) 54 kX4_price_54 :=
  alls _ (s_aload_n rfl dX4_price_54) <|
  alls _ (s_getf (C := RX4) (T := TX4) (N := 3) rfl (in_c inX4) (by decide) (List.mem_cons_of_mem _ wd_118) rfl dX4_price_55) <|
  alls _ (s_iload_n rfl dX4_price_58) <|
  alls _ (s_callv (ct_X0_toSayOf l) rfl rfl rfl (gdV wd_435 wd_263 wd_264 wd_61 wd_265) rfl rfl (by decide +kernel) ⟨Nat.le_of_ble_eq_true rfl, Nat.le_of_ble_eq_true rfl⟩ dX4_price_59) <|
  alls _ (s_if_ne (by decide) dX4_price_62) <|
  alls _ (s_iconst dX4_price_65) <|
  alls _ (s_goto (by decide) dX4_price_66) <|
  alls_nil _
set_option maxRecDepth 100000 in
theorem sX4_price_32 (l : Launch) : AllS (pSnd l rmX4_price yX4_price.cls cX4_price wsX4_price 8 (some .int)) 32 kX4_price_32 :=
  alls _ (s_iload dX4_price_32) <|
  alls _ (s_iload_n rfl dX4_price_34) <|
  alls _ (s_icmp_ge (by decide) dX4_price_35) <|
  alls _ (s_aload_n rfl dX4_price_38) <|
  alls _ (s_getf (C := RX4) (T := TX4) (N := 3) rfl (in_c inX4) (by decide) (List.mem_cons_of_mem _ wd_118) rfl dX4_price_39) <|
  alls _ (s_iload_n rfl dX4_price_42) <|
  alls _ (s_iload dX4_price_43) <|
  alls _ (s_callv (ct_X0_walk l) rfl rfl rfl (gdV wd_631 wd_318 wd_319 wd_61 wd_320) rfl rfl (by decide +kernel) ⟨Nat.le_of_ble_eq_true rfl, Nat.le_of_ble_eq_true rfl⟩ dX4_price_45) <|
  alls _ (s_iinc dX4_price_48) <|
  alls _ (s_goto (by decide) dX4_price_51) <|
  alls_nil _
set_option maxRecDepth 100000 in
theorem sX4_price_24 (l : Launch) : AllS (pSnd l rmX4_price yX4_price.cls cX4_price wsX4_price 8 (some .int)) 24 kX4_price_24 :=
  alls _ (s_aload_n rfl dX4_price_24) <|
  alls _ (s_iconst dX4_price_25) <|
  alls _ (s_callv (ct_X4_think l) rfl rfl rfl (gdV wd_418 wd_420 wd_1 wd_62 wd_421) rfl rfl (by decide +kernel) ⟨Nat.le_of_ble_eq_true rfl, Nat.le_of_ble_eq_true rfl⟩ dX4_price_26) <|
  alls _ (s_iconst dX4_price_29) <|
  alls _ (s_istore dX4_price_30) <|
  alls _ s_fall (alls_nil _)
set_option maxRecDepth 100000 in
theorem sX4_price_15 (l : Launch) : AllS (pSnd l rmX4_price yX4_price.cls cX4_price wsX4_price 8 (some .int)) 15 kX4_price_15 :=
  alls _ (s_iload dX4_price_15) <|
  alls _ (s_iconst dX4_price_17) <|
  alls _ (s_icmp_ne (by decide) dX4_price_18) <|
  alls _ (s_iconst dX4_price_21) <|
  alls _ (s_istore dX4_price_22) <|
  alls _ s_fall (alls_nil _)
set_option maxRecDepth 100000 in
theorem sX4_price_0 (l : Launch) : AllS (pSnd l rmX4_price yX4_price.cls cX4_price wsX4_price 8 (some .int)) 0 kX4_price_0 :=
  alls _ (s_bipush (by decide) dX4_price_0) <|
  alls _ (s_istore dX4_price_2) <|
  alls _ (s_iload_n rfl dX4_price_4) <|
  alls _ (s_iconst dX4_price_5) <|
  alls _ (s_icmp_ne (by decide) dX4_price_6) <|
  alls _ (s_iconst dX4_price_9) <|
  alls _ (s_istore dX4_price_10) <|
  alls _ (s_goto (by decide) dX4_price_12) <|
  alls_nil _
def KX4_price : List (Nat × pProg) := [(0, kX4_price_0), (15, kX4_price_15), (24, kX4_price_24), (32, kX4_price_32), (54, kX4_price_54), (69, kX4_price_69), (70, kX4_price_70)]
theorem bX4_price_0 : blkOf KX4_price 0 = some kX4_price_0 := rfl
theorem bX4_price_15 : blkOf KX4_price 15 = some kX4_price_15 := rfl
theorem bX4_price_24 : blkOf KX4_price 24 = some kX4_price_24 := rfl
theorem bX4_price_32 : blkOf KX4_price 32 = some kX4_price_32 := rfl
theorem bX4_price_54 : blkOf KX4_price 54 = some kX4_price_54 := rfl
theorem bX4_price_69 : blkOf KX4_price 69 = some kX4_price_69 := rfl
theorem bX4_price_70 : blkOf KX4_price 70 = some kX4_price_70 := rfl
def tX4_price : pT := pM KX4_price 8
theorem ct_X4_price (l : Launch) : pCtr l yX4_price wsX4_price rmX4_price 6 tX4_price := ctr_of (by decide +kernel) rfl (List.forall_mem_cons.mpr ⟨sX4_price_0 l, List.forall_mem_cons.mpr ⟨sX4_price_15 l, List.forall_mem_cons.mpr ⟨sX4_price_24 l, List.forall_mem_cons.mpr ⟨sX4_price_32 l, List.forall_mem_cons.mpr ⟨sX4_price_54 l, List.forall_mem_cons.mpr ⟨sX4_price_69 l, List.forall_mem_cons.mpr ⟨sX4_price_70 l, fun _ h => absurd h List.not_mem_nil⟩⟩⟩⟩⟩⟩⟩)
theorem dX4_settledTwo_0 : decode cX4_settledTwo 0 = .ok (.iconst 0, 1) := by decide +kernel
theorem dX4_settledTwo_1 : decode cX4_settledTwo 1 = .ok (.istore_n 3, 1) := by decide +kernel
theorem dX4_settledTwo_2 : decode cX4_settledTwo 2 = .ok (.iload_n 3, 1) := by decide +kernel
theorem dX4_settledTwo_3 : decode cX4_settledTwo 3 = .ok (.iconst 1, 1) := by decide +kernel
theorem dX4_settledTwo_4 : decode cX4_settledTwo 4 = .ok (.if_icmp .gt 106, 3) := by decide +kernel
theorem dX4_settledTwo_7 : decode cX4_settledTwo 7 = .ok (.iconst 0, 1) := by decide +kernel
theorem dX4_settledTwo_8 : decode cX4_settledTwo 8 = .ok (.istore 4, 2) := by decide +kernel
theorem dX4_settledTwo_10 : decode cX4_settledTwo 10 = .ok (.iload 4, 2) := by decide +kernel
theorem dX4_settledTwo_12 : decode cX4_settledTwo 12 = .ok (.iconst 1, 1) := by decide +kernel
theorem dX4_settledTwo_13 : decode cX4_settledTwo 13 = .ok (.if_icmp .gt 91, 3) := by decide +kernel
theorem dX4_settledTwo_16 : decode cX4_settledTwo 16 = .ok (.aload_n 0, 1) := by decide +kernel
theorem dX4_settledTwo_17 : decode cX4_settledTwo 17 = .ok (.iload_n 1, 1) := by decide +kernel
theorem dX4_settledTwo_18 : decode cX4_settledTwo 18 = .ok (.iload_n 2, 1) := by decide +kernel
theorem dX4_settledTwo_19 : decode cX4_settledTwo 19 = .ok (.iload_n 3, 1) := by decide +kernel
theorem dX4_settledTwo_20 : decode cX4_settledTwo 20 = .ok (.iload 4, 2) := by decide +kernel
theorem dX4_settledTwo_22 : decode cX4_settledTwo 22 = .ok (.iconst 0, 1) := by decide +kernel
theorem dX4_settledTwo_23 : decode cX4_settledTwo 23 = .ok (.invokevirtual 120, 3) := by decide +kernel
theorem dX4_settledTwo_26 : decode cX4_settledTwo 26 = .ok (.aload_n 0, 1) := by decide +kernel
theorem dX4_settledTwo_27 : decode cX4_settledTwo 27 = .ok (.iload_n 1, 1) := by decide +kernel
theorem dX4_settledTwo_28 : decode cX4_settledTwo 28 = .ok (.iload_n 2, 1) := by decide +kernel
theorem dX4_settledTwo_29 : decode cX4_settledTwo 29 = .ok (.iconst 1, 1) := by decide +kernel
theorem dX4_settledTwo_30 : decode cX4_settledTwo 30 = .ok (.iload_n 3, 1) := by decide +kernel
theorem dX4_settledTwo_31 : decode cX4_settledTwo 31 = .ok (.isub, 1) := by decide +kernel
theorem dX4_settledTwo_32 : decode cX4_settledTwo 32 = .ok (.iload 4, 2) := by decide +kernel
theorem dX4_settledTwo_34 : decode cX4_settledTwo 34 = .ok (.iconst 0, 1) := by decide +kernel
theorem dX4_settledTwo_35 : decode cX4_settledTwo 35 = .ok (.invokevirtual 120, 3) := by decide +kernel
theorem dX4_settledTwo_38 : decode cX4_settledTwo 38 = .ok (.if_icmp .gt 7, 3) := by decide +kernel
theorem dX4_settledTwo_41 : decode cX4_settledTwo 41 = .ok (.iconst 1, 1) := by decide +kernel
theorem dX4_settledTwo_42 : decode cX4_settledTwo 42 = .ok (.goto 4, 3) := by decide +kernel
theorem dX4_settledTwo_45 : decode cX4_settledTwo 45 = .ok (.iconst 0, 1) := by decide +kernel
theorem dX4_settledTwo_46 : decode cX4_settledTwo 46 = .ok (.istore 5, 2) := by decide +kernel
theorem dX4_settledTwo_48 : decode cX4_settledTwo 48 = .ok (.aload_n 0, 1) := by decide +kernel
theorem dX4_settledTwo_49 : decode cX4_settledTwo 49 = .ok (.iload_n 1, 1) := by decide +kernel
theorem dX4_settledTwo_50 : decode cX4_settledTwo 50 = .ok (.iload_n 2, 1) := by decide +kernel
theorem dX4_settledTwo_51 : decode cX4_settledTwo 51 = .ok (.iload_n 3, 1) := by decide +kernel
theorem dX4_settledTwo_52 : decode cX4_settledTwo 52 = .ok (.iload 4, 2) := by decide +kernel
theorem dX4_settledTwo_54 : decode cX4_settledTwo 54 = .ok (.iconst 1, 1) := by decide +kernel
theorem dX4_settledTwo_55 : decode cX4_settledTwo 55 = .ok (.invokevirtual 120, 3) := by decide +kernel
theorem dX4_settledTwo_58 : decode cX4_settledTwo 58 = .ok (.aload_n 0, 1) := by decide +kernel
theorem dX4_settledTwo_59 : decode cX4_settledTwo 59 = .ok (.iload_n 1, 1) := by decide +kernel
theorem dX4_settledTwo_60 : decode cX4_settledTwo 60 = .ok (.iload_n 2, 1) := by decide +kernel
theorem dX4_settledTwo_61 : decode cX4_settledTwo 61 = .ok (.iload_n 3, 1) := by decide +kernel
theorem dX4_settledTwo_62 : decode cX4_settledTwo 62 = .ok (.iconst 1, 1) := by decide +kernel
theorem dX4_settledTwo_63 : decode cX4_settledTwo 63 = .ok (.iload 4, 2) := by decide +kernel
theorem dX4_settledTwo_65 : decode cX4_settledTwo 65 = .ok (.isub, 1) := by decide +kernel
theorem dX4_settledTwo_66 : decode cX4_settledTwo 66 = .ok (.iconst 1, 1) := by decide +kernel
theorem dX4_settledTwo_67 : decode cX4_settledTwo 67 = .ok (.invokevirtual 120, 3) := by decide +kernel
theorem dX4_settledTwo_70 : decode cX4_settledTwo 70 = .ok (.if_icmp .gt 7, 3) := by decide +kernel
theorem dX4_settledTwo_73 : decode cX4_settledTwo 73 = .ok (.iconst 1, 1) := by decide +kernel
theorem dX4_settledTwo_74 : decode cX4_settledTwo 74 = .ok (.goto 4, 3) := by decide +kernel
theorem dX4_settledTwo_77 : decode cX4_settledTwo 77 = .ok (.iconst 0, 1) := by decide +kernel
theorem dX4_settledTwo_78 : decode cX4_settledTwo 78 = .ok (.istore 6, 2) := by decide +kernel
theorem dX4_settledTwo_80 : decode cX4_settledTwo 80 = .ok (.iload 5, 2) := by decide +kernel
theorem dX4_settledTwo_82 : decode cX4_settledTwo 82 = .ok (.ifCond .eq 16, 3) := by decide +kernel
theorem dX4_settledTwo_85 : decode cX4_settledTwo 85 = .ok (.iload 6, 2) := by decide +kernel
theorem dX4_settledTwo_87 : decode cX4_settledTwo 87 = .ok (.ifCond .eq 11, 3) := by decide +kernel
theorem dX4_settledTwo_90 : decode cX4_settledTwo 90 = .ok (.bipush 10, 2) := by decide +kernel
theorem dX4_settledTwo_92 : decode cX4_settledTwo 92 = .ok (.iload_n 3, 1) := by decide +kernel
theorem dX4_settledTwo_93 : decode cX4_settledTwo 93 = .ok (.imul, 1) := by decide +kernel
theorem dX4_settledTwo_94 : decode cX4_settledTwo 94 = .ok (.iload 4, 2) := by decide +kernel
theorem dX4_settledTwo_96 : decode cX4_settledTwo 96 = .ok (.iadd, 1) := by decide +kernel
theorem dX4_settledTwo_97 : decode cX4_settledTwo 97 = .ok (.ireturn, 1) := by decide +kernel
theorem dX4_settledTwo_98 : decode cX4_settledTwo 98 = .ok (.iinc 4 1, 3) := by decide +kernel
theorem dX4_settledTwo_101 : decode cX4_settledTwo 101 = .ok (.goto (-91), 3) := by decide +kernel
theorem dX4_settledTwo_104 : decode cX4_settledTwo 104 = .ok (.iinc 3 1, 3) := by decide +kernel
theorem dX4_settledTwo_107 : decode cX4_settledTwo 107 = .ok (.goto (-105), 3) := by decide +kernel
theorem dX4_settledTwo_110 : decode cX4_settledTwo 110 = .ok (.bipush (-9), 2) := by decide +kernel
theorem dX4_settledTwo_112 : decode cX4_settledTwo 112 = .ok (.ireturn, 1) := by decide +kernel
def rmX4_settledTwo : Room := { frames := 6, cells := 0, slots := 0, locals := 142 }
abbrev wsX4_settledTwo : List Cond := .code yX4_settledTwo cX4_settledTwo 7 (some .int) :: gw_tbl
def kX4_settledTwo_110 : pProg := (110, 2, a_iconst (-9)) :: (112, 1, a_iret) :: []
def kX4_settledTwo_104 : pProg := (104, 3, a_iinc 3 1) :: (107, 3, a_goto 2) :: []
def kX4_settledTwo_98 : pProg := (98, 3, a_iinc 4 1) :: (101, 3, a_goto 10) :: []
def kX4_settledTwo_78 : pProg := (78, 2, a_istore 6) :: (80, 2, a_iload 5) :: (82, 3, a_if_eq 98) :: (85, 2, a_iload 6) :: (87, 3, a_if_eq 98) :: (90, 2, a_iconst 10) :: (92, 1, a_iload 3) :: (93, 1, a_imul) :: (94, 2, a_iload 4) :: (96, 1, a_iadd) :: (97, 1, a_iret) :: []
def kX4_settledTwo_77 : pProg := (77, 1, a_iconst 0) :: (78, 0, a_fall 78) :: []
def kX4_settledTwo_46 : pProg := (46, 2, a_istore 5) :: (48, 1, a_aload 0) :: (49, 1, a_iload 1) :: (50, 1, a_iload 2) :: (51, 1, a_iload 3) :: (52, 2, a_iload 4) :: (54, 1, a_iconst 1) :: (55, 3, a_callv 6 2 [0, 1, 2, 3, 4, 5, 6, 7, 8, 9, 10, 11, 12, 13, 14, 15] tX4_price) :: (58, 1, a_aload 0) :: (59, 1, a_iload 1) :: (60, 1, a_iload 2) :: (61, 1, a_iload 3) :: (62, 1, a_iconst 1) :: (63, 2, a_iload 4) :: (65, 1, a_isub) :: (66, 1, a_iconst 1) :: (67, 3, a_callv 6 2 [0, 1, 2, 3, 4, 5, 6, 7, 8, 9, 10, 11, 12, 13, 14, 15] tX4_price) :: (70, 3, a_icmp_gt 77) :: (73, 1, a_iconst 1) :: (74, 3, a_goto 78) :: []
def kX4_settledTwo_45 : pProg := (45, 1, a_iconst 0) :: (46, 0, a_fall 46) :: []
def kX4_settledTwo_10 : pProg := (10, 2, a_iload 4) :: (12, 1, a_iconst 1) :: (13, 3, a_icmp_gt 104) :: (16, 1, a_aload 0) :: (17, 1, a_iload 1) :: (18, 1, a_iload 2) :: (19, 1, a_iload 3) :: (20, 2, a_iload 4) :: (22, 1, a_iconst 0) :: (23, 3, a_callv 6 2 [0, 1, 2, 3, 4, 5, 6, 7, 8, 9, 10, 11, 12, 13, 14, 15] tX4_price) :: (26, 1, a_aload 0) :: (27, 1, a_iload 1) :: (28, 1, a_iload 2) :: (29, 1, a_iconst 1) :: (30, 1, a_iload 3) :: (31, 1, a_isub) :: (32, 2, a_iload 4) :: (34, 1, a_iconst 0) :: (35, 3, a_callv 6 2 [0, 1, 2, 3, 4, 5, 6, 7, 8, 9, 10, 11, 12, 13, 14, 15] tX4_price) :: (38, 3, a_icmp_gt 45) :: (41, 1, a_iconst 1) :: (42, 3, a_goto 46) :: []
def kX4_settledTwo_2 : pProg := (2, 1, a_iload 3) :: (3, 1, a_iconst 1) :: (4, 3, a_icmp_gt 110) :: (7, 1, a_iconst 0) :: (8, 2, a_istore 4) :: (10, 0, a_fall 10) :: []
def kX4_settledTwo_0 : pProg := (0, 1, a_iconst 0) :: (1, 1, a_istore 3) :: (2, 0, a_fall 2) :: []
set_option maxRecDepth 100000 in
theorem sX4_settledTwo_110 (l : Launch) : AllS (pSnd l rmX4_settledTwo yX4_settledTwo.cls cX4_settledTwo wsX4_settledTwo 7 (some .int)) 110 kX4_settledTwo_110 :=
  alls _ (s_bipush (by decide) dX4_settledTwo_110) <|
  alls _ (s_iret dX4_settledTwo_112) <|
  alls_nil _
set_option maxRecDepth 100000 in
theorem sX4_settledTwo_104 (l : Launch) : AllS (pSnd l rmX4_settledTwo yX4_settledTwo.cls cX4_settledTwo wsX4_settledTwo 7 (some .int)) 104 kX4_settledTwo_104 :=
  alls _ (s_iinc dX4_settledTwo_104) <|
  alls _ (s_goto (by decide) dX4_settledTwo_107) <|
  alls_nil _
set_option maxRecDepth 100000 in
theorem sX4_settledTwo_98 (l : Launch) : AllS (pSnd l rmX4_settledTwo yX4_settledTwo.cls cX4_settledTwo wsX4_settledTwo 7 (some .int)) 98 kX4_settledTwo_98 :=
  alls _ (s_iinc dX4_settledTwo_98) <|
  alls _ (s_goto (by decide) dX4_settledTwo_101) <|
  alls_nil _
set_option maxRecDepth 100000 in
theorem sX4_settledTwo_78 (l : Launch) : AllS (pSnd l rmX4_settledTwo yX4_settledTwo.cls cX4_settledTwo wsX4_settledTwo 7 (some .int)) 78 kX4_settledTwo_78 :=
  alls _ (s_istore dX4_settledTwo_78) <|
  alls _ (s_iload dX4_settledTwo_80) <|
  alls _ (s_if_eq (by decide) dX4_settledTwo_82) <|
  alls _ (s_iload dX4_settledTwo_85) <|
  alls _ (s_if_eq (by decide) dX4_settledTwo_87) <|
  alls _ (s_bipush (by decide) dX4_settledTwo_90) <|
  alls _ (s_iload_n rfl dX4_settledTwo_92) <|
  alls _ (s_imul dX4_settledTwo_93) <|
  alls _ (s_iload dX4_settledTwo_94) <|
  alls _ (s_iadd dX4_settledTwo_96) <|
  alls _ (s_iret dX4_settledTwo_97) <|
  alls_nil _
set_option maxRecDepth 100000 in
theorem sX4_settledTwo_77 (l : Launch) : AllS (pSnd l rmX4_settledTwo yX4_settledTwo.cls cX4_settledTwo wsX4_settledTwo 7 (some .int)) 77 kX4_settledTwo_77 :=
  alls _ (s_iconst dX4_settledTwo_77) <|
  alls _ s_fall (alls_nil _)
set_option maxRecDepth 100000 in
theorem sX4_settledTwo_46 (l : Launch) : AllS (pSnd l rmX4_settledTwo yX4_settledTwo.cls cX4_settledTwo wsX4_settledTwo 7 (some .int)) 46 kX4_settledTwo_46 :=
  alls _ (s_istore dX4_settledTwo_46) <|
  alls _ (s_aload_n rfl dX4_settledTwo_48) <|
  alls _ (s_iload_n rfl dX4_settledTwo_49) <|
  alls _ (s_iload_n rfl dX4_settledTwo_50) <|
  alls _ (s_iload_n rfl dX4_settledTwo_51) <|
  alls _ (s_iload dX4_settledTwo_52) <|
  alls _ (s_iconst dX4_settledTwo_54) <|
  alls _ (s_callv (ct_X4_price l) rfl rfl rfl (gdV wd_627 wd_629 wd_7 wd_62 wd_630) rfl rfl (by decide +kernel) ⟨Nat.le_of_ble_eq_true rfl, Nat.le_of_ble_eq_true rfl⟩ dX4_settledTwo_55) <|
  alls _ (s_aload_n rfl dX4_settledTwo_58) <|
  alls _ (s_iload_n rfl dX4_settledTwo_59) <|
  alls _ (s_iload_n rfl dX4_settledTwo_60) <|
  alls _ (s_iload_n rfl dX4_settledTwo_61) <|
  alls _ (s_iconst dX4_settledTwo_62) <|
  alls _ (s_iload dX4_settledTwo_63) <|
  alls _ (s_isub dX4_settledTwo_65) <|
  alls _ (s_iconst dX4_settledTwo_66) <|
  alls _ (s_callv (ct_X4_price l) rfl rfl rfl (gdV wd_627 wd_629 wd_7 wd_62 wd_630) rfl rfl (by decide +kernel) ⟨Nat.le_of_ble_eq_true rfl, Nat.le_of_ble_eq_true rfl⟩ dX4_settledTwo_67) <|
  alls _ (s_icmp_gt (by decide) dX4_settledTwo_70) <|
  alls _ (s_iconst dX4_settledTwo_73) <|
  alls _ (s_goto (by decide) dX4_settledTwo_74) <|
  alls_nil _
set_option maxRecDepth 100000 in
theorem sX4_settledTwo_45 (l : Launch) : AllS (pSnd l rmX4_settledTwo yX4_settledTwo.cls cX4_settledTwo wsX4_settledTwo 7 (some .int)) 45 kX4_settledTwo_45 :=
  alls _ (s_iconst dX4_settledTwo_45) <|
  alls _ s_fall (alls_nil _)
set_option maxRecDepth 100000 in
theorem sX4_settledTwo_10 (l : Launch) : AllS (pSnd l rmX4_settledTwo yX4_settledTwo.cls cX4_settledTwo wsX4_settledTwo 7 (some .int)) 10 kX4_settledTwo_10 :=
  alls _ (s_iload dX4_settledTwo_10) <|
  alls _ (s_iconst dX4_settledTwo_12) <|
  alls _ (s_icmp_gt (by decide) dX4_settledTwo_13) <|
  alls _ (s_aload_n rfl dX4_settledTwo_16) <|
  alls _ (s_iload_n rfl dX4_settledTwo_17) <|
  alls _ (s_iload_n rfl dX4_settledTwo_18) <|
  alls _ (s_iload_n rfl dX4_settledTwo_19) <|
  alls _ (s_iload dX4_settledTwo_20) <|
  alls _ (s_iconst dX4_settledTwo_22) <|
  alls _ (s_callv (ct_X4_price l) rfl rfl rfl (gdV wd_627 wd_629 wd_7 wd_62 wd_630) rfl rfl (by decide +kernel) ⟨Nat.le_of_ble_eq_true rfl, Nat.le_of_ble_eq_true rfl⟩ dX4_settledTwo_23) <|
  alls _ (s_aload_n rfl dX4_settledTwo_26) <|
  alls _ (s_iload_n rfl dX4_settledTwo_27) <|
  alls _ (s_iload_n rfl dX4_settledTwo_28) <|
  alls _ (s_iconst dX4_settledTwo_29) <|
  alls _ (s_iload_n rfl dX4_settledTwo_30) <|
  alls _ (s_isub dX4_settledTwo_31) <|
  alls _ (s_iload dX4_settledTwo_32) <|
  alls _ (s_iconst dX4_settledTwo_34) <|
  alls _ (s_callv (ct_X4_price l) rfl rfl rfl (gdV wd_627 wd_629 wd_7 wd_62 wd_630) rfl rfl (by decide +kernel) ⟨Nat.le_of_ble_eq_true rfl, Nat.le_of_ble_eq_true rfl⟩ dX4_settledTwo_35) <|
  alls _ (s_icmp_gt (by decide) dX4_settledTwo_38) <|
  alls _ (s_iconst dX4_settledTwo_41) <|
  alls _ (s_goto (by decide) dX4_settledTwo_42) <|
  alls_nil _
set_option maxRecDepth 100000 in
theorem sX4_settledTwo_2 (l : Launch) : AllS (pSnd l rmX4_settledTwo yX4_settledTwo.cls cX4_settledTwo wsX4_settledTwo 7 (some .int)) 2 kX4_settledTwo_2 :=
  alls _ (s_iload_n rfl dX4_settledTwo_2) <|
  alls _ (s_iconst dX4_settledTwo_3) <|
  alls _ (s_icmp_gt (by decide) dX4_settledTwo_4) <|
  alls _ (s_iconst dX4_settledTwo_7) <|
  alls _ (s_istore dX4_settledTwo_8) <|
  alls _ s_fall (alls_nil _)
set_option maxRecDepth 100000 in
theorem sX4_settledTwo_0 (l : Launch) : AllS (pSnd l rmX4_settledTwo yX4_settledTwo.cls cX4_settledTwo wsX4_settledTwo 7 (some .int)) 0 kX4_settledTwo_0 :=
  alls _ (s_iconst dX4_settledTwo_0) <|
  alls _ (s_istore_n rfl dX4_settledTwo_1) <|
  alls _ s_fall (alls_nil _)
def KX4_settledTwo : List (Nat × pProg) := [(0, kX4_settledTwo_0), (2, kX4_settledTwo_2), (10, kX4_settledTwo_10), (45, kX4_settledTwo_45), (46, kX4_settledTwo_46), (77, kX4_settledTwo_77), (78, kX4_settledTwo_78), (98, kX4_settledTwo_98), (104, kX4_settledTwo_104), (110, kX4_settledTwo_110)]
theorem bX4_settledTwo_0 : blkOf KX4_settledTwo 0 = some kX4_settledTwo_0 := rfl
theorem bX4_settledTwo_2 : blkOf KX4_settledTwo 2 = some kX4_settledTwo_2 := rfl
theorem bX4_settledTwo_10 : blkOf KX4_settledTwo 10 = some kX4_settledTwo_10 := rfl
theorem bX4_settledTwo_45 : blkOf KX4_settledTwo 45 = some kX4_settledTwo_45 := rfl
theorem bX4_settledTwo_46 : blkOf KX4_settledTwo 46 = some kX4_settledTwo_46 := rfl
theorem bX4_settledTwo_77 : blkOf KX4_settledTwo 77 = some kX4_settledTwo_77 := rfl
theorem bX4_settledTwo_78 : blkOf KX4_settledTwo 78 = some kX4_settledTwo_78 := rfl
theorem bX4_settledTwo_98 : blkOf KX4_settledTwo 98 = some kX4_settledTwo_98 := rfl
theorem bX4_settledTwo_104 : blkOf KX4_settledTwo 104 = some kX4_settledTwo_104 := rfl
theorem bX4_settledTwo_110 : blkOf KX4_settledTwo 110 = some kX4_settledTwo_110 := rfl
def tX4_settledTwo : pT := pM KX4_settledTwo 7
theorem ct_X4_settledTwo (l : Launch) : pCtr l yX4_settledTwo wsX4_settledTwo rmX4_settledTwo 3 tX4_settledTwo := ctr_of (by decide +kernel) rfl (List.forall_mem_cons.mpr ⟨sX4_settledTwo_0 l, List.forall_mem_cons.mpr ⟨sX4_settledTwo_2 l, List.forall_mem_cons.mpr ⟨sX4_settledTwo_10 l, List.forall_mem_cons.mpr ⟨sX4_settledTwo_45 l, List.forall_mem_cons.mpr ⟨sX4_settledTwo_46 l, List.forall_mem_cons.mpr ⟨sX4_settledTwo_77 l, List.forall_mem_cons.mpr ⟨sX4_settledTwo_78 l, List.forall_mem_cons.mpr ⟨sX4_settledTwo_98 l, List.forall_mem_cons.mpr ⟨sX4_settledTwo_104 l, List.forall_mem_cons.mpr ⟨sX4_settledTwo_110 l, fun _ h => absurd h List.not_mem_nil⟩⟩⟩⟩⟩⟩⟩⟩⟩⟩)
theorem dX4_cellWithCoughs_0 : decode cX4_cellWithCoughs 0 = .ok (.aload_n 0, 1) := by decide +kernel
theorem dX4_cellWithCoughs_1 : decode cX4_cellWithCoughs 1 = .ok (.iconst 0, 1) := by decide +kernel
theorem dX4_cellWithCoughs_2 : decode cX4_cellWithCoughs 2 = .ok (.invokevirtual 33, 3) := by decide +kernel
theorem dX4_cellWithCoughs_5 : decode cX4_cellWithCoughs 5 = .ok (.iconst 0, 1) := by decide +kernel
theorem dX4_cellWithCoughs_6 : decode cX4_cellWithCoughs 6 = .ok (.istore 4, 2) := by decide +kernel
theorem dX4_cellWithCoughs_8 : decode cX4_cellWithCoughs 8 = .ok (.iload 4, 2) := by decide +kernel
theorem dX4_cellWithCoughs_10 : decode cX4_cellWithCoughs 10 = .ok (.iload_n 2, 1) := by decide +kernel
theorem dX4_cellWithCoughs_11 : decode cX4_cellWithCoughs 11 = .ok (.if_icmp .ge 67, 3) := by decide +kernel
theorem dX4_cellWithCoughs_14 : decode cX4_cellWithCoughs 14 = .ok (.iload_n 3, 1) := by decide +kernel
theorem dX4_cellWithCoughs_15 : decode cX4_cellWithCoughs 15 = .ok (.iload 4, 2) := by decide +kernel
theorem dX4_cellWithCoughs_17 : decode cX4_cellWithCoughs 17 = .ok (.ishr, 1) := by decide +kernel
theorem dX4_cellWithCoughs_18 : decode cX4_cellWithCoughs 18 = .ok (.iconst 1, 1) := by decide +kernel
theorem dX4_cellWithCoughs_19 : decode cX4_cellWithCoughs 19 = .ok (.iand, 1) := by decide +kernel
theorem dX4_cellWithCoughs_20 : decode cX4_cellWithCoughs 20 = .ok (.iconst 1, 1) := by decide +kernel
theorem dX4_cellWithCoughs_21 : decode cX4_cellWithCoughs 21 = .ok (.if_icmp .ne 7, 3) := by decide +kernel
theorem dX4_cellWithCoughs_24 : decode cX4_cellWithCoughs 24 = .ok (.iconst 1, 1) := by decide +kernel
theorem dX4_cellWithCoughs_25 : decode cX4_cellWithCoughs 25 = .ok (.goto 4, 3) := by decide +kernel
theorem dX4_cellWithCoughs_28 : decode cX4_cellWithCoughs 28 = .ok (.iconst 0, 1) := by decide +kernel
theorem dX4_cellWithCoughs_29 : decode cX4_cellWithCoughs 29 = .ok (.istore 5, 2) := by decide +kernel
theorem dX4_cellWithCoughs_31 : decode cX4_cellWithCoughs 31 = .ok (.aload_n 0, 1) := by decide +kernel
theorem dX4_cellWithCoughs_32 : decode cX4_cellWithCoughs 32 = .ok (.getfield 22, 3) := by decide +kernel
theorem dX4_cellWithCoughs_35 : decode cX4_cellWithCoughs 35 = .ok (.invokevirtual 96, 3) := by decide +kernel
theorem dX4_cellWithCoughs_38 : decode cX4_cellWithCoughs 38 = .ok (.iload 4, 2) := by decide +kernel
theorem dX4_cellWithCoughs_40 : decode cX4_cellWithCoughs 40 = .ok (.iadd, 1) := by decide +kernel
theorem dX4_cellWithCoughs_41 : decode cX4_cellWithCoughs 41 = .ok (.iconst 1, 1) := by decide +kernel
theorem dX4_cellWithCoughs_42 : decode cX4_cellWithCoughs 42 = .ok (.iadd, 1) := by decide +kernel
theorem dX4_cellWithCoughs_43 : decode cX4_cellWithCoughs 43 = .ok (.istore 6, 2) := by decide +kernel
theorem dX4_cellWithCoughs_45 : decode cX4_cellWithCoughs 45 = .ok (.aload_n 0, 1) := by decide +kernel
theorem dX4_cellWithCoughs_46 : decode cX4_cellWithCoughs 46 = .ok (.getfield 12, 3) := by decide +kernel
theorem dX4_cellWithCoughs_49 : decode cX4_cellWithCoughs 49 = .ok (.iload_n 1, 1) := by decide +kernel
theorem dX4_cellWithCoughs_50 : decode cX4_cellWithCoughs 50 = .ok (.iload 5, 2) := by decide +kernel
theorem dX4_cellWithCoughs_52 : decode cX4_cellWithCoughs 52 = .ok (.ifCond .eq 7, 3) := by decide +kernel
theorem dX4_cellWithCoughs_55 : decode cX4_cellWithCoughs 55 = .ok (.iconst 1, 1) := by decide +kernel
theorem dX4_cellWithCoughs_56 : decode cX4_cellWithCoughs 56 = .ok (.goto 13, 3) := by decide +kernel
theorem dX4_cellWithCoughs_59 : decode cX4_cellWithCoughs 59 = .ok (.aload_n 0, 1) := by decide +kernel
theorem dX4_cellWithCoughs_60 : decode cX4_cellWithCoughs 60 = .ok (.getfield 12, 3) := by decide +kernel
theorem dX4_cellWithCoughs_63 : decode cX4_cellWithCoughs 63 = .ok (.iload_n 1, 1) := by decide +kernel
theorem dX4_cellWithCoughs_64 : decode cX4_cellWithCoughs 64 = .ok (.iload 6, 2) := by decide +kernel
theorem dX4_cellWithCoughs_66 : decode cX4_cellWithCoughs 66 = .ok (.invokevirtual 99, 3) := by decide +kernel
theorem dX4_cellWithCoughs_69 : decode cX4_cellWithCoughs 69 = .ok (.invokevirtual 124, 3) := by decide +kernel
theorem dX4_cellWithCoughs_72 : decode cX4_cellWithCoughs 72 = .ok (.iinc 4 1, 3) := by decide +kernel
theorem dX4_cellWithCoughs_75 : decode cX4_cellWithCoughs 75 = .ok (.goto (-67), 3) := by decide +kernel
theorem dX4_cellWithCoughs_78 : decode cX4_cellWithCoughs 78 = .ok (.aload_n 0, 1) := by decide +kernel
theorem dX4_cellWithCoughs_79 : decode cX4_cellWithCoughs 79 = .ok (.getfield 12, 3) := by decide +kernel
theorem dX4_cellWithCoughs_82 : decode cX4_cellWithCoughs 82 = .ok (.iload_n 1, 1) := by decide +kernel
theorem dX4_cellWithCoughs_83 : decode cX4_cellWithCoughs 83 = .ok (.invokevirtual 36, 3) := by decide +kernel
theorem dX4_cellWithCoughs_86 : decode cX4_cellWithCoughs 86 = .ok (.ireturn, 1) := by decide +kernel
def rmX4_cellWithCoughs : Room := { frames := 5, cells := 0, slots := 0, locals := 115 }
abbrev wsX4_cellWithCoughs : List Cond := .code yX4_cellWithCoughs cX4_cellWithCoughs 7 (some .int) :: gw_tbl
def kX4_cellWithCoughs_78 : pProg := (78, 1, a_aload 0) :: (79, 3, a_getf 0 2 1) :: (82, 1, a_iload 1) :: (83, 3, a_callv 2 0 [8, 9, 10, 11, 12, 13, 14] tX0_cellOf) :: (86, 1, a_iret) :: []
def kX4_cellWithCoughs_69 : pProg := (69, 3, a_callv 3 0 [8, 9, 10, 11, 12, 13, 14] tX0_walk) :: (72, 3, a_iinc 4 1) :: (75, 3, a_goto 8) :: []
def kX4_cellWithCoughs_59 : pProg := (59, 1, a_aload 0) :: (60, 3, a_getf 0 2 1) :: (63, 1, a_iload 1) :: (64, 2, a_iload 6) :: (66, 3, a_callv 3 0 [8, 9, 10, 11, 12, 13, 14] tX0_speakerIn) :: (69, 0, a_fall 69) :: []
def kX4_cellWithCoughs_29 : pProg := (29, 2, a_istore 5) :: (31, 1, a_aload 0) :: (32, 3, a_getf 0 2 0) :: (35, 3, a_callv 1 0 [1, 2, 3, 4, 5, 6, 7] tX0_minute) :: (38, 2, a_iload 4) :: (40, 1, a_iadd) :: (41, 1, a_iconst 1) :: (42, 1, a_iadd) :: (43, 2, a_istore 6) :: (45, 1, a_aload 0) :: (46, 3, a_getf 0 2 1) :: (49, 1, a_iload 1) :: (50, 2, a_iload 5) :: (52, 3, a_if_eq 59) :: (55, 1, a_iconst 1) :: (56, 3, a_goto 69) :: []
def kX4_cellWithCoughs_28 : pProg := (28, 1, a_iconst 0) :: (29, 0, a_fall 29) :: []
def kX4_cellWithCoughs_8 : pProg := (8, 2, a_iload 4) :: (10, 1, a_iload 2) :: (11, 3, a_icmp_ge 78) :: (14, 1, a_iload 3) :: (15, 2, a_iload 4) :: (17, 1, a_ishr) :: (18, 1, a_iconst 1) :: (19, 1, a_iand) :: (20, 1, a_iconst 1) :: (21, 3, a_icmp_ne 28) :: (24, 1, a_iconst 1) :: (25, 3, a_goto 29) :: []
def kX4_cellWithCoughs_0 : pProg := (0, 1, a_aload 0) :: (1, 1, a_iconst 0) :: (2, 3, a_callv 2 2 [0, 1, 2, 3, 4, 5, 6, 7, 8, 9, 10, 11, 12, 13, 14, 15] tX4_think) :: (5, 1, a_iconst 0) :: (6, 2, a_istore 4) :: (8, 0, a_fall 8) :: []
set_option maxRecDepth 100000 in
theorem sX4_cellWithCoughs_78 (l : Launch) : AllS (pSnd l rmX4_cellWithCoughs yX4_cellWithCoughs.cls cX4_cellWithCoughs wsX4_cellWithCoughs 7 (some .int)) 78 kX4_cellWithCoughs_78 :=
  alls _ (s_aload_n rfl dX4_cellWithCoughs_78) <|
  alls _ (s_getf (C := RX4) (T := TX4) (N := 3) rfl (in_c inX4) (by decide) (List.mem_cons_of_mem _ wd_118) rfl dX4_cellWithCoughs_79) <|
  alls _ (s_iload_n rfl dX4_cellWithCoughs_82) <|
  alls _ (s_callv (ct_X0_cellOf l) rfl rfl rfl (gdV wd_430 wd_306 wd_307 wd_61 wd_308) rfl rfl (by decide +kernel) ⟨Nat.le_of_ble_eq_true rfl, Nat.le_of_ble_eq_true rfl⟩ dX4_cellWithCoughs_83) <|
  alls _ (s_iret dX4_cellWithCoughs_86) <|
  alls_nil _
set_option maxRecDepth 100000 in
theorem sX4_cellWithCoughs_69 (l : Launch) : AllS (pSnd l rmX4_cellWithCoughs yX4_cellWithCoughs.cls cX4_cellWithCoughs wsX4_cellWithCoughs 7 (some .int)) 69 kX4_cellWithCoughs_69 :=
  alls _ (s_callv (ct_X0_walk l) rfl rfl rfl (gdV wd_631 wd_318 wd_319 wd_61 wd_320) rfl rfl (by decide +kernel) ⟨Nat.le_of_ble_eq_true rfl, Nat.le_of_ble_eq_true rfl⟩ dX4_cellWithCoughs_69) <|
  alls _ (s_iinc dX4_cellWithCoughs_72) <|
  alls _ (s_goto (by decide) dX4_cellWithCoughs_75) <|
  alls_nil _
set_option maxRecDepth 100000 in
theorem sX4_cellWithCoughs_59 (l : Launch) : AllS (pSnd l rmX4_cellWithCoughs yX4_cellWithCoughs.cls cX4_cellWithCoughs wsX4_cellWithCoughs 7 (some .int)) 59 kX4_cellWithCoughs_59 :=
  alls _ (s_aload_n rfl dX4_cellWithCoughs_59) <|
  alls _ (s_getf (C := RX4) (T := TX4) (N := 3) rfl (in_c inX4) (by decide) (List.mem_cons_of_mem _ wd_118) rfl dX4_cellWithCoughs_60) <|
  alls _ (s_iload_n rfl dX4_cellWithCoughs_63) <|
  alls _ (s_iload dX4_cellWithCoughs_64) <|
  alls _ (s_callv (ct_X0_speakerIn l) rfl rfl rfl (gdV wd_555 wd_298 wd_299 wd_61 wd_300) rfl rfl (by decide +kernel) ⟨Nat.le_of_ble_eq_true rfl, Nat.le_of_ble_eq_true rfl⟩ dX4_cellWithCoughs_66) <|
  alls _ s_fall (alls_nil _)
set_option maxRecDepth 100000 in
theorem sX4_cellWithCoughs_29 (l : Launch) : AllS (pSnd l rmX4_cellWithCoughs yX4_cellWithCoughs.cls cX4_cellWithCoughs wsX4_cellWithCoughs 7 (some .int)) 29 kX4_cellWithCoughs_29 :=
  alls _ (s_istore dX4_cellWithCoughs_29) <|
  alls _ (s_aload_n rfl dX4_cellWithCoughs_31) <|
  alls _ (s_getf (C := RX4) (T := TX4) (N := 3) rfl (in_c inX4) (by decide) (List.mem_cons_of_mem _ wd_117) rfl dX4_cellWithCoughs_32) <|
  alls _ (s_callv (ct_X0_minute l) rfl rfl rfl (gdV wd_554 wd_213 wd_214 wd_61 wd_215) rfl rfl (by decide +kernel) ⟨Nat.le_of_ble_eq_true rfl, Nat.le_of_ble_eq_true rfl⟩ dX4_cellWithCoughs_35) <|
  alls _ (s_iload dX4_cellWithCoughs_38) <|
  alls _ (s_iadd dX4_cellWithCoughs_40) <|
  alls _ (s_iconst dX4_cellWithCoughs_41) <|
  alls _ (s_iadd dX4_cellWithCoughs_42) <|
  alls _ (s_istore dX4_cellWithCoughs_43) <|
  alls _ (s_aload_n rfl dX4_cellWithCoughs_45) <|
  alls _ (s_getf (C := RX4) (T := TX4) (N := 3) rfl (in_c inX4) (by decide) (List.mem_cons_of_mem _ wd_118) rfl dX4_cellWithCoughs_46) <|
  alls _ (s_iload_n rfl dX4_cellWithCoughs_49) <|
  alls _ (s_iload dX4_cellWithCoughs_50) <|
  alls _ (s_if_eq (by decide) dX4_cellWithCoughs_52) <|
  alls _ (s_iconst dX4_cellWithCoughs_55) <|
  alls _ (s_goto (by decide) dX4_cellWithCoughs_56) <|
  alls_nil _
set_option maxRecDepth 100000 in
theorem sX4_cellWithCoughs_28 (l : Launch) : AllS (pSnd l rmX4_cellWithCoughs yX4_cellWithCoughs.cls cX4_cellWithCoughs wsX4_cellWithCoughs 7 (some .int)) 28 kX4_cellWithCoughs_28 :=
  alls _ (s_iconst dX4_cellWithCoughs_28) <|
  alls _ s_fall (alls_nil _)
set_option maxRecDepth 100000 in
theorem sX4_cellWithCoughs_8 (l : Launch) : AllS (pSnd l rmX4_cellWithCoughs yX4_cellWithCoughs.cls cX4_cellWithCoughs wsX4_cellWithCoughs 7 (some .int)) 8 kX4_cellWithCoughs_8 :=
  alls _ (s_iload dX4_cellWithCoughs_8) <|
  alls _ (s_iload_n rfl dX4_cellWithCoughs_10) <|
  alls _ (s_icmp_ge (by decide) dX4_cellWithCoughs_11) <|
  alls _ (s_iload_n rfl dX4_cellWithCoughs_14) <|
  alls _ (s_iload dX4_cellWithCoughs_15) <|
  alls _ (s_ishr dX4_cellWithCoughs_17) <|
  alls _ (s_iconst dX4_cellWithCoughs_18) <|
  alls _ (s_iand dX4_cellWithCoughs_19) <|
  alls _ (s_iconst dX4_cellWithCoughs_20) <|
  alls _ (s_icmp_ne (by decide) dX4_cellWithCoughs_21) <|
  alls _ (s_iconst dX4_cellWithCoughs_24) <|
  alls _ (s_goto (by decide) dX4_cellWithCoughs_25) <|
  alls_nil _
set_option maxRecDepth 100000 in
theorem sX4_cellWithCoughs_0 (l : Launch) : AllS (pSnd l rmX4_cellWithCoughs yX4_cellWithCoughs.cls cX4_cellWithCoughs wsX4_cellWithCoughs 7 (some .int)) 0 kX4_cellWithCoughs_0 :=
  alls _ (s_aload_n rfl dX4_cellWithCoughs_0) <|
  alls _ (s_iconst dX4_cellWithCoughs_1) <|
  alls _ (s_callv (ct_X4_think l) rfl rfl rfl (gdV wd_418 wd_420 wd_1 wd_62 wd_421) rfl rfl (by decide +kernel) ⟨Nat.le_of_ble_eq_true rfl, Nat.le_of_ble_eq_true rfl⟩ dX4_cellWithCoughs_2) <|
  alls _ (s_iconst dX4_cellWithCoughs_5) <|
  alls _ (s_istore dX4_cellWithCoughs_6) <|
  alls _ s_fall (alls_nil _)
def KX4_cellWithCoughs : List (Nat × pProg) := [(0, kX4_cellWithCoughs_0), (8, kX4_cellWithCoughs_8), (28, kX4_cellWithCoughs_28), (29, kX4_cellWithCoughs_29), (59, kX4_cellWithCoughs_59), (69, kX4_cellWithCoughs_69), (78, kX4_cellWithCoughs_78)]
theorem bX4_cellWithCoughs_0 : blkOf KX4_cellWithCoughs 0 = some kX4_cellWithCoughs_0 := rfl
theorem bX4_cellWithCoughs_8 : blkOf KX4_cellWithCoughs 8 = some kX4_cellWithCoughs_8 := rfl
theorem bX4_cellWithCoughs_28 : blkOf KX4_cellWithCoughs 28 = some kX4_cellWithCoughs_28 := rfl
theorem bX4_cellWithCoughs_29 : blkOf KX4_cellWithCoughs 29 = some kX4_cellWithCoughs_29 := rfl
theorem bX4_cellWithCoughs_59 : blkOf KX4_cellWithCoughs 59 = some kX4_cellWithCoughs_59 := rfl
theorem bX4_cellWithCoughs_69 : blkOf KX4_cellWithCoughs 69 = some kX4_cellWithCoughs_69 := rfl
theorem bX4_cellWithCoughs_78 : blkOf KX4_cellWithCoughs 78 = some kX4_cellWithCoughs_78 := rfl
def tX4_cellWithCoughs : pT := pM KX4_cellWithCoughs 7
theorem ct_X4_cellWithCoughs (l : Launch) : pCtr l yX4_cellWithCoughs wsX4_cellWithCoughs rmX4_cellWithCoughs 4 tX4_cellWithCoughs := ctr_of (by decide +kernel) rfl (List.forall_mem_cons.mpr ⟨sX4_cellWithCoughs_0 l, List.forall_mem_cons.mpr ⟨sX4_cellWithCoughs_8 l, List.forall_mem_cons.mpr ⟨sX4_cellWithCoughs_28 l, List.forall_mem_cons.mpr ⟨sX4_cellWithCoughs_29 l, List.forall_mem_cons.mpr ⟨sX4_cellWithCoughs_59 l, List.forall_mem_cons.mpr ⟨sX4_cellWithCoughs_69 l, List.forall_mem_cons.mpr ⟨sX4_cellWithCoughs_78 l, fun _ h => absurd h List.not_mem_nil⟩⟩⟩⟩⟩⟩⟩)
theorem dX4_coughsThatReach_0 : decode cX4_coughsThatReach 0 = .ok (.lconst 0, 1) := by decide +kernel
theorem dX4_coughsThatReach_1 : decode cX4_coughsThatReach 1 = .ok (.lstore 5, 2) := by decide +kernel
theorem dX4_coughsThatReach_3 : decode cX4_coughsThatReach 3 = .ok (.iconst 0, 1) := by decide +kernel
theorem dX4_coughsThatReach_4 : decode cX4_coughsThatReach 4 = .ok (.istore 7, 2) := by decide +kernel
theorem dX4_coughsThatReach_6 : decode cX4_coughsThatReach 6 = .ok (.iload 7, 2) := by decide +kernel
theorem dX4_coughsThatReach_8 : decode cX4_coughsThatReach 8 = .ok (.iconst 1, 1) := by decide +kernel
theorem dX4_coughsThatReach_9 : decode cX4_coughsThatReach 9 = .ok (.iload_n 2, 1) := by decide +kernel
theorem dX4_coughsThatReach_10 : decode cX4_coughsThatReach 10 = .ok (.ishl, 1) := by decide +kernel
theorem dX4_coughsThatReach_11 : decode cX4_coughsThatReach 11 = .ok (.if_icmp .ge 41, 3) := by decide +kernel
theorem dX4_coughsThatReach_14 : decode cX4_coughsThatReach 14 = .ok (.aload_n 0, 1) := by decide +kernel
theorem dX4_coughsThatReach_15 : decode cX4_coughsThatReach 15 = .ok (.iload_n 1, 1) := by decide +kernel
theorem dX4_coughsThatReach_16 : decode cX4_coughsThatReach 16 = .ok (.iload_n 2, 1) := by decide +kernel
theorem dX4_coughsThatReach_17 : decode cX4_coughsThatReach 17 = .ok (.iload 7, 2) := by decide +kernel
theorem dX4_coughsThatReach_19 : decode cX4_coughsThatReach 19 = .ok (.invokevirtual 127, 3) := by decide +kernel
theorem dX4_coughsThatReach_22 : decode cX4_coughsThatReach 22 = .ok (.iload 4, 2) := by decide +kernel
theorem dX4_coughsThatReach_24 : decode cX4_coughsThatReach 24 = .ok (.if_icmp .lt 22, 3) := by decide +kernel
theorem dX4_coughsThatReach_27 : decode cX4_coughsThatReach 27 = .ok (.lload 5, 2) := by decide +kernel
theorem dX4_coughsThatReach_29 : decode cX4_coughsThatReach 29 = .ok (.iload_n 3, 1) := by decide +kernel
theorem dX4_coughsThatReach_30 : decode cX4_coughsThatReach 30 = .ok (.iconst 1, 1) := by decide +kernel
theorem dX4_coughsThatReach_31 : decode cX4_coughsThatReach 31 = .ok (.isub, 1) := by decide +kernel
theorem dX4_coughsThatReach_32 : decode cX4_coughsThatReach 32 = .ok (.i2l, 1) := by decide +kernel
theorem dX4_coughsThatReach_33 : decode cX4_coughsThatReach 33 = .ok (.iload_n 2, 1) := by decide +kernel
theorem dX4_coughsThatReach_34 : decode cX4_coughsThatReach 34 = .ok (.iload 7, 2) := by decide +kernel
theorem dX4_coughsThatReach_36 : decode cX4_coughsThatReach 36 = .ok (.invokestatic 131, 3) := by decide +kernel
theorem dX4_coughsThatReach_39 : decode cX4_coughsThatReach 39 = .ok (.isub, 1) := by decide +kernel
theorem dX4_coughsThatReach_40 : decode cX4_coughsThatReach 40 = .ok (.invokestatic 136, 3) := by decide +kernel
theorem dX4_coughsThatReach_43 : decode cX4_coughsThatReach 43 = .ok (.ladd, 1) := by decide +kernel
theorem dX4_coughsThatReach_44 : decode cX4_coughsThatReach 44 = .ok (.lstore 5, 2) := by decide +kernel
theorem dX4_coughsThatReach_46 : decode cX4_coughsThatReach 46 = .ok (.iinc 7 1, 3) := by decide +kernel
theorem dX4_coughsThatReach_49 : decode cX4_coughsThatReach 49 = .ok (.goto (-43), 3) := by decide +kernel
theorem dX4_coughsThatReach_52 : decode cX4_coughsThatReach 52 = .ok (.lload 5, 2) := by decide +kernel
theorem dX4_coughsThatReach_54 : decode cX4_coughsThatReach 54 = .ok (.lreturn, 1) := by decide +kernel
def rmX4_coughsThatReach : Room := { frames := 6, cells := 0, slots := 0, locals := 141 }
abbrev wsX4_coughsThatReach : List Cond := .code yX4_coughsThatReach cX4_coughsThatReach 8 (some .long) :: gw_tbl
def kX4_coughsThatReach_52 : pProg := (52, 2, a_lload 5) :: (54, 1, a_lret) :: []
def kX4_coughsThatReach_46 : pProg := (46, 3, a_iinc 7 1) :: (49, 3, a_goto 6) :: []
def kX4_coughsThatReach_6 : pProg := (6, 2, a_iload 7) :: (8, 1, a_iconst 1) :: (9, 1, a_iload 2) :: (10, 1, a_ishl) :: (11, 3, a_icmp_ge 52) :: (14, 1, a_aload 0) :: (15, 1, a_iload 1) :: (16, 1, a_iload 2) :: (17, 2, a_iload 7) :: (19, 3, a_callv 4 2 [0, 1, 2, 3, 4, 5, 6, 7, 8, 9, 10, 11, 12, 13, 14, 15] tX4_cellWithCoughs) :: (22, 2, a_iload 4) :: (24, 3, a_icmp_lt 46) :: (27, 2, a_lload 5) :: (29, 1, a_iload 3) :: (30, 1, a_iconst 1) :: (31, 1, a_isub) :: (32, 1, a_i2l) :: (33, 1, a_iload 2) :: (34, 2, a_iload 7) :: (36, 3, a_calls 1 [] tJ6_bitCount_0f7a4) :: (39, 1, a_isub) :: (40, 3, a_calls 2 [] tX5_power) :: (43, 1, a_ladd) :: (44, 2, a_lstore 5) :: (46, 0, a_fall 46) :: []
def kX4_coughsThatReach_0 : pProg := (0, 1, a_lconst 0) :: (1, 2, a_lstore 5) :: (3, 1, a_iconst 0) :: (4, 2, a_istore 7) :: (6, 0, a_fall 6) :: []
set_option maxRecDepth 100000 in
theorem sX4_coughsThatReach_52 (l : Launch) : AllS (pSnd l rmX4_coughsThatReach yX4_coughsThatReach.cls cX4_coughsThatReach wsX4_coughsThatReach 8 (some .long)) 52 kX4_coughsThatReach_52 :=
  alls _ (s_lload dX4_coughsThatReach_52) <|
  alls _ (s_lret dX4_coughsThatReach_54) <|
  alls_nil _
set_option maxRecDepth 100000 in
theorem sX4_coughsThatReach_46 (l : Launch) : AllS (pSnd l rmX4_coughsThatReach yX4_coughsThatReach.cls cX4_coughsThatReach wsX4_coughsThatReach 8 (some .long)) 46 kX4_coughsThatReach_46 :=
  alls _ (s_iinc dX4_coughsThatReach_46) <|
  alls _ (s_goto (by decide) dX4_coughsThatReach_49) <|
  alls_nil _
set_option maxRecDepth 100000 in
theorem sX4_coughsThatReach_6 (l : Launch) : AllS (pSnd l rmX4_coughsThatReach yX4_coughsThatReach.cls cX4_coughsThatReach wsX4_coughsThatReach 8 (some .long)) 6 kX4_coughsThatReach_6 :=
  alls _ (s_iload dX4_coughsThatReach_6) <|
  alls _ (s_iconst dX4_coughsThatReach_8) <|
  alls _ (s_iload_n rfl dX4_coughsThatReach_9) <|
  alls _ (s_ishl dX4_coughsThatReach_10) <|
  alls _ (s_icmp_ge (by decide) dX4_coughsThatReach_11) <|
  alls _ (s_aload_n rfl dX4_coughsThatReach_14) <|
  alls _ (s_iload_n rfl dX4_coughsThatReach_15) <|
  alls _ (s_iload_n rfl dX4_coughsThatReach_16) <|
  alls _ (s_iload dX4_coughsThatReach_17) <|
  alls _ (s_callv (ct_X4_cellWithCoughs l) rfl rfl rfl (gdV wd_645 wd_647 wd_9 wd_62 wd_648) rfl rfl (by decide +kernel) ⟨Nat.le_of_ble_eq_true rfl, Nat.le_of_ble_eq_true rfl⟩ dX4_coughsThatReach_19) <|
  alls _ (s_iload dX4_coughsThatReach_22) <|
  alls _ (s_icmp_lt (by decide) dX4_coughsThatReach_24) <|
  alls _ (s_lload dX4_coughsThatReach_27) <|
  alls _ (s_iload_n rfl dX4_coughsThatReach_29) <|
  alls _ (s_iconst dX4_coughsThatReach_30) <|
  alls _ (s_isub dX4_coughsThatReach_31) <|
  alls _ (s_i2l dX4_coughsThatReach_32) <|
  alls _ (s_iload_n rfl dX4_coughsThatReach_33) <|
  alls _ (s_iload dX4_coughsThatReach_34) <|
  alls _ (s_calls (ct_J6_bitCount_0f7a4 l) rfl rfl (gdS wd_403) (List.mem_cons_of_mem _ wd_649) (List.mem_cons_of_mem _ wd_402) (List.mem_cons_of_mem _ wd_68) rfl rfl (by decide +kernel) ⟨Nat.le_of_ble_eq_true rfl, Nat.le_of_ble_eq_true rfl⟩ dX4_coughsThatReach_36) <|
  alls _ (s_isub dX4_coughsThatReach_39) <|
  alls _ (s_callsN (ct_X5_power l) rfl rfl (gdS wd_652) (host := RX5) (List.mem_of_getElem? (i := 2) rfl) (List.mem_cons_of_mem _ wd_651) (List.mem_cons_of_mem _ wd_60) rfl rfl (by decide +kernel) ⟨Nat.le_of_ble_eq_true rfl, Nat.le_of_ble_eq_true rfl⟩ dX4_coughsThatReach_40) <|
  alls _ (s_ladd dX4_coughsThatReach_43) <|
  alls _ (s_lstore dX4_coughsThatReach_44) <|
  alls _ s_fall (alls_nil _)
set_option maxRecDepth 100000 in
theorem sX4_coughsThatReach_0 (l : Launch) : AllS (pSnd l rmX4_coughsThatReach yX4_coughsThatReach.cls cX4_coughsThatReach wsX4_coughsThatReach 8 (some .long)) 0 kX4_coughsThatReach_0 :=
  alls _ (s_lconst (by decide) dX4_coughsThatReach_0) <|
  alls _ (s_lstore dX4_coughsThatReach_1) <|
  alls _ (s_iconst dX4_coughsThatReach_3) <|
  alls _ (s_istore dX4_coughsThatReach_4) <|
  alls _ s_fall (alls_nil _)
def KX4_coughsThatReach : List (Nat × pProg) := [(0, kX4_coughsThatReach_0), (6, kX4_coughsThatReach_6), (46, kX4_coughsThatReach_46), (52, kX4_coughsThatReach_52)]
theorem bX4_coughsThatReach_0 : blkOf KX4_coughsThatReach 0 = some kX4_coughsThatReach_0 := rfl
theorem bX4_coughsThatReach_6 : blkOf KX4_coughsThatReach 6 = some kX4_coughsThatReach_6 := rfl
theorem bX4_coughsThatReach_46 : blkOf KX4_coughsThatReach 46 = some kX4_coughsThatReach_46 := rfl
theorem bX4_coughsThatReach_52 : blkOf KX4_coughsThatReach 52 = some kX4_coughsThatReach_52 := rfl
def tX4_coughsThatReach : pT := pM KX4_coughsThatReach 8
theorem ct_X4_coughsThatReach (l : Launch) : pCtr l yX4_coughsThatReach wsX4_coughsThatReach rmX4_coughsThatReach 5 tX4_coughsThatReach := ctr_of (by decide +kernel) rfl (List.forall_mem_cons.mpr ⟨sX4_coughsThatReach_0 l, List.forall_mem_cons.mpr ⟨sX4_coughsThatReach_6 l, List.forall_mem_cons.mpr ⟨sX4_coughsThatReach_46 l, List.forall_mem_cons.mpr ⟨sX4_coughsThatReach_52 l, fun _ h => absurd h List.not_mem_nil⟩⟩⟩⟩)
theorem dX4_goesAsTold_0 : decode cX4_goesAsTold 0 = .ok (.aload_n 2, 1) := by decide +kernel
theorem dX4_goesAsTold_1 : decode cX4_goesAsTold 1 = .ok (.ifnonnull 5, 3) := by decide +kernel
theorem dX4_goesAsTold_6 : decode cX4_goesAsTold 6 = .ok (.iconst 0, 1) := by decide +kernel
theorem dX4_goesAsTold_7 : decode cX4_goesAsTold 7 = .ok (.istore_n 3, 1) := by decide +kernel
theorem dX4_goesAsTold_8 : decode cX4_goesAsTold 8 = .ok (.iload_n 3, 1) := by decide +kernel
theorem dX4_goesAsTold_9 : decode cX4_goesAsTold 9 = .ok (.aload_n 2, 1) := by decide +kernel
theorem dX4_goesAsTold_10 : decode cX4_goesAsTold 10 = .ok (.invokevirtual 147, 3) := by decide +kernel
theorem dX4_goesAsTold_13 : decode cX4_goesAsTold 13 = .ok (.if_icmp .ge 35, 3) := by decide +kernel
theorem dX4_goesAsTold_16 : decode cX4_goesAsTold 16 = .ok (.aload_n 0, 1) := by decide +kernel
theorem dX4_goesAsTold_17 : decode cX4_goesAsTold 17 = .ok (.getfield 12, 3) := by decide +kernel
theorem dX4_goesAsTold_20 : decode cX4_goesAsTold 20 = .ok (.iload_n 1, 1) := by decide +kernel
theorem dX4_goesAsTold_21 : decode cX4_goesAsTold 21 = .ok (.invokevirtual 36, 3) := by decide +kernel
theorem dX4_goesAsTold_24 : decode cX4_goesAsTold 24 = .ok (.aload_n 2, 1) := by decide +kernel
theorem dX4_goesAsTold_25 : decode cX4_goesAsTold 25 = .ok (.iload_n 3, 1) := by decide +kernel
theorem dX4_goesAsTold_26 : decode cX4_goesAsTold 26 = .ok (.invokevirtual 152, 3) := by decide +kernel
theorem dX4_goesAsTold_29 : decode cX4_goesAsTold 29 = .ok (.if_icmp .eq 5, 3) := by decide +kernel
theorem dX4_goesAsTold_32 : decode cX4_goesAsTold 32 = .ok (.iconst 0, 1) := by decide +kernel
theorem dX4_goesAsTold_33 : decode cX4_goesAsTold 33 = .ok (.ireturn, 1) := by decide +kernel
theorem dX4_goesAsTold_34 : decode cX4_goesAsTold 34 = .ok (.aload_n 0, 1) := by decide +kernel
theorem dX4_goesAsTold_35 : decode cX4_goesAsTold 35 = .ok (.getfield 12, 3) := by decide +kernel
theorem dX4_goesAsTold_38 : decode cX4_goesAsTold 38 = .ok (.iconst 1, 1) := by decide +kernel
theorem dX4_goesAsTold_39 : decode cX4_goesAsTold 39 = .ok (.invokevirtual 29, 3) := by decide +kernel
theorem dX4_goesAsTold_42 : decode cX4_goesAsTold 42 = .ok (.iinc 3 1, 3) := by decide +kernel
theorem dX4_goesAsTold_45 : decode cX4_goesAsTold 45 = .ok (.goto (-37), 3) := by decide +kernel
theorem dX4_goesAsTold_48 : decode cX4_goesAsTold 48 = .ok (.iconst 1, 1) := by decide +kernel
theorem dX4_goesAsTold_49 : decode cX4_goesAsTold 49 = .ok (.ireturn, 1) := by decide +kernel
def rmX4_goesAsTold : Room := { frames := 4, cells := 0, slots := 0, locals := 94 }
abbrev wsX4_goesAsTold : List Cond := .code yX4_goesAsTold cX4_goesAsTold 4 (some .boolean) :: gw_tbl
def kX4_goesAsTold_48 : pProg := (48, 1, a_iconst 1) :: (49, 1, a_zret) :: []
def kX4_goesAsTold_34 : pProg := (34, 1, a_aload 0) :: (35, 3, a_getf 0 2 1) :: (38, 1, a_iconst 1) :: (39, 3, a_callv 2 0 [8, 9, 10, 11, 12, 13, 14] tX0_pass) :: (42, 3, a_iinc 3 1) :: (45, 3, a_goto 8) :: []
def kX4_goesAsTold_8 : pProg := (8, 1, a_iload 3) :: (9, 1, a_aload 2) :: (10, 3, a_callv 1 1 [16, 17] tX2_size) :: (13, 3, a_icmp_ge 48) :: (16, 1, a_aload 0) :: (17, 3, a_getf 0 2 1) :: (20, 1, a_iload 1) :: (21, 3, a_callv 2 0 [8, 9, 10, 11, 12, 13, 14] tX0_cellOf) :: (24, 1, a_aload 2) :: (25, 1, a_iload 3) :: (26, 3, a_callv 2 1 [16, 17] tX2_at) :: (29, 3, a_icmp_eq 34) :: (32, 1, a_iconst 0) :: (33, 1, a_zret) :: []
def kX4_goesAsTold_6 : pProg := (6, 1, a_iconst 0) :: (7, 1, a_istore 3) :: (8, 0, a_fall 8) :: []
def kX4_goesAsTold_0 : pProg := (0, 1, a_aload 2) :: (1, 3, a_ifnonnull 6) :: []
set_option maxRecDepth 100000 in
theorem sX4_goesAsTold_48 (l : Launch) : AllS (pSnd l rmX4_goesAsTold yX4_goesAsTold.cls cX4_goesAsTold wsX4_goesAsTold 4 (some .boolean)) 48 kX4_goesAsTold_48 :=
  alls _ (s_iconst dX4_goesAsTold_48) <|
  alls _ (s_zret dX4_goesAsTold_49) <|
  alls_nil _
set_option maxRecDepth 100000 in
theorem sX4_goesAsTold_34 (l : Launch) : AllS (pSnd l rmX4_goesAsTold yX4_goesAsTold.cls cX4_goesAsTold wsX4_goesAsTold 4 (some .boolean)) 34 kX4_goesAsTold_34 :=
  alls _ (s_aload_n rfl dX4_goesAsTold_34) <|
  alls _ (s_getf (C := RX4) (T := TX4) (N := 3) rfl (in_c inX4) (by decide) (List.mem_cons_of_mem _ wd_118) rfl dX4_goesAsTold_35) <|
  alls _ (s_iconst dX4_goesAsTold_38) <|
  alls _ (s_callv (ct_X0_pass l) rfl rfl rfl (gdV wd_429 wd_294 wd_295 wd_61 wd_296) rfl rfl (by decide +kernel) ⟨Nat.le_of_ble_eq_true rfl, Nat.le_of_ble_eq_true rfl⟩ dX4_goesAsTold_39) <|
  alls _ (s_iinc dX4_goesAsTold_42) <|
  alls _ (s_goto (by decide) dX4_goesAsTold_45) <|
  alls_nil _
set_option maxRecDepth 100000 in
theorem sX4_goesAsTold_8 (l : Launch) : AllS (pSnd l rmX4_goesAsTold yX4_goesAsTold.cls cX4_goesAsTold wsX4_goesAsTold 4 (some .boolean)) 8 kX4_goesAsTold_8 :=
  alls _ (s_iload_n rfl dX4_goesAsTold_8) <|
  alls _ (s_aload_n rfl dX4_goesAsTold_9) <|
  alls _ (s_callv (ct_X2_size l) rfl rfl rfl (gdV wd_679 wd_192 wd_193 wd_63 wd_194) rfl rfl (by decide +kernel) ⟨Nat.le_of_ble_eq_true rfl, Nat.le_of_ble_eq_true rfl⟩ dX4_goesAsTold_10) <|
  alls _ (s_icmp_ge (by decide) dX4_goesAsTold_13) <|
  alls _ (s_aload_n rfl dX4_goesAsTold_16) <|
  alls _ (s_getf (C := RX4) (T := TX4) (N := 3) rfl (in_c inX4) (by decide) (List.mem_cons_of_mem _ wd_118) rfl dX4_goesAsTold_17) <|
  alls _ (s_iload_n rfl dX4_goesAsTold_20) <|
  alls _ (s_callv (ct_X0_cellOf l) rfl rfl rfl (gdV wd_430 wd_306 wd_307 wd_61 wd_308) rfl rfl (by decide +kernel) ⟨Nat.le_of_ble_eq_true rfl, Nat.le_of_ble_eq_true rfl⟩ dX4_goesAsTold_21) <|
  alls _ (s_aload_n rfl dX4_goesAsTold_24) <|
  alls _ (s_iload_n rfl dX4_goesAsTold_25) <|
  alls _ (s_callv (ct_X2_at l) rfl rfl rfl (gdV wd_680 wd_196 wd_197 wd_63 wd_198) rfl rfl (by decide +kernel) ⟨Nat.le_of_ble_eq_true rfl, Nat.le_of_ble_eq_true rfl⟩ dX4_goesAsTold_26) <|
  alls _ (s_icmp_eq (by decide) dX4_goesAsTold_29) <|
  alls _ (s_iconst dX4_goesAsTold_32) <|
  alls _ (s_zret dX4_goesAsTold_33) <|
  alls_nil _
set_option maxRecDepth 100000 in
theorem sX4_goesAsTold_6 (l : Launch) : AllS (pSnd l rmX4_goesAsTold yX4_goesAsTold.cls cX4_goesAsTold wsX4_goesAsTold 4 (some .boolean)) 6 kX4_goesAsTold_6 :=
  alls _ (s_iconst dX4_goesAsTold_6) <|
  alls _ (s_istore_n rfl dX4_goesAsTold_7) <|
  alls _ s_fall (alls_nil _)
set_option maxRecDepth 100000 in
theorem sX4_goesAsTold_0 (l : Launch) : AllS (pSnd l rmX4_goesAsTold yX4_goesAsTold.cls cX4_goesAsTold wsX4_goesAsTold 4 (some .boolean)) 0 kX4_goesAsTold_0 :=
  alls _ (s_aload_n rfl dX4_goesAsTold_0) <|
  alls _ (s_ifnonnull (by decide) dX4_goesAsTold_1) <|
  alls_nil _
def KX4_goesAsTold : List (Nat × pProg) := [(0, kX4_goesAsTold_0), (6, kX4_goesAsTold_6), (8, kX4_goesAsTold_8), (34, kX4_goesAsTold_34), (48, kX4_goesAsTold_48)]
theorem bX4_goesAsTold_0 : blkOf KX4_goesAsTold 0 = some kX4_goesAsTold_0 := rfl
theorem bX4_goesAsTold_6 : blkOf KX4_goesAsTold 6 = some kX4_goesAsTold_6 := rfl
theorem bX4_goesAsTold_8 : blkOf KX4_goesAsTold 8 = some kX4_goesAsTold_8 := rfl
theorem bX4_goesAsTold_34 : blkOf KX4_goesAsTold 34 = some kX4_goesAsTold_34 := rfl
theorem bX4_goesAsTold_48 : blkOf KX4_goesAsTold 48 = some kX4_goesAsTold_48 := rfl
def tX4_goesAsTold : pT := pM KX4_goesAsTold 4
theorem ct_X4_goesAsTold (l : Launch) : pCtr l yX4_goesAsTold wsX4_goesAsTold rmX4_goesAsTold 3 tX4_goesAsTold := ctr_of (by decide +kernel) rfl (List.forall_mem_cons.mpr ⟨sX4_goesAsTold_0 l, List.forall_mem_cons.mpr ⟨sX4_goesAsTold_6 l, List.forall_mem_cons.mpr ⟨sX4_goesAsTold_8 l, List.forall_mem_cons.mpr ⟨sX4_goesAsTold_34 l, List.forall_mem_cons.mpr ⟨sX4_goesAsTold_48 l, fun _ h => absurd h List.not_mem_nil⟩⟩⟩⟩⟩)
theorem dX4_figuresSo_0 : decode cX4_figuresSo 0 = .ok (.iconst 0, 1) := by decide +kernel
theorem dX4_figuresSo_1 : decode cX4_figuresSo 1 = .ok (.istore_n 3, 1) := by decide +kernel
theorem dX4_figuresSo_2 : decode cX4_figuresSo 2 = .ok (.iconst 0, 1) := by decide +kernel
theorem dX4_figuresSo_3 : decode cX4_figuresSo 3 = .ok (.istore 4, 2) := by decide +kernel
theorem dX4_figuresSo_5 : decode cX4_figuresSo 5 = .ok (.iload 4, 2) := by decide +kernel
theorem dX4_figuresSo_7 : decode cX4_figuresSo 7 = .ok (.bipush 9, 2) := by decide +kernel
theorem dX4_figuresSo_9 : decode cX4_figuresSo 9 = .ok (.if_icmp .gt 46, 3) := by decide +kernel
theorem dX4_figuresSo_12 : decode cX4_figuresSo 12 = .ok (.aload_n 0, 1) := by decide +kernel
theorem dX4_figuresSo_13 : decode cX4_figuresSo 13 = .ok (.iconst 0, 1) := by decide +kernel
theorem dX4_figuresSo_14 : decode cX4_figuresSo 14 = .ok (.invokevirtual 33, 3) := by decide +kernel
theorem dX4_figuresSo_17 : decode cX4_figuresSo 17 = .ok (.aload_n 0, 1) := by decide +kernel
theorem dX4_figuresSo_18 : decode cX4_figuresSo 18 = .ok (.getfield 12, 3) := by decide +kernel
theorem dX4_figuresSo_21 : decode cX4_figuresSo 21 = .ok (.iload_n 1, 1) := by decide +kernel
theorem dX4_figuresSo_22 : decode cX4_figuresSo 22 = .ok (.iload 4, 2) := by decide +kernel
theorem dX4_figuresSo_24 : decode cX4_figuresSo 24 = .ok (.invokevirtual 144, 3) := by decide +kernel
theorem dX4_figuresSo_27 : decode cX4_figuresSo 27 = .ok (.iload_n 3, 1) := by decide +kernel
theorem dX4_figuresSo_28 : decode cX4_figuresSo 28 = .ok (.aload_n 0, 1) := by decide +kernel
theorem dX4_figuresSo_29 : decode cX4_figuresSo 29 = .ok (.iload_n 1, 1) := by decide +kernel
theorem dX4_figuresSo_30 : decode cX4_figuresSo 30 = .ok (.iconst 2, 1) := by decide +kernel
theorem dX4_figuresSo_31 : decode cX4_figuresSo 31 = .ok (.idiv, 1) := by decide +kernel
theorem dX4_figuresSo_32 : decode cX4_figuresSo 32 = .ok (.aload_n 2, 1) := by decide +kernel
theorem dX4_figuresSo_33 : decode cX4_figuresSo 33 = .ok (.invokevirtual 140, 3) := by decide +kernel
theorem dX4_figuresSo_36 : decode cX4_figuresSo 36 = .ok (.ifCond .eq 10, 3) := by decide +kernel
theorem dX4_figuresSo_39 : decode cX4_figuresSo 39 = .ok (.iconst 1, 1) := by decide +kernel
theorem dX4_figuresSo_40 : decode cX4_figuresSo 40 = .ok (.iload 4, 2) := by decide +kernel
theorem dX4_figuresSo_42 : decode cX4_figuresSo 42 = .ok (.ishl, 1) := by decide +kernel
theorem dX4_figuresSo_43 : decode cX4_figuresSo 43 = .ok (.goto 4, 3) := by decide +kernel
theorem dX4_figuresSo_46 : decode cX4_figuresSo 46 = .ok (.iconst 0, 1) := by decide +kernel
theorem dX4_figuresSo_47 : decode cX4_figuresSo 47 = .ok (.ior, 1) := by decide +kernel
theorem dX4_figuresSo_48 : decode cX4_figuresSo 48 = .ok (.istore_n 3, 1) := by decide +kernel
theorem dX4_figuresSo_49 : decode cX4_figuresSo 49 = .ok (.iinc 4 1, 3) := by decide +kernel
theorem dX4_figuresSo_52 : decode cX4_figuresSo 52 = .ok (.goto (-47), 3) := by decide +kernel
theorem dX4_figuresSo_55 : decode cX4_figuresSo 55 = .ok (.iload_n 3, 1) := by decide +kernel
theorem dX4_figuresSo_56 : decode cX4_figuresSo 56 = .ok (.ireturn, 1) := by decide +kernel
def rmX4_figuresSo : Room := { frames := 5, cells := 0, slots := 0, locals := 117 }
abbrev wsX4_figuresSo : List Cond := .code yX4_figuresSo cX4_figuresSo 5 (some .int) :: gw_tbl
def kX4_figuresSo_55 : pProg := (55, 1, a_iload 3) :: (56, 1, a_iret) :: []
def kX4_figuresSo_47 : pProg := (47, 1, a_ior) :: (48, 1, a_istore 3) :: (49, 3, a_iinc 4 1) :: (52, 3, a_goto 5) :: []
def kX4_figuresSo_46 : pProg := (46, 1, a_iconst 0) :: (47, 0, a_fall 47) :: []
def kX4_figuresSo_5 : pProg := (5, 2, a_iload 4) :: (7, 2, a_iconst 9) :: (9, 3, a_icmp_gt 55) :: (12, 1, a_aload 0) :: (13, 1, a_iconst 0) :: (14, 3, a_callv 2 2 [0, 1, 2, 3, 4, 5, 6, 7, 8, 9, 10, 11, 12, 13, 14, 15] tX4_think) :: (17, 1, a_aload 0) :: (18, 3, a_getf 0 2 1) :: (21, 1, a_iload 1) :: (22, 2, a_iload 4) :: (24, 3, a_callv 3 0 [8, 9, 10, 11, 12, 13, 14] tX0_setFigure) :: (27, 1, a_iload 3) :: (28, 1, a_aload 0) :: (29, 1, a_iload 1) :: (30, 1, a_iconst 2) :: (31, 1, a_idiv) :: (32, 1, a_aload 2) :: (33, 3, a_callv 3 2 [0, 1, 2, 3, 4, 5, 6, 7, 8, 9, 10, 11, 12, 13, 14, 15, 16, 17] tX4_goesAsTold) :: (36, 3, a_if_eq 46) :: (39, 1, a_iconst 1) :: (40, 2, a_iload 4) :: (42, 1, a_ishl) :: (43, 3, a_goto 47) :: []
def kX4_figuresSo_0 : pProg := (0, 1, a_iconst 0) :: (1, 1, a_istore 3) :: (2, 1, a_iconst 0) :: (3, 2, a_istore 4) :: (5, 0, a_fall 5) :: []
set_option maxRecDepth 100000 in
theorem sX4_figuresSo_55 (l : Launch) : AllS (pSnd l rmX4_figuresSo yX4_figuresSo.cls cX4_figuresSo wsX4_figuresSo 5 (some .int)) 55 kX4_figuresSo_55 :=
  alls _ (s_iload_n rfl dX4_figuresSo_55) <|
  alls _ (s_iret dX4_figuresSo_56) <|
  alls_nil _
set_option maxRecDepth 100000 in
theorem sX4_figuresSo_47 (l : Launch) : AllS (pSnd l rmX4_figuresSo yX4_figuresSo.cls cX4_figuresSo wsX4_figuresSo 5 (some .int)) 47 kX4_figuresSo_47 :=
  alls _ (s_ior dX4_figuresSo_47) <|
  alls _ (s_istore_n rfl dX4_figuresSo_48) <|
  alls _ (s_iinc dX4_figuresSo_49) <|
  alls _ (s_goto (by decide) dX4_figuresSo_52) <|
  alls_nil _
set_option maxRecDepth 100000 in
theorem sX4_figuresSo_46 (l : Launch) : AllS (pSnd l rmX4_figuresSo yX4_figuresSo.cls cX4_figuresSo wsX4_figuresSo 5 (some .int)) 46 kX4_figuresSo_46 :=
  alls _ (s_iconst dX4_figuresSo_46) <|
  alls _ s_fall (alls_nil _)
set_option maxRecDepth 100000 in
theorem sX4_figuresSo_5 (l : Launch) : AllS (pSnd l rmX4_figuresSo yX4_figuresSo.cls cX4_figuresSo wsX4_figuresSo 5 (some .int)) 5 kX4_figuresSo_5 :=
  alls _ (s_iload dX4_figuresSo_5) <|
  alls _ (s_bipush (by decide) dX4_figuresSo_7) <|
  alls _ (s_icmp_gt (by decide) dX4_figuresSo_9) <|
  alls _ (s_aload_n rfl dX4_figuresSo_12) <|
  alls _ (s_iconst dX4_figuresSo_13) <|
  alls _ (s_callv (ct_X4_think l) rfl rfl rfl (gdV wd_418 wd_420 wd_1 wd_62 wd_421) rfl rfl (by decide +kernel) ⟨Nat.le_of_ble_eq_true rfl, Nat.le_of_ble_eq_true rfl⟩ dX4_figuresSo_14) <|
  alls _ (s_aload_n rfl dX4_figuresSo_17) <|
  alls _ (s_getf (C := RX4) (T := TX4) (N := 3) rfl (in_c inX4) (by decide) (List.mem_cons_of_mem _ wd_118) rfl dX4_figuresSo_18) <|
  alls _ (s_iload_n rfl dX4_figuresSo_21) <|
  alls _ (s_iload dX4_figuresSo_22) <|
  alls _ (s_callv (ct_X0_setFigure l) rfl rfl rfl (gdV wd_685 wd_252 wd_253 wd_61 wd_254) rfl rfl (by decide +kernel) ⟨Nat.le_of_ble_eq_true rfl, Nat.le_of_ble_eq_true rfl⟩ dX4_figuresSo_24) <|
  alls _ (s_iload_n rfl dX4_figuresSo_27) <|
  alls _ (s_aload_n rfl dX4_figuresSo_28) <|
  alls _ (s_iload_n rfl dX4_figuresSo_29) <|
  alls _ (s_iconst dX4_figuresSo_30) <|
  alls _ (s_idiv dX4_figuresSo_31) <|
  alls _ (s_aload_n rfl dX4_figuresSo_32) <|
  alls _ (s_callv (ct_X4_goesAsTold l) rfl rfl rfl (gdV wd_675 wd_677 wd_10 wd_62 wd_678) rfl rfl (by decide +kernel) ⟨Nat.le_of_ble_eq_true rfl, Nat.le_of_ble_eq_true rfl⟩ dX4_figuresSo_33) <|
  alls _ (s_if_eq (by decide) dX4_figuresSo_36) <|
  alls _ (s_iconst dX4_figuresSo_39) <|
  alls _ (s_iload dX4_figuresSo_40) <|
  alls _ (s_ishl dX4_figuresSo_42) <|
  alls _ (s_goto (by decide) dX4_figuresSo_43) <|
  alls_nil _
set_option maxRecDepth 100000 in
theorem sX4_figuresSo_0 (l : Launch) : AllS (pSnd l rmX4_figuresSo yX4_figuresSo.cls cX4_figuresSo wsX4_figuresSo 5 (some .int)) 0 kX4_figuresSo_0 :=
  alls _ (s_iconst dX4_figuresSo_0) <|
  alls _ (s_istore_n rfl dX4_figuresSo_1) <|
  alls _ (s_iconst dX4_figuresSo_2) <|
  alls _ (s_istore dX4_figuresSo_3) <|
  alls _ s_fall (alls_nil _)
def KX4_figuresSo : List (Nat × pProg) := [(0, kX4_figuresSo_0), (5, kX4_figuresSo_5), (46, kX4_figuresSo_46), (47, kX4_figuresSo_47), (55, kX4_figuresSo_55)]
theorem bX4_figuresSo_0 : blkOf KX4_figuresSo 0 = some kX4_figuresSo_0 := rfl
theorem bX4_figuresSo_5 : blkOf KX4_figuresSo 5 = some kX4_figuresSo_5 := rfl
theorem bX4_figuresSo_46 : blkOf KX4_figuresSo 46 = some kX4_figuresSo_46 := rfl
theorem bX4_figuresSo_47 : blkOf KX4_figuresSo 47 = some kX4_figuresSo_47 := rfl
theorem bX4_figuresSo_55 : blkOf KX4_figuresSo 55 = some kX4_figuresSo_55 := rfl
def tX4_figuresSo : pT := pM KX4_figuresSo 5
theorem ct_X4_figuresSo (l : Launch) : pCtr l yX4_figuresSo wsX4_figuresSo rmX4_figuresSo 3 tX4_figuresSo := ctr_of (by decide +kernel) rfl (List.forall_mem_cons.mpr ⟨sX4_figuresSo_0 l, List.forall_mem_cons.mpr ⟨sX4_figuresSo_5 l, List.forall_mem_cons.mpr ⟨sX4_figuresSo_46 l, List.forall_mem_cons.mpr ⟨sX4_figuresSo_47 l, List.forall_mem_cons.mpr ⟨sX4_figuresSo_55 l, fun _ h => absurd h List.not_mem_nil⟩⟩⟩⟩⟩)
theorem dX4_kindsSo_0 : decode cX4_kindsSo 0 = .ok (.iconst 0, 1) := by decide +kernel
theorem dX4_kindsSo_1 : decode cX4_kindsSo 1 = .ok (.istore_n 3, 1) := by decide +kernel
theorem dX4_kindsSo_2 : decode cX4_kindsSo 2 = .ok (.iconst 0, 1) := by decide +kernel
theorem dX4_kindsSo_3 : decode cX4_kindsSo 3 = .ok (.istore 4, 2) := by decide +kernel
theorem dX4_kindsSo_5 : decode cX4_kindsSo 5 = .ok (.iload 4, 2) := by decide +kernel
theorem dX4_kindsSo_7 : decode cX4_kindsSo 7 = .ok (.bipush 6, 2) := by decide +kernel
theorem dX4_kindsSo_9 : decode cX4_kindsSo 9 = .ok (.if_icmp .ge 46, 3) := by decide +kernel
theorem dX4_kindsSo_12 : decode cX4_kindsSo 12 = .ok (.aload_n 0, 1) := by decide +kernel
theorem dX4_kindsSo_13 : decode cX4_kindsSo 13 = .ok (.iconst 0, 1) := by decide +kernel
theorem dX4_kindsSo_14 : decode cX4_kindsSo 14 = .ok (.invokevirtual 33, 3) := by decide +kernel
theorem dX4_kindsSo_17 : decode cX4_kindsSo 17 = .ok (.aload_n 0, 1) := by decide +kernel
theorem dX4_kindsSo_18 : decode cX4_kindsSo 18 = .ok (.getfield 12, 3) := by decide +kernel
theorem dX4_kindsSo_21 : decode cX4_kindsSo 21 = .ok (.iload_n 1, 1) := by decide +kernel
theorem dX4_kindsSo_22 : decode cX4_kindsSo 22 = .ok (.iload 4, 2) := by decide +kernel
theorem dX4_kindsSo_24 : decode cX4_kindsSo 24 = .ok (.invokevirtual 87, 3) := by decide +kernel
theorem dX4_kindsSo_27 : decode cX4_kindsSo 27 = .ok (.iload_n 3, 1) := by decide +kernel
theorem dX4_kindsSo_28 : decode cX4_kindsSo 28 = .ok (.aload_n 0, 1) := by decide +kernel
theorem dX4_kindsSo_29 : decode cX4_kindsSo 29 = .ok (.iload_n 1, 1) := by decide +kernel
theorem dX4_kindsSo_30 : decode cX4_kindsSo 30 = .ok (.iconst 2, 1) := by decide +kernel
theorem dX4_kindsSo_31 : decode cX4_kindsSo 31 = .ok (.idiv, 1) := by decide +kernel
theorem dX4_kindsSo_32 : decode cX4_kindsSo 32 = .ok (.aload_n 2, 1) := by decide +kernel
theorem dX4_kindsSo_33 : decode cX4_kindsSo 33 = .ok (.invokevirtual 140, 3) := by decide +kernel
theorem dX4_kindsSo_36 : decode cX4_kindsSo 36 = .ok (.ifCond .eq 10, 3) := by decide +kernel
theorem dX4_kindsSo_39 : decode cX4_kindsSo 39 = .ok (.iconst 1, 1) := by decide +kernel
theorem dX4_kindsSo_40 : decode cX4_kindsSo 40 = .ok (.iload 4, 2) := by decide +kernel
theorem dX4_kindsSo_42 : decode cX4_kindsSo 42 = .ok (.ishl, 1) := by decide +kernel
theorem dX4_kindsSo_43 : decode cX4_kindsSo 43 = .ok (.goto 4, 3) := by decide +kernel
theorem dX4_kindsSo_46 : decode cX4_kindsSo 46 = .ok (.iconst 0, 1) := by decide +kernel
theorem dX4_kindsSo_47 : decode cX4_kindsSo 47 = .ok (.ior, 1) := by decide +kernel
theorem dX4_kindsSo_48 : decode cX4_kindsSo 48 = .ok (.istore_n 3, 1) := by decide +kernel
theorem dX4_kindsSo_49 : decode cX4_kindsSo 49 = .ok (.iinc 4 1, 3) := by decide +kernel
theorem dX4_kindsSo_52 : decode cX4_kindsSo 52 = .ok (.goto (-47), 3) := by decide +kernel
theorem dX4_kindsSo_55 : decode cX4_kindsSo 55 = .ok (.iload_n 3, 1) := by decide +kernel
theorem dX4_kindsSo_56 : decode cX4_kindsSo 56 = .ok (.ireturn, 1) := by decide +kernel
def rmX4_kindsSo : Room := { frames := 5, cells := 0, slots := 0, locals := 117 }
abbrev wsX4_kindsSo : List Cond := .code yX4_kindsSo cX4_kindsSo 5 (some .int) :: gw_tbl
def kX4_kindsSo_55 : pProg := (55, 1, a_iload 3) :: (56, 1, a_iret) :: []
def kX4_kindsSo_47 : pProg := (47, 1, a_ior) :: (48, 1, a_istore 3) :: (49, 3, a_iinc 4 1) :: (52, 3, a_goto 5) :: []
def kX4_kindsSo_46 : pProg := (46, 1, a_iconst 0) :: (47, 0, a_fall 47) :: []
def kX4_kindsSo_5 : pProg := (5, 2, a_iload 4) :: (7, 2, a_iconst 6) :: (9, 3, a_icmp_ge 55) :: (12, 1, a_aload 0) :: (13, 1, a_iconst 0) :: (14, 3, a_callv 2 2 [0, 1, 2, 3, 4, 5, 6, 7, 8, 9, 10, 11, 12, 13, 14, 15] tX4_think) :: (17, 1, a_aload 0) :: (18, 3, a_getf 0 2 1) :: (21, 1, a_iload 1) :: (22, 2, a_iload 4) :: (24, 3, a_callv 3 0 [8, 9, 10, 11, 12, 13, 14] tX0_setKind) :: (27, 1, a_iload 3) :: (28, 1, a_aload 0) :: (29, 1, a_iload 1) :: (30, 1, a_iconst 2) :: (31, 1, a_idiv) :: (32, 1, a_aload 2) :: (33, 3, a_callv 3 2 [0, 1, 2, 3, 4, 5, 6, 7, 8, 9, 10, 11, 12, 13, 14, 15, 16, 17] tX4_goesAsTold) :: (36, 3, a_if_eq 46) :: (39, 1, a_iconst 1) :: (40, 2, a_iload 4) :: (42, 1, a_ishl) :: (43, 3, a_goto 47) :: []
def kX4_kindsSo_0 : pProg := (0, 1, a_iconst 0) :: (1, 1, a_istore 3) :: (2, 1, a_iconst 0) :: (3, 2, a_istore 4) :: (5, 0, a_fall 5) :: []
set_option maxRecDepth 100000 in
theorem sX4_kindsSo_55 (l : Launch) : AllS (pSnd l rmX4_kindsSo yX4_kindsSo.cls cX4_kindsSo wsX4_kindsSo 5 (some .int)) 55 kX4_kindsSo_55 :=
  alls _ (s_iload_n rfl dX4_kindsSo_55) <|
  alls _ (s_iret dX4_kindsSo_56) <|
  alls_nil _
set_option maxRecDepth 100000 in
theorem sX4_kindsSo_47 (l : Launch) : AllS (pSnd l rmX4_kindsSo yX4_kindsSo.cls cX4_kindsSo wsX4_kindsSo 5 (some .int)) 47 kX4_kindsSo_47 :=
  alls _ (s_ior dX4_kindsSo_47) <|
  alls _ (s_istore_n rfl dX4_kindsSo_48) <|
  alls _ (s_iinc dX4_kindsSo_49) <|
  alls _ (s_goto (by decide) dX4_kindsSo_52) <|
  alls_nil _
set_option maxRecDepth 100000 in
theorem sX4_kindsSo_46 (l : Launch) : AllS (pSnd l rmX4_kindsSo yX4_kindsSo.cls cX4_kindsSo wsX4_kindsSo 5 (some .int)) 46 kX4_kindsSo_46 :=
  alls _ (s_iconst dX4_kindsSo_46) <|
  alls _ s_fall (alls_nil _)
set_option maxRecDepth 100000 in
theorem sX4_kindsSo_5 (l : Launch) : AllS (pSnd l rmX4_kindsSo yX4_kindsSo.cls cX4_kindsSo wsX4_kindsSo 5 (some .int)) 5 kX4_kindsSo_5 :=
  alls _ (s_iload dX4_kindsSo_5) <|
  alls _ (s_bipush (by decide) dX4_kindsSo_7) <|
  alls _ (s_icmp_ge (by decide) dX4_kindsSo_9) <|
  alls _ (s_aload_n rfl dX4_kindsSo_12) <|
  alls _ (s_iconst dX4_kindsSo_13) <|
  alls _ (s_callv (ct_X4_think l) rfl rfl rfl (gdV wd_418 wd_420 wd_1 wd_62 wd_421) rfl rfl (by decide +kernel) ⟨Nat.le_of_ble_eq_true rfl, Nat.le_of_ble_eq_true rfl⟩ dX4_kindsSo_14) <|
  alls _ (s_aload_n rfl dX4_kindsSo_17) <|
  alls _ (s_getf (C := RX4) (T := TX4) (N := 3) rfl (in_c inX4) (by decide) (List.mem_cons_of_mem _ wd_118) rfl dX4_kindsSo_18) <|
  alls _ (s_iload_n rfl dX4_kindsSo_21) <|
  alls _ (s_iload dX4_kindsSo_22) <|
  alls _ (s_callv (ct_X0_setKind l) rfl rfl rfl (gdV wd_540 wd_248 wd_249 wd_61 wd_250) rfl rfl (by decide +kernel) ⟨Nat.le_of_ble_eq_true rfl, Nat.le_of_ble_eq_true rfl⟩ dX4_kindsSo_24) <|
  alls _ (s_iload_n rfl dX4_kindsSo_27) <|
  alls _ (s_aload_n rfl dX4_kindsSo_28) <|
  alls _ (s_iload_n rfl dX4_kindsSo_29) <|
  alls _ (s_iconst dX4_kindsSo_30) <|
  alls _ (s_idiv dX4_kindsSo_31) <|
  alls _ (s_aload_n rfl dX4_kindsSo_32) <|
  alls _ (s_callv (ct_X4_goesAsTold l) rfl rfl rfl (gdV wd_675 wd_677 wd_10 wd_62 wd_678) rfl rfl (by decide +kernel) ⟨Nat.le_of_ble_eq_true rfl, Nat.le_of_ble_eq_true rfl⟩ dX4_kindsSo_33) <|
  alls _ (s_if_eq (by decide) dX4_kindsSo_36) <|
  alls _ (s_iconst dX4_kindsSo_39) <|
  alls _ (s_iload dX4_kindsSo_40) <|
  alls _ (s_ishl dX4_kindsSo_42) <|
  alls _ (s_goto (by decide) dX4_kindsSo_43) <|
  alls_nil _
set_option maxRecDepth 100000 in
theorem sX4_kindsSo_0 (l : Launch) : AllS (pSnd l rmX4_kindsSo yX4_kindsSo.cls cX4_kindsSo wsX4_kindsSo 5 (some .int)) 0 kX4_kindsSo_0 :=
  alls _ (s_iconst dX4_kindsSo_0) <|
  alls _ (s_istore_n rfl dX4_kindsSo_1) <|
  alls _ (s_iconst dX4_kindsSo_2) <|
  alls _ (s_istore dX4_kindsSo_3) <|
  alls _ s_fall (alls_nil _)
def KX4_kindsSo : List (Nat × pProg) := [(0, kX4_kindsSo_0), (5, kX4_kindsSo_5), (46, kX4_kindsSo_46), (47, kX4_kindsSo_47), (55, kX4_kindsSo_55)]
theorem bX4_kindsSo_0 : blkOf KX4_kindsSo 0 = some kX4_kindsSo_0 := rfl
theorem bX4_kindsSo_5 : blkOf KX4_kindsSo 5 = some kX4_kindsSo_5 := rfl
theorem bX4_kindsSo_46 : blkOf KX4_kindsSo 46 = some kX4_kindsSo_46 := rfl
theorem bX4_kindsSo_47 : blkOf KX4_kindsSo 47 = some kX4_kindsSo_47 := rfl
theorem bX4_kindsSo_55 : blkOf KX4_kindsSo 55 = some kX4_kindsSo_55 := rfl
def tX4_kindsSo : pT := pM KX4_kindsSo 5
theorem ct_X4_kindsSo (l : Launch) : pCtr l yX4_kindsSo wsX4_kindsSo rmX4_kindsSo 3 tX4_kindsSo := ctr_of (by decide +kernel) rfl (List.forall_mem_cons.mpr ⟨sX4_kindsSo_0 l, List.forall_mem_cons.mpr ⟨sX4_kindsSo_5 l, List.forall_mem_cons.mpr ⟨sX4_kindsSo_46 l, List.forall_mem_cons.mpr ⟨sX4_kindsSo_47 l, List.forall_mem_cons.mpr ⟨sX4_kindsSo_55 l, fun _ h => absurd h List.not_mem_nil⟩⟩⟩⟩⟩)
theorem dX4_nextSeed_0 : decode cX4_nextSeed 0 = .ok (.iload_n 0, 1) := by decide +kernel
theorem dX4_nextSeed_1 : decode cX4_nextSeed 1 = .ok (.ldc 164, 2) := by decide +kernel
theorem dX4_nextSeed_3 : decode cX4_nextSeed 3 = .ok (.imul, 1) := by decide +kernel
theorem dX4_nextSeed_4 : decode cX4_nextSeed 4 = .ok (.ldc 165, 2) := by decide +kernel
theorem dX4_nextSeed_6 : decode cX4_nextSeed 6 = .ok (.iadd, 1) := by decide +kernel
theorem dX4_nextSeed_7 : decode cX4_nextSeed 7 = .ok (.ireturn, 1) := by decide +kernel
def rmX4_nextSeed : Room := { frames := 0, cells := 0, slots := 0, locals := 0 }
abbrev wsX4_nextSeed : List Cond := .code yX4_nextSeed cX4_nextSeed 1 (some .int) :: gw_tbl
def kX4_nextSeed_0 : pProg := (0, 1, a_iload 0) :: (1, 2, a_iconst 1664525) :: (3, 1, a_imul) :: (4, 2, a_iconst 1013904223) :: (6, 1, a_iadd) :: (7, 1, a_iret) :: []
set_option maxRecDepth 100000 in
theorem sX4_nextSeed_0 (l : Launch) : AllS (pSnd l rmX4_nextSeed yX4_nextSeed.cls cX4_nextSeed wsX4_nextSeed 1 (some .int)) 0 kX4_nextSeed_0 :=
  alls _ (s_iload_n rfl dX4_nextSeed_0) <|
  alls _ (s_ldc (List.mem_cons_of_mem _ wd_716) dX4_nextSeed_1) <|
  alls _ (s_imul dX4_nextSeed_3) <|
  alls _ (s_ldc (List.mem_cons_of_mem _ wd_717) dX4_nextSeed_4) <|
  alls _ (s_iadd dX4_nextSeed_6) <|
  alls _ (s_iret dX4_nextSeed_7) <|
  alls_nil _
def KX4_nextSeed : List (Nat × pProg) := [(0, kX4_nextSeed_0)]
theorem bX4_nextSeed_0 : blkOf KX4_nextSeed 0 = some kX4_nextSeed_0 := rfl
def tX4_nextSeed : pT := pM KX4_nextSeed 1
theorem ct_X4_nextSeed (l : Launch) : pCtr l yX4_nextSeed wsX4_nextSeed rmX4_nextSeed 1 tX4_nextSeed := ctr_of (by decide +kernel) rfl (List.forall_mem_cons.mpr ⟨sX4_nextSeed_0 l, fun _ h => absurd h List.not_mem_nil⟩)
theorem dX4_drawOf_0 : decode cX4_drawOf 0 = .ok (.iload_n 1, 1) := by decide +kernel
theorem dX4_drawOf_1 : decode cX4_drawOf 1 = .ok (.ifCond .le 16, 3) := by decide +kernel
theorem dX4_drawOf_4 : decode cX4_drawOf 4 = .ok (.iload_n 0, 1) := by decide +kernel
theorem dX4_drawOf_5 : decode cX4_drawOf 5 = .ok (.ldc 166, 2) := by decide +kernel
theorem dX4_drawOf_7 : decode cX4_drawOf 7 = .ok (.iand, 1) := by decide +kernel
theorem dX4_drawOf_8 : decode cX4_drawOf 8 = .ok (.sipush 256, 3) := by decide +kernel
theorem dX4_drawOf_11 : decode cX4_drawOf 11 = .ok (.idiv, 1) := by decide +kernel
theorem dX4_drawOf_12 : decode cX4_drawOf 12 = .ok (.iload_n 1, 1) := by decide +kernel
theorem dX4_drawOf_13 : decode cX4_drawOf 13 = .ok (.irem, 1) := by decide +kernel
theorem dX4_drawOf_14 : decode cX4_drawOf 14 = .ok (.goto 4, 3) := by decide +kernel
theorem dX4_drawOf_17 : decode cX4_drawOf 17 = .ok (.iconst 0, 1) := by decide +kernel
theorem dX4_drawOf_18 : decode cX4_drawOf 18 = .ok (.ireturn, 1) := by decide +kernel
def rmX4_drawOf : Room := { frames := 0, cells := 0, slots := 0, locals := 0 }
abbrev wsX4_drawOf : List Cond := .code yX4_drawOf cX4_drawOf 2 (some .int) :: gw_tbl
def kX4_drawOf_18 : pProg := (18, 1, a_iret) :: []
def kX4_drawOf_17 : pProg := (17, 1, a_iconst 0) :: (18, 0, a_fall 18) :: []
def kX4_drawOf_0 : pProg := (0, 1, a_iload 1) :: (1, 3, a_if_le 17) :: (4, 1, a_iload 0) :: (5, 2, a_iconst 2147483647) :: (7, 1, a_iand) :: (8, 3, a_iconst 256) :: (11, 1, a_idiv) :: (12, 1, a_iload 1) :: (13, 1, a_irem) :: (14, 3, a_goto 18) :: []
set_option maxRecDepth 100000 in
theorem sX4_drawOf_18 (l : Launch) : AllS (pSnd l rmX4_drawOf yX4_drawOf.cls cX4_drawOf wsX4_drawOf 2 (some .int)) 18 kX4_drawOf_18 :=
  alls _ (s_iret dX4_drawOf_18) <|
  alls_nil _
set_option maxRecDepth 100000 in
theorem sX4_drawOf_17 (l : Launch) : AllS (pSnd l rmX4_drawOf yX4_drawOf.cls cX4_drawOf wsX4_drawOf 2 (some .int)) 17 kX4_drawOf_17 :=
  alls _ (s_iconst dX4_drawOf_17) <|
  alls _ s_fall (alls_nil _)
set_option maxRecDepth 100000 in
theorem sX4_drawOf_0 (l : Launch) : AllS (pSnd l rmX4_drawOf yX4_drawOf.cls cX4_drawOf wsX4_drawOf 2 (some .int)) 0 kX4_drawOf_0 :=
  alls _ (s_iload_n rfl dX4_drawOf_0) <|
  alls _ (s_if_le (by decide) dX4_drawOf_1) <|
  alls _ (s_iload_n rfl dX4_drawOf_4) <|
  alls _ (s_ldc (List.mem_cons_of_mem _ wd_721) dX4_drawOf_5) <|
  alls _ (s_iand dX4_drawOf_7) <|
  alls _ (s_sipush (by decide) dX4_drawOf_8) <|
  alls _ (s_idiv dX4_drawOf_11) <|
  alls _ (s_iload_n rfl dX4_drawOf_12) <|
  alls _ (s_irem dX4_drawOf_13) <|
  alls _ (s_goto (by decide) dX4_drawOf_14) <|
  alls_nil _
def KX4_drawOf : List (Nat × pProg) := [(0, kX4_drawOf_0), (17, kX4_drawOf_17), (18, kX4_drawOf_18)]
theorem bX4_drawOf_0 : blkOf KX4_drawOf 0 = some kX4_drawOf_0 := rfl
theorem bX4_drawOf_17 : blkOf KX4_drawOf 17 = some kX4_drawOf_17 := rfl
theorem bX4_drawOf_18 : blkOf KX4_drawOf 18 = some kX4_drawOf_18 := rfl
def tX4_drawOf : pT := pM KX4_drawOf 2
theorem ct_X4_drawOf (l : Launch) : pCtr l yX4_drawOf wsX4_drawOf rmX4_drawOf 2 tX4_drawOf := ctr_of (by decide +kernel) rfl (List.forall_mem_cons.mpr ⟨sX4_drawOf_0 l, List.forall_mem_cons.mpr ⟨sX4_drawOf_17 l, List.forall_mem_cons.mpr ⟨sX4_drawOf_18 l, fun _ h => absurd h List.not_mem_nil⟩⟩⟩)
theorem dX4_shiftsByLot_0 : decode cX4_shiftsByLot 0 = .ok (.iload_n 2, 1) := by decide +kernel
theorem dX4_shiftsByLot_1 : decode cX4_shiftsByLot 1 = .ok (.istore 4, 2) := by decide +kernel
theorem dX4_shiftsByLot_3 : decode cX4_shiftsByLot 3 = .ok (.iconst 0, 1) := by decide +kernel
theorem dX4_shiftsByLot_4 : decode cX4_shiftsByLot 4 = .ok (.istore 5, 2) := by decide +kernel
theorem dX4_shiftsByLot_6 : decode cX4_shiftsByLot 6 = .ok (.iconst 0, 1) := by decide +kernel
theorem dX4_shiftsByLot_7 : decode cX4_shiftsByLot 7 = .ok (.istore 6, 2) := by decide +kernel
theorem dX4_shiftsByLot_9 : decode cX4_shiftsByLot 9 = .ok (.iconst 0, 1) := by decide +kernel
theorem dX4_shiftsByLot_10 : decode cX4_shiftsByLot 10 = .ok (.istore 7, 2) := by decide +kernel
theorem dX4_shiftsByLot_12 : decode cX4_shiftsByLot 12 = .ok (.iload 7, 2) := by decide +kernel
theorem dX4_shiftsByLot_14 : decode cX4_shiftsByLot 14 = .ok (.iload_n 1, 1) := by decide +kernel
theorem dX4_shiftsByLot_15 : decode cX4_shiftsByLot 15 = .ok (.if_icmp .ge 125, 3) := by decide +kernel
theorem dX4_shiftsByLot_18 : decode cX4_shiftsByLot 18 = .ok (.aload_n 0, 1) := by decide +kernel
theorem dX4_shiftsByLot_19 : decode cX4_shiftsByLot 19 = .ok (.iconst 0, 1) := by decide +kernel
theorem dX4_shiftsByLot_20 : decode cX4_shiftsByLot 20 = .ok (.invokevirtual 33, 3) := by decide +kernel
theorem dX4_shiftsByLot_23 : decode cX4_shiftsByLot 23 = .ok (.iconst 0, 1) := by decide +kernel
theorem dX4_shiftsByLot_24 : decode cX4_shiftsByLot 24 = .ok (.istore 8, 2) := by decide +kernel
theorem dX4_shiftsByLot_26 : decode cX4_shiftsByLot 26 = .ok (.iload 8, 2) := by decide +kernel
theorem dX4_shiftsByLot_28 : decode cX4_shiftsByLot 28 = .ok (.aload_n 0, 1) := by decide +kernel
theorem dX4_shiftsByLot_29 : decode cX4_shiftsByLot 29 = .ok (.getfield 12, 3) := by decide +kernel
theorem dX4_shiftsByLot_32 : decode cX4_shiftsByLot 32 = .ok (.invokevirtual 64, 3) := by decide +kernel
theorem dX4_shiftsByLot_35 : decode cX4_shiftsByLot 35 = .ok (.if_icmp .ge 55, 3) := by decide +kernel
theorem dX4_shiftsByLot_38 : decode cX4_shiftsByLot 38 = .ok (.iload 4, 2) := by decide +kernel
theorem dX4_shiftsByLot_40 : decode cX4_shiftsByLot 40 = .ok (.invokestatic 155, 3) := by decide +kernel
theorem dX4_shiftsByLot_43 : decode cX4_shiftsByLot 43 = .ok (.istore 4, 2) := by decide +kernel
theorem dX4_shiftsByLot_45 : decode cX4_shiftsByLot 45 = .ok (.aload_n 0, 1) := by decide +kernel
theorem dX4_shiftsByLot_46 : decode cX4_shiftsByLot 46 = .ok (.getfield 12, 3) := by decide +kernel
theorem dX4_shiftsByLot_49 : decode cX4_shiftsByLot 49 = .ok (.iload 8, 2) := by decide +kernel
theorem dX4_shiftsByLot_51 : decode cX4_shiftsByLot 51 = .ok (.iload 4, 2) := by decide +kernel
theorem dX4_shiftsByLot_53 : decode cX4_shiftsByLot 53 = .ok (.bipush 20, 2) := by decide +kernel
theorem dX4_shiftsByLot_55 : decode cX4_shiftsByLot 55 = .ok (.invokestatic 158, 3) := by decide +kernel
theorem dX4_shiftsByLot_58 : decode cX4_shiftsByLot 58 = .ok (.invokevirtual 90, 3) := by decide +kernel
theorem dX4_shiftsByLot_61 : decode cX4_shiftsByLot 61 = .ok (.iload 4, 2) := by decide +kernel
theorem dX4_shiftsByLot_63 : decode cX4_shiftsByLot 63 = .ok (.invokestatic 155, 3) := by decide +kernel
theorem dX4_shiftsByLot_66 : decode cX4_shiftsByLot 66 = .ok (.istore 4, 2) := by decide +kernel
theorem dX4_shiftsByLot_68 : decode cX4_shiftsByLot 68 = .ok (.aload_n 0, 1) := by decide +kernel
theorem dX4_shiftsByLot_69 : decode cX4_shiftsByLot 69 = .ok (.getfield 12, 3) := by decide +kernel
theorem dX4_shiftsByLot_72 : decode cX4_shiftsByLot 72 = .ok (.iload 8, 2) := by decide +kernel
theorem dX4_shiftsByLot_74 : decode cX4_shiftsByLot 74 = .ok (.iload 4, 2) := by decide +kernel
theorem dX4_shiftsByLot_76 : decode cX4_shiftsByLot 76 = .ok (.bipush 12, 2) := by decide +kernel
theorem dX4_shiftsByLot_78 : decode cX4_shiftsByLot 78 = .ok (.invokestatic 158, 3) := by decide +kernel
theorem dX4_shiftsByLot_81 : decode cX4_shiftsByLot 81 = .ok (.invokevirtual 71, 3) := by decide +kernel
theorem dX4_shiftsByLot_84 : decode cX4_shiftsByLot 84 = .ok (.iinc 8 1, 3) := by decide +kernel
theorem dX4_shiftsByLot_87 : decode cX4_shiftsByLot 87 = .ok (.goto (-61), 3) := by decide +kernel
theorem dX4_shiftsByLot_90 : decode cX4_shiftsByLot 90 = .ok (.aload_n 0, 1) := by decide +kernel
theorem dX4_shiftsByLot_91 : decode cX4_shiftsByLot 91 = .ok (.getfield 12, 3) := by decide +kernel
theorem dX4_shiftsByLot_94 : decode cX4_shiftsByLot 94 = .ok (.bipush 10, 2) := by decide +kernel
theorem dX4_shiftsByLot_96 : decode cX4_shiftsByLot 96 = .ok (.invokevirtual 29, 3) := by decide +kernel
theorem dX4_shiftsByLot_99 : decode cX4_shiftsByLot 99 = .ok (.iload 5, 2) := by decide +kernel
theorem dX4_shiftsByLot_101 : decode cX4_shiftsByLot 101 = .ok (.aload_n 0, 1) := by decide +kernel
theorem dX4_shiftsByLot_102 : decode cX4_shiftsByLot 102 = .ok (.getfield 12, 3) := by decide +kernel
theorem dX4_shiftsByLot_105 : decode cX4_shiftsByLot 105 = .ok (.invokevirtual 161, 3) := by decide +kernel
theorem dX4_shiftsByLot_108 : decode cX4_shiftsByLot 108 = .ok (.invokestatic 131, 3) := by decide +kernel
theorem dX4_shiftsByLot_111 : decode cX4_shiftsByLot 111 = .ok (.iadd, 1) := by decide +kernel
theorem dX4_shiftsByLot_112 : decode cX4_shiftsByLot 112 = .ok (.istore 5, 2) := by decide +kernel
theorem dX4_shiftsByLot_114 : decode cX4_shiftsByLot 114 = .ok (.iload 6, 2) := by decide +kernel
theorem dX4_shiftsByLot_116 : decode cX4_shiftsByLot 116 = .ok (.aload_n 0, 1) := by decide +kernel
theorem dX4_shiftsByLot_117 : decode cX4_shiftsByLot 117 = .ok (.getfield 12, 3) := by decide +kernel
theorem dX4_shiftsByLot_120 : decode cX4_shiftsByLot 120 = .ok (.invokevirtual 46, 3) := by decide +kernel
theorem dX4_shiftsByLot_123 : decode cX4_shiftsByLot 123 = .ok (.aload_n 0, 1) := by decide +kernel
theorem dX4_shiftsByLot_124 : decode cX4_shiftsByLot 124 = .ok (.getfield 22, 3) := by decide +kernel
theorem dX4_shiftsByLot_127 : decode cX4_shiftsByLot 127 = .ok (.invokevirtual 46, 3) := by decide +kernel
theorem dX4_shiftsByLot_130 : decode cX4_shiftsByLot 130 = .ok (.isub, 1) := by decide +kernel
theorem dX4_shiftsByLot_131 : decode cX4_shiftsByLot 131 = .ok (.iadd, 1) := by decide +kernel
theorem dX4_shiftsByLot_132 : decode cX4_shiftsByLot 132 = .ok (.istore 6, 2) := by decide +kernel
theorem dX4_shiftsByLot_134 : decode cX4_shiftsByLot 134 = .ok (.iinc 7 1, 3) := by decide +kernel
theorem dX4_shiftsByLot_137 : decode cX4_shiftsByLot 137 = .ok (.goto (-125), 3) := by decide +kernel
theorem dX4_shiftsByLot_140 : decode cX4_shiftsByLot 140 = .ok (.iload_n 3, 1) := by decide +kernel
theorem dX4_shiftsByLot_141 : decode cX4_shiftsByLot 141 = .ok (.ifCond .ne 8, 3) := by decide +kernel
theorem dX4_shiftsByLot_144 : decode cX4_shiftsByLot 144 = .ok (.iload 5, 2) := by decide +kernel
theorem dX4_shiftsByLot_146 : decode cX4_shiftsByLot 146 = .ok (.goto 5, 3) := by decide +kernel
theorem dX4_shiftsByLot_149 : decode cX4_shiftsByLot 149 = .ok (.iload 6, 2) := by decide +kernel
theorem dX4_shiftsByLot_151 : decode cX4_shiftsByLot 151 = .ok (.ireturn, 1) := by decide +kernel
def rmX4_shiftsByLot : Room := { frames := 5, cells := 0, slots := 0, locals := 115 }
abbrev wsX4_shiftsByLot : List Cond := .code yX4_shiftsByLot cX4_shiftsByLot 9 (some .int) :: gw_tbl
def kX4_shiftsByLot_151 : pProg := (151, 1, a_iret) :: []
def kX4_shiftsByLot_149 : pProg := (149, 2, a_iload 6) :: (151, 0, a_fall 151) :: []
def kX4_shiftsByLot_140 : pProg := (140, 1, a_iload 3) :: (141, 3, a_if_ne 149) :: (144, 2, a_iload 5) :: (146, 3, a_goto 151) :: []
def kX4_shiftsByLot_90 : pProg := (90, 1, a_aload 0) :: (91, 3, a_getf 0 2 1) :: (94, 2, a_iconst 10) :: (96, 3, a_callv 2 0 [8, 9, 10, 11, 12, 13, 14] tX0_pass) :: (99, 2, a_iload 5) :: (101, 1, a_aload 0) :: (102, 3, a_getf 0 2 1) :: (105, 3, a_callv 1 0 [8, 9, 10, 11, 12, 13, 14] tX0_facedBits) :: (108, 3, a_calls 1 [] tJ6_bitCount_0f7a4) :: (111, 1, a_iadd) :: (112, 2, a_istore 5) :: (114, 2, a_iload 6) :: (116, 1, a_aload 0) :: (117, 3, a_getf 0 2 1) :: (120, 3, a_callv 1 0 [8, 9, 10, 11, 12, 13, 14] tX0_allBruises) :: (123, 1, a_aload 0) :: (124, 3, a_getf 0 2 0) :: (127, 3, a_callv 1 0 [1, 2, 3, 4, 5, 6, 7] tX0_allBruises) :: (130, 1, a_isub) :: (131, 1, a_iadd) :: (132, 2, a_istore 6) :: (134, 3, a_iinc 7 1) :: (137, 3, a_goto 12) :: []
def kX4_shiftsByLot_26 : pProg := (26, 2, a_iload 8) :: (28, 1, a_aload 0) :: (29, 3, a_getf 0 2 1) :: (32, 3, a_callv 1 0 [8, 9, 10, 11, 12, 13, 14] tX0_pairs) :: (35, 3, a_icmp_ge 90) :: (38, 2, a_iload 4) :: (40, 3, a_calls 1 [] tX4_nextSeed) :: (43, 2, a_istore 4) :: (45, 1, a_aload 0) :: (46, 3, a_getf 0 2 1) :: (49, 2, a_iload 8) :: (51, 2, a_iload 4) :: (53, 2, a_iconst 20) :: (55, 3, a_calls 2 [] tX4_drawOf) :: (58, 3, a_callv 3 0 [8, 9, 10, 11, 12, 13, 14] tX0_setCell) :: (61, 2, a_iload 4) :: (63, 3, a_calls 1 [] tX4_nextSeed) :: (66, 2, a_istore 4) :: (68, 1, a_aload 0) :: (69, 3, a_getf 0 2 1) :: (72, 2, a_iload 8) :: (74, 2, a_iload 4) :: (76, 2, a_iconst 12) :: (78, 3, a_calls 2 [] tX4_drawOf) :: (81, 3, a_callv 3 0 [8, 9, 10, 11, 12, 13, 14] tX0_setToSay) :: (84, 3, a_iinc 8 1) :: (87, 3, a_goto 26) :: []
def kX4_shiftsByLot_12 : pProg := (12, 2, a_iload 7) :: (14, 1, a_iload 1) :: (15, 3, a_icmp_ge 140) :: (18, 1, a_aload 0) :: (19, 1, a_iconst 0) :: (20, 3, a_callv 2 2 [0, 1, 2, 3, 4, 5, 6, 7, 8, 9, 10, 11, 12, 13, 14, 15] tX4_think) :: (23, 1, a_iconst 0) :: (24, 2, a_istore 8) :: (26, 0, a_fall 26) :: []
def kX4_shiftsByLot_0 : pProg := (0, 1, a_iload 2) :: (1, 2, a_istore 4) :: (3, 1, a_iconst 0) :: (4, 2, a_istore 5) :: (6, 1, a_iconst 0) :: (7, 2, a_istore 6) :: (9, 1, a_iconst 0) :: (10, 2, a_istore 7) :: (12, 0, a_fall 12) :: []
set_option maxRecDepth 100000 in
theorem sX4_shiftsByLot_151 (l : Launch) : AllS (pSnd l rmX4_shiftsByLot yX4_shiftsByLot.cls cX4_shiftsByLot wsX4_shiftsByLot 9 (some .int)) 151 kX4_shiftsByLot_151 :=
  alls _ (s_iret dX4_shiftsByLot_151) <|
  alls_nil _
set_option maxRecDepth 100000 in
theorem sX4_shiftsByLot_149 (l : Launch) : AllS (pSnd l rmX4_shiftsByLot yX4_shiftsByLot.cls cX4_shiftsByLot wsX4_shiftsByLot 9 (some .int)) 149 kX4_shiftsByLot_149 :=
  alls _ (s_iload dX4_shiftsByLot_149) <|
  alls _ s_fall (alls_nil _)
set_option maxRecDepth 100000 in
theorem sX4_shiftsByLot_140 (l : Launch) : AllS (pSnd l rmX4_shiftsByLot yX4_shiftsByLot.cls cX4_shiftsByLot wsX4_shiftsByLot 9 (some .int)) 140 kX4_shiftsByLot_140 :=
  alls _ (s_iload_n rfl dX4_shiftsByLot_140) <|
  alls _ (s_if_ne (by decide) dX4_shiftsByLot_141) <|
  alls _ (s_iload dX4_shiftsByLot_144) <|
  alls _ (s_goto (by decide) dX4_shiftsByLot_146) <|
  alls_nil _
set_option maxRecDepth 100000 in
theorem sX4_shiftsByLot_90 (l : Launch) : AllS (pSnd l rmX4_shiftsByLot yX4_shiftsByLot.cls cX4_shiftsByLot wsX4_shiftsByLot 9 (some .int)) 90 kX4_shiftsByLot_90 :=
  alls _ (s_aload_n rfl dX4_shiftsByLot_90) <|
  alls _ (s_getf (C := RX4) (T := TX4) (N := 3) rfl (in_c inX4) (by decide) (List.mem_cons_of_mem _ wd_118) rfl dX4_shiftsByLot_91) <|
  alls _ (s_bipush (by decide) dX4_shiftsByLot_94) <|
  alls _ (s_callv (ct_X0_pass l) rfl rfl rfl (gdV wd_429 wd_294 wd_295 wd_61 wd_296) rfl rfl (by decide +kernel) ⟨Nat.le_of_ble_eq_true rfl, Nat.le_of_ble_eq_true rfl⟩ dX4_shiftsByLot_96) <|
  alls _ (s_iload dX4_shiftsByLot_99) <|
  alls _ (s_aload_n rfl dX4_shiftsByLot_101) <|
  alls _ (s_getf (C := RX4) (T := TX4) (N := 3) rfl (in_c inX4) (by decide) (List.mem_cons_of_mem _ wd_118) rfl dX4_shiftsByLot_102) <|
  alls _ (s_callv (ct_X0_facedBits l) rfl rfl rfl (gdV wd_722 wd_398 wd_399 wd_61 wd_400) rfl rfl (by decide +kernel) ⟨Nat.le_of_ble_eq_true rfl, Nat.le_of_ble_eq_true rfl⟩ dX4_shiftsByLot_105) <|
  alls _ (s_calls (ct_J6_bitCount_0f7a4 l) rfl rfl (gdS wd_403) (List.mem_cons_of_mem _ wd_649) (List.mem_cons_of_mem _ wd_402) (List.mem_cons_of_mem _ wd_68) rfl rfl (by decide +kernel) ⟨Nat.le_of_ble_eq_true rfl, Nat.le_of_ble_eq_true rfl⟩ dX4_shiftsByLot_108) <|
  alls _ (s_iadd dX4_shiftsByLot_111) <|
  alls _ (s_istore dX4_shiftsByLot_112) <|
  alls _ (s_iload dX4_shiftsByLot_114) <|
  alls _ (s_aload_n rfl dX4_shiftsByLot_116) <|
  alls _ (s_getf (C := RX4) (T := TX4) (N := 3) rfl (in_c inX4) (by decide) (List.mem_cons_of_mem _ wd_118) rfl dX4_shiftsByLot_117) <|
  alls _ (s_callv (ct_X0_allBruises l) rfl rfl rfl (gdV wd_444 wd_445 wd_446 wd_61 wd_447) rfl rfl (by decide +kernel) ⟨Nat.le_of_ble_eq_true rfl, Nat.le_of_ble_eq_true rfl⟩ dX4_shiftsByLot_120) <|
  alls _ (s_aload_n rfl dX4_shiftsByLot_123) <|
  alls _ (s_getf (C := RX4) (T := TX4) (N := 3) rfl (in_c inX4) (by decide) (List.mem_cons_of_mem _ wd_117) rfl dX4_shiftsByLot_124) <|
  alls _ (s_callv (ct_X0_allBruises l) rfl rfl rfl (gdV wd_444 wd_445 wd_446 wd_61 wd_447) rfl rfl (by decide +kernel) ⟨Nat.le_of_ble_eq_true rfl, Nat.le_of_ble_eq_true rfl⟩ dX4_shiftsByLot_127) <|
  alls _ (s_isub dX4_shiftsByLot_130) <|
  alls _ (s_iadd dX4_shiftsByLot_131) <|
  alls _ (s_istore dX4_shiftsByLot_132) <|
  alls _ (s_iinc dX4_shiftsByLot_134) <|
  alls _ (s_goto (by decide) dX4_shiftsByLot_137) <|
  alls_nil _
set_option maxRecDepth 100000 in
theorem sX4_shiftsByLot_26 (l : Launch) : AllS (pSnd l rmX4_shiftsByLot yX4_shiftsByLot.cls cX4_shiftsByLot wsX4_shiftsByLot 9 (some .int)) 26 kX4_shiftsByLot_26 :=
  alls _ (s_iload dX4_shiftsByLot_26) <|
  alls _ (s_aload_n rfl dX4_shiftsByLot_28) <|
  alls _ (s_getf (C := RX4) (T := TX4) (N := 3) rfl (in_c inX4) (by decide) (List.mem_cons_of_mem _ wd_118) rfl dX4_shiftsByLot_29) <|
  alls _ (s_callv (ct_X0_pairs l) rfl rfl rfl (gdV wd_462 wd_209 wd_210 wd_61 wd_211) rfl rfl (by decide +kernel) ⟨Nat.le_of_ble_eq_true rfl, Nat.le_of_ble_eq_true rfl⟩ dX4_shiftsByLot_32) <|
  alls _ (s_icmp_ge (by decide) dX4_shiftsByLot_35) <|
  alls _ (s_iload dX4_shiftsByLot_38) <|
  alls _ (s_calls (ct_X4_nextSeed l) rfl rfl (gdS wd_715) (List.mem_cons_of_mem _ wd_713) (List.mem_cons_of_mem _ wd_714) (List.mem_cons_of_mem _ wd_62) rfl rfl (by decide +kernel) ⟨Nat.le_of_ble_eq_true rfl, Nat.le_of_ble_eq_true rfl⟩ dX4_shiftsByLot_40) <|
  alls _ (s_istore dX4_shiftsByLot_43) <|
  alls _ (s_aload_n rfl dX4_shiftsByLot_45) <|
  alls _ (s_getf (C := RX4) (T := TX4) (N := 3) rfl (in_c inX4) (by decide) (List.mem_cons_of_mem _ wd_118) rfl dX4_shiftsByLot_46) <|
  alls _ (s_iload dX4_shiftsByLot_49) <|
  alls _ (s_iload dX4_shiftsByLot_51) <|
  alls _ (s_bipush (by decide) dX4_shiftsByLot_53) <|
  alls _ (s_calls (ct_X4_drawOf l) rfl rfl (gdS wd_720) (List.mem_cons_of_mem _ wd_718) (List.mem_cons_of_mem _ wd_719) (List.mem_cons_of_mem _ wd_62) rfl rfl (by decide +kernel) ⟨Nat.le_of_ble_eq_true rfl, Nat.le_of_ble_eq_true rfl⟩ dX4_shiftsByLot_55) <|
  alls _ (s_callv (ct_X0_setCell l) rfl rfl rfl (gdV wd_549 wd_256 wd_257 wd_61 wd_258) rfl rfl (by decide +kernel) ⟨Nat.le_of_ble_eq_true rfl, Nat.le_of_ble_eq_true rfl⟩ dX4_shiftsByLot_58) <|
  alls _ (s_iload dX4_shiftsByLot_61) <|
  alls _ (s_calls (ct_X4_nextSeed l) rfl rfl (gdS wd_715) (List.mem_cons_of_mem _ wd_713) (List.mem_cons_of_mem _ wd_714) (List.mem_cons_of_mem _ wd_62) rfl rfl (by decide +kernel) ⟨Nat.le_of_ble_eq_true rfl, Nat.le_of_ble_eq_true rfl⟩ dX4_shiftsByLot_63) <|
  alls _ (s_istore dX4_shiftsByLot_66) <|
  alls _ (s_aload_n rfl dX4_shiftsByLot_68) <|
  alls _ (s_getf (C := RX4) (T := TX4) (N := 3) rfl (in_c inX4) (by decide) (List.mem_cons_of_mem _ wd_118) rfl dX4_shiftsByLot_69) <|
  alls _ (s_iload dX4_shiftsByLot_72) <|
  alls _ (s_iload dX4_shiftsByLot_74) <|
  alls _ (s_bipush (by decide) dX4_shiftsByLot_76) <|
  alls _ (s_calls (ct_X4_drawOf l) rfl rfl (gdS wd_720) (List.mem_cons_of_mem _ wd_718) (List.mem_cons_of_mem _ wd_719) (List.mem_cons_of_mem _ wd_62) rfl rfl (by decide +kernel) ⟨Nat.le_of_ble_eq_true rfl, Nat.le_of_ble_eq_true rfl⟩ dX4_shiftsByLot_78) <|
  alls _ (s_callv (ct_X0_setToSay l) rfl rfl rfl (gdV wd_511 wd_267 wd_268 wd_61 wd_269) rfl rfl (by decide +kernel) ⟨Nat.le_of_ble_eq_true rfl, Nat.le_of_ble_eq_true rfl⟩ dX4_shiftsByLot_81) <|
  alls _ (s_iinc dX4_shiftsByLot_84) <|
  alls _ (s_goto (by decide) dX4_shiftsByLot_87) <|
  alls_nil _
set_option maxRecDepth 100000 in
theorem sX4_shiftsByLot_12 (l : Launch) : AllS (pSnd l rmX4_shiftsByLot yX4_shiftsByLot.cls cX4_shiftsByLot wsX4_shiftsByLot 9 (some .int)) 12 kX4_shiftsByLot_12 :=
  alls _ (s_iload dX4_shiftsByLot_12) <|
  alls _ (s_iload_n rfl dX4_shiftsByLot_14) <|
  alls _ (s_icmp_ge (by decide) dX4_shiftsByLot_15) <|
  alls _ (s_aload_n rfl dX4_shiftsByLot_18) <|
  alls _ (s_iconst dX4_shiftsByLot_19) <|
  alls _ (s_callv (ct_X4_think l) rfl rfl rfl (gdV wd_418 wd_420 wd_1 wd_62 wd_421) rfl rfl (by decide +kernel) ⟨Nat.le_of_ble_eq_true rfl, Nat.le_of_ble_eq_true rfl⟩ dX4_shiftsByLot_20) <|
  alls _ (s_iconst dX4_shiftsByLot_23) <|
  alls _ (s_istore dX4_shiftsByLot_24) <|
  alls _ s_fall (alls_nil _)
set_option maxRecDepth 100000 in
theorem sX4_shiftsByLot_0 (l : Launch) : AllS (pSnd l rmX4_shiftsByLot yX4_shiftsByLot.cls cX4_shiftsByLot wsX4_shiftsByLot 9 (some .int)) 0 kX4_shiftsByLot_0 :=
  alls _ (s_iload_n rfl dX4_shiftsByLot_0) <|
  alls _ (s_istore dX4_shiftsByLot_1) <|
  alls _ (s_iconst dX4_shiftsByLot_3) <|
  alls _ (s_istore dX4_shiftsByLot_4) <|
  alls _ (s_iconst dX4_shiftsByLot_6) <|
  alls _ (s_istore dX4_shiftsByLot_7) <|
  alls _ (s_iconst dX4_shiftsByLot_9) <|
  alls _ (s_istore dX4_shiftsByLot_10) <|
  alls _ s_fall (alls_nil _)
def KX4_shiftsByLot : List (Nat × pProg) := [(0, kX4_shiftsByLot_0), (12, kX4_shiftsByLot_12), (26, kX4_shiftsByLot_26), (90, kX4_shiftsByLot_90), (140, kX4_shiftsByLot_140), (149, kX4_shiftsByLot_149), (151, kX4_shiftsByLot_151)]
theorem bX4_shiftsByLot_0 : blkOf KX4_shiftsByLot 0 = some kX4_shiftsByLot_0 := rfl
theorem bX4_shiftsByLot_12 : blkOf KX4_shiftsByLot 12 = some kX4_shiftsByLot_12 := rfl
theorem bX4_shiftsByLot_26 : blkOf KX4_shiftsByLot 26 = some kX4_shiftsByLot_26 := rfl
theorem bX4_shiftsByLot_90 : blkOf KX4_shiftsByLot 90 = some kX4_shiftsByLot_90 := rfl
theorem bX4_shiftsByLot_140 : blkOf KX4_shiftsByLot 140 = some kX4_shiftsByLot_140 := rfl
theorem bX4_shiftsByLot_149 : blkOf KX4_shiftsByLot 149 = some kX4_shiftsByLot_149 := rfl
theorem bX4_shiftsByLot_151 : blkOf KX4_shiftsByLot 151 = some kX4_shiftsByLot_151 := rfl
def tX4_shiftsByLot : pT := pM KX4_shiftsByLot 9
theorem ct_X4_shiftsByLot (l : Launch) : pCtr l yX4_shiftsByLot wsX4_shiftsByLot rmX4_shiftsByLot 4 tX4_shiftsByLot := ctr_of (by decide +kernel) rfl (List.forall_mem_cons.mpr ⟨sX4_shiftsByLot_0 l, List.forall_mem_cons.mpr ⟨sX4_shiftsByLot_12 l, List.forall_mem_cons.mpr ⟨sX4_shiftsByLot_26 l, List.forall_mem_cons.mpr ⟨sX4_shiftsByLot_90 l, List.forall_mem_cons.mpr ⟨sX4_shiftsByLot_140 l, List.forall_mem_cons.mpr ⟨sX4_shiftsByLot_149 l, List.forall_mem_cons.mpr ⟨sX4_shiftsByLot_151 l, fun _ h => absurd h List.not_mem_nil⟩⟩⟩⟩⟩⟩⟩)
