theorem dX6_mine_0 : decode cX6_mine 0 = .ok (.aload_n 0, 1) := by decide +kernel
theorem dX6_mine_1 : decode cX6_mine 1 = .ok (.iconst 0, 1) := by decide +kernel
theorem dX6_mine_2 : decode cX6_mine 2 = .ok (.putfield 75, 3) := by decide +kernel
theorem dX6_mine_5 : decode cX6_mine 5 = .ok (.aload_n 0, 1) := by decide +kernel
theorem dX6_mine_6 : decode cX6_mine 6 = .ok (.iconst 0, 1) := by decide +kernel
theorem dX6_mine_7 : decode cX6_mine 7 = .ok (.putfield 97, 3) := by decide +kernel
theorem dX6_mine_10 : decode cX6_mine 10 = .ok (.iconst 1, 1) := by decide +kernel
theorem dX6_mine_11 : decode cX6_mine 11 = .ok (.istore_n 1, 1) := by decide +kernel
theorem dX6_mine_12 : decode cX6_mine 12 = .ok (.iload_n 1, 1) := by decide +kernel
theorem dX6_mine_13 : decode cX6_mine 13 = .ok (.ifCond .eq 47, 3) := by decide +kernel
theorem dX6_mine_16 : decode cX6_mine 16 = .ok (.aload_n 0, 1) := by decide +kernel
theorem dX6_mine_17 : decode cX6_mine 17 = .ok (.getfield 75, 3) := by decide +kernel
theorem dX6_mine_20 : decode cX6_mine 20 = .ok (.aload_n 0, 1) := by decide +kernel
theorem dX6_mine_21 : decode cX6_mine 21 = .ok (.getfield 68, 3) := by decide +kernel
theorem dX6_mine_24 : decode cX6_mine 24 = .ok (.if_icmp .lt 10, 3) := by decide +kernel
theorem dX6_mine_27 : decode cX6_mine 27 = .ok (.aload_n 0, 1) := by decide +kernel
theorem dX6_mine_28 : decode cX6_mine 28 = .ok (.getfield 97, 3) := by decide +kernel
theorem dX6_mine_31 : decode cX6_mine 31 = .ok (.ifCond .ne 29, 3) := by decide +kernel
theorem dX6_mine_34 : decode cX6_mine 34 = .ok (.aload_n 0, 1) := by decide +kernel
theorem dX6_mine_35 : decode cX6_mine 35 = .ok (.invokevirtual 138, 3) := by decide +kernel
theorem dX6_mine_38 : decode cX6_mine 38 = .ok (.istore_n 1, 1) := by decide +kernel
theorem dX6_mine_39 : decode cX6_mine 39 = .ok (.aload_n 0, 1) := by decide +kernel
theorem dX6_mine_40 : decode cX6_mine 40 = .ok (.dup, 1) := by decide +kernel
theorem dX6_mine_41 : decode cX6_mine 41 = .ok (.getfield 97, 3) := by decide +kernel
theorem dX6_mine_44 : decode cX6_mine 44 = .ok (.iload_n 1, 1) := by decide +kernel
theorem dX6_mine_45 : decode cX6_mine 45 = .ok (.ifCond .eq 7, 3) := by decide +kernel
theorem dX6_mine_48 : decode cX6_mine 48 = .ok (.iconst 1, 1) := by decide +kernel
theorem dX6_mine_49 : decode cX6_mine 49 = .ok (.goto 4, 3) := by decide +kernel
theorem dX6_mine_52 : decode cX6_mine 52 = .ok (.iconst 0, 1) := by decide +kernel
theorem dX6_mine_53 : decode cX6_mine 53 = .ok (.iadd, 1) := by decide +kernel
theorem dX6_mine_54 : decode cX6_mine 54 = .ok (.putfield 97, 3) := by decide +kernel
theorem dX6_mine_57 : decode cX6_mine 57 = .ok (.goto (-45), 3) := by decide +kernel
theorem dX6_mine_60 : decode cX6_mine 60 = .ok (.aload_n 0, 1) := by decide +kernel
theorem dX6_mine_61 : decode cX6_mine 61 = .ok (.iconst 0, 1) := by decide +kernel
theorem dX6_mine_62 : decode cX6_mine 62 = .ok (.putfield 68, 3) := by decide +kernel
theorem dX6_mine_65 : decode cX6_mine 65 = .ok (.iload_n 1, 1) := by decide +kernel
theorem dX6_mine_66 : decode cX6_mine 66 = .ok (.ifCond .ne 12, 3) := by decide +kernel
theorem dX6_mine_69 : decode cX6_mine 69 = .ok (.sipush (-1000), 3) := by decide +kernel
theorem dX6_mine_72 : decode cX6_mine 72 = .ok (.aload_n 0, 1) := by decide +kernel
theorem dX6_mine_73 : decode cX6_mine 73 = .ok (.getfield 75, 3) := by decide +kernel
theorem dX6_mine_76 : decode cX6_mine 76 = .ok (.isub, 1) := by decide +kernel
theorem dX6_mine_77 : decode cX6_mine 77 = .ok (.ireturn, 1) := by decide +kernel
theorem dX6_mine_78 : decode cX6_mine 78 = .ok (.aload_n 0, 1) := by decide +kernel
theorem dX6_mine_79 : decode cX6_mine 79 = .ok (.iconst 1, 1) := by decide +kernel
theorem dX6_mine_80 : decode cX6_mine 80 = .ok (.iconst 1, 1) := by decide +kernel
theorem dX6_mine_81 : decode cX6_mine 81 = .ok (.invokevirtual 142, 3) := by decide +kernel
theorem dX6_mine_84 : decode cX6_mine 84 = .ok (.iconst 0, 1) := by decide +kernel
theorem dX6_mine_85 : decode cX6_mine 85 = .ok (.istore_n 2, 1) := by decide +kernel
theorem dX6_mine_86 : decode cX6_mine 86 = .ok (.iload_n 2, 1) := by decide +kernel
theorem dX6_mine_87 : decode cX6_mine 87 = .ok (.aload_n 0, 1) := by decide +kernel
theorem dX6_mine_88 : decode cX6_mine 88 = .ok (.getfield 97, 3) := by decide +kernel
theorem dX6_mine_91 : decode cX6_mine 91 = .ok (.if_icmp .ge 37, 3) := by decide +kernel
theorem dX6_mine_94 : decode cX6_mine 94 = .ok (.aload_n 0, 1) := by decide +kernel
theorem dX6_mine_95 : decode cX6_mine 95 = .ok (.iload_n 2, 1) := by decide +kernel
theorem dX6_mine_96 : decode cX6_mine 96 = .ok (.invokevirtual 146, 3) := by decide +kernel
theorem dX6_mine_99 : decode cX6_mine 99 = .ok (.ifCond .eq 6, 3) := by decide +kernel
theorem dX6_mine_102 : decode cX6_mine 102 = .ok (.goto 20, 3) := by decide +kernel
theorem dX6_mine_105 : decode cX6_mine 105 = .ok (.aload_n 0, 1) := by decide +kernel
theorem dX6_mine_106 : decode cX6_mine 106 = .ok (.iconst 1, 1) := by decide +kernel
theorem dX6_mine_107 : decode cX6_mine 107 = .ok (.iconst 0, 1) := by decide +kernel
theorem dX6_mine_108 : decode cX6_mine 108 = .ok (.invokevirtual 142, 3) := by decide +kernel
theorem dX6_mine_111 : decode cX6_mine 111 = .ok (.sipush (-2000), 3) := by decide +kernel
theorem dX6_mine_114 : decode cX6_mine 114 = .ok (.aload_n 0, 1) := by decide +kernel
theorem dX6_mine_115 : decode cX6_mine 115 = .ok (.getfield 37, 3) := by decide +kernel
theorem dX6_mine_118 : decode cX6_mine 118 = .ok (.iload_n 2, 1) := by decide +kernel
theorem dX6_mine_119 : decode cX6_mine 119 = .ok (.iaload, 1) := by decide +kernel
theorem dX6_mine_120 : decode cX6_mine 120 = .ok (.isub, 1) := by decide +kernel
theorem dX6_mine_121 : decode cX6_mine 121 = .ok (.ireturn, 1) := by decide +kernel
theorem dX6_mine_122 : decode cX6_mine 122 = .ok (.iinc 2 1, 3) := by decide +kernel
theorem dX6_mine_125 : decode cX6_mine 125 = .ok (.goto (-39), 3) := by decide +kernel
theorem dX6_mine_128 : decode cX6_mine 128 = .ok (.aload_n 0, 1) := by decide +kernel
theorem dX6_mine_129 : decode cX6_mine 129 = .ok (.getfield 97, 3) := by decide +kernel
theorem dX6_mine_132 : decode cX6_mine 132 = .ok (.ireturn, 1) := by decide +kernel
def rmX6_mine : Room := { frames := 8, cells := 0, slots := 0, locals := 176 }
abbrev wsX6_mine : List Cond := .code yX6_mine cX6_mine 3 (some .int) :: gw_tbl
def kX6_mine_128 : pProg := (128, 1, a_aload 0) :: (129, 3, a_getf 0 4 15) :: (132, 1, a_iret) :: []
def kX6_mine_122 : pProg := (122, 3, a_iinc 2 1) :: (125, 3, a_goto 86) :: []
def kX6_mine_105 : pProg := (105, 1, a_aload 0) :: (106, 1, a_iconst 1) :: (107, 1, a_iconst 0) :: (108, 3, a_callv 3 4 [0, 1, 2, 3, 4, 5, 6, 7, 8, 9, 10, 11, 12, 13, 14, 15, 16] tX6_passesAll) :: (111, 3, a_iconst (-2000)) :: (114, 1, a_aload 0) :: (115, 3, a_getf 0 4 11) :: (118, 1, a_iload 2) :: (119, 1, a_iald 10) :: (120, 1, a_isub) :: (121, 1, a_iret) :: []
def kX6_mine_86 : pProg := (86, 1, a_iload 2) :: (87, 1, a_aload 0) :: (88, 3, a_getf 0 4 15) :: (91, 3, a_icmp_ge 128) :: (94, 1, a_aload 0) :: (95, 1, a_iload 2) :: (96, 3, a_callv 2 4 [0, 1, 2, 3, 4, 5, 6, 7, 8, 9, 10, 11, 12, 13, 14, 15, 16] tX6_comes) :: (99, 3, a_if_eq 105) :: (102, 3, a_goto 122) :: []
def kX6_mine_78 : pProg := (78, 1, a_aload 0) :: (79, 1, a_iconst 1) :: (80, 1, a_iconst 1) :: (81, 3, a_callv 3 4 [0, 1, 2, 3, 4, 5, 6, 7, 8, 9, 10, 11, 12, 13, 14, 15, 16] tX6_passesAll) :: (84, 1, a_iconst 0) :: (85, 1, a_istore 2) :: (86, 0, a_fall 86) :: []
def kX6_mine_60 : pProg := (60, 1, a_aload 0) :: (61, 1, a_iconst 0) :: (62, 3, a_putf 0 4 13 .int) :: (65, 1, a_iload 1) :: (66, 3, a_if_ne 78) :: (69, 3, a_iconst (-1000)) :: (72, 1, a_aload 0) :: (73, 3, a_getf 0 4 14) :: (76, 1, a_isub) :: (77, 1, a_iret) :: []
def kX6_mine_53 : pProg := (53, 1, a_iadd) :: (54, 3, a_putf 0 4 15 .int) :: (57, 3, a_goto 12) :: []
def kX6_mine_52 : pProg := (52, 1, a_iconst 0) :: (53, 0, a_fall 53) :: []
def kX6_mine_34 : pProg := (34, 1, a_aload 0) :: (35, 3, a_callv 1 4 [0, 1, 2, 3, 4, 5, 6, 7, 8, 9, 10, 11, 12, 13, 14, 15, 16] tX6_statement) :: (38, 1, a_istore 1) :: (39, 1, a_aload 0) :: (40, 1, a_dup) :: (41, 3, a_getf 0 4 15) :: (44, 1, a_iload 1) :: (45, 3, a_if_eq 52) :: (48, 1, a_iconst 1) :: (49, 3, a_goto 53) :: []
def kX6_mine_12 : pProg := (12, 1, a_iload 1) :: (13, 3, a_if_eq 60) :: (16, 1, a_aload 0) :: (17, 3, a_getf 0 4 14) :: (20, 1, a_aload 0) :: (21, 3, a_getf 0 4 13) :: (24, 3, a_icmp_lt 34) :: (27, 1, a_aload 0) :: (28, 3, a_getf 0 4 15) :: (31, 3, a_if_ne 60) :: (34, 0, a_fall 34) :: []
def kX6_mine_0 : pProg := (0, 1, a_aload 0) :: (1, 1, a_iconst 0) :: (2, 3, a_putf 0 4 14 .int) :: (5, 1, a_aload 0) :: (6, 1, a_iconst 0) :: (7, 3, a_putf 0 4 15 .int) :: (10, 1, a_iconst 1) :: (11, 1, a_istore 1) :: (12, 0, a_fall 12) :: []
set_option maxRecDepth 100000 in
theorem sX6_mine_128 (l : Launch) : AllS (pSnd l rmX6_mine yX6_mine.cls cX6_mine wsX6_mine 3 (some .int)) 128 kX6_mine_128 :=
  alls _ (s_aload_n rfl dX6_mine_128) <|
  alls _ (s_getf (C := RX6) (T := TX6) (N := 29) rfl (in_c inX6) (by decide) (List.mem_cons_of_mem _ wd_762) rfl dX6_mine_129) <|
  alls _ (s_iret dX6_mine_132) <|
  alls_nil _
set_option maxRecDepth 100000 in
theorem sX6_mine_122 (l : Launch) : AllS (pSnd l rmX6_mine yX6_mine.cls cX6_mine wsX6_mine 3 (some .int)) 122 kX6_mine_122 :=
  alls _ (s_iinc dX6_mine_122) <|
  alls _ (s_goto (by decide) dX6_mine_125) <|
  alls_nil _
set_option maxRecDepth 100000 in
theorem sX6_mine_105 (l : Launch) : AllS (pSnd l rmX6_mine yX6_mine.cls cX6_mine wsX6_mine 3 (some .int)) 105 kX6_mine_105 :=
  alls _ (s_aload_n rfl dX6_mine_105) <|
  alls _ (s_iconst dX6_mine_106) <|
  alls _ (s_iconst dX6_mine_107) <|
  alls _ (s_callv (ct_X6_passesAll l) rfl rfl rfl (gdV wd_876 wd_878 wd_17 wd_65 wd_879) rfl rfl (by decide +kernel) ⟨Nat.le_of_ble_eq_true rfl, Nat.le_of_ble_eq_true rfl⟩ dX6_mine_108) <|
  alls _ (s_sipush (by decide) dX6_mine_111) <|
  alls _ (s_aload_n rfl dX6_mine_114) <|
  alls _ (s_getf (C := RX6) (T := TX6) (N := 29) rfl (in_c inX6) (by decide) (List.mem_cons_of_mem _ wd_758) rfl dX6_mine_115) <|
  alls _ (s_iload_n rfl dX6_mine_118) <|
  alls _ (s_iald dX6_mine_119) <|
  alls _ (s_isub dX6_mine_120) <|
  alls _ (s_iret dX6_mine_121) <|
  alls_nil _
set_option maxRecDepth 100000 in
theorem sX6_mine_86 (l : Launch) : AllS (pSnd l rmX6_mine yX6_mine.cls cX6_mine wsX6_mine 3 (some .int)) 86 kX6_mine_86 :=
  alls _ (s_iload_n rfl dX6_mine_86) <|
  alls _ (s_aload_n rfl dX6_mine_87) <|
  alls _ (s_getf (C := RX6) (T := TX6) (N := 29) rfl (in_c inX6) (by decide) (List.mem_cons_of_mem _ wd_762) rfl dX6_mine_88) <|
  alls _ (s_icmp_ge (by decide) dX6_mine_91) <|
  alls _ (s_aload_n rfl dX6_mine_94) <|
  alls _ (s_iload_n rfl dX6_mine_95) <|
  alls _ (s_callv (ct_X6_comes l) rfl rfl rfl (gdV wd_888 wd_890 wd_20 wd_65 wd_891) rfl rfl (by decide +kernel) ⟨Nat.le_of_ble_eq_true rfl, Nat.le_of_ble_eq_true rfl⟩ dX6_mine_96) <|
  alls _ (s_if_eq (by decide) dX6_mine_99) <|
  alls _ (s_goto (by decide) dX6_mine_102) <|
  alls_nil _
set_option maxRecDepth 100000 in
theorem sX6_mine_78 (l : Launch) : AllS (pSnd l rmX6_mine yX6_mine.cls cX6_mine wsX6_mine 3 (some .int)) 78 kX6_mine_78 :=
  alls _ (s_aload_n rfl dX6_mine_78) <|
  alls _ (s_iconst dX6_mine_79) <|
  alls _ (s_iconst dX6_mine_80) <|
  alls _ (s_callv (ct_X6_passesAll l) rfl rfl rfl (gdV wd_876 wd_878 wd_17 wd_65 wd_879) rfl rfl (by decide +kernel) ⟨Nat.le_of_ble_eq_true rfl, Nat.le_of_ble_eq_true rfl⟩ dX6_mine_81) <|
  alls _ (s_iconst dX6_mine_84) <|
  alls _ (s_istore_n rfl dX6_mine_85) <|
  alls _ s_fall (alls_nil _)
set_option maxRecDepth 100000 in
theorem sX6_mine_60 (l : Launch) : AllS (pSnd l rmX6_mine yX6_mine.cls cX6_mine wsX6_mine 3 (some .int)) 60 kX6_mine_60 :=
  alls _ (s_aload_n rfl dX6_mine_60) <|
  alls _ (s_iconst dX6_mine_61) <|
  alls _ (s_putf (C := RX6) (T := TX6) (N := 29) tyX6 rfl (in_c inX6) tyX6_ok nmX6 (by decide) (List.mem_cons_of_mem _ wd_760) rfl rfl (tyX6_ok 13 (by decide)) dX6_mine_62) <|
  alls _ (s_iload_n rfl dX6_mine_65) <|
  alls _ (s_if_ne (by decide) dX6_mine_66) <|
  alls _ (s_sipush (by decide) dX6_mine_69) <|
  alls _ (s_aload_n rfl dX6_mine_72) <|
  alls _ (s_getf (C := RX6) (T := TX6) (N := 29) rfl (in_c inX6) (by decide) (List.mem_cons_of_mem _ wd_761) rfl dX6_mine_73) <|
  alls _ (s_isub dX6_mine_76) <|
  alls _ (s_iret dX6_mine_77) <|
  alls_nil _
set_option maxRecDepth 100000 in
theorem sX6_mine_53 (l : Launch) : AllS (pSnd l rmX6_mine yX6_mine.cls cX6_mine wsX6_mine 3 (some .int)) 53 kX6_mine_53 :=
  alls _ (s_iadd dX6_mine_53) <|
  alls _ (s_putf (C := RX6) (T := TX6) (N := 29) tyX6 rfl (in_c inX6) tyX6_ok nmX6 (by decide) (List.mem_cons_of_mem _ wd_762) rfl rfl (tyX6_ok 15 (by decide)) dX6_mine_54) <|
  alls _ (s_goto (by decide) dX6_mine_57) <|
  alls_nil _
set_option maxRecDepth 100000 in
theorem sX6_mine_52 (l : Launch) : AllS (pSnd l rmX6_mine yX6_mine.cls cX6_mine wsX6_mine 3 (some .int)) 52 kX6_mine_52 :=
  alls _ (s_iconst dX6_mine_52) <|
  alls _ s_fall (alls_nil _)
set_option maxRecDepth 100000 in
theorem sX6_mine_34 (l : Launch) : AllS (pSnd l rmX6_mine yX6_mine.cls cX6_mine wsX6_mine 3 (some .int)) 34 kX6_mine_34 :=
  alls _ (s_aload_n rfl dX6_mine_34) <|
  alls _ (s_callv (ct_X6_statement l) rfl rfl rfl (gdV wd_850 wd_852 wd_12 wd_65 wd_853) rfl rfl (by decide +kernel) ⟨Nat.le_of_ble_eq_true rfl, Nat.le_of_ble_eq_true rfl⟩ dX6_mine_35) <|
  alls _ (s_istore_n rfl dX6_mine_38) <|
  alls _ (s_aload_n rfl dX6_mine_39) <|
  alls _ (s_dup dX6_mine_40) <|
  alls _ (s_getf (C := RX6) (T := TX6) (N := 29) rfl (in_c inX6) (by decide) (List.mem_cons_of_mem _ wd_762) rfl dX6_mine_41) <|
  alls _ (s_iload_n rfl dX6_mine_44) <|
  alls _ (s_if_eq (by decide) dX6_mine_45) <|
  alls _ (s_iconst dX6_mine_48) <|
  alls _ (s_goto (by decide) dX6_mine_49) <|
  alls_nil _
set_option maxRecDepth 100000 in
theorem sX6_mine_12 (l : Launch) : AllS (pSnd l rmX6_mine yX6_mine.cls cX6_mine wsX6_mine 3 (some .int)) 12 kX6_mine_12 :=
  alls _ (s_iload_n rfl dX6_mine_12) <|
  alls _ (s_if_eq (by decide) dX6_mine_13) <|
  alls _ (s_aload_n rfl dX6_mine_16) <|
  alls _ (s_getf (C := RX6) (T := TX6) (N := 29) rfl (in_c inX6) (by decide) (List.mem_cons_of_mem _ wd_761) rfl dX6_mine_17) <|
  alls _ (s_aload_n rfl dX6_mine_20) <|
  alls _ (s_getf (C := RX6) (T := TX6) (N := 29) rfl (in_c inX6) (by decide) (List.mem_cons_of_mem _ wd_760) rfl dX6_mine_21) <|
  alls _ (s_icmp_lt (by decide) dX6_mine_24) <|
  alls _ (s_aload_n rfl dX6_mine_27) <|
  alls _ (s_getf (C := RX6) (T := TX6) (N := 29) rfl (in_c inX6) (by decide) (List.mem_cons_of_mem _ wd_762) rfl dX6_mine_28) <|
  alls _ (s_if_ne (by decide) dX6_mine_31) <|
  alls _ s_fall (alls_nil _)
set_option maxRecDepth 100000 in
theorem sX6_mine_0 (l : Launch) : AllS (pSnd l rmX6_mine yX6_mine.cls cX6_mine wsX6_mine 3 (some .int)) 0 kX6_mine_0 :=
  alls _ (s_aload_n rfl dX6_mine_0) <|
  alls _ (s_iconst dX6_mine_1) <|
  alls _ (s_putf (C := RX6) (T := TX6) (N := 29) tyX6 rfl (in_c inX6) tyX6_ok nmX6 (by decide) (List.mem_cons_of_mem _ wd_761) rfl rfl (tyX6_ok 14 (by decide)) dX6_mine_2) <|
  alls _ (s_aload_n rfl dX6_mine_5) <|
  alls _ (s_iconst dX6_mine_6) <|
  alls _ (s_putf (C := RX6) (T := TX6) (N := 29) tyX6 rfl (in_c inX6) tyX6_ok nmX6 (by decide) (List.mem_cons_of_mem _ wd_762) rfl rfl (tyX6_ok 15 (by decide)) dX6_mine_7) <|
  alls _ (s_iconst dX6_mine_10) <|
  alls _ (s_istore_n rfl dX6_mine_11) <|
  alls _ s_fall (alls_nil _)
def KX6_mine : List (Nat × pProg) := [(0, kX6_mine_0), (12, kX6_mine_12), (34, kX6_mine_34), (52, kX6_mine_52), (53, kX6_mine_53), (60, kX6_mine_60), (78, kX6_mine_78), (86, kX6_mine_86), (105, kX6_mine_105), (122, kX6_mine_122), (128, kX6_mine_128)]
theorem bX6_mine_0 : blkOf KX6_mine 0 = some kX6_mine_0 := rfl
theorem bX6_mine_12 : blkOf KX6_mine 12 = some kX6_mine_12 := rfl
theorem bX6_mine_34 : blkOf KX6_mine 34 = some kX6_mine_34 := rfl
theorem bX6_mine_52 : blkOf KX6_mine 52 = some kX6_mine_52 := rfl
theorem bX6_mine_53 : blkOf KX6_mine 53 = some kX6_mine_53 := rfl
theorem bX6_mine_60 : blkOf KX6_mine 60 = some kX6_mine_60 := rfl
theorem bX6_mine_78 : blkOf KX6_mine 78 = some kX6_mine_78 := rfl
theorem bX6_mine_86 : blkOf KX6_mine 86 = some kX6_mine_86 := rfl
theorem bX6_mine_105 : blkOf KX6_mine 105 = some kX6_mine_105 := rfl
theorem bX6_mine_122 : blkOf KX6_mine 122 = some kX6_mine_122 := rfl
theorem bX6_mine_128 : blkOf KX6_mine 128 = some kX6_mine_128 := rfl
def tX6_mine : pT := pM KX6_mine 3
theorem ct_X6_mine (l : Launch) : pCtr l yX6_mine wsX6_mine rmX6_mine 1 tX6_mine := ctr_of (by decide +kernel) rfl (List.forall_mem_cons.mpr ⟨sX6_mine_0 l, List.forall_mem_cons.mpr ⟨sX6_mine_12 l, List.forall_mem_cons.mpr ⟨sX6_mine_34 l, List.forall_mem_cons.mpr ⟨sX6_mine_52 l, List.forall_mem_cons.mpr ⟨sX6_mine_53 l, List.forall_mem_cons.mpr ⟨sX6_mine_60 l, List.forall_mem_cons.mpr ⟨sX6_mine_78 l, List.forall_mem_cons.mpr ⟨sX6_mine_86 l, List.forall_mem_cons.mpr ⟨sX6_mine_105 l, List.forall_mem_cons.mpr ⟨sX6_mine_122 l, List.forall_mem_cons.mpr ⟨sX6_mine_128 l, fun _ h => absurd h List.not_mem_nil⟩⟩⟩⟩⟩⟩⟩⟩⟩⟩⟩)
theorem dX6_miner_0 : decode cX6_miner 0 = .ok (.aload_n 0, 1) := by decide +kernel
theorem dX6_miner_1 : decode cX6_miner 1 = .ok (.iload_n 1, 1) := by decide +kernel
theorem dX6_miner_2 : decode cX6_miner 2 = .ok (.invokevirtual 128, 3) := by decide +kernel
theorem dX6_miner_5 : decode cX6_miner 5 = .ok (.ifCond .ne 9, 3) := by decide +kernel
theorem dX6_miner_8 : decode cX6_miner 8 = .ok (.aload_n 0, 1) := by decide +kernel
theorem dX6_miner_9 : decode cX6_miner 9 = .ok (.iconst (-1), 1) := by decide +kernel
theorem dX6_miner_10 : decode cX6_miner 10 = .ok (.invokevirtual 71, 3) := by decide +kernel
theorem dX6_miner_13 : decode cX6_miner 13 = .ok (.ireturn, 1) := by decide +kernel
theorem dX6_miner_14 : decode cX6_miner 14 = .ok (.iload_n 2, 1) := by decide +kernel
theorem dX6_miner_15 : decode cX6_miner 15 = .ok (.tableswitch 56 0 3 #[29, 36, 43, 50], 29) := by decide +kernel
theorem dX6_miner_44 : decode cX6_miner 44 = .ok (.aload_n 0, 1) := by decide +kernel
theorem dX6_miner_45 : decode cX6_miner 45 = .ok (.getfield 16, 3) := by decide +kernel
theorem dX6_miner_48 : decode cX6_miner 48 = .ok (.iload_n 1, 1) := by decide +kernel
theorem dX6_miner_49 : decode cX6_miner 49 = .ok (.iaload, 1) := by decide +kernel
theorem dX6_miner_50 : decode cX6_miner 50 = .ok (.ireturn, 1) := by decide +kernel
theorem dX6_miner_51 : decode cX6_miner 51 = .ok (.aload_n 0, 1) := by decide +kernel
theorem dX6_miner_52 : decode cX6_miner 52 = .ok (.getfield 19, 3) := by decide +kernel
theorem dX6_miner_55 : decode cX6_miner 55 = .ok (.iload_n 1, 1) := by decide +kernel
theorem dX6_miner_56 : decode cX6_miner 56 = .ok (.iaload, 1) := by decide +kernel
theorem dX6_miner_57 : decode cX6_miner 57 = .ok (.ireturn, 1) := by decide +kernel
theorem dX6_miner_58 : decode cX6_miner 58 = .ok (.aload_n 0, 1) := by decide +kernel
theorem dX6_miner_59 : decode cX6_miner 59 = .ok (.getfield 22, 3) := by decide +kernel
theorem dX6_miner_62 : decode cX6_miner 62 = .ok (.iload_n 1, 1) := by decide +kernel
theorem dX6_miner_63 : decode cX6_miner 63 = .ok (.iaload, 1) := by decide +kernel
theorem dX6_miner_64 : decode cX6_miner 64 = .ok (.ireturn, 1) := by decide +kernel
theorem dX6_miner_65 : decode cX6_miner 65 = .ok (.aload_n 0, 1) := by decide +kernel
theorem dX6_miner_66 : decode cX6_miner 66 = .ok (.iload_n 1, 1) := by decide +kernel
theorem dX6_miner_67 : decode cX6_miner 67 = .ok (.invokevirtual 188, 3) := by decide +kernel
theorem dX6_miner_70 : decode cX6_miner 70 = .ok (.ireturn, 1) := by decide +kernel
theorem dX6_miner_71 : decode cX6_miner 71 = .ok (.aload_n 0, 1) := by decide +kernel
theorem dX6_miner_72 : decode cX6_miner 72 = .ok (.bipush (-2), 2) := by decide +kernel
theorem dX6_miner_74 : decode cX6_miner 74 = .ok (.invokevirtual 71, 3) := by decide +kernel
theorem dX6_miner_77 : decode cX6_miner 77 = .ok (.ireturn, 1) := by decide +kernel
def rmX6_miner : Room := { frames := 1, cells := 0, slots := 0, locals := 21 }
abbrev wsX6_miner : List Cond := .code yX6_miner cX6_miner 3 (some .int) :: gw_tbl
def kX6_miner_71 : pProg := (71, 1, a_aload 0) :: (72, 2, a_iconst (-2)) :: (74, 3, a_callv 2 4 [0, 1, 2, 3, 4, 5, 6, 7, 8, 9, 10, 11, 12, 13, 14, 15, 16] tX6_no) :: (77, 1, a_iret) :: []
def kX6_miner_65 : pProg := (65, 1, a_aload 0) :: (66, 1, a_iload 1) :: (67, 3, a_callv 2 4 [0, 1, 2, 3, 4, 5, 6, 7, 8, 9, 10, 11, 12, 13, 14, 15, 16] tX6_stepsOf) :: (70, 1, a_iret) :: []
def kX6_miner_58 : pProg := (58, 1, a_aload 0) :: (59, 3, a_getf 0 4 4) :: (62, 1, a_iload 1) :: (63, 1, a_iald 5) :: (64, 1, a_iret) :: []
def kX6_miner_51 : pProg := (51, 1, a_aload 0) :: (52, 3, a_getf 0 4 3) :: (55, 1, a_iload 1) :: (56, 1, a_iald 4) :: (57, 1, a_iret) :: []
def kX6_miner_44 : pProg := (44, 1, a_aload 0) :: (45, 3, a_getf 0 4 2) :: (48, 1, a_iload 1) :: (49, 1, a_iald 3) :: (50, 1, a_iret) :: []
def kX6_miner_14 : pProg := (14, 1, a_iload 2) :: (15, 29, a_lsw [(0, 44), (1, 51), (2, 58), (3, 65)] 71) :: []
def kX6_miner_0 : pProg := (0, 1, a_aload 0) :: (1, 1, a_iload 1) :: (2, 3, a_callv 2 4 [0, 1, 2, 3, 4, 5, 6, 7, 8, 9, 10, 11, 12, 13, 14, 15, 16] tX6_isMiner) :: (5, 3, a_if_ne 14) :: (8, 1, a_aload 0) :: (9, 1, a_iconst (-1)) :: (10, 3, a_callv 2 4 [0, 1, 2, 3, 4, 5, 6, 7, 8, 9, 10, 11, 12, 13, 14, 15, 16] tX6_no) :: (13, 1, a_iret) :: []
set_option maxRecDepth 100000 in
theorem sX6_miner_71 (l : Launch) : AllS (pSnd l rmX6_miner yX6_miner.cls cX6_miner wsX6_miner 3 (some .int)) 71 kX6_miner_71 :=
  alls _ (s_aload_n rfl dX6_miner_71) <|
  alls _ (s_bipush (by decide) dX6_miner_72) <|
  alls _ (s_callv (ct_X6_no l) rfl rfl rfl (gdV wd_842 wd_844 wd_11 wd_65 wd_845) rfl rfl (by decide +kernel) ⟨Nat.le_of_ble_eq_true rfl, Nat.le_of_ble_eq_true rfl⟩ dX6_miner_74) <|
  alls _ (s_iret dX6_miner_77) <|
  alls_nil _
set_option maxRecDepth 100000 in
theorem sX6_miner_65 (l : Launch) : AllS (pSnd l rmX6_miner yX6_miner.cls cX6_miner wsX6_miner 3 (some .int)) 65 kX6_miner_65 :=
  alls _ (s_aload_n rfl dX6_miner_65) <|
  alls _ (s_iload_n rfl dX6_miner_66) <|
  alls _ (s_callv (ct_X6_stepsOf l) rfl rfl rfl (gdV wd_957 wd_959 wd_35 wd_65 wd_960) rfl rfl (by decide +kernel) ⟨Nat.le_of_ble_eq_true rfl, Nat.le_of_ble_eq_true rfl⟩ dX6_miner_67) <|
  alls _ (s_iret dX6_miner_70) <|
  alls_nil _
set_option maxRecDepth 100000 in
theorem sX6_miner_58 (l : Launch) : AllS (pSnd l rmX6_miner yX6_miner.cls cX6_miner wsX6_miner 3 (some .int)) 58 kX6_miner_58 :=
  alls _ (s_aload_n rfl dX6_miner_58) <|
  alls _ (s_getf (C := RX6) (T := TX6) (N := 29) rfl (in_c inX6) (by decide) (List.mem_cons_of_mem _ wd_751) rfl dX6_miner_59) <|
  alls _ (s_iload_n rfl dX6_miner_62) <|
  alls _ (s_iald dX6_miner_63) <|
  alls _ (s_iret dX6_miner_64) <|
  alls_nil _
set_option maxRecDepth 100000 in
theorem sX6_miner_51 (l : Launch) : AllS (pSnd l rmX6_miner yX6_miner.cls cX6_miner wsX6_miner 3 (some .int)) 51 kX6_miner_51 :=
  alls _ (s_aload_n rfl dX6_miner_51) <|
  alls _ (s_getf (C := RX6) (T := TX6) (N := 29) rfl (in_c inX6) (by decide) (List.mem_cons_of_mem _ wd_750) rfl dX6_miner_52) <|
  alls _ (s_iload_n rfl dX6_miner_55) <|
  alls _ (s_iald dX6_miner_56) <|
  alls _ (s_iret dX6_miner_57) <|
  alls_nil _
set_option maxRecDepth 100000 in
theorem sX6_miner_44 (l : Launch) : AllS (pSnd l rmX6_miner yX6_miner.cls cX6_miner wsX6_miner 3 (some .int)) 44 kX6_miner_44 :=
  alls _ (s_aload_n rfl dX6_miner_44) <|
  alls _ (s_getf (C := RX6) (T := TX6) (N := 29) rfl (in_c inX6) (by decide) (List.mem_cons_of_mem _ wd_749) rfl dX6_miner_45) <|
  alls _ (s_iload_n rfl dX6_miner_48) <|
  alls _ (s_iald dX6_miner_49) <|
  alls _ (s_iret dX6_miner_50) <|
  alls_nil _
set_option maxRecDepth 100000 in
theorem sX6_miner_14 (l : Launch) : AllS (pSnd l rmX6_miner yX6_miner.cls cX6_miner wsX6_miner 3 (some .int)) 14 kX6_miner_14 :=
  alls _ (s_iload_n rfl dX6_miner_14) <|
  alls _ (s_tsw (by decide) (by decide) (by decide) (by decide) dX6_miner_15) <|
  alls_nil _
set_option maxRecDepth 100000 in
theorem sX6_miner_0 (l : Launch) : AllS (pSnd l rmX6_miner yX6_miner.cls cX6_miner wsX6_miner 3 (some .int)) 0 kX6_miner_0 :=
  alls _ (s_aload_n rfl dX6_miner_0) <|
  alls _ (s_iload_n rfl dX6_miner_1) <|
  alls _ (s_callv (ct_X6_isMiner l) rfl rfl rfl (gdV wd_914 wd_916 wd_25 wd_65 wd_917) rfl rfl (by decide +kernel) ⟨Nat.le_of_ble_eq_true rfl, Nat.le_of_ble_eq_true rfl⟩ dX6_miner_2) <|
  alls _ (s_if_ne (by decide) dX6_miner_5) <|
  alls _ (s_aload_n rfl dX6_miner_8) <|
  alls _ (s_iconst dX6_miner_9) <|
  alls _ (s_callv (ct_X6_no l) rfl rfl rfl (gdV wd_842 wd_844 wd_11 wd_65 wd_845) rfl rfl (by decide +kernel) ⟨Nat.le_of_ble_eq_true rfl, Nat.le_of_ble_eq_true rfl⟩ dX6_miner_10) <|
  alls _ (s_iret dX6_miner_13) <|
  alls_nil _
def KX6_miner : List (Nat × pProg) := [(0, kX6_miner_0), (14, kX6_miner_14), (44, kX6_miner_44), (51, kX6_miner_51), (58, kX6_miner_58), (65, kX6_miner_65), (71, kX6_miner_71)]
theorem bX6_miner_0 : blkOf KX6_miner 0 = some kX6_miner_0 := rfl
theorem bX6_miner_14 : blkOf KX6_miner 14 = some kX6_miner_14 := rfl
theorem bX6_miner_44 : blkOf KX6_miner 44 = some kX6_miner_44 := rfl
theorem bX6_miner_51 : blkOf KX6_miner 51 = some kX6_miner_51 := rfl
theorem bX6_miner_58 : blkOf KX6_miner 58 = some kX6_miner_58 := rfl
theorem bX6_miner_65 : blkOf KX6_miner 65 = some kX6_miner_65 := rfl
theorem bX6_miner_71 : blkOf KX6_miner 71 = some kX6_miner_71 := rfl
def tX6_miner : pT := pM KX6_miner 3
theorem ct_X6_miner (l : Launch) : pCtr l yX6_miner wsX6_miner rmX6_miner 3 tX6_miner := ctr_of (by decide +kernel) rfl (List.forall_mem_cons.mpr ⟨sX6_miner_0 l, List.forall_mem_cons.mpr ⟨sX6_miner_14 l, List.forall_mem_cons.mpr ⟨sX6_miner_44 l, List.forall_mem_cons.mpr ⟨sX6_miner_51 l, List.forall_mem_cons.mpr ⟨sX6_miner_58 l, List.forall_mem_cons.mpr ⟨sX6_miner_65 l, List.forall_mem_cons.mpr ⟨sX6_miner_71 l, fun _ h => absurd h List.not_mem_nil⟩⟩⟩⟩⟩⟩⟩)
theorem dX6_pair_0 : decode cX6_pair 0 = .ok (.aload_n 0, 1) := by decide +kernel
theorem dX6_pair_1 : decode cX6_pair 1 = .ok (.iload_n 1, 1) := by decide +kernel
theorem dX6_pair_2 : decode cX6_pair 2 = .ok (.invokevirtual 106, 3) := by decide +kernel
theorem dX6_pair_5 : decode cX6_pair 5 = .ok (.ifCond .ne 9, 3) := by decide +kernel
theorem dX6_pair_8 : decode cX6_pair 8 = .ok (.aload_n 0, 1) := by decide +kernel
theorem dX6_pair_9 : decode cX6_pair 9 = .ok (.iconst (-1), 1) := by decide +kernel
theorem dX6_pair_10 : decode cX6_pair 10 = .ok (.invokevirtual 71, 3) := by decide +kernel
theorem dX6_pair_13 : decode cX6_pair 13 = .ok (.ireturn, 1) := by decide +kernel
theorem dX6_pair_14 : decode cX6_pair 14 = .ok (.iload_n 2, 1) := by decide +kernel
theorem dX6_pair_15 : decode cX6_pair 15 = .ok (.tableswitch 51 0 2 #[25, 32, 39], 25) := by decide +kernel
theorem dX6_pair_40 : decode cX6_pair 40 = .ok (.aload_n 0, 1) := by decide +kernel
theorem dX6_pair_41 : decode cX6_pair 41 = .ok (.getfield 25, 3) := by decide +kernel
theorem dX6_pair_44 : decode cX6_pair 44 = .ok (.iload_n 1, 1) := by decide +kernel
theorem dX6_pair_45 : decode cX6_pair 45 = .ok (.iaload, 1) := by decide +kernel
theorem dX6_pair_46 : decode cX6_pair 46 = .ok (.ireturn, 1) := by decide +kernel
theorem dX6_pair_47 : decode cX6_pair 47 = .ok (.aload_n 0, 1) := by decide +kernel
theorem dX6_pair_48 : decode cX6_pair 48 = .ok (.getfield 28, 3) := by decide +kernel
theorem dX6_pair_51 : decode cX6_pair 51 = .ok (.iload_n 1, 1) := by decide +kernel
theorem dX6_pair_52 : decode cX6_pair 52 = .ok (.iaload, 1) := by decide +kernel
theorem dX6_pair_53 : decode cX6_pair 53 = .ok (.ireturn, 1) := by decide +kernel
theorem dX6_pair_54 : decode cX6_pair 54 = .ok (.aload_n 0, 1) := by decide +kernel
theorem dX6_pair_55 : decode cX6_pair 55 = .ok (.iload_n 1, 1) := by decide +kernel
theorem dX6_pair_56 : decode cX6_pair 56 = .ok (.aload_n 0, 1) := by decide +kernel
theorem dX6_pair_57 : decode cX6_pair 57 = .ok (.getfield 112, 3) := by decide +kernel
theorem dX6_pair_60 : decode cX6_pair 60 = .ok (.iconst 1, 1) := by decide +kernel
theorem dX6_pair_61 : decode cX6_pair 61 = .ok (.iadd, 1) := by decide +kernel
theorem dX6_pair_62 : decode cX6_pair 62 = .ok (.invokevirtual 184, 3) := by decide +kernel
theorem dX6_pair_65 : decode cX6_pair 65 = .ok (.ireturn, 1) := by decide +kernel
theorem dX6_pair_66 : decode cX6_pair 66 = .ok (.aload_n 0, 1) := by decide +kernel
theorem dX6_pair_67 : decode cX6_pair 67 = .ok (.bipush (-2), 2) := by decide +kernel
theorem dX6_pair_69 : decode cX6_pair 69 = .ok (.invokevirtual 71, 3) := by decide +kernel
theorem dX6_pair_72 : decode cX6_pair 72 = .ok (.ireturn, 1) := by decide +kernel
def rmX6_pair : Room := { frames := 3, cells := 0, slots := 0, locals := 68 }
abbrev wsX6_pair : List Cond := .code yX6_pair cX6_pair 3 (some .int) :: gw_tbl
def kX6_pair_66 : pProg := (66, 1, a_aload 0) :: (67, 2, a_iconst (-2)) :: (69, 3, a_callv 2 4 [0, 1, 2, 3, 4, 5, 6, 7, 8, 9, 10, 11, 12, 13, 14, 15, 16] tX6_no) :: (72, 1, a_iret) :: []
def kX6_pair_54 : pProg := (54, 1, a_aload 0) :: (55, 1, a_iload 1) :: (56, 1, a_aload 0) :: (57, 3, a_getf 0 4 8) :: (60, 1, a_iconst 1) :: (61, 1, a_iadd) :: (62, 3, a_callv 3 4 [0, 1, 2, 3, 4, 5, 6, 7, 8, 9, 10, 11, 12, 13, 14, 15, 16] tX6_speaker) :: (65, 1, a_iret) :: []
def kX6_pair_47 : pProg := (47, 1, a_aload 0) :: (48, 3, a_getf 0 4 6) :: (51, 1, a_iload 1) :: (52, 1, a_iald 7) :: (53, 1, a_iret) :: []
def kX6_pair_40 : pProg := (40, 1, a_aload 0) :: (41, 3, a_getf 0 4 5) :: (44, 1, a_iload 1) :: (45, 1, a_iald 6) :: (46, 1, a_iret) :: []
def kX6_pair_14 : pProg := (14, 1, a_iload 2) :: (15, 25, a_lsw [(0, 40), (1, 47), (2, 54)] 66) :: []
def kX6_pair_0 : pProg := (0, 1, a_aload 0) :: (1, 1, a_iload 1) :: (2, 3, a_callv 2 4 [0, 1, 2, 3, 4, 5, 6, 7, 8, 9, 10, 11, 12, 13, 14, 15, 16] tX6_isPair) :: (5, 3, a_if_ne 14) :: (8, 1, a_aload 0) :: (9, 1, a_iconst (-1)) :: (10, 3, a_callv 2 4 [0, 1, 2, 3, 4, 5, 6, 7, 8, 9, 10, 11, 12, 13, 14, 15, 16] tX6_no) :: (13, 1, a_iret) :: []
set_option maxRecDepth 100000 in
theorem sX6_pair_66 (l : Launch) : AllS (pSnd l rmX6_pair yX6_pair.cls cX6_pair wsX6_pair 3 (some .int)) 66 kX6_pair_66 :=
  alls _ (s_aload_n rfl dX6_pair_66) <|
  alls _ (s_bipush (by decide) dX6_pair_67) <|
  alls _ (s_callv (ct_X6_no l) rfl rfl rfl (gdV wd_842 wd_844 wd_11 wd_65 wd_845) rfl rfl (by decide +kernel) ⟨Nat.le_of_ble_eq_true rfl, Nat.le_of_ble_eq_true rfl⟩ dX6_pair_69) <|
  alls _ (s_iret dX6_pair_72) <|
  alls_nil _
set_option maxRecDepth 100000 in
theorem sX6_pair_54 (l : Launch) : AllS (pSnd l rmX6_pair yX6_pair.cls cX6_pair wsX6_pair 3 (some .int)) 54 kX6_pair_54 :=
  alls _ (s_aload_n rfl dX6_pair_54) <|
  alls _ (s_iload_n rfl dX6_pair_55) <|
  alls _ (s_aload_n rfl dX6_pair_56) <|
  alls _ (s_getf (C := RX6) (T := TX6) (N := 29) rfl (in_c inX6) (by decide) (List.mem_cons_of_mem _ wd_755) rfl dX6_pair_57) <|
  alls _ (s_iconst dX6_pair_60) <|
  alls _ (s_iadd dX6_pair_61) <|
  alls _ (s_callv (ct_X6_speaker l) rfl rfl rfl (gdV wd_942 wd_944 wd_32 wd_65 wd_945) rfl rfl (by decide +kernel) ⟨Nat.le_of_ble_eq_true rfl, Nat.le_of_ble_eq_true rfl⟩ dX6_pair_62) <|
  alls _ (s_iret dX6_pair_65) <|
  alls_nil _
set_option maxRecDepth 100000 in
theorem sX6_pair_47 (l : Launch) : AllS (pSnd l rmX6_pair yX6_pair.cls cX6_pair wsX6_pair 3 (some .int)) 47 kX6_pair_47 :=
  alls _ (s_aload_n rfl dX6_pair_47) <|
  alls _ (s_getf (C := RX6) (T := TX6) (N := 29) rfl (in_c inX6) (by decide) (List.mem_cons_of_mem _ wd_753) rfl dX6_pair_48) <|
  alls _ (s_iload_n rfl dX6_pair_51) <|
  alls _ (s_iald dX6_pair_52) <|
  alls _ (s_iret dX6_pair_53) <|
  alls_nil _
set_option maxRecDepth 100000 in
theorem sX6_pair_40 (l : Launch) : AllS (pSnd l rmX6_pair yX6_pair.cls cX6_pair wsX6_pair 3 (some .int)) 40 kX6_pair_40 :=
  alls _ (s_aload_n rfl dX6_pair_40) <|
  alls _ (s_getf (C := RX6) (T := TX6) (N := 29) rfl (in_c inX6) (by decide) (List.mem_cons_of_mem _ wd_752) rfl dX6_pair_41) <|
  alls _ (s_iload_n rfl dX6_pair_44) <|
  alls _ (s_iald dX6_pair_45) <|
  alls _ (s_iret dX6_pair_46) <|
  alls_nil _
set_option maxRecDepth 100000 in
theorem sX6_pair_14 (l : Launch) : AllS (pSnd l rmX6_pair yX6_pair.cls cX6_pair wsX6_pair 3 (some .int)) 14 kX6_pair_14 :=
  alls _ (s_iload_n rfl dX6_pair_14) <|
  alls _ (s_tsw (by decide) (by decide) (by decide) (by decide) dX6_pair_15) <|
  alls_nil _
set_option maxRecDepth 100000 in
theorem sX6_pair_0 (l : Launch) : AllS (pSnd l rmX6_pair yX6_pair.cls cX6_pair wsX6_pair 3 (some .int)) 0 kX6_pair_0 :=
  alls _ (s_aload_n rfl dX6_pair_0) <|
  alls _ (s_iload_n rfl dX6_pair_1) <|
  alls _ (s_callv (ct_X6_isPair l) rfl rfl rfl (gdV wd_907 wd_909 wd_24 wd_65 wd_910) rfl rfl (by decide +kernel) ⟨Nat.le_of_ble_eq_true rfl, Nat.le_of_ble_eq_true rfl⟩ dX6_pair_2) <|
  alls _ (s_if_ne (by decide) dX6_pair_5) <|
  alls _ (s_aload_n rfl dX6_pair_8) <|
  alls _ (s_iconst dX6_pair_9) <|
  alls _ (s_callv (ct_X6_no l) rfl rfl rfl (gdV wd_842 wd_844 wd_11 wd_65 wd_845) rfl rfl (by decide +kernel) ⟨Nat.le_of_ble_eq_true rfl, Nat.le_of_ble_eq_true rfl⟩ dX6_pair_10) <|
  alls _ (s_iret dX6_pair_13) <|
  alls_nil _
def KX6_pair : List (Nat × pProg) := [(0, kX6_pair_0), (14, kX6_pair_14), (40, kX6_pair_40), (47, kX6_pair_47), (54, kX6_pair_54), (66, kX6_pair_66)]
theorem bX6_pair_0 : blkOf KX6_pair 0 = some kX6_pair_0 := rfl
theorem bX6_pair_14 : blkOf KX6_pair 14 = some kX6_pair_14 := rfl
theorem bX6_pair_40 : blkOf KX6_pair 40 = some kX6_pair_40 := rfl
theorem bX6_pair_47 : blkOf KX6_pair 47 = some kX6_pair_47 := rfl
theorem bX6_pair_54 : blkOf KX6_pair 54 = some kX6_pair_54 := rfl
theorem bX6_pair_66 : blkOf KX6_pair 66 = some kX6_pair_66 := rfl
def tX6_pair : pT := pM KX6_pair 3
theorem ct_X6_pair (l : Launch) : pCtr l yX6_pair wsX6_pair rmX6_pair 3 tX6_pair := ctr_of (by decide +kernel) rfl (List.forall_mem_cons.mpr ⟨sX6_pair_0 l, List.forall_mem_cons.mpr ⟨sX6_pair_14 l, List.forall_mem_cons.mpr ⟨sX6_pair_40 l, List.forall_mem_cons.mpr ⟨sX6_pair_47 l, List.forall_mem_cons.mpr ⟨sX6_pair_54 l, List.forall_mem_cons.mpr ⟨sX6_pair_66 l, fun _ h => absurd h List.not_mem_nil⟩⟩⟩⟩⟩⟩)
theorem dX6_beams_0 : decode cX6_beams 0 = .ok (.iload_n 1, 1) := by decide +kernel
theorem dX6_beams_1 : decode cX6_beams 1 = .ok (.invokestatic 103, 3) := by decide +kernel
theorem dX6_beams_4 : decode cX6_beams 4 = .ok (.ifCond .eq 12, 3) := by decide +kernel
theorem dX6_beams_7 : decode cX6_beams 7 = .ok (.aload_n 0, 1) := by decide +kernel
theorem dX6_beams_8 : decode cX6_beams 8 = .ok (.getfield 13, 3) := by decide +kernel
theorem dX6_beams_11 : decode cX6_beams 11 = .ok (.iload_n 1, 1) := by decide +kernel
theorem dX6_beams_12 : decode cX6_beams 12 = .ok (.iaload, 1) := by decide +kernel
theorem dX6_beams_13 : decode cX6_beams 13 = .ok (.goto 8, 3) := by decide +kernel
theorem dX6_beams_16 : decode cX6_beams 16 = .ok (.aload_n 0, 1) := by decide +kernel
theorem dX6_beams_17 : decode cX6_beams 17 = .ok (.iconst (-1), 1) := by decide +kernel
theorem dX6_beams_18 : decode cX6_beams 18 = .ok (.invokevirtual 71, 3) := by decide +kernel
theorem dX6_beams_21 : decode cX6_beams 21 = .ok (.ireturn, 1) := by decide +kernel
def rmX6_beams : Room := { frames := 1, cells := 0, slots := 0, locals := 21 }
abbrev wsX6_beams : List Cond := .code yX6_beams cX6_beams 2 (some .int) :: gw_tbl
def kX6_beams_21 : pProg := (21, 1, a_iret) :: []
def kX6_beams_16 : pProg := (16, 1, a_aload 0) :: (17, 1, a_iconst (-1)) :: (18, 3, a_callv 2 4 [0, 1, 2, 3, 4, 5, 6, 7, 8, 9, 10, 11, 12, 13, 14, 15, 16] tX6_no) :: (21, 0, a_fall 21) :: []
def kX6_beams_0 : pProg := (0, 1, a_iload 1) :: (1, 3, a_calls 1 [] tX6_isCell) :: (4, 3, a_if_eq 16) :: (7, 1, a_aload 0) :: (8, 3, a_getf 0 4 1) :: (11, 1, a_iload 1) :: (12, 1, a_iald 2) :: (13, 3, a_goto 21) :: []
set_option maxRecDepth 100000 in
theorem sX6_beams_21 (l : Launch) : AllS (pSnd l rmX6_beams yX6_beams.cls cX6_beams wsX6_beams 2 (some .int)) 21 kX6_beams_21 :=
  alls _ (s_iret dX6_beams_21) <|
  alls_nil _
set_option maxRecDepth 100000 in
theorem sX6_beams_16 (l : Launch) : AllS (pSnd l rmX6_beams yX6_beams.cls cX6_beams wsX6_beams 2 (some .int)) 16 kX6_beams_16 :=
  alls _ (s_aload_n rfl dX6_beams_16) <|
  alls _ (s_iconst dX6_beams_17) <|
  alls _ (s_callv (ct_X6_no l) rfl rfl rfl (gdV wd_842 wd_844 wd_11 wd_65 wd_845) rfl rfl (by decide +kernel) ⟨Nat.le_of_ble_eq_true rfl, Nat.le_of_ble_eq_true rfl⟩ dX6_beams_18) <|
  alls _ s_fall (alls_nil _)
set_option maxRecDepth 100000 in
theorem sX6_beams_0 (l : Launch) : AllS (pSnd l rmX6_beams yX6_beams.cls cX6_beams wsX6_beams 2 (some .int)) 0 kX6_beams_0 :=
  alls _ (s_iload_n rfl dX6_beams_0) <|
  alls _ (s_calls (ct_X6_isCell l) rfl rfl (gdS wd_898) (List.mem_cons_of_mem _ wd_896) (List.mem_cons_of_mem _ wd_897) (List.mem_cons_of_mem _ wd_65) rfl rfl (by decide +kernel) ⟨Nat.le_of_ble_eq_true rfl, Nat.le_of_ble_eq_true rfl⟩ dX6_beams_1) <|
  alls _ (s_if_eq (by decide) dX6_beams_4) <|
  alls _ (s_aload_n rfl dX6_beams_7) <|
  alls _ (s_getf (C := RX6) (T := TX6) (N := 29) rfl (in_c inX6) (by decide) (List.mem_cons_of_mem _ wd_748) rfl dX6_beams_8) <|
  alls _ (s_iload_n rfl dX6_beams_11) <|
  alls _ (s_iald dX6_beams_12) <|
  alls _ (s_goto (by decide) dX6_beams_13) <|
  alls_nil _
def KX6_beams : List (Nat × pProg) := [(0, kX6_beams_0), (16, kX6_beams_16), (21, kX6_beams_21)]
theorem bX6_beams_0 : blkOf KX6_beams 0 = some kX6_beams_0 := rfl
theorem bX6_beams_16 : blkOf KX6_beams 16 = some kX6_beams_16 := rfl
theorem bX6_beams_21 : blkOf KX6_beams 21 = some kX6_beams_21 := rfl
def tX6_beams : pT := pM KX6_beams 2
theorem ct_X6_beams (l : Launch) : pCtr l yX6_beams wsX6_beams rmX6_beams 2 tX6_beams := ctr_of (by decide +kernel) rfl (List.forall_mem_cons.mpr ⟨sX6_beams_0 l, List.forall_mem_cons.mpr ⟨sX6_beams_16 l, List.forall_mem_cons.mpr ⟨sX6_beams_21 l, fun _ h => absurd h List.not_mem_nil⟩⟩⟩)
theorem dX6_props_0 : decode cX6_props 0 = .ok (.iload_n 1, 1) := by decide +kernel
theorem dX6_props_1 : decode cX6_props 1 = .ok (.invokestatic 103, 3) := by decide +kernel
theorem dX6_props_4 : decode cX6_props 4 = .ok (.ifCond .ne 7, 3) := by decide +kernel
theorem dX6_props_7 : decode cX6_props 7 = .ok (.iconst (-1), 1) := by decide +kernel
theorem dX6_props_8 : decode cX6_props 8 = .ok (.goto 9, 3) := by decide +kernel
theorem dX6_props_11 : decode cX6_props 11 = .ok (.iload_n 2, 1) := by decide +kernel
theorem dX6_props_12 : decode cX6_props 12 = .ok (.iconst 0, 1) := by decide +kernel
theorem dX6_props_13 : decode cX6_props 13 = .ok (.iconst 3, 1) := by decide +kernel
theorem dX6_props_14 : decode cX6_props 14 = .ok (.invokestatic 64, 3) := by decide +kernel
theorem dX6_props_17 : decode cX6_props 17 = .ok (.istore_n 3, 1) := by decide +kernel
theorem dX6_props_18 : decode cX6_props 18 = .ok (.iload_n 3, 1) := by decide +kernel
theorem dX6_props_19 : decode cX6_props 19 = .ok (.ifCond .eq 9, 3) := by decide +kernel
theorem dX6_props_22 : decode cX6_props 22 = .ok (.aload_n 0, 1) := by decide +kernel
theorem dX6_props_23 : decode cX6_props 23 = .ok (.iload_n 3, 1) := by decide +kernel
theorem dX6_props_24 : decode cX6_props 24 = .ok (.invokevirtual 71, 3) := by decide +kernel
theorem dX6_props_27 : decode cX6_props 27 = .ok (.ireturn, 1) := by decide +kernel
theorem dX6_props_28 : decode cX6_props 28 = .ok (.aload_n 0, 1) := by decide +kernel
theorem dX6_props_29 : decode cX6_props 29 = .ok (.getfield 13, 3) := by decide +kernel
theorem dX6_props_32 : decode cX6_props 32 = .ok (.iload_n 1, 1) := by decide +kernel
theorem dX6_props_33 : decode cX6_props 33 = .ok (.iaload, 1) := by decide +kernel
theorem dX6_props_34 : decode cX6_props 34 = .ok (.istore 4, 2) := by decide +kernel
theorem dX6_props_36 : decode cX6_props 36 = .ok (.aload_n 0, 1) := by decide +kernel
theorem dX6_props_37 : decode cX6_props 37 = .ok (.getfield 13, 3) := by decide +kernel
theorem dX6_props_40 : decode cX6_props 40 = .ok (.iload_n 1, 1) := by decide +kernel
theorem dX6_props_41 : decode cX6_props 41 = .ok (.iload_n 2, 1) := by decide +kernel
theorem dX6_props_42 : decode cX6_props 42 = .ok (.iastore, 1) := by decide +kernel
theorem dX6_props_43 : decode cX6_props 43 = .ok (.iload 4, 2) := by decide +kernel
theorem dX6_props_45 : decode cX6_props 45 = .ok (.ireturn, 1) := by decide +kernel
def rmX6_props : Room := { frames := 1, cells := 0, slots := 0, locals := 22 }
abbrev wsX6_props : List Cond := .code yX6_props cX6_props 5 (some .int) :: gw_tbl
def kX6_props_28 : pProg := (28, 1, a_aload 0) :: (29, 3, a_getf 0 4 1) :: (32, 1, a_iload 1) :: (33, 1, a_iald 2) :: (34, 2, a_istore 4) :: (36, 1, a_aload 0) :: (37, 3, a_getf 0 4 1) :: (40, 1, a_iload 1) :: (41, 1, a_iload 2) :: (42, 1, a_iast 2) :: (43, 2, a_iload 4) :: (45, 1, a_iret) :: []
def kX6_props_17 : pProg := (17, 1, a_istore 3) :: (18, 1, a_iload 3) :: (19, 3, a_if_eq 28) :: (22, 1, a_aload 0) :: (23, 1, a_iload 3) :: (24, 3, a_callv 2 4 [0, 1, 2, 3, 4, 5, 6, 7, 8, 9, 10, 11, 12, 13, 14, 15, 16] tX6_no) :: (27, 1, a_iret) :: []
def kX6_props_11 : pProg := (11, 1, a_iload 2) :: (12, 1, a_iconst 0) :: (13, 1, a_iconst 3) :: (14, 3, a_calls 3 [] tX6_bound) :: (17, 0, a_fall 17) :: []
def kX6_props_0 : pProg := (0, 1, a_iload 1) :: (1, 3, a_calls 1 [] tX6_isCell) :: (4, 3, a_if_ne 11) :: (7, 1, a_iconst (-1)) :: (8, 3, a_goto 17) :: []
set_option maxRecDepth 100000 in
theorem sX6_props_28 (l : Launch) : AllS (pSnd l rmX6_props yX6_props.cls cX6_props wsX6_props 5 (some .int)) 28 kX6_props_28 :=
  alls _ (s_aload_n rfl dX6_props_28) <|
  alls _ (s_getf (C := RX6) (T := TX6) (N := 29) rfl (in_c inX6) (by decide) (List.mem_cons_of_mem _ wd_748) rfl dX6_props_29) <|
  alls _ (s_iload_n rfl dX6_props_32) <|
  alls _ (s_iald dX6_props_33) <|
  alls _ (s_istore dX6_props_34) <|
  alls _ (s_aload_n rfl dX6_props_36) <|
  alls _ (s_getf (C := RX6) (T := TX6) (N := 29) rfl (in_c inX6) (by decide) (List.mem_cons_of_mem _ wd_748) rfl dX6_props_37) <|
  alls _ (s_iload_n rfl dX6_props_40) <|
  alls _ (s_iload_n rfl dX6_props_41) <|
  alls _ (s_iast dX6_props_42) <|
  alls _ (s_iload dX6_props_43) <|
  alls _ (s_iret dX6_props_45) <|
  alls_nil _
set_option maxRecDepth 100000 in
theorem sX6_props_17 (l : Launch) : AllS (pSnd l rmX6_props yX6_props.cls cX6_props wsX6_props 5 (some .int)) 17 kX6_props_17 :=
  alls _ (s_istore_n rfl dX6_props_17) <|
  alls _ (s_iload_n rfl dX6_props_18) <|
  alls _ (s_if_eq (by decide) dX6_props_19) <|
  alls _ (s_aload_n rfl dX6_props_22) <|
  alls _ (s_iload_n rfl dX6_props_23) <|
  alls _ (s_callv (ct_X6_no l) rfl rfl rfl (gdV wd_842 wd_844 wd_11 wd_65 wd_845) rfl rfl (by decide +kernel) ⟨Nat.le_of_ble_eq_true rfl, Nat.le_of_ble_eq_true rfl⟩ dX6_props_24) <|
  alls _ (s_iret dX6_props_27) <|
  alls_nil _
set_option maxRecDepth 100000 in
theorem sX6_props_11 (l : Launch) : AllS (pSnd l rmX6_props yX6_props.cls cX6_props wsX6_props 5 (some .int)) 11 kX6_props_11 :=
  alls _ (s_iload_n rfl dX6_props_11) <|
  alls _ (s_iconst dX6_props_12) <|
  alls _ (s_iconst dX6_props_13) <|
  alls _ (s_calls (ct_X6_bound l) rfl rfl (gdS wd_841) (List.mem_cons_of_mem _ wd_839) (List.mem_cons_of_mem _ wd_840) (List.mem_cons_of_mem _ wd_65) rfl rfl (by decide +kernel) ⟨Nat.le_of_ble_eq_true rfl, Nat.le_of_ble_eq_true rfl⟩ dX6_props_14) <|
  alls _ s_fall (alls_nil _)
set_option maxRecDepth 100000 in
theorem sX6_props_0 (l : Launch) : AllS (pSnd l rmX6_props yX6_props.cls cX6_props wsX6_props 5 (some .int)) 0 kX6_props_0 :=
  alls _ (s_iload_n rfl dX6_props_0) <|
  alls _ (s_calls (ct_X6_isCell l) rfl rfl (gdS wd_898) (List.mem_cons_of_mem _ wd_896) (List.mem_cons_of_mem _ wd_897) (List.mem_cons_of_mem _ wd_65) rfl rfl (by decide +kernel) ⟨Nat.le_of_ble_eq_true rfl, Nat.le_of_ble_eq_true rfl⟩ dX6_props_1) <|
  alls _ (s_if_ne (by decide) dX6_props_4) <|
  alls _ (s_iconst dX6_props_7) <|
  alls _ (s_goto (by decide) dX6_props_8) <|
  alls_nil _
def KX6_props : List (Nat × pProg) := [(0, kX6_props_0), (11, kX6_props_11), (17, kX6_props_17), (28, kX6_props_28)]
theorem bX6_props_0 : blkOf KX6_props 0 = some kX6_props_0 := rfl
theorem bX6_props_11 : blkOf KX6_props 11 = some kX6_props_11 := rfl
theorem bX6_props_17 : blkOf KX6_props 17 = some kX6_props_17 := rfl
theorem bX6_props_28 : blkOf KX6_props 28 = some kX6_props_28 := rfl
def tX6_props : pT := pM KX6_props 5
theorem ct_X6_props (l : Launch) : pCtr l yX6_props wsX6_props rmX6_props 3 tX6_props := ctr_of (by decide +kernel) rfl (List.forall_mem_cons.mpr ⟨sX6_props_0 l, List.forall_mem_cons.mpr ⟨sX6_props_11 l, List.forall_mem_cons.mpr ⟨sX6_props_17 l, List.forall_mem_cons.mpr ⟨sX6_props_28 l, fun _ h => absurd h List.not_mem_nil⟩⟩⟩⟩)
theorem dX6_stands_0 : decode cX6_stands 0 = .ok (.aload_n 0, 1) := by decide +kernel
theorem dX6_stands_1 : decode cX6_stands 1 = .ok (.iload_n 1, 1) := by decide +kernel
theorem dX6_stands_2 : decode cX6_stands 2 = .ok (.invokevirtual 106, 3) := by decide +kernel
theorem dX6_stands_5 : decode cX6_stands 5 = .ok (.ifCond .eq 10, 3) := by decide +kernel
theorem dX6_stands_8 : decode cX6_stands 8 = .ok (.iload_n 2, 1) := by decide +kernel
theorem dX6_stands_9 : decode cX6_stands 9 = .ok (.invokestatic 103, 3) := by decide +kernel
theorem dX6_stands_12 : decode cX6_stands 12 = .ok (.ifCond .ne 9, 3) := by decide +kernel
theorem dX6_stands_15 : decode cX6_stands 15 = .ok (.aload_n 0, 1) := by decide +kernel
theorem dX6_stands_16 : decode cX6_stands 16 = .ok (.iconst (-1), 1) := by decide +kernel
theorem dX6_stands_17 : decode cX6_stands 17 = .ok (.invokevirtual 71, 3) := by decide +kernel
theorem dX6_stands_20 : decode cX6_stands 20 = .ok (.ireturn, 1) := by decide +kernel
theorem dX6_stands_21 : decode cX6_stands 21 = .ok (.aload_n 0, 1) := by decide +kernel
theorem dX6_stands_22 : decode cX6_stands 22 = .ok (.getfield 25, 3) := by decide +kernel
theorem dX6_stands_25 : decode cX6_stands 25 = .ok (.iload_n 1, 1) := by decide +kernel
theorem dX6_stands_26 : decode cX6_stands 26 = .ok (.iaload, 1) := by decide +kernel
theorem dX6_stands_27 : decode cX6_stands 27 = .ok (.istore_n 3, 1) := by decide +kernel
theorem dX6_stands_28 : decode cX6_stands 28 = .ok (.aload_n 0, 1) := by decide +kernel
theorem dX6_stands_29 : decode cX6_stands 29 = .ok (.getfield 25, 3) := by decide +kernel
theorem dX6_stands_32 : decode cX6_stands 32 = .ok (.iload_n 1, 1) := by decide +kernel
theorem dX6_stands_33 : decode cX6_stands 33 = .ok (.iload_n 2, 1) := by decide +kernel
theorem dX6_stands_34 : decode cX6_stands 34 = .ok (.iastore, 1) := by decide +kernel
theorem dX6_stands_35 : decode cX6_stands 35 = .ok (.iload_n 3, 1) := by decide +kernel
theorem dX6_stands_36 : decode cX6_stands 36 = .ok (.ireturn, 1) := by decide +kernel
def rmX6_stands : Room := { frames := 1, cells := 0, slots := 0, locals := 21 }
abbrev wsX6_stands : List Cond := .code yX6_stands cX6_stands 4 (some .int) :: gw_tbl
def kX6_stands_21 : pProg := (21, 1, a_aload 0) :: (22, 3, a_getf 0 4 5) :: (25, 1, a_iload 1) :: (26, 1, a_iald 6) :: (27, 1, a_istore 3) :: (28, 1, a_aload 0) :: (29, 3, a_getf 0 4 5) :: (32, 1, a_iload 1) :: (33, 1, a_iload 2) :: (34, 1, a_iast 6) :: (35, 1, a_iload 3) :: (36, 1, a_iret) :: []
def kX6_stands_15 : pProg := (15, 1, a_aload 0) :: (16, 1, a_iconst (-1)) :: (17, 3, a_callv 2 4 [0, 1, 2, 3, 4, 5, 6, 7, 8, 9, 10, 11, 12, 13, 14, 15, 16] tX6_no) :: (20, 1, a_iret) :: []
def kX6_stands_0 : pProg := (0, 1, a_aload 0) :: (1, 1, a_iload 1) :: (2, 3, a_callv 2 4 [0, 1, 2, 3, 4, 5, 6, 7, 8, 9, 10, 11, 12, 13, 14, 15, 16] tX6_isPair) :: (5, 3, a_if_eq 15) :: (8, 1, a_iload 2) :: (9, 3, a_calls 1 [] tX6_isCell) :: (12, 3, a_if_ne 21) :: (15, 0, a_fall 15) :: []
set_option maxRecDepth 100000 in
theorem sX6_stands_21 (l : Launch) : AllS (pSnd l rmX6_stands yX6_stands.cls cX6_stands wsX6_stands 4 (some .int)) 21 kX6_stands_21 :=
  alls _ (s_aload_n rfl dX6_stands_21) <|
  alls _ (s_getf (C := RX6) (T := TX6) (N := 29) rfl (in_c inX6) (by decide) (List.mem_cons_of_mem _ wd_752) rfl dX6_stands_22) <|
  alls _ (s_iload_n rfl dX6_stands_25) <|
  alls _ (s_iald dX6_stands_26) <|
  alls _ (s_istore_n rfl dX6_stands_27) <|
  alls _ (s_aload_n rfl dX6_stands_28) <|
  alls _ (s_getf (C := RX6) (T := TX6) (N := 29) rfl (in_c inX6) (by decide) (List.mem_cons_of_mem _ wd_752) rfl dX6_stands_29) <|
  alls _ (s_iload_n rfl dX6_stands_32) <|
  alls _ (s_iload_n rfl dX6_stands_33) <|
  alls _ (s_iast dX6_stands_34) <|
  alls _ (s_iload_n rfl dX6_stands_35) <|
  alls _ (s_iret dX6_stands_36) <|
  alls_nil _
set_option maxRecDepth 100000 in
theorem sX6_stands_15 (l : Launch) : AllS (pSnd l rmX6_stands yX6_stands.cls cX6_stands wsX6_stands 4 (some .int)) 15 kX6_stands_15 :=
  alls _ (s_aload_n rfl dX6_stands_15) <|
  alls _ (s_iconst dX6_stands_16) <|
  alls _ (s_callv (ct_X6_no l) rfl rfl rfl (gdV wd_842 wd_844 wd_11 wd_65 wd_845) rfl rfl (by decide +kernel) ⟨Nat.le_of_ble_eq_true rfl, Nat.le_of_ble_eq_true rfl⟩ dX6_stands_17) <|
  alls _ (s_iret dX6_stands_20) <|
  alls_nil _
set_option maxRecDepth 100000 in
theorem sX6_stands_0 (l : Launch) : AllS (pSnd l rmX6_stands yX6_stands.cls cX6_stands wsX6_stands 4 (some .int)) 0 kX6_stands_0 :=
  alls _ (s_aload_n rfl dX6_stands_0) <|
  alls _ (s_iload_n rfl dX6_stands_1) <|
  alls _ (s_callv (ct_X6_isPair l) rfl rfl rfl (gdV wd_907 wd_909 wd_24 wd_65 wd_910) rfl rfl (by decide +kernel) ⟨Nat.le_of_ble_eq_true rfl, Nat.le_of_ble_eq_true rfl⟩ dX6_stands_2) <|
  alls _ (s_if_eq (by decide) dX6_stands_5) <|
  alls _ (s_iload_n rfl dX6_stands_8) <|
  alls _ (s_calls (ct_X6_isCell l) rfl rfl (gdS wd_898) (List.mem_cons_of_mem _ wd_896) (List.mem_cons_of_mem _ wd_897) (List.mem_cons_of_mem _ wd_65) rfl rfl (by decide +kernel) ⟨Nat.le_of_ble_eq_true rfl, Nat.le_of_ble_eq_true rfl⟩ dX6_stands_9) <|
  alls _ (s_if_ne (by decide) dX6_stands_12) <|
  alls _ s_fall (alls_nil _)
def KX6_stands : List (Nat × pProg) := [(0, kX6_stands_0), (15, kX6_stands_15), (21, kX6_stands_21)]
theorem bX6_stands_0 : blkOf KX6_stands 0 = some kX6_stands_0 := rfl
theorem bX6_stands_15 : blkOf KX6_stands 15 = some kX6_stands_15 := rfl
theorem bX6_stands_21 : blkOf KX6_stands 21 = some kX6_stands_21 := rfl
def tX6_stands : pT := pM KX6_stands 4
theorem ct_X6_stands (l : Launch) : pCtr l yX6_stands wsX6_stands rmX6_stands 3 tX6_stands := ctr_of (by decide +kernel) rfl (List.forall_mem_cons.mpr ⟨sX6_stands_0 l, List.forall_mem_cons.mpr ⟨sX6_stands_15 l, List.forall_mem_cons.mpr ⟨sX6_stands_21 l, fun _ h => absurd h List.not_mem_nil⟩⟩⟩)
theorem dX6_adds_0 : decode cX6_adds 0 = .ok (.aload_n 0, 1) := by decide +kernel
theorem dX6_adds_1 : decode cX6_adds 1 = .ok (.iload_n 1, 1) := by decide +kernel
theorem dX6_adds_2 : decode cX6_adds 2 = .ok (.invokevirtual 106, 3) := by decide +kernel
theorem dX6_adds_5 : decode cX6_adds 5 = .ok (.ifCond .ne 7, 3) := by decide +kernel
theorem dX6_adds_8 : decode cX6_adds 8 = .ok (.iconst (-1), 1) := by decide +kernel
theorem dX6_adds_9 : decode cX6_adds 9 = .ok (.goto 10, 3) := by decide +kernel
theorem dX6_adds_12 : decode cX6_adds 12 = .ok (.iload_n 2, 1) := by decide +kernel
theorem dX6_adds_13 : decode cX6_adds 13 = .ok (.iconst 0, 1) := by decide +kernel
theorem dX6_adds_14 : decode cX6_adds 14 = .ok (.bipush 99, 2) := by decide +kernel
theorem dX6_adds_16 : decode cX6_adds 16 = .ok (.invokestatic 64, 3) := by decide +kernel
theorem dX6_adds_19 : decode cX6_adds 19 = .ok (.istore_n 3, 1) := by decide +kernel
theorem dX6_adds_20 : decode cX6_adds 20 = .ok (.iload_n 3, 1) := by decide +kernel
theorem dX6_adds_21 : decode cX6_adds 21 = .ok (.ifCond .eq 9, 3) := by decide +kernel
theorem dX6_adds_24 : decode cX6_adds 24 = .ok (.aload_n 0, 1) := by decide +kernel
theorem dX6_adds_25 : decode cX6_adds 25 = .ok (.iload_n 3, 1) := by decide +kernel
theorem dX6_adds_26 : decode cX6_adds 26 = .ok (.invokevirtual 71, 3) := by decide +kernel
theorem dX6_adds_29 : decode cX6_adds 29 = .ok (.ireturn, 1) := by decide +kernel
theorem dX6_adds_30 : decode cX6_adds 30 = .ok (.aload_n 0, 1) := by decide +kernel
theorem dX6_adds_31 : decode cX6_adds 31 = .ok (.getfield 28, 3) := by decide +kernel
theorem dX6_adds_34 : decode cX6_adds 34 = .ok (.iload_n 1, 1) := by decide +kernel
theorem dX6_adds_35 : decode cX6_adds 35 = .ok (.aload_n 0, 1) := by decide +kernel
theorem dX6_adds_36 : decode cX6_adds 36 = .ok (.getfield 28, 3) := by decide +kernel
theorem dX6_adds_39 : decode cX6_adds 39 = .ok (.iload_n 1, 1) := by decide +kernel
theorem dX6_adds_40 : decode cX6_adds 40 = .ok (.iaload, 1) := by decide +kernel
theorem dX6_adds_41 : decode cX6_adds 41 = .ok (.iload_n 2, 1) := by decide +kernel
theorem dX6_adds_42 : decode cX6_adds 42 = .ok (.iadd, 1) := by decide +kernel
theorem dX6_adds_43 : decode cX6_adds 43 = .ok (.invokestatic 109, 3) := by decide +kernel
theorem dX6_adds_46 : decode cX6_adds 46 = .ok (.iastore, 1) := by decide +kernel
theorem dX6_adds_47 : decode cX6_adds 47 = .ok (.aload_n 0, 1) := by decide +kernel
theorem dX6_adds_48 : decode cX6_adds 48 = .ok (.getfield 28, 3) := by decide +kernel
theorem dX6_adds_51 : decode cX6_adds 51 = .ok (.iload_n 1, 1) := by decide +kernel
theorem dX6_adds_52 : decode cX6_adds 52 = .ok (.iaload, 1) := by decide +kernel
theorem dX6_adds_53 : decode cX6_adds 53 = .ok (.ireturn, 1) := by decide +kernel
def rmX6_adds : Room := { frames := 1, cells := 0, slots := 0, locals := 22 }
abbrev wsX6_adds : List Cond := .code yX6_adds cX6_adds 4 (some .int) :: gw_tbl
def kX6_adds_30 : pProg := (30, 1, a_aload 0) :: (31, 3, a_getf 0 4 6) :: (34, 1, a_iload 1) :: (35, 1, a_aload 0) :: (36, 3, a_getf 0 4 6) :: (39, 1, a_iload 1) :: (40, 1, a_iald 7) :: (41, 1, a_iload 2) :: (42, 1, a_iadd) :: (43, 3, a_calls 1 [] tX6_held) :: (46, 1, a_iast 7) :: (47, 1, a_aload 0) :: (48, 3, a_getf 0 4 6) :: (51, 1, a_iload 1) :: (52, 1, a_iald 7) :: (53, 1, a_iret) :: []
def kX6_adds_19 : pProg := (19, 1, a_istore 3) :: (20, 1, a_iload 3) :: (21, 3, a_if_eq 30) :: (24, 1, a_aload 0) :: (25, 1, a_iload 3) :: (26, 3, a_callv 2 4 [0, 1, 2, 3, 4, 5, 6, 7, 8, 9, 10, 11, 12, 13, 14, 15, 16] tX6_no) :: (29, 1, a_iret) :: []
def kX6_adds_12 : pProg := (12, 1, a_iload 2) :: (13, 1, a_iconst 0) :: (14, 2, a_iconst 99) :: (16, 3, a_calls 3 [] tX6_bound) :: (19, 0, a_fall 19) :: []
def kX6_adds_0 : pProg := (0, 1, a_aload 0) :: (1, 1, a_iload 1) :: (2, 3, a_callv 2 4 [0, 1, 2, 3, 4, 5, 6, 7, 8, 9, 10, 11, 12, 13, 14, 15, 16] tX6_isPair) :: (5, 3, a_if_ne 12) :: (8, 1, a_iconst (-1)) :: (9, 3, a_goto 19) :: []
set_option maxRecDepth 100000 in
theorem sX6_adds_30 (l : Launch) : AllS (pSnd l rmX6_adds yX6_adds.cls cX6_adds wsX6_adds 4 (some .int)) 30 kX6_adds_30 :=
  alls _ (s_aload_n rfl dX6_adds_30) <|
  alls _ (s_getf (C := RX6) (T := TX6) (N := 29) rfl (in_c inX6) (by decide) (List.mem_cons_of_mem _ wd_753) rfl dX6_adds_31) <|
  alls _ (s_iload_n rfl dX6_adds_34) <|
  alls _ (s_aload_n rfl dX6_adds_35) <|
  alls _ (s_getf (C := RX6) (T := TX6) (N := 29) rfl (in_c inX6) (by decide) (List.mem_cons_of_mem _ wd_753) rfl dX6_adds_36) <|
  alls _ (s_iload_n rfl dX6_adds_39) <|
  alls _ (s_iald dX6_adds_40) <|
  alls _ (s_iload_n rfl dX6_adds_41) <|
  alls _ (s_iadd dX6_adds_42) <|
  alls _ (s_calls (ct_X6_held l) rfl rfl (gdS wd_913) (List.mem_cons_of_mem _ wd_911) (List.mem_cons_of_mem _ wd_912) (List.mem_cons_of_mem _ wd_65) rfl rfl (by decide +kernel) ⟨Nat.le_of_ble_eq_true rfl, Nat.le_of_ble_eq_true rfl⟩ dX6_adds_43) <|
  alls _ (s_iast dX6_adds_46) <|
  alls _ (s_aload_n rfl dX6_adds_47) <|
  alls _ (s_getf (C := RX6) (T := TX6) (N := 29) rfl (in_c inX6) (by decide) (List.mem_cons_of_mem _ wd_753) rfl dX6_adds_48) <|
  alls _ (s_iload_n rfl dX6_adds_51) <|
  alls _ (s_iald dX6_adds_52) <|
  alls _ (s_iret dX6_adds_53) <|
  alls_nil _
set_option maxRecDepth 100000 in
theorem sX6_adds_19 (l : Launch) : AllS (pSnd l rmX6_adds yX6_adds.cls cX6_adds wsX6_adds 4 (some .int)) 19 kX6_adds_19 :=
  alls _ (s_istore_n rfl dX6_adds_19) <|
  alls _ (s_iload_n rfl dX6_adds_20) <|
  alls _ (s_if_eq (by decide) dX6_adds_21) <|
  alls _ (s_aload_n rfl dX6_adds_24) <|
  alls _ (s_iload_n rfl dX6_adds_25) <|
  alls _ (s_callv (ct_X6_no l) rfl rfl rfl (gdV wd_842 wd_844 wd_11 wd_65 wd_845) rfl rfl (by decide +kernel) ⟨Nat.le_of_ble_eq_true rfl, Nat.le_of_ble_eq_true rfl⟩ dX6_adds_26) <|
  alls _ (s_iret dX6_adds_29) <|
  alls_nil _
set_option maxRecDepth 100000 in
theorem sX6_adds_12 (l : Launch) : AllS (pSnd l rmX6_adds yX6_adds.cls cX6_adds wsX6_adds 4 (some .int)) 12 kX6_adds_12 :=
  alls _ (s_iload_n rfl dX6_adds_12) <|
  alls _ (s_iconst dX6_adds_13) <|
  alls _ (s_bipush (by decide) dX6_adds_14) <|
  alls _ (s_calls (ct_X6_bound l) rfl rfl (gdS wd_841) (List.mem_cons_of_mem _ wd_839) (List.mem_cons_of_mem _ wd_840) (List.mem_cons_of_mem _ wd_65) rfl rfl (by decide +kernel) ⟨Nat.le_of_ble_eq_true rfl, Nat.le_of_ble_eq_true rfl⟩ dX6_adds_16) <|
  alls _ s_fall (alls_nil _)
set_option maxRecDepth 100000 in
theorem sX6_adds_0 (l : Launch) : AllS (pSnd l rmX6_adds yX6_adds.cls cX6_adds wsX6_adds 4 (some .int)) 0 kX6_adds_0 :=
  alls _ (s_aload_n rfl dX6_adds_0) <|
  alls _ (s_iload_n rfl dX6_adds_1) <|
  alls _ (s_callv (ct_X6_isPair l) rfl rfl rfl (gdV wd_907 wd_909 wd_24 wd_65 wd_910) rfl rfl (by decide +kernel) ⟨Nat.le_of_ble_eq_true rfl, Nat.le_of_ble_eq_true rfl⟩ dX6_adds_2) <|
  alls _ (s_if_ne (by decide) dX6_adds_5) <|
  alls _ (s_iconst dX6_adds_8) <|
  alls _ (s_goto (by decide) dX6_adds_9) <|
  alls_nil _
def KX6_adds : List (Nat × pProg) := [(0, kX6_adds_0), (12, kX6_adds_12), (19, kX6_adds_19), (30, kX6_adds_30)]
theorem bX6_adds_0 : blkOf KX6_adds 0 = some kX6_adds_0 := rfl
theorem bX6_adds_12 : blkOf KX6_adds 12 = some kX6_adds_12 := rfl
theorem bX6_adds_19 : blkOf KX6_adds 19 = some kX6_adds_19 := rfl
theorem bX6_adds_30 : blkOf KX6_adds 30 = some kX6_adds_30 := rfl
def tX6_adds : pT := pM KX6_adds 4
theorem ct_X6_adds (l : Launch) : pCtr l yX6_adds wsX6_adds rmX6_adds 3 tX6_adds := ctr_of (by decide +kernel) rfl (List.forall_mem_cons.mpr ⟨sX6_adds_0 l, List.forall_mem_cons.mpr ⟨sX6_adds_12 l, List.forall_mem_cons.mpr ⟨sX6_adds_19 l, List.forall_mem_cons.mpr ⟨sX6_adds_30 l, fun _ h => absurd h List.not_mem_nil⟩⟩⟩⟩)
theorem dX6_swaps_0 : decode cX6_swaps 0 = .ok (.aload_n 0, 1) := by decide +kernel
theorem dX6_swaps_1 : decode cX6_swaps 1 = .ok (.iload_n 1, 1) := by decide +kernel
theorem dX6_swaps_2 : decode cX6_swaps 2 = .ok (.invokevirtual 128, 3) := by decide +kernel
theorem dX6_swaps_5 : decode cX6_swaps 5 = .ok (.ifCond .eq 16, 3) := by decide +kernel
theorem dX6_swaps_8 : decode cX6_swaps 8 = .ok (.aload_n 0, 1) := by decide +kernel
theorem dX6_swaps_9 : decode cX6_swaps 9 = .ok (.iload_n 2, 1) := by decide +kernel
theorem dX6_swaps_10 : decode cX6_swaps 10 = .ok (.invokevirtual 128, 3) := by decide +kernel
theorem dX6_swaps_13 : decode cX6_swaps 13 = .ok (.ifCond .eq 8, 3) := by decide +kernel
theorem dX6_swaps_16 : decode cX6_swaps 16 = .ok (.iload_n 1, 1) := by decide +kernel
theorem dX6_swaps_17 : decode cX6_swaps 17 = .ok (.iload_n 2, 1) := by decide +kernel
theorem dX6_swaps_18 : decode cX6_swaps 18 = .ok (.if_icmp .ne 9, 3) := by decide +kernel
theorem dX6_swaps_21 : decode cX6_swaps 21 = .ok (.aload_n 0, 1) := by decide +kernel
theorem dX6_swaps_22 : decode cX6_swaps 22 = .ok (.iconst (-1), 1) := by decide +kernel
theorem dX6_swaps_23 : decode cX6_swaps 23 = .ok (.invokevirtual 71, 3) := by decide +kernel
theorem dX6_swaps_26 : decode cX6_swaps 26 = .ok (.ireturn, 1) := by decide +kernel
theorem dX6_swaps_27 : decode cX6_swaps 27 = .ok (.aload_n 0, 1) := by decide +kernel
theorem dX6_swaps_28 : decode cX6_swaps 28 = .ok (.iload_n 1, 1) := by decide +kernel
theorem dX6_swaps_29 : decode cX6_swaps 29 = .ok (.iload_n 2, 1) := by decide +kernel
theorem dX6_swaps_30 : decode cX6_swaps 30 = .ok (.invokevirtual 131, 3) := by decide +kernel
theorem dX6_swaps_33 : decode cX6_swaps 33 = .ok (.aload_n 0, 1) := by decide +kernel
theorem dX6_swaps_34 : decode cX6_swaps 34 = .ok (.getfield 16, 3) := by decide +kernel
theorem dX6_swaps_37 : decode cX6_swaps 37 = .ok (.iload_n 1, 1) := by decide +kernel
theorem dX6_swaps_38 : decode cX6_swaps 38 = .ok (.iaload, 1) := by decide +kernel
theorem dX6_swaps_39 : decode cX6_swaps 39 = .ok (.ireturn, 1) := by decide +kernel
def rmX6_swaps : Room := { frames := 2, cells := 0, slots := 0, locals := 46 }
abbrev wsX6_swaps : List Cond := .code yX6_swaps cX6_swaps 3 (some .int) :: gw_tbl
def kX6_swaps_27 : pProg := (27, 1, a_aload 0) :: (28, 1, a_iload 1) :: (29, 1, a_iload 2) :: (30, 3, a_callv 3 4 [0, 1, 2, 3, 4, 5, 6, 7, 8, 9, 10, 11, 12, 13, 14, 15, 16] tX6_changesTwo) :: (33, 1, a_aload 0) :: (34, 3, a_getf 0 4 2) :: (37, 1, a_iload 1) :: (38, 1, a_iald 3) :: (39, 1, a_iret) :: []
def kX6_swaps_21 : pProg := (21, 1, a_aload 0) :: (22, 1, a_iconst (-1)) :: (23, 3, a_callv 2 4 [0, 1, 2, 3, 4, 5, 6, 7, 8, 9, 10, 11, 12, 13, 14, 15, 16] tX6_no) :: (26, 1, a_iret) :: []
def kX6_swaps_0 : pProg := (0, 1, a_aload 0) :: (1, 1, a_iload 1) :: (2, 3, a_callv 2 4 [0, 1, 2, 3, 4, 5, 6, 7, 8, 9, 10, 11, 12, 13, 14, 15, 16] tX6_isMiner) :: (5, 3, a_if_eq 21) :: (8, 1, a_aload 0) :: (9, 1, a_iload 2) :: (10, 3, a_callv 2 4 [0, 1, 2, 3, 4, 5, 6, 7, 8, 9, 10, 11, 12, 13, 14, 15, 16] tX6_isMiner) :: (13, 3, a_if_eq 21) :: (16, 1, a_iload 1) :: (17, 1, a_iload 2) :: (18, 3, a_icmp_ne 27) :: (21, 0, a_fall 21) :: []
set_option maxRecDepth 100000 in
theorem sX6_swaps_27 (l : Launch) : AllS (pSnd l rmX6_swaps yX6_swaps.cls cX6_swaps wsX6_swaps 3 (some .int)) 27 kX6_swaps_27 :=
  alls _ (s_aload_n rfl dX6_swaps_27) <|
  alls _ (s_iload_n rfl dX6_swaps_28) <|
  alls _ (s_iload_n rfl dX6_swaps_29) <|
  alls _ (s_callv (ct_X6_changesTwo l) rfl rfl rfl (gdV wd_918 wd_920 wd_26 wd_65 wd_921) rfl rfl (by decide +kernel) ⟨Nat.le_of_ble_eq_true rfl, Nat.le_of_ble_eq_true rfl⟩ dX6_swaps_30) <|
  alls _ (s_aload_n rfl dX6_swaps_33) <|
  alls _ (s_getf (C := RX6) (T := TX6) (N := 29) rfl (in_c inX6) (by decide) (List.mem_cons_of_mem _ wd_749) rfl dX6_swaps_34) <|
  alls _ (s_iload_n rfl dX6_swaps_37) <|
  alls _ (s_iald dX6_swaps_38) <|
  alls _ (s_iret dX6_swaps_39) <|
  alls_nil _
set_option maxRecDepth 100000 in
theorem sX6_swaps_21 (l : Launch) : AllS (pSnd l rmX6_swaps yX6_swaps.cls cX6_swaps wsX6_swaps 3 (some .int)) 21 kX6_swaps_21 :=
  alls _ (s_aload_n rfl dX6_swaps_21) <|
  alls _ (s_iconst dX6_swaps_22) <|
  alls _ (s_callv (ct_X6_no l) rfl rfl rfl (gdV wd_842 wd_844 wd_11 wd_65 wd_845) rfl rfl (by decide +kernel) ⟨Nat.le_of_ble_eq_true rfl, Nat.le_of_ble_eq_true rfl⟩ dX6_swaps_23) <|
  alls _ (s_iret dX6_swaps_26) <|
  alls_nil _
set_option maxRecDepth 100000 in
theorem sX6_swaps_0 (l : Launch) : AllS (pSnd l rmX6_swaps yX6_swaps.cls cX6_swaps wsX6_swaps 3 (some .int)) 0 kX6_swaps_0 :=
  alls _ (s_aload_n rfl dX6_swaps_0) <|
  alls _ (s_iload_n rfl dX6_swaps_1) <|
  alls _ (s_callv (ct_X6_isMiner l) rfl rfl rfl (gdV wd_914 wd_916 wd_25 wd_65 wd_917) rfl rfl (by decide +kernel) ⟨Nat.le_of_ble_eq_true rfl, Nat.le_of_ble_eq_true rfl⟩ dX6_swaps_2) <|
  alls _ (s_if_eq (by decide) dX6_swaps_5) <|
  alls _ (s_aload_n rfl dX6_swaps_8) <|
  alls _ (s_iload_n rfl dX6_swaps_9) <|
  alls _ (s_callv (ct_X6_isMiner l) rfl rfl rfl (gdV wd_914 wd_916 wd_25 wd_65 wd_917) rfl rfl (by decide +kernel) ⟨Nat.le_of_ble_eq_true rfl, Nat.le_of_ble_eq_true rfl⟩ dX6_swaps_10) <|
  alls _ (s_if_eq (by decide) dX6_swaps_13) <|
  alls _ (s_iload_n rfl dX6_swaps_16) <|
  alls _ (s_iload_n rfl dX6_swaps_17) <|
  alls _ (s_icmp_ne (by decide) dX6_swaps_18) <|
  alls _ s_fall (alls_nil _)
def KX6_swaps : List (Nat × pProg) := [(0, kX6_swaps_0), (21, kX6_swaps_21), (27, kX6_swaps_27)]
theorem bX6_swaps_0 : blkOf KX6_swaps 0 = some kX6_swaps_0 := rfl
theorem bX6_swaps_21 : blkOf KX6_swaps 21 = some kX6_swaps_21 := rfl
theorem bX6_swaps_27 : blkOf KX6_swaps 27 = some kX6_swaps_27 := rfl
def tX6_swaps : pT := pM KX6_swaps 3
theorem ct_X6_swaps (l : Launch) : pCtr l yX6_swaps wsX6_swaps rmX6_swaps 3 tX6_swaps := ctr_of (by decide +kernel) rfl (List.forall_mem_cons.mpr ⟨sX6_swaps_0 l, List.forall_mem_cons.mpr ⟨sX6_swaps_21 l, List.forall_mem_cons.mpr ⟨sX6_swaps_27 l, fun _ h => absurd h List.not_mem_nil⟩⟩⟩)
theorem dX6_turn_0 : decode cX6_turn 0 = .ok (.aload_n 0, 1) := by decide +kernel
theorem dX6_turn_1 : decode cX6_turn 1 = .ok (.iload_n 1, 1) := by decide +kernel
theorem dX6_turn_2 : decode cX6_turn 2 = .ok (.invokevirtual 128, 3) := by decide +kernel
theorem dX6_turn_5 : decode cX6_turn 5 = .ok (.ifCond .ne 7, 3) := by decide +kernel
theorem dX6_turn_8 : decode cX6_turn 8 = .ok (.iconst (-1), 1) := by decide +kernel
theorem dX6_turn_9 : decode cX6_turn 9 = .ok (.goto 24, 3) := by decide +kernel
theorem dX6_turn_12 : decode cX6_turn 12 = .ok (.iload_n 2, 1) := by decide +kernel
theorem dX6_turn_13 : decode cX6_turn 13 = .ok (.iconst 0, 1) := by decide +kernel
theorem dX6_turn_14 : decode cX6_turn 14 = .ok (.iconst 5, 1) := by decide +kernel
theorem dX6_turn_15 : decode cX6_turn 15 = .ok (.invokestatic 82, 3) := by decide +kernel
theorem dX6_turn_18 : decode cX6_turn 18 = .ok (.ifCond .ne 8, 3) := by decide +kernel
theorem dX6_turn_21 : decode cX6_turn 21 = .ok (.bipush (-2), 2) := by decide +kernel
theorem dX6_turn_23 : decode cX6_turn 23 = .ok (.goto 10, 3) := by decide +kernel
theorem dX6_turn_26 : decode cX6_turn 26 = .ok (.iload_n 3, 1) := by decide +kernel
theorem dX6_turn_27 : decode cX6_turn 27 = .ok (.iconst 0, 1) := by decide +kernel
theorem dX6_turn_28 : decode cX6_turn 28 = .ok (.bipush 9, 2) := by decide +kernel
theorem dX6_turn_30 : decode cX6_turn 30 = .ok (.invokestatic 64, 3) := by decide +kernel
theorem dX6_turn_33 : decode cX6_turn 33 = .ok (.istore 4, 2) := by decide +kernel
theorem dX6_turn_35 : decode cX6_turn 35 = .ok (.iload 4, 2) := by decide +kernel
theorem dX6_turn_37 : decode cX6_turn 37 = .ok (.ifCond .eq 10, 3) := by decide +kernel
theorem dX6_turn_40 : decode cX6_turn 40 = .ok (.aload_n 0, 1) := by decide +kernel
theorem dX6_turn_41 : decode cX6_turn 41 = .ok (.iload 4, 2) := by decide +kernel
theorem dX6_turn_43 : decode cX6_turn 43 = .ok (.invokevirtual 71, 3) := by decide +kernel
theorem dX6_turn_46 : decode cX6_turn 46 = .ok (.ireturn, 1) := by decide +kernel
theorem dX6_turn_47 : decode cX6_turn 47 = .ok (.bipush 10, 2) := by decide +kernel
theorem dX6_turn_49 : decode cX6_turn 49 = .ok (.aload_n 0, 1) := by decide +kernel
theorem dX6_turn_50 : decode cX6_turn 50 = .ok (.getfield 16, 3) := by decide +kernel
theorem dX6_turn_53 : decode cX6_turn 53 = .ok (.iload_n 1, 1) := by decide +kernel
theorem dX6_turn_54 : decode cX6_turn 54 = .ok (.iaload, 1) := by decide +kernel
theorem dX6_turn_55 : decode cX6_turn 55 = .ok (.imul, 1) := by decide +kernel
theorem dX6_turn_56 : decode cX6_turn 56 = .ok (.aload_n 0, 1) := by decide +kernel
theorem dX6_turn_57 : decode cX6_turn 57 = .ok (.getfield 19, 3) := by decide +kernel
theorem dX6_turn_60 : decode cX6_turn 60 = .ok (.iload_n 1, 1) := by decide +kernel
theorem dX6_turn_61 : decode cX6_turn 61 = .ok (.iaload, 1) := by decide +kernel
theorem dX6_turn_62 : decode cX6_turn 62 = .ok (.iadd, 1) := by decide +kernel
theorem dX6_turn_63 : decode cX6_turn 63 = .ok (.istore 5, 2) := by decide +kernel
theorem dX6_turn_65 : decode cX6_turn 65 = .ok (.aload_n 0, 1) := by decide +kernel
theorem dX6_turn_66 : decode cX6_turn 66 = .ok (.getfield 16, 3) := by decide +kernel
theorem dX6_turn_69 : decode cX6_turn 69 = .ok (.iload_n 1, 1) := by decide +kernel
theorem dX6_turn_70 : decode cX6_turn 70 = .ok (.iload_n 2, 1) := by decide +kernel
theorem dX6_turn_71 : decode cX6_turn 71 = .ok (.iastore, 1) := by decide +kernel
theorem dX6_turn_72 : decode cX6_turn 72 = .ok (.aload_n 0, 1) := by decide +kernel
theorem dX6_turn_73 : decode cX6_turn 73 = .ok (.getfield 19, 3) := by decide +kernel
theorem dX6_turn_76 : decode cX6_turn 76 = .ok (.iload_n 1, 1) := by decide +kernel
theorem dX6_turn_77 : decode cX6_turn 77 = .ok (.iload_n 3, 1) := by decide +kernel
theorem dX6_turn_78 : decode cX6_turn 78 = .ok (.iastore, 1) := by decide +kernel
theorem dX6_turn_79 : decode cX6_turn 79 = .ok (.iload 5, 2) := by decide +kernel
theorem dX6_turn_81 : decode cX6_turn 81 = .ok (.ireturn, 1) := by decide +kernel
def rmX6_turn : Room := { frames := 1, cells := 0, slots := 0, locals := 22 }
abbrev wsX6_turn : List Cond := .code yX6_turn cX6_turn 6 (some .int) :: gw_tbl
def kX6_turn_47 : pProg := (47, 2, a_iconst 10) :: (49, 1, a_aload 0) :: (50, 3, a_getf 0 4 2) :: (53, 1, a_iload 1) :: (54, 1, a_iald 3) :: (55, 1, a_imul) :: (56, 1, a_aload 0) :: (57, 3, a_getf 0 4 3) :: (60, 1, a_iload 1) :: (61, 1, a_iald 4) :: (62, 1, a_iadd) :: (63, 2, a_istore 5) :: (65, 1, a_aload 0) :: (66, 3, a_getf 0 4 2) :: (69, 1, a_iload 1) :: (70, 1, a_iload 2) :: (71, 1, a_iast 3) :: (72, 1, a_aload 0) :: (73, 3, a_getf 0 4 3) :: (76, 1, a_iload 1) :: (77, 1, a_iload 3) :: (78, 1, a_iast 4) :: (79, 2, a_iload 5) :: (81, 1, a_iret) :: []
def kX6_turn_33 : pProg := (33, 2, a_istore 4) :: (35, 2, a_iload 4) :: (37, 3, a_if_eq 47) :: (40, 1, a_aload 0) :: (41, 2, a_iload 4) :: (43, 3, a_callv 2 4 [0, 1, 2, 3, 4, 5, 6, 7, 8, 9, 10, 11, 12, 13, 14, 15, 16] tX6_no) :: (46, 1, a_iret) :: []
def kX6_turn_26 : pProg := (26, 1, a_iload 3) :: (27, 1, a_iconst 0) :: (28, 2, a_iconst 9) :: (30, 3, a_calls 3 [] tX6_bound) :: (33, 0, a_fall 33) :: []
def kX6_turn_12 : pProg := (12, 1, a_iload 2) :: (13, 1, a_iconst 0) :: (14, 1, a_iconst 5) :: (15, 3, a_calls 3 [] tX6_isIn) :: (18, 3, a_if_ne 26) :: (21, 2, a_iconst (-2)) :: (23, 3, a_goto 33) :: []
def kX6_turn_0 : pProg := (0, 1, a_aload 0) :: (1, 1, a_iload 1) :: (2, 3, a_callv 2 4 [0, 1, 2, 3, 4, 5, 6, 7, 8, 9, 10, 11, 12, 13, 14, 15, 16] tX6_isMiner) :: (5, 3, a_if_ne 12) :: (8, 1, a_iconst (-1)) :: (9, 3, a_goto 33) :: []
set_option maxRecDepth 100000 in
theorem sX6_turn_47 (l : Launch) : AllS (pSnd l rmX6_turn yX6_turn.cls cX6_turn wsX6_turn 6 (some .int)) 47 kX6_turn_47 :=
  alls _ (s_bipush (by decide) dX6_turn_47) <|
  alls _ (s_aload_n rfl dX6_turn_49) <|
  alls _ (s_getf (C := RX6) (T := TX6) (N := 29) rfl (in_c inX6) (by decide) (List.mem_cons_of_mem _ wd_749) rfl dX6_turn_50) <|
  alls _ (s_iload_n rfl dX6_turn_53) <|
  alls _ (s_iald dX6_turn_54) <|
  alls _ (s_imul dX6_turn_55) <|
  alls _ (s_aload_n rfl dX6_turn_56) <|
  alls _ (s_getf (C := RX6) (T := TX6) (N := 29) rfl (in_c inX6) (by decide) (List.mem_cons_of_mem _ wd_750) rfl dX6_turn_57) <|
  alls _ (s_iload_n rfl dX6_turn_60) <|
  alls _ (s_iald dX6_turn_61) <|
  alls _ (s_iadd dX6_turn_62) <|
  alls _ (s_istore dX6_turn_63) <|
  alls _ (s_aload_n rfl dX6_turn_65) <|
  alls _ (s_getf (C := RX6) (T := TX6) (N := 29) rfl (in_c inX6) (by decide) (List.mem_cons_of_mem _ wd_749) rfl dX6_turn_66) <|
  alls _ (s_iload_n rfl dX6_turn_69) <|
  alls _ (s_iload_n rfl dX6_turn_70) <|
  alls _ (s_iast dX6_turn_71) <|
  alls _ (s_aload_n rfl dX6_turn_72) <|
  alls _ (s_getf (C := RX6) (T := TX6) (N := 29) rfl (in_c inX6) (by decide) (List.mem_cons_of_mem _ wd_750) rfl dX6_turn_73) <|
  alls _ (s_iload_n rfl dX6_turn_76) <|
  alls _ (s_iload_n rfl dX6_turn_77) <|
  alls _ (s_iast dX6_turn_78) <|
  alls _ (s_iload dX6_turn_79) <|
  alls _ (s_iret dX6_turn_81) <|
  alls_nil _
set_option maxRecDepth 100000 in
theorem sX6_turn_33 (l : Launch) : AllS (pSnd l rmX6_turn yX6_turn.cls cX6_turn wsX6_turn 6 (some .int)) 33 kX6_turn_33 :=
  alls _ (s_istore dX6_turn_33) <|
  alls _ (s_iload dX6_turn_35) <|
  alls _ (s_if_eq (by decide) dX6_turn_37) <|
  alls _ (s_aload_n rfl dX6_turn_40) <|
  alls _ (s_iload dX6_turn_41) <|
  alls _ (s_callv (ct_X6_no l) rfl rfl rfl (gdV wd_842 wd_844 wd_11 wd_65 wd_845) rfl rfl (by decide +kernel) ⟨Nat.le_of_ble_eq_true rfl, Nat.le_of_ble_eq_true rfl⟩ dX6_turn_43) <|
  alls _ (s_iret dX6_turn_46) <|
  alls_nil _
set_option maxRecDepth 100000 in
theorem sX6_turn_26 (l : Launch) : AllS (pSnd l rmX6_turn yX6_turn.cls cX6_turn wsX6_turn 6 (some .int)) 26 kX6_turn_26 :=
  alls _ (s_iload_n rfl dX6_turn_26) <|
  alls _ (s_iconst dX6_turn_27) <|
  alls _ (s_bipush (by decide) dX6_turn_28) <|
  alls _ (s_calls (ct_X6_bound l) rfl rfl (gdS wd_841) (List.mem_cons_of_mem _ wd_839) (List.mem_cons_of_mem _ wd_840) (List.mem_cons_of_mem _ wd_65) rfl rfl (by decide +kernel) ⟨Nat.le_of_ble_eq_true rfl, Nat.le_of_ble_eq_true rfl⟩ dX6_turn_30) <|
  alls _ s_fall (alls_nil _)
set_option maxRecDepth 100000 in
theorem sX6_turn_12 (l : Launch) : AllS (pSnd l rmX6_turn yX6_turn.cls cX6_turn wsX6_turn 6 (some .int)) 12 kX6_turn_12 :=
  alls _ (s_iload_n rfl dX6_turn_12) <|
  alls _ (s_iconst dX6_turn_13) <|
  alls _ (s_iconst dX6_turn_14) <|
  alls _ (s_calls (ct_X6_isIn l) rfl rfl (gdS wd_868) (List.mem_cons_of_mem _ wd_866) (List.mem_cons_of_mem _ wd_867) (List.mem_cons_of_mem _ wd_65) rfl rfl (by decide +kernel) ⟨Nat.le_of_ble_eq_true rfl, Nat.le_of_ble_eq_true rfl⟩ dX6_turn_15) <|
  alls _ (s_if_ne (by decide) dX6_turn_18) <|
  alls _ (s_bipush (by decide) dX6_turn_21) <|
  alls _ (s_goto (by decide) dX6_turn_23) <|
  alls_nil _
set_option maxRecDepth 100000 in
theorem sX6_turn_0 (l : Launch) : AllS (pSnd l rmX6_turn yX6_turn.cls cX6_turn wsX6_turn 6 (some .int)) 0 kX6_turn_0 :=
  alls _ (s_aload_n rfl dX6_turn_0) <|
  alls _ (s_iload_n rfl dX6_turn_1) <|
  alls _ (s_callv (ct_X6_isMiner l) rfl rfl rfl (gdV wd_914 wd_916 wd_25 wd_65 wd_917) rfl rfl (by decide +kernel) ⟨Nat.le_of_ble_eq_true rfl, Nat.le_of_ble_eq_true rfl⟩ dX6_turn_2) <|
  alls _ (s_if_ne (by decide) dX6_turn_5) <|
  alls _ (s_iconst dX6_turn_8) <|
  alls _ (s_goto (by decide) dX6_turn_9) <|
  alls_nil _
def KX6_turn : List (Nat × pProg) := [(0, kX6_turn_0), (12, kX6_turn_12), (26, kX6_turn_26), (33, kX6_turn_33), (47, kX6_turn_47)]
theorem bX6_turn_0 : blkOf KX6_turn 0 = some kX6_turn_0 := rfl
theorem bX6_turn_12 : blkOf KX6_turn 12 = some kX6_turn_12 := rfl
theorem bX6_turn_26 : blkOf KX6_turn 26 = some kX6_turn_26 := rfl
theorem bX6_turn_33 : blkOf KX6_turn 33 = some kX6_turn_33 := rfl
theorem bX6_turn_47 : blkOf KX6_turn 47 = some kX6_turn_47 := rfl
def tX6_turn : pT := pM KX6_turn 6
theorem ct_X6_turn (l : Launch) : pCtr l yX6_turn wsX6_turn rmX6_turn 4 tX6_turn := ctr_of (by decide +kernel) rfl (List.forall_mem_cons.mpr ⟨sX6_turn_0 l, List.forall_mem_cons.mpr ⟨sX6_turn_12 l, List.forall_mem_cons.mpr ⟨sX6_turn_26 l, List.forall_mem_cons.mpr ⟨sX6_turn_33 l, List.forall_mem_cons.mpr ⟨sX6_turn_47 l, fun _ h => absurd h List.not_mem_nil⟩⟩⟩⟩⟩)
theorem dX6_facesMany_0 : decode cX6_facesMany 0 = .ok (.iconst 0, 1) := by decide +kernel
theorem dX6_facesMany_1 : decode cX6_facesMany 1 = .ok (.istore_n 1, 1) := by decide +kernel
theorem dX6_facesMany_2 : decode cX6_facesMany 2 = .ok (.iconst 0, 1) := by decide +kernel
theorem dX6_facesMany_3 : decode cX6_facesMany 3 = .ok (.istore_n 2, 1) := by decide +kernel
theorem dX6_facesMany_4 : decode cX6_facesMany 4 = .ok (.iload_n 2, 1) := by decide +kernel
theorem dX6_facesMany_5 : decode cX6_facesMany 5 = .ok (.aload_n 0, 1) := by decide +kernel
theorem dX6_facesMany_6 : decode cX6_facesMany 6 = .ok (.getfield 58, 3) := by decide +kernel
theorem dX6_facesMany_9 : decode cX6_facesMany 9 = .ok (.if_icmp .ge 28, 3) := by decide +kernel
theorem dX6_facesMany_12 : decode cX6_facesMany 12 = .ok (.iload_n 1, 1) := by decide +kernel
theorem dX6_facesMany_13 : decode cX6_facesMany 13 = .ok (.aload_n 0, 1) := by decide +kernel
theorem dX6_facesMany_14 : decode cX6_facesMany 14 = .ok (.getfield 25, 3) := by decide +kernel
theorem dX6_facesMany_17 : decode cX6_facesMany 17 = .ok (.iload_n 2, 1) := by decide +kernel
theorem dX6_facesMany_18 : decode cX6_facesMany 18 = .ok (.iaload, 1) := by decide +kernel
theorem dX6_facesMany_19 : decode cX6_facesMany 19 = .ok (.bipush 19, 2) := by decide +kernel
theorem dX6_facesMany_21 : decode cX6_facesMany 21 = .ok (.if_icmp .ne 7, 3) := by decide +kernel
theorem dX6_facesMany_24 : decode cX6_facesMany 24 = .ok (.iconst 1, 1) := by decide +kernel
theorem dX6_facesMany_25 : decode cX6_facesMany 25 = .ok (.goto 4, 3) := by decide +kernel
theorem dX6_facesMany_28 : decode cX6_facesMany 28 = .ok (.iconst 0, 1) := by decide +kernel
theorem dX6_facesMany_29 : decode cX6_facesMany 29 = .ok (.iadd, 1) := by decide +kernel
theorem dX6_facesMany_30 : decode cX6_facesMany 30 = .ok (.istore_n 1, 1) := by decide +kernel
theorem dX6_facesMany_31 : decode cX6_facesMany 31 = .ok (.iinc 2 1, 3) := by decide +kernel
theorem dX6_facesMany_34 : decode cX6_facesMany 34 = .ok (.goto (-30), 3) := by decide +kernel
theorem dX6_facesMany_37 : decode cX6_facesMany 37 = .ok (.iload_n 1, 1) := by decide +kernel
theorem dX6_facesMany_38 : decode cX6_facesMany 38 = .ok (.ireturn, 1) := by decide +kernel
def rmX6_facesMany : Room := { frames := 0, cells := 0, slots := 0, locals := 0 }
abbrev wsX6_facesMany : List Cond := .code yX6_facesMany cX6_facesMany 3 (some .int) :: gw_tbl
def kX6_facesMany_37 : pProg := (37, 1, a_iload 1) :: (38, 1, a_iret) :: []
def kX6_facesMany_29 : pProg := (29, 1, a_iadd) :: (30, 1, a_istore 1) :: (31, 3, a_iinc 2 1) :: (34, 3, a_goto 4) :: []
def kX6_facesMany_28 : pProg := (28, 1, a_iconst 0) :: (29, 0, a_fall 29) :: []
def kX6_facesMany_4 : pProg := (4, 1, a_iload 2) :: (5, 1, a_aload 0) :: (6, 3, a_getf 0 4 7) :: (9, 3, a_icmp_ge 37) :: (12, 1, a_iload 1) :: (13, 1, a_aload 0) :: (14, 3, a_getf 0 4 5) :: (17, 1, a_iload 2) :: (18, 1, a_iald 6) :: (19, 2, a_iconst 19) :: (21, 3, a_icmp_ne 28) :: (24, 1, a_iconst 1) :: (25, 3, a_goto 29) :: []
def kX6_facesMany_0 : pProg := (0, 1, a_iconst 0) :: (1, 1, a_istore 1) :: (2, 1, a_iconst 0) :: (3, 1, a_istore 2) :: (4, 0, a_fall 4) :: []
set_option maxRecDepth 100000 in
theorem sX6_facesMany_37 (l : Launch) : AllS (pSnd l rmX6_facesMany yX6_facesMany.cls cX6_facesMany wsX6_facesMany 3 (some .int)) 37 kX6_facesMany_37 :=
  alls _ (s_iload_n rfl dX6_facesMany_37) <|
  alls _ (s_iret dX6_facesMany_38) <|
  alls_nil _
set_option maxRecDepth 100000 in
theorem sX6_facesMany_29 (l : Launch) : AllS (pSnd l rmX6_facesMany yX6_facesMany.cls cX6_facesMany wsX6_facesMany 3 (some .int)) 29 kX6_facesMany_29 :=
  alls _ (s_iadd dX6_facesMany_29) <|
  alls _ (s_istore_n rfl dX6_facesMany_30) <|
  alls _ (s_iinc dX6_facesMany_31) <|
  alls _ (s_goto (by decide) dX6_facesMany_34) <|
  alls_nil _
set_option maxRecDepth 100000 in
theorem sX6_facesMany_28 (l : Launch) : AllS (pSnd l rmX6_facesMany yX6_facesMany.cls cX6_facesMany wsX6_facesMany 3 (some .int)) 28 kX6_facesMany_28 :=
  alls _ (s_iconst dX6_facesMany_28) <|
  alls _ s_fall (alls_nil _)
set_option maxRecDepth 100000 in
theorem sX6_facesMany_4 (l : Launch) : AllS (pSnd l rmX6_facesMany yX6_facesMany.cls cX6_facesMany wsX6_facesMany 3 (some .int)) 4 kX6_facesMany_4 :=
  alls _ (s_iload_n rfl dX6_facesMany_4) <|
  alls _ (s_aload_n rfl dX6_facesMany_5) <|
  alls _ (s_getf (C := RX6) (T := TX6) (N := 29) rfl (in_c inX6) (by decide) (List.mem_cons_of_mem _ wd_754) rfl dX6_facesMany_6) <|
  alls _ (s_icmp_ge (by decide) dX6_facesMany_9) <|
  alls _ (s_iload_n rfl dX6_facesMany_12) <|
  alls _ (s_aload_n rfl dX6_facesMany_13) <|
  alls _ (s_getf (C := RX6) (T := TX6) (N := 29) rfl (in_c inX6) (by decide) (List.mem_cons_of_mem _ wd_752) rfl dX6_facesMany_14) <|
  alls _ (s_iload_n rfl dX6_facesMany_17) <|
  alls _ (s_iald dX6_facesMany_18) <|
  alls _ (s_bipush (by decide) dX6_facesMany_19) <|
  alls _ (s_icmp_ne (by decide) dX6_facesMany_21) <|
  alls _ (s_iconst dX6_facesMany_24) <|
  alls _ (s_goto (by decide) dX6_facesMany_25) <|
  alls_nil _
set_option maxRecDepth 100000 in
theorem sX6_facesMany_0 (l : Launch) : AllS (pSnd l rmX6_facesMany yX6_facesMany.cls cX6_facesMany wsX6_facesMany 3 (some .int)) 0 kX6_facesMany_0 :=
  alls _ (s_iconst dX6_facesMany_0) <|
  alls _ (s_istore_n rfl dX6_facesMany_1) <|
  alls _ (s_iconst dX6_facesMany_2) <|
  alls _ (s_istore_n rfl dX6_facesMany_3) <|
  alls _ s_fall (alls_nil _)
def KX6_facesMany : List (Nat × pProg) := [(0, kX6_facesMany_0), (4, kX6_facesMany_4), (28, kX6_facesMany_28), (29, kX6_facesMany_29), (37, kX6_facesMany_37)]
theorem bX6_facesMany_0 : blkOf KX6_facesMany 0 = some kX6_facesMany_0 := rfl
theorem bX6_facesMany_4 : blkOf KX6_facesMany 4 = some kX6_facesMany_4 := rfl
theorem bX6_facesMany_28 : blkOf KX6_facesMany 28 = some kX6_facesMany_28 := rfl
theorem bX6_facesMany_29 : blkOf KX6_facesMany 29 = some kX6_facesMany_29 := rfl
theorem bX6_facesMany_37 : blkOf KX6_facesMany 37 = some kX6_facesMany_37 := rfl
def tX6_facesMany : pT := pM KX6_facesMany 3
theorem ct_X6_facesMany (l : Launch) : pCtr l yX6_facesMany wsX6_facesMany rmX6_facesMany 1 tX6_facesMany := ctr_of (by decide +kernel) rfl (List.forall_mem_cons.mpr ⟨sX6_facesMany_0 l, List.forall_mem_cons.mpr ⟨sX6_facesMany_4 l, List.forall_mem_cons.mpr ⟨sX6_facesMany_28 l, List.forall_mem_cons.mpr ⟨sX6_facesMany_29 l, List.forall_mem_cons.mpr ⟨sX6_facesMany_37 l, fun _ h => absurd h List.not_mem_nil⟩⟩⟩⟩⟩)
theorem dX6_minutes_0 : decode cX6_minutes 0 = .ok (.iload_n 1, 1) := by decide +kernel
theorem dX6_minutes_1 : decode cX6_minutes 1 = .ok (.iconst 1, 1) := by decide +kernel
theorem dX6_minutes_2 : decode cX6_minutes 2 = .ok (.bipush 60, 2) := by decide +kernel
theorem dX6_minutes_4 : decode cX6_minutes 4 = .ok (.invokestatic 64, 3) := by decide +kernel
theorem dX6_minutes_7 : decode cX6_minutes 7 = .ok (.istore_n 2, 1) := by decide +kernel
theorem dX6_minutes_8 : decode cX6_minutes 8 = .ok (.iload_n 2, 1) := by decide +kernel
theorem dX6_minutes_9 : decode cX6_minutes 9 = .ok (.ifCond .ne 18, 3) := by decide +kernel
theorem dX6_minutes_12 : decode cX6_minutes 12 = .ok (.aload_n 0, 1) := by decide +kernel
theorem dX6_minutes_13 : decode cX6_minutes 13 = .ok (.getfield 112, 3) := by decide +kernel
theorem dX6_minutes_16 : decode cX6_minutes 16 = .ok (.iload_n 1, 1) := by decide +kernel
theorem dX6_minutes_17 : decode cX6_minutes 17 = .ok (.iadd, 1) := by decide +kernel
theorem dX6_minutes_18 : decode cX6_minutes 18 = .ok (.sipush 999, 3) := by decide +kernel
theorem dX6_minutes_21 : decode cX6_minutes 21 = .ok (.if_icmp .le 6, 3) := by decide +kernel
theorem dX6_minutes_24 : decode cX6_minutes 24 = .ok (.bipush (-6), 2) := by decide +kernel
theorem dX6_minutes_26 : decode cX6_minutes 26 = .ok (.istore_n 2, 1) := by decide +kernel
theorem dX6_minutes_27 : decode cX6_minutes 27 = .ok (.iload_n 2, 1) := by decide +kernel
theorem dX6_minutes_28 : decode cX6_minutes 28 = .ok (.ifCond .eq 9, 3) := by decide +kernel
theorem dX6_minutes_31 : decode cX6_minutes 31 = .ok (.aload_n 0, 1) := by decide +kernel
theorem dX6_minutes_32 : decode cX6_minutes 32 = .ok (.iload_n 2, 1) := by decide +kernel
theorem dX6_minutes_33 : decode cX6_minutes 33 = .ok (.invokevirtual 71, 3) := by decide +kernel
theorem dX6_minutes_36 : decode cX6_minutes 36 = .ok (.ireturn, 1) := by decide +kernel
theorem dX6_minutes_37 : decode cX6_minutes 37 = .ok (.aload_n 0, 1) := by decide +kernel
theorem dX6_minutes_38 : decode cX6_minutes 38 = .ok (.iload_n 1, 1) := by decide +kernel
theorem dX6_minutes_39 : decode cX6_minutes 39 = .ok (.invokevirtual 115, 3) := by decide +kernel
theorem dX6_minutes_42 : decode cX6_minutes 42 = .ok (.aload_n 0, 1) := by decide +kernel
theorem dX6_minutes_43 : decode cX6_minutes 43 = .ok (.invokevirtual 204, 3) := by decide +kernel
theorem dX6_minutes_46 : decode cX6_minutes 46 = .ok (.ireturn, 1) := by decide +kernel
def rmX6_minutes : Room := { frames := 6, cells := 0, slots := 0, locals := 133 }
abbrev wsX6_minutes : List Cond := .code yX6_minutes cX6_minutes 3 (some .int) :: gw_tbl
def kX6_minutes_37 : pProg := (37, 1, a_aload 0) :: (38, 1, a_iload 1) :: (39, 3, a_callv 2 4 [0, 1, 2, 3, 4, 5, 6, 7, 8, 9, 10, 11, 12, 13, 14, 15, 16] tX6_goes) :: (42, 1, a_aload 0) :: (43, 3, a_callv 1 4 [0, 1, 2, 3, 4, 5, 6, 7, 8, 9, 10, 11, 12, 13, 14, 15, 16] tX6_facesMany) :: (46, 1, a_iret) :: []
def kX6_minutes_27 : pProg := (27, 1, a_iload 2) :: (28, 3, a_if_eq 37) :: (31, 1, a_aload 0) :: (32, 1, a_iload 2) :: (33, 3, a_callv 2 4 [0, 1, 2, 3, 4, 5, 6, 7, 8, 9, 10, 11, 12, 13, 14, 15, 16] tX6_no) :: (36, 1, a_iret) :: []
def kX6_minutes_0 : pProg := (0, 1, a_iload 1) :: (1, 1, a_iconst 1) :: (2, 2, a_iconst 60) :: (4, 3, a_calls 3 [] tX6_bound) :: (7, 1, a_istore 2) :: (8, 1, a_iload 2) :: (9, 3, a_if_ne 27) :: (12, 1, a_aload 0) :: (13, 3, a_getf 0 4 8) :: (16, 1, a_iload 1) :: (17, 1, a_iadd) :: (18, 3, a_iconst 999) :: (21, 3, a_icmp_le 27) :: (24, 2, a_iconst (-6)) :: (26, 1, a_istore 2) :: (27, 0, a_fall 27) :: []
set_option maxRecDepth 100000 in
theorem sX6_minutes_37 (l : Launch) : AllS (pSnd l rmX6_minutes yX6_minutes.cls cX6_minutes wsX6_minutes 3 (some .int)) 37 kX6_minutes_37 :=
  alls _ (s_aload_n rfl dX6_minutes_37) <|
  alls _ (s_iload_n rfl dX6_minutes_38) <|
  alls _ (s_callv (ct_X6_goes l) rfl rfl rfl (gdV wd_930 wd_932 wd_29 wd_65 wd_933) rfl rfl (by decide +kernel) ⟨Nat.le_of_ble_eq_true rfl, Nat.le_of_ble_eq_true rfl⟩ dX6_minutes_39) <|
  alls _ (s_aload_n rfl dX6_minutes_42) <|
  alls _ (s_callv (ct_X6_facesMany l) rfl rfl rfl (gdV wd_1008 wd_1010 wd_36 wd_65 wd_1011) rfl rfl (by decide +kernel) ⟨Nat.le_of_ble_eq_true rfl, Nat.le_of_ble_eq_true rfl⟩ dX6_minutes_43) <|
  alls _ (s_iret dX6_minutes_46) <|
  alls_nil _
set_option maxRecDepth 100000 in
theorem sX6_minutes_27 (l : Launch) : AllS (pSnd l rmX6_minutes yX6_minutes.cls cX6_minutes wsX6_minutes 3 (some .int)) 27 kX6_minutes_27 :=
  alls _ (s_iload_n rfl dX6_minutes_27) <|
  alls _ (s_if_eq (by decide) dX6_minutes_28) <|
  alls _ (s_aload_n rfl dX6_minutes_31) <|
  alls _ (s_iload_n rfl dX6_minutes_32) <|
  alls _ (s_callv (ct_X6_no l) rfl rfl rfl (gdV wd_842 wd_844 wd_11 wd_65 wd_845) rfl rfl (by decide +kernel) ⟨Nat.le_of_ble_eq_true rfl, Nat.le_of_ble_eq_true rfl⟩ dX6_minutes_33) <|
  alls _ (s_iret dX6_minutes_36) <|
  alls_nil _
set_option maxRecDepth 100000 in
theorem sX6_minutes_0 (l : Launch) : AllS (pSnd l rmX6_minutes yX6_minutes.cls cX6_minutes wsX6_minutes 3 (some .int)) 0 kX6_minutes_0 :=
  alls _ (s_iload_n rfl dX6_minutes_0) <|
  alls _ (s_iconst dX6_minutes_1) <|
  alls _ (s_bipush (by decide) dX6_minutes_2) <|
  alls _ (s_calls (ct_X6_bound l) rfl rfl (gdS wd_841) (List.mem_cons_of_mem _ wd_839) (List.mem_cons_of_mem _ wd_840) (List.mem_cons_of_mem _ wd_65) rfl rfl (by decide +kernel) ⟨Nat.le_of_ble_eq_true rfl, Nat.le_of_ble_eq_true rfl⟩ dX6_minutes_4) <|
  alls _ (s_istore_n rfl dX6_minutes_7) <|
  alls _ (s_iload_n rfl dX6_minutes_8) <|
  alls _ (s_if_ne (by decide) dX6_minutes_9) <|
  alls _ (s_aload_n rfl dX6_minutes_12) <|
  alls _ (s_getf (C := RX6) (T := TX6) (N := 29) rfl (in_c inX6) (by decide) (List.mem_cons_of_mem _ wd_755) rfl dX6_minutes_13) <|
  alls _ (s_iload_n rfl dX6_minutes_16) <|
  alls _ (s_iadd dX6_minutes_17) <|
  alls _ (s_sipush (by decide) dX6_minutes_18) <|
  alls _ (s_icmp_le (by decide) dX6_minutes_21) <|
  alls _ (s_bipush (by decide) dX6_minutes_24) <|
  alls _ (s_istore_n rfl dX6_minutes_26) <|
  alls _ s_fall (alls_nil _)
def KX6_minutes : List (Nat × pProg) := [(0, kX6_minutes_0), (27, kX6_minutes_27), (37, kX6_minutes_37)]
theorem bX6_minutes_0 : blkOf KX6_minutes 0 = some kX6_minutes_0 := rfl
theorem bX6_minutes_27 : blkOf KX6_minutes 27 = some kX6_minutes_27 := rfl
theorem bX6_minutes_37 : blkOf KX6_minutes 37 = some kX6_minutes_37 := rfl
def tX6_minutes : pT := pM KX6_minutes 3
theorem ct_X6_minutes (l : Launch) : pCtr l yX6_minutes wsX6_minutes rmX6_minutes 2 tX6_minutes := ctr_of (by decide +kernel) rfl (List.forall_mem_cons.mpr ⟨sX6_minutes_0 l, List.forall_mem_cons.mpr ⟨sX6_minutes_27 l, List.forall_mem_cons.mpr ⟨sX6_minutes_37 l, fun _ h => absurd h List.not_mem_nil⟩⟩⟩)
theorem dX6_thinks_0 : decode cX6_thinks 0 = .ok (.aload_n 0, 1) := by decide +kernel
theorem dX6_thinks_1 : decode cX6_thinks 1 = .ok (.iconst 2, 1) := by decide +kernel
theorem dX6_thinks_2 : decode cX6_thinks 2 = .ok (.iconst 1, 1) := by decide +kernel
theorem dX6_thinks_3 : decode cX6_thinks 3 = .ok (.invokevirtual 142, 3) := by decide +kernel
theorem dX6_thinks_6 : decode cX6_thinks 6 = .ok (.return_, 1) := by decide +kernel
def rmX6_thinks : Room := { frames := 2, cells := 0, slots := 0, locals := 44 }
abbrev wsX6_thinks : List Cond := .code yX6_thinks cX6_thinks 1 none :: gw_tbl
def kX6_thinks_0 : pProg := (0, 1, a_aload 0) :: (1, 1, a_iconst 2) :: (2, 1, a_iconst 1) :: (3, 3, a_callv 3 4 [0, 1, 2, 3, 4, 5, 6, 7, 8, 9, 10, 11, 12, 13, 14, 15, 16] tX6_passesAll) :: (6, 1, a_vret) :: []
set_option maxRecDepth 100000 in
theorem sX6_thinks_0 (l : Launch) : AllS (pSnd l rmX6_thinks yX6_thinks.cls cX6_thinks wsX6_thinks 1 none) 0 kX6_thinks_0 :=
  alls _ (s_aload_n rfl dX6_thinks_0) <|
  alls _ (s_iconst dX6_thinks_1) <|
  alls _ (s_iconst dX6_thinks_2) <|
  alls _ (s_callv (ct_X6_passesAll l) rfl rfl rfl (gdV wd_876 wd_878 wd_17 wd_65 wd_879) rfl rfl (by decide +kernel) ⟨Nat.le_of_ble_eq_true rfl, Nat.le_of_ble_eq_true rfl⟩ dX6_thinks_3) <|
  alls _ (s_vret dX6_thinks_6) <|
  alls_nil _
def KX6_thinks : List (Nat × pProg) := [(0, kX6_thinks_0)]
theorem bX6_thinks_0 : blkOf KX6_thinks 0 = some kX6_thinks_0 := rfl
def tX6_thinks : pT := pM KX6_thinks 1
theorem ct_X6_thinks (l : Launch) : pCtr l yX6_thinks wsX6_thinks rmX6_thinks 1 tX6_thinks := ctr_of (by decide +kernel) rfl (List.forall_mem_cons.mpr ⟨sX6_thinks_0 l, fun _ h => absurd h List.not_mem_nil⟩)
theorem dX6_forgets_0 : decode cX6_forgets 0 = .ok (.aload_n 0, 1) := by decide +kernel
theorem dX6_forgets_1 : decode cX6_forgets 1 = .ok (.iconst 2, 1) := by decide +kernel
theorem dX6_forgets_2 : decode cX6_forgets 2 = .ok (.iconst 0, 1) := by decide +kernel
theorem dX6_forgets_3 : decode cX6_forgets 3 = .ok (.invokevirtual 142, 3) := by decide +kernel
theorem dX6_forgets_6 : decode cX6_forgets 6 = .ok (.aload_n 0, 1) := by decide +kernel
theorem dX6_forgets_7 : decode cX6_forgets 7 = .ok (.iconst 0, 1) := by decide +kernel
theorem dX6_forgets_8 : decode cX6_forgets 8 = .ok (.putfield 163, 3) := by decide +kernel
theorem dX6_forgets_11 : decode cX6_forgets 11 = .ok (.aload_n 0, 1) := by decide +kernel
theorem dX6_forgets_12 : decode cX6_forgets 12 = .ok (.iconst 0, 1) := by decide +kernel
theorem dX6_forgets_13 : decode cX6_forgets 13 = .ok (.putfield 166, 3) := by decide +kernel
theorem dX6_forgets_16 : decode cX6_forgets 16 = .ok (.return_, 1) := by decide +kernel
def rmX6_forgets : Room := { frames := 2, cells := 0, slots := 0, locals := 44 }
abbrev wsX6_forgets : List Cond := .code yX6_forgets cX6_forgets 1 none :: gw_tbl
def kX6_forgets_0 : pProg := (0, 1, a_aload 0) :: (1, 1, a_iconst 2) :: (2, 1, a_iconst 0) :: (3, 3, a_callv 3 4 [0, 1, 2, 3, 4, 5, 6, 7, 8, 9, 10, 11, 12, 13, 14, 15, 16] tX6_passesAll) :: (6, 1, a_aload 0) :: (7, 1, a_iconst 0) :: (8, 3, a_putf 0 4 20 .boolean) :: (11, 1, a_aload 0) :: (12, 1, a_iconst 0) :: (13, 3, a_putf 0 4 21 .int) :: (16, 1, a_vret) :: []
set_option maxRecDepth 100000 in
theorem sX6_forgets_0 (l : Launch) : AllS (pSnd l rmX6_forgets yX6_forgets.cls cX6_forgets wsX6_forgets 1 none) 0 kX6_forgets_0 :=
  alls _ (s_aload_n rfl dX6_forgets_0) <|
  alls _ (s_iconst dX6_forgets_1) <|
  alls _ (s_iconst dX6_forgets_2) <|
  alls _ (s_callv (ct_X6_passesAll l) rfl rfl rfl (gdV wd_876 wd_878 wd_17 wd_65 wd_879) rfl rfl (by decide +kernel) ⟨Nat.le_of_ble_eq_true rfl, Nat.le_of_ble_eq_true rfl⟩ dX6_forgets_3) <|
  alls _ (s_aload_n rfl dX6_forgets_6) <|
  alls _ (s_iconst dX6_forgets_7) <|
  alls _ (s_putf (C := RX6) (T := TX6) (N := 29) tyX6 rfl (in_c inX6) tyX6_ok nmX6 (by decide) (List.mem_cons_of_mem _ wd_767) rfl rfl (tyX6_ok 20 (by decide)) dX6_forgets_8) <|
  alls _ (s_aload_n rfl dX6_forgets_11) <|
  alls _ (s_iconst dX6_forgets_12) <|
  alls _ (s_putf (C := RX6) (T := TX6) (N := 29) tyX6 rfl (in_c inX6) tyX6_ok nmX6 (by decide) (List.mem_cons_of_mem _ wd_768) rfl rfl (tyX6_ok 21 (by decide)) dX6_forgets_13) <|
  alls _ (s_vret dX6_forgets_16) <|
  alls_nil _
def KX6_forgets : List (Nat × pProg) := [(0, kX6_forgets_0)]
theorem bX6_forgets_0 : blkOf KX6_forgets 0 = some kX6_forgets_0 := rfl
def tX6_forgets : pT := pM KX6_forgets 1
theorem ct_X6_forgets (l : Launch) : pCtr l yX6_forgets wsX6_forgets rmX6_forgets 1 tX6_forgets := ctr_of (by decide +kernel) rfl (List.forall_mem_cons.mpr ⟨sX6_forgets_0 l, fun _ h => absurd h List.not_mem_nil⟩)
theorem dX6_pairThen_0 : decode cX6_pairThen 0 = .ok (.aload_n 0, 1) := by decide +kernel
theorem dX6_pairThen_1 : decode cX6_pairThen 1 = .ok (.iload_n 1, 1) := by decide +kernel
theorem dX6_pairThen_2 : decode cX6_pairThen 2 = .ok (.invokevirtual 106, 3) := by decide +kernel
theorem dX6_pairThen_5 : decode cX6_pairThen 5 = .ok (.ifCond .ne 7, 3) := by decide +kernel
theorem dX6_pairThen_8 : decode cX6_pairThen 8 = .ok (.iconst (-1), 1) := by decide +kernel
theorem dX6_pairThen_9 : decode cX6_pairThen 9 = .ok (.goto 10, 3) := by decide +kernel
theorem dX6_pairThen_12 : decode cX6_pairThen 12 = .ok (.iload_n 2, 1) := by decide +kernel
theorem dX6_pairThen_13 : decode cX6_pairThen 13 = .ok (.iconst 0, 1) := by decide +kernel
theorem dX6_pairThen_14 : decode cX6_pairThen 14 = .ok (.bipush 60, 2) := by decide +kernel
theorem dX6_pairThen_16 : decode cX6_pairThen 16 = .ok (.invokestatic 64, 3) := by decide +kernel
theorem dX6_pairThen_19 : decode cX6_pairThen 19 = .ok (.istore 4, 2) := by decide +kernel
theorem dX6_pairThen_21 : decode cX6_pairThen 21 = .ok (.iload 4, 2) := by decide +kernel
theorem dX6_pairThen_23 : decode cX6_pairThen 23 = .ok (.ifCond .ne 16, 3) := by decide +kernel
theorem dX6_pairThen_26 : decode cX6_pairThen 26 = .ok (.iload_n 3, 1) := by decide +kernel
theorem dX6_pairThen_27 : decode cX6_pairThen 27 = .ok (.iconst 0, 1) := by decide +kernel
theorem dX6_pairThen_28 : decode cX6_pairThen 28 = .ok (.iconst 1, 1) := by decide +kernel
theorem dX6_pairThen_29 : decode cX6_pairThen 29 = .ok (.invokestatic 82, 3) := by decide +kernel
theorem dX6_pairThen_32 : decode cX6_pairThen 32 = .ok (.ifCond .ne 7, 3) := by decide +kernel
theorem dX6_pairThen_35 : decode cX6_pairThen 35 = .ok (.bipush (-2), 2) := by decide +kernel
theorem dX6_pairThen_37 : decode cX6_pairThen 37 = .ok (.istore 4, 2) := by decide +kernel
theorem dX6_pairThen_39 : decode cX6_pairThen 39 = .ok (.iload 4, 2) := by decide +kernel
theorem dX6_pairThen_41 : decode cX6_pairThen 41 = .ok (.ifCond .eq 10, 3) := by decide +kernel
theorem dX6_pairThen_44 : decode cX6_pairThen 44 = .ok (.aload_n 0, 1) := by decide +kernel
theorem dX6_pairThen_45 : decode cX6_pairThen 45 = .ok (.iload 4, 2) := by decide +kernel
theorem dX6_pairThen_47 : decode cX6_pairThen 47 = .ok (.invokevirtual 71, 3) := by decide +kernel
theorem dX6_pairThen_50 : decode cX6_pairThen 50 = .ok (.ireturn, 1) := by decide +kernel
theorem dX6_pairThen_51 : decode cX6_pairThen 51 = .ok (.aload_n 0, 1) := by decide +kernel
theorem dX6_pairThen_52 : decode cX6_pairThen 52 = .ok (.invokevirtual 207, 3) := by decide +kernel
theorem dX6_pairThen_55 : decode cX6_pairThen 55 = .ok (.aload_n 0, 1) := by decide +kernel
theorem dX6_pairThen_56 : decode cX6_pairThen 56 = .ok (.iload_n 2, 1) := by decide +kernel
theorem dX6_pairThen_57 : decode cX6_pairThen 57 = .ok (.invokevirtual 115, 3) := by decide +kernel
theorem dX6_pairThen_60 : decode cX6_pairThen 60 = .ok (.iload_n 3, 1) := by decide +kernel
theorem dX6_pairThen_61 : decode cX6_pairThen 61 = .ok (.ifCond .ne 12, 3) := by decide +kernel
theorem dX6_pairThen_64 : decode cX6_pairThen 64 = .ok (.aload_n 0, 1) := by decide +kernel
theorem dX6_pairThen_65 : decode cX6_pairThen 65 = .ok (.getfield 25, 3) := by decide +kernel
theorem dX6_pairThen_68 : decode cX6_pairThen 68 = .ok (.iload_n 1, 1) := by decide +kernel
theorem dX6_pairThen_69 : decode cX6_pairThen 69 = .ok (.iaload, 1) := by decide +kernel
theorem dX6_pairThen_70 : decode cX6_pairThen 70 = .ok (.goto 9, 3) := by decide +kernel
theorem dX6_pairThen_73 : decode cX6_pairThen 73 = .ok (.aload_n 0, 1) := by decide +kernel
theorem dX6_pairThen_74 : decode cX6_pairThen 74 = .ok (.getfield 28, 3) := by decide +kernel
theorem dX6_pairThen_77 : decode cX6_pairThen 77 = .ok (.iload_n 1, 1) := by decide +kernel
theorem dX6_pairThen_78 : decode cX6_pairThen 78 = .ok (.iaload, 1) := by decide +kernel
theorem dX6_pairThen_79 : decode cX6_pairThen 79 = .ok (.istore 5, 2) := by decide +kernel
theorem dX6_pairThen_81 : decode cX6_pairThen 81 = .ok (.aload_n 0, 1) := by decide +kernel
theorem dX6_pairThen_82 : decode cX6_pairThen 82 = .ok (.invokevirtual 210, 3) := by decide +kernel
theorem dX6_pairThen_85 : decode cX6_pairThen 85 = .ok (.iload 5, 2) := by decide +kernel
theorem dX6_pairThen_87 : decode cX6_pairThen 87 = .ok (.ireturn, 1) := by decide +kernel
def rmX6_pairThen : Room := { frames := 6, cells := 0, slots := 0, locals := 133 }
abbrev wsX6_pairThen : List Cond := .code yX6_pairThen cX6_pairThen 6 (some .int) :: gw_tbl
def kX6_pairThen_79 : pProg := (79, 2, a_istore 5) :: (81, 1, a_aload 0) :: (82, 3, a_callv 1 4 [0, 1, 2, 3, 4, 5, 6, 7, 8, 9, 10, 11, 12, 13, 14, 15, 16] tX6_forgets) :: (85, 2, a_iload 5) :: (87, 1, a_iret) :: []
def kX6_pairThen_73 : pProg := (73, 1, a_aload 0) :: (74, 3, a_getf 0 4 6) :: (77, 1, a_iload 1) :: (78, 1, a_iald 7) :: (79, 0, a_fall 79) :: []
def kX6_pairThen_51 : pProg := (51, 1, a_aload 0) :: (52, 3, a_callv 1 4 [0, 1, 2, 3, 4, 5, 6, 7, 8, 9, 10, 11, 12, 13, 14, 15, 16] tX6_thinks) :: (55, 1, a_aload 0) :: (56, 1, a_iload 2) :: (57, 3, a_callv 2 4 [0, 1, 2, 3, 4, 5, 6, 7, 8, 9, 10, 11, 12, 13, 14, 15, 16] tX6_goes) :: (60, 1, a_iload 3) :: (61, 3, a_if_ne 73) :: (64, 1, a_aload 0) :: (65, 3, a_getf 0 4 5) :: (68, 1, a_iload 1) :: (69, 1, a_iald 6) :: (70, 3, a_goto 79) :: []
def kX6_pairThen_39 : pProg := (39, 2, a_iload 4) :: (41, 3, a_if_eq 51) :: (44, 1, a_aload 0) :: (45, 2, a_iload 4) :: (47, 3, a_callv 2 4 [0, 1, 2, 3, 4, 5, 6, 7, 8, 9, 10, 11, 12, 13, 14, 15, 16] tX6_no) :: (50, 1, a_iret) :: []
def kX6_pairThen_19 : pProg := (19, 2, a_istore 4) :: (21, 2, a_iload 4) :: (23, 3, a_if_ne 39) :: (26, 1, a_iload 3) :: (27, 1, a_iconst 0) :: (28, 1, a_iconst 1) :: (29, 3, a_calls 3 [] tX6_isIn) :: (32, 3, a_if_ne 39) :: (35, 2, a_iconst (-2)) :: (37, 2, a_istore 4) :: (39, 0, a_fall 39) :: []
def kX6_pairThen_12 : pProg := (12, 1, a_iload 2) :: (13, 1, a_iconst 0) :: (14, 2, a_iconst 60) :: (16, 3, a_calls 3 [] tX6_bound) :: (19, 0, a_fall 19) :: []
def kX6_pairThen_0 : pProg := (0, 1, a_aload 0) :: (1, 1, a_iload 1) :: (2, 3, a_callv 2 4 [0, 1, 2, 3, 4, 5, 6, 7, 8, 9, 10, 11, 12, 13, 14, 15, 16] tX6_isPair) :: (5, 3, a_if_ne 12) :: (8, 1, a_iconst (-1)) :: (9, 3, a_goto 19) :: []
set_option maxRecDepth 100000 in
theorem sX6_pairThen_79 (l : Launch) : AllS (pSnd l rmX6_pairThen yX6_pairThen.cls cX6_pairThen wsX6_pairThen 6 (some .int)) 79 kX6_pairThen_79 :=
  alls _ (s_istore dX6_pairThen_79) <|
  alls _ (s_aload_n rfl dX6_pairThen_81) <|
  alls _ (s_callv (ct_X6_forgets l) rfl rfl rfl (gdV wd_1020 wd_1022 wd_38 wd_65 wd_1023) rfl rfl (by decide +kernel) ⟨Nat.le_of_ble_eq_true rfl, Nat.le_of_ble_eq_true rfl⟩ dX6_pairThen_82) <|
  alls _ (s_iload dX6_pairThen_85) <|
  alls _ (s_iret dX6_pairThen_87) <|
  alls_nil _
set_option maxRecDepth 100000 in
theorem sX6_pairThen_73 (l : Launch) : AllS (pSnd l rmX6_pairThen yX6_pairThen.cls cX6_pairThen wsX6_pairThen 6 (some .int)) 73 kX6_pairThen_73 :=
  alls _ (s_aload_n rfl dX6_pairThen_73) <|
  alls _ (s_getf (C := RX6) (T := TX6) (N := 29) rfl (in_c inX6) (by decide) (List.mem_cons_of_mem _ wd_753) rfl dX6_pairThen_74) <|
  alls _ (s_iload_n rfl dX6_pairThen_77) <|
  alls _ (s_iald dX6_pairThen_78) <|
  alls _ s_fall (alls_nil _)
set_option maxRecDepth 100000 in
theorem sX6_pairThen_51 (l : Launch) : AllS (pSnd l rmX6_pairThen yX6_pairThen.cls cX6_pairThen wsX6_pairThen 6 (some .int)) 51 kX6_pairThen_51 :=
  alls _ (s_aload_n rfl dX6_pairThen_51) <|
  alls _ (s_callv (ct_X6_thinks l) rfl rfl rfl (gdV wd_1016 wd_1018 wd_37 wd_65 wd_1019) rfl rfl (by decide +kernel) ⟨Nat.le_of_ble_eq_true rfl, Nat.le_of_ble_eq_true rfl⟩ dX6_pairThen_52) <|
  alls _ (s_aload_n rfl dX6_pairThen_55) <|
  alls _ (s_iload_n rfl dX6_pairThen_56) <|
  alls _ (s_callv (ct_X6_goes l) rfl rfl rfl (gdV wd_930 wd_932 wd_29 wd_65 wd_933) rfl rfl (by decide +kernel) ⟨Nat.le_of_ble_eq_true rfl, Nat.le_of_ble_eq_true rfl⟩ dX6_pairThen_57) <|
  alls _ (s_iload_n rfl dX6_pairThen_60) <|
  alls _ (s_if_ne (by decide) dX6_pairThen_61) <|
  alls _ (s_aload_n rfl dX6_pairThen_64) <|
  alls _ (s_getf (C := RX6) (T := TX6) (N := 29) rfl (in_c inX6) (by decide) (List.mem_cons_of_mem _ wd_752) rfl dX6_pairThen_65) <|
  alls _ (s_iload_n rfl dX6_pairThen_68) <|
  alls _ (s_iald dX6_pairThen_69) <|
  alls _ (s_goto (by decide) dX6_pairThen_70) <|
  alls_nil _
set_option maxRecDepth 100000 in
theorem sX6_pairThen_39 (l : Launch) : AllS (pSnd l rmX6_pairThen yX6_pairThen.cls cX6_pairThen wsX6_pairThen 6 (some .int)) 39 kX6_pairThen_39 :=
  alls _ (s_iload dX6_pairThen_39) <|
  alls _ (s_if_eq (by decide) dX6_pairThen_41) <|
  alls _ (s_aload_n rfl dX6_pairThen_44) <|
  alls _ (s_iload dX6_pairThen_45) <|
  alls _ (s_callv (ct_X6_no l) rfl rfl rfl (gdV wd_842 wd_844 wd_11 wd_65 wd_845) rfl rfl (by decide +kernel) ⟨Nat.le_of_ble_eq_true rfl, Nat.le_of_ble_eq_true rfl⟩ dX6_pairThen_47) <|
  alls _ (s_iret dX6_pairThen_50) <|
  alls_nil _
set_option maxRecDepth 100000 in
theorem sX6_pairThen_19 (l : Launch) : AllS (pSnd l rmX6_pairThen yX6_pairThen.cls cX6_pairThen wsX6_pairThen 6 (some .int)) 19 kX6_pairThen_19 :=
  alls _ (s_istore dX6_pairThen_19) <|
  alls _ (s_iload dX6_pairThen_21) <|
  alls _ (s_if_ne (by decide) dX6_pairThen_23) <|
  alls _ (s_iload_n rfl dX6_pairThen_26) <|
  alls _ (s_iconst dX6_pairThen_27) <|
  alls _ (s_iconst dX6_pairThen_28) <|
  alls _ (s_calls (ct_X6_isIn l) rfl rfl (gdS wd_868) (List.mem_cons_of_mem _ wd_866) (List.mem_cons_of_mem _ wd_867) (List.mem_cons_of_mem _ wd_65) rfl rfl (by decide +kernel) ⟨Nat.le_of_ble_eq_true rfl, Nat.le_of_ble_eq_true rfl⟩ dX6_pairThen_29) <|
  alls _ (s_if_ne (by decide) dX6_pairThen_32) <|
  alls _ (s_bipush (by decide) dX6_pairThen_35) <|
  alls _ (s_istore dX6_pairThen_37) <|
  alls _ s_fall (alls_nil _)
set_option maxRecDepth 100000 in
theorem sX6_pairThen_12 (l : Launch) : AllS (pSnd l rmX6_pairThen yX6_pairThen.cls cX6_pairThen wsX6_pairThen 6 (some .int)) 12 kX6_pairThen_12 :=
  alls _ (s_iload_n rfl dX6_pairThen_12) <|
  alls _ (s_iconst dX6_pairThen_13) <|
  alls _ (s_bipush (by decide) dX6_pairThen_14) <|
  alls _ (s_calls (ct_X6_bound l) rfl rfl (gdS wd_841) (List.mem_cons_of_mem _ wd_839) (List.mem_cons_of_mem _ wd_840) (List.mem_cons_of_mem _ wd_65) rfl rfl (by decide +kernel) ⟨Nat.le_of_ble_eq_true rfl, Nat.le_of_ble_eq_true rfl⟩ dX6_pairThen_16) <|
  alls _ s_fall (alls_nil _)
set_option maxRecDepth 100000 in
theorem sX6_pairThen_0 (l : Launch) : AllS (pSnd l rmX6_pairThen yX6_pairThen.cls cX6_pairThen wsX6_pairThen 6 (some .int)) 0 kX6_pairThen_0 :=
  alls _ (s_aload_n rfl dX6_pairThen_0) <|
  alls _ (s_iload_n rfl dX6_pairThen_1) <|
  alls _ (s_callv (ct_X6_isPair l) rfl rfl rfl (gdV wd_907 wd_909 wd_24 wd_65 wd_910) rfl rfl (by decide +kernel) ⟨Nat.le_of_ble_eq_true rfl, Nat.le_of_ble_eq_true rfl⟩ dX6_pairThen_2) <|
  alls _ (s_if_ne (by decide) dX6_pairThen_5) <|
  alls _ (s_iconst dX6_pairThen_8) <|
  alls _ (s_goto (by decide) dX6_pairThen_9) <|
  alls_nil _
def KX6_pairThen : List (Nat × pProg) := [(0, kX6_pairThen_0), (12, kX6_pairThen_12), (19, kX6_pairThen_19), (39, kX6_pairThen_39), (51, kX6_pairThen_51), (73, kX6_pairThen_73), (79, kX6_pairThen_79)]
theorem bX6_pairThen_0 : blkOf KX6_pairThen 0 = some kX6_pairThen_0 := rfl
theorem bX6_pairThen_12 : blkOf KX6_pairThen 12 = some kX6_pairThen_12 := rfl
theorem bX6_pairThen_19 : blkOf KX6_pairThen 19 = some kX6_pairThen_19 := rfl
theorem bX6_pairThen_39 : blkOf KX6_pairThen 39 = some kX6_pairThen_39 := rfl
theorem bX6_pairThen_51 : blkOf KX6_pairThen 51 = some kX6_pairThen_51 := rfl
theorem bX6_pairThen_73 : blkOf KX6_pairThen 73 = some kX6_pairThen_73 := rfl
theorem bX6_pairThen_79 : blkOf KX6_pairThen 79 = some kX6_pairThen_79 := rfl
def tX6_pairThen : pT := pM KX6_pairThen 6
theorem ct_X6_pairThen (l : Launch) : pCtr l yX6_pairThen wsX6_pairThen rmX6_pairThen 4 tX6_pairThen := ctr_of (by decide +kernel) rfl (List.forall_mem_cons.mpr ⟨sX6_pairThen_0 l, List.forall_mem_cons.mpr ⟨sX6_pairThen_12 l, List.forall_mem_cons.mpr ⟨sX6_pairThen_19 l, List.forall_mem_cons.mpr ⟨sX6_pairThen_39 l, List.forall_mem_cons.mpr ⟨sX6_pairThen_51 l, List.forall_mem_cons.mpr ⟨sX6_pairThen_73 l, List.forall_mem_cons.mpr ⟨sX6_pairThen_79 l, fun _ h => absurd h List.not_mem_nil⟩⟩⟩⟩⟩⟩⟩)
theorem dX6_allBruises_0 : decode cX6_allBruises 0 = .ok (.iconst 0, 1) := by decide +kernel
theorem dX6_allBruises_1 : decode cX6_allBruises 1 = .ok (.istore_n 1, 1) := by decide +kernel
theorem dX6_allBruises_2 : decode cX6_allBruises 2 = .ok (.iconst 0, 1) := by decide +kernel
theorem dX6_allBruises_3 : decode cX6_allBruises 3 = .ok (.istore_n 2, 1) := by decide +kernel
theorem dX6_allBruises_4 : decode cX6_allBruises 4 = .ok (.iload_n 2, 1) := by decide +kernel
theorem dX6_allBruises_5 : decode cX6_allBruises 5 = .ok (.iconst 2, 1) := by decide +kernel
theorem dX6_allBruises_6 : decode cX6_allBruises 6 = .ok (.aload_n 0, 1) := by decide +kernel
theorem dX6_allBruises_7 : decode cX6_allBruises 7 = .ok (.getfield 58, 3) := by decide +kernel
theorem dX6_allBruises_10 : decode cX6_allBruises 10 = .ok (.imul, 1) := by decide +kernel
theorem dX6_allBruises_11 : decode cX6_allBruises 11 = .ok (.if_icmp .ge 18, 3) := by decide +kernel
theorem dX6_allBruises_14 : decode cX6_allBruises 14 = .ok (.iload_n 1, 1) := by decide +kernel
theorem dX6_allBruises_15 : decode cX6_allBruises 15 = .ok (.aload_n 0, 1) := by decide +kernel
theorem dX6_allBruises_16 : decode cX6_allBruises 16 = .ok (.getfield 22, 3) := by decide +kernel
theorem dX6_allBruises_19 : decode cX6_allBruises 19 = .ok (.iload_n 2, 1) := by decide +kernel
theorem dX6_allBruises_20 : decode cX6_allBruises 20 = .ok (.iaload, 1) := by decide +kernel
theorem dX6_allBruises_21 : decode cX6_allBruises 21 = .ok (.iadd, 1) := by decide +kernel
theorem dX6_allBruises_22 : decode cX6_allBruises 22 = .ok (.istore_n 1, 1) := by decide +kernel
theorem dX6_allBruises_23 : decode cX6_allBruises 23 = .ok (.iinc 2 1, 3) := by decide +kernel
theorem dX6_allBruises_26 : decode cX6_allBruises 26 = .ok (.goto (-22), 3) := by decide +kernel
theorem dX6_allBruises_29 : decode cX6_allBruises 29 = .ok (.iload_n 1, 1) := by decide +kernel
theorem dX6_allBruises_30 : decode cX6_allBruises 30 = .ok (.ireturn, 1) := by decide +kernel
def rmX6_allBruises : Room := { frames := 0, cells := 0, slots := 0, locals := 0 }
abbrev wsX6_allBruises : List Cond := .code yX6_allBruises cX6_allBruises 3 (some .int) :: gw_tbl
def kX6_allBruises_29 : pProg := (29, 1, a_iload 1) :: (30, 1, a_iret) :: []
def kX6_allBruises_4 : pProg := (4, 1, a_iload 2) :: (5, 1, a_iconst 2) :: (6, 1, a_aload 0) :: (7, 3, a_getf 0 4 7) :: (10, 1, a_imul) :: (11, 3, a_icmp_ge 29) :: (14, 1, a_iload 1) :: (15, 1, a_aload 0) :: (16, 3, a_getf 0 4 4) :: (19, 1, a_iload 2) :: (20, 1, a_iald 5) :: (21, 1, a_iadd) :: (22, 1, a_istore 1) :: (23, 3, a_iinc 2 1) :: (26, 3, a_goto 4) :: []
def kX6_allBruises_0 : pProg := (0, 1, a_iconst 0) :: (1, 1, a_istore 1) :: (2, 1, a_iconst 0) :: (3, 1, a_istore 2) :: (4, 0, a_fall 4) :: []
set_option maxRecDepth 100000 in
theorem sX6_allBruises_29 (l : Launch) : AllS (pSnd l rmX6_allBruises yX6_allBruises.cls cX6_allBruises wsX6_allBruises 3 (some .int)) 29 kX6_allBruises_29 :=
  alls _ (s_iload_n rfl dX6_allBruises_29) <|
  alls _ (s_iret dX6_allBruises_30) <|
  alls_nil _
set_option maxRecDepth 100000 in
theorem sX6_allBruises_4 (l : Launch) : AllS (pSnd l rmX6_allBruises yX6_allBruises.cls cX6_allBruises wsX6_allBruises 3 (some .int)) 4 kX6_allBruises_4 :=
  alls _ (s_iload_n rfl dX6_allBruises_4) <|
  alls _ (s_iconst dX6_allBruises_5) <|
  alls _ (s_aload_n rfl dX6_allBruises_6) <|
  alls _ (s_getf (C := RX6) (T := TX6) (N := 29) rfl (in_c inX6) (by decide) (List.mem_cons_of_mem _ wd_754) rfl dX6_allBruises_7) <|
  alls _ (s_imul dX6_allBruises_10) <|
  alls _ (s_icmp_ge (by decide) dX6_allBruises_11) <|
  alls _ (s_iload_n rfl dX6_allBruises_14) <|
  alls _ (s_aload_n rfl dX6_allBruises_15) <|
  alls _ (s_getf (C := RX6) (T := TX6) (N := 29) rfl (in_c inX6) (by decide) (List.mem_cons_of_mem _ wd_751) rfl dX6_allBruises_16) <|
  alls _ (s_iload_n rfl dX6_allBruises_19) <|
  alls _ (s_iald dX6_allBruises_20) <|
  alls _ (s_iadd dX6_allBruises_21) <|
  alls _ (s_istore_n rfl dX6_allBruises_22) <|
  alls _ (s_iinc dX6_allBruises_23) <|
  alls _ (s_goto (by decide) dX6_allBruises_26) <|
  alls_nil _
set_option maxRecDepth 100000 in
theorem sX6_allBruises_0 (l : Launch) : AllS (pSnd l rmX6_allBruises yX6_allBruises.cls cX6_allBruises wsX6_allBruises 3 (some .int)) 0 kX6_allBruises_0 :=
  alls _ (s_iconst dX6_allBruises_0) <|
  alls _ (s_istore_n rfl dX6_allBruises_1) <|
  alls _ (s_iconst dX6_allBruises_2) <|
  alls _ (s_istore_n rfl dX6_allBruises_3) <|
  alls _ s_fall (alls_nil _)
def KX6_allBruises : List (Nat × pProg) := [(0, kX6_allBruises_0), (4, kX6_allBruises_4), (29, kX6_allBruises_29)]
theorem bX6_allBruises_0 : blkOf KX6_allBruises 0 = some kX6_allBruises_0 := rfl
theorem bX6_allBruises_4 : blkOf KX6_allBruises 4 = some kX6_allBruises_4 := rfl
theorem bX6_allBruises_29 : blkOf KX6_allBruises 29 = some kX6_allBruises_29 := rfl
def tX6_allBruises : pT := pM KX6_allBruises 3
theorem ct_X6_allBruises (l : Launch) : pCtr l yX6_allBruises wsX6_allBruises rmX6_allBruises 1 tX6_allBruises := ctr_of (by decide +kernel) rfl (List.forall_mem_cons.mpr ⟨sX6_allBruises_0 l, List.forall_mem_cons.mpr ⟨sX6_allBruises_4 l, List.forall_mem_cons.mpr ⟨sX6_allBruises_29 l, fun _ h => absurd h List.not_mem_nil⟩⟩⟩)
theorem dX6_allBruisesIn_0 : decode cX6_allBruisesIn 0 = .ok (.aload_n 0, 1) := by decide +kernel
theorem dX6_allBruisesIn_1 : decode cX6_allBruisesIn 1 = .ok (.invokevirtual 207, 3) := by decide +kernel
theorem dX6_allBruisesIn_4 : decode cX6_allBruisesIn 4 = .ok (.aload_n 0, 1) := by decide +kernel
theorem dX6_allBruisesIn_5 : decode cX6_allBruisesIn 5 = .ok (.iload_n 1, 1) := by decide +kernel
theorem dX6_allBruisesIn_6 : decode cX6_allBruisesIn 6 = .ok (.invokevirtual 115, 3) := by decide +kernel
theorem dX6_allBruisesIn_9 : decode cX6_allBruisesIn 9 = .ok (.aload_n 0, 1) := by decide +kernel
theorem dX6_allBruisesIn_10 : decode cX6_allBruisesIn 10 = .ok (.invokevirtual 213, 3) := by decide +kernel
theorem dX6_allBruisesIn_13 : decode cX6_allBruisesIn 13 = .ok (.istore_n 2, 1) := by decide +kernel
theorem dX6_allBruisesIn_14 : decode cX6_allBruisesIn 14 = .ok (.aload_n 0, 1) := by decide +kernel
theorem dX6_allBruisesIn_15 : decode cX6_allBruisesIn 15 = .ok (.invokevirtual 210, 3) := by decide +kernel
theorem dX6_allBruisesIn_18 : decode cX6_allBruisesIn 18 = .ok (.iload_n 2, 1) := by decide +kernel
theorem dX6_allBruisesIn_19 : decode cX6_allBruisesIn 19 = .ok (.ireturn, 1) := by decide +kernel
def rmX6_allBruisesIn : Room := { frames := 6, cells := 0, slots := 0, locals := 133 }
abbrev wsX6_allBruisesIn : List Cond := .code yX6_allBruisesIn cX6_allBruisesIn 3 (some .int) :: gw_tbl
def kX6_allBruisesIn_0 : pProg := (0, 1, a_aload 0) :: (1, 3, a_callv 1 4 [0, 1, 2, 3, 4, 5, 6, 7, 8, 9, 10, 11, 12, 13, 14, 15, 16] tX6_thinks) :: (4, 1, a_aload 0) :: (5, 1, a_iload 1) :: (6, 3, a_callv 2 4 [0, 1, 2, 3, 4, 5, 6, 7, 8, 9, 10, 11, 12, 13, 14, 15, 16] tX6_goes) :: (9, 1, a_aload 0) :: (10, 3, a_callv 1 4 [0, 1, 2, 3, 4, 5, 6, 7, 8, 9, 10, 11, 12, 13, 14, 15, 16] tX6_allBruises) :: (13, 1, a_istore 2) :: (14, 1, a_aload 0) :: (15, 3, a_callv 1 4 [0, 1, 2, 3, 4, 5, 6, 7, 8, 9, 10, 11, 12, 13, 14, 15, 16] tX6_forgets) :: (18, 1, a_iload 2) :: (19, 1, a_iret) :: []
set_option maxRecDepth 100000 in
theorem sX6_allBruisesIn_0 (l : Launch) : AllS (pSnd l rmX6_allBruisesIn yX6_allBruisesIn.cls cX6_allBruisesIn wsX6_allBruisesIn 3 (some .int)) 0 kX6_allBruisesIn_0 :=
  alls _ (s_aload_n rfl dX6_allBruisesIn_0) <|
  alls _ (s_callv (ct_X6_thinks l) rfl rfl rfl (gdV wd_1016 wd_1018 wd_37 wd_65 wd_1019) rfl rfl (by decide +kernel) ⟨Nat.le_of_ble_eq_true rfl, Nat.le_of_ble_eq_true rfl⟩ dX6_allBruisesIn_1) <|
  alls _ (s_aload_n rfl dX6_allBruisesIn_4) <|
  alls _ (s_iload_n rfl dX6_allBruisesIn_5) <|
  alls _ (s_callv (ct_X6_goes l) rfl rfl rfl (gdV wd_930 wd_932 wd_29 wd_65 wd_933) rfl rfl (by decide +kernel) ⟨Nat.le_of_ble_eq_true rfl, Nat.le_of_ble_eq_true rfl⟩ dX6_allBruisesIn_6) <|
  alls _ (s_aload_n rfl dX6_allBruisesIn_9) <|
  alls _ (s_callv (ct_X6_allBruises l) rfl rfl rfl (gdV wd_1032 wd_1034 wd_40 wd_65 wd_1035) rfl rfl (by decide +kernel) ⟨Nat.le_of_ble_eq_true rfl, Nat.le_of_ble_eq_true rfl⟩ dX6_allBruisesIn_10) <|
  alls _ (s_istore_n rfl dX6_allBruisesIn_13) <|
  alls _ (s_aload_n rfl dX6_allBruisesIn_14) <|
  alls _ (s_callv (ct_X6_forgets l) rfl rfl rfl (gdV wd_1020 wd_1022 wd_38 wd_65 wd_1023) rfl rfl (by decide +kernel) ⟨Nat.le_of_ble_eq_true rfl, Nat.le_of_ble_eq_true rfl⟩ dX6_allBruisesIn_15) <|
  alls _ (s_iload_n rfl dX6_allBruisesIn_18) <|
  alls _ (s_iret dX6_allBruisesIn_19) <|
  alls_nil _
def KX6_allBruisesIn : List (Nat × pProg) := [(0, kX6_allBruisesIn_0)]
theorem bX6_allBruisesIn_0 : blkOf KX6_allBruisesIn 0 = some kX6_allBruisesIn_0 := rfl
def tX6_allBruisesIn : pT := pM KX6_allBruisesIn 3
theorem ct_X6_allBruisesIn (l : Launch) : pCtr l yX6_allBruisesIn wsX6_allBruisesIn rmX6_allBruisesIn 2 tX6_allBruisesIn := ctr_of (by decide +kernel) rfl (List.forall_mem_cons.mpr ⟨sX6_allBruisesIn_0 l, fun _ h => absurd h List.not_mem_nil⟩)
theorem dX6_bruisesThen_0 : decode cX6_bruisesThen 0 = .ok (.iload_n 1, 1) := by decide +kernel
theorem dX6_bruisesThen_1 : decode cX6_bruisesThen 1 = .ok (.iconst (-1), 1) := by decide +kernel
theorem dX6_bruisesThen_2 : decode cX6_bruisesThen 2 = .ok (.if_icmp .eq 15, 3) := by decide +kernel
theorem dX6_bruisesThen_5 : decode cX6_bruisesThen 5 = .ok (.aload_n 0, 1) := by decide +kernel
theorem dX6_bruisesThen_6 : decode cX6_bruisesThen 6 = .ok (.iload_n 1, 1) := by decide +kernel
theorem dX6_bruisesThen_7 : decode cX6_bruisesThen 7 = .ok (.invokevirtual 128, 3) := by decide +kernel
theorem dX6_bruisesThen_10 : decode cX6_bruisesThen 10 = .ok (.ifCond .ne 7, 3) := by decide +kernel
theorem dX6_bruisesThen_13 : decode cX6_bruisesThen 13 = .ok (.iconst (-1), 1) := by decide +kernel
theorem dX6_bruisesThen_14 : decode cX6_bruisesThen 14 = .ok (.goto 10, 3) := by decide +kernel
theorem dX6_bruisesThen_17 : decode cX6_bruisesThen 17 = .ok (.iload_n 2, 1) := by decide +kernel
theorem dX6_bruisesThen_18 : decode cX6_bruisesThen 18 = .ok (.iconst 0, 1) := by decide +kernel
theorem dX6_bruisesThen_19 : decode cX6_bruisesThen 19 = .ok (.bipush 60, 2) := by decide +kernel
theorem dX6_bruisesThen_21 : decode cX6_bruisesThen 21 = .ok (.invokestatic 64, 3) := by decide +kernel
theorem dX6_bruisesThen_24 : decode cX6_bruisesThen 24 = .ok (.istore_n 3, 1) := by decide +kernel
theorem dX6_bruisesThen_25 : decode cX6_bruisesThen 25 = .ok (.iload_n 3, 1) := by decide +kernel
theorem dX6_bruisesThen_26 : decode cX6_bruisesThen 26 = .ok (.ifCond .eq 9, 3) := by decide +kernel
theorem dX6_bruisesThen_29 : decode cX6_bruisesThen 29 = .ok (.aload_n 0, 1) := by decide +kernel
theorem dX6_bruisesThen_30 : decode cX6_bruisesThen 30 = .ok (.iload_n 3, 1) := by decide +kernel
theorem dX6_bruisesThen_31 : decode cX6_bruisesThen 31 = .ok (.invokevirtual 71, 3) := by decide +kernel
theorem dX6_bruisesThen_34 : decode cX6_bruisesThen 34 = .ok (.ireturn, 1) := by decide +kernel
theorem dX6_bruisesThen_35 : decode cX6_bruisesThen 35 = .ok (.iload_n 1, 1) := by decide +kernel
theorem dX6_bruisesThen_36 : decode cX6_bruisesThen 36 = .ok (.ifCond .ge 9, 3) := by decide +kernel
theorem dX6_bruisesThen_39 : decode cX6_bruisesThen 39 = .ok (.aload_n 0, 1) := by decide +kernel
theorem dX6_bruisesThen_40 : decode cX6_bruisesThen 40 = .ok (.iload_n 2, 1) := by decide +kernel
theorem dX6_bruisesThen_41 : decode cX6_bruisesThen 41 = .ok (.invokevirtual 216, 3) := by decide +kernel
theorem dX6_bruisesThen_44 : decode cX6_bruisesThen 44 = .ok (.ireturn, 1) := by decide +kernel
theorem dX6_bruisesThen_45 : decode cX6_bruisesThen 45 = .ok (.aload_n 0, 1) := by decide +kernel
theorem dX6_bruisesThen_46 : decode cX6_bruisesThen 46 = .ok (.invokevirtual 207, 3) := by decide +kernel
theorem dX6_bruisesThen_49 : decode cX6_bruisesThen 49 = .ok (.aload_n 0, 1) := by decide +kernel
theorem dX6_bruisesThen_50 : decode cX6_bruisesThen 50 = .ok (.iload_n 2, 1) := by decide +kernel
theorem dX6_bruisesThen_51 : decode cX6_bruisesThen 51 = .ok (.invokevirtual 115, 3) := by decide +kernel
theorem dX6_bruisesThen_54 : decode cX6_bruisesThen 54 = .ok (.aload_n 0, 1) := by decide +kernel
theorem dX6_bruisesThen_55 : decode cX6_bruisesThen 55 = .ok (.getfield 22, 3) := by decide +kernel
theorem dX6_bruisesThen_58 : decode cX6_bruisesThen 58 = .ok (.iload_n 1, 1) := by decide +kernel
theorem dX6_bruisesThen_59 : decode cX6_bruisesThen 59 = .ok (.iaload, 1) := by decide +kernel
theorem dX6_bruisesThen_60 : decode cX6_bruisesThen 60 = .ok (.istore 4, 2) := by decide +kernel
theorem dX6_bruisesThen_62 : decode cX6_bruisesThen 62 = .ok (.aload_n 0, 1) := by decide +kernel
theorem dX6_bruisesThen_63 : decode cX6_bruisesThen 63 = .ok (.invokevirtual 210, 3) := by decide +kernel
theorem dX6_bruisesThen_66 : decode cX6_bruisesThen 66 = .ok (.iload 4, 2) := by decide +kernel
theorem dX6_bruisesThen_68 : decode cX6_bruisesThen 68 = .ok (.ireturn, 1) := by decide +kernel
def rmX6_bruisesThen : Room := { frames := 7, cells := 0, slots := 0, locals := 155 }
abbrev wsX6_bruisesThen : List Cond := .code yX6_bruisesThen cX6_bruisesThen 5 (some .int) :: gw_tbl
def kX6_bruisesThen_45 : pProg := (45, 1, a_aload 0) :: (46, 3, a_callv 1 4 [0, 1, 2, 3, 4, 5, 6, 7, 8, 9, 10, 11, 12, 13, 14, 15, 16] tX6_thinks) :: (49, 1, a_aload 0) :: (50, 1, a_iload 2) :: (51, 3, a_callv 2 4 [0, 1, 2, 3, 4, 5, 6, 7, 8, 9, 10, 11, 12, 13, 14, 15, 16] tX6_goes) :: (54, 1, a_aload 0) :: (55, 3, a_getf 0 4 4) :: (58, 1, a_iload 1) :: (59, 1, a_iald 5) :: (60, 2, a_istore 4) :: (62, 1, a_aload 0) :: (63, 3, a_callv 1 4 [0, 1, 2, 3, 4, 5, 6, 7, 8, 9, 10, 11, 12, 13, 14, 15, 16] tX6_forgets) :: (66, 2, a_iload 4) :: (68, 1, a_iret) :: []
def kX6_bruisesThen_35 : pProg := (35, 1, a_iload 1) :: (36, 3, a_if_ge 45) :: (39, 1, a_aload 0) :: (40, 1, a_iload 2) :: (41, 3, a_callv 2 4 [0, 1, 2, 3, 4, 5, 6, 7, 8, 9, 10, 11, 12, 13, 14, 15, 16] tX6_allBruisesIn) :: (44, 1, a_iret) :: []
def kX6_bruisesThen_24 : pProg := (24, 1, a_istore 3) :: (25, 1, a_iload 3) :: (26, 3, a_if_eq 35) :: (29, 1, a_aload 0) :: (30, 1, a_iload 3) :: (31, 3, a_callv 2 4 [0, 1, 2, 3, 4, 5, 6, 7, 8, 9, 10, 11, 12, 13, 14, 15, 16] tX6_no) :: (34, 1, a_iret) :: []
def kX6_bruisesThen_17 : pProg := (17, 1, a_iload 2) :: (18, 1, a_iconst 0) :: (19, 2, a_iconst 60) :: (21, 3, a_calls 3 [] tX6_bound) :: (24, 0, a_fall 24) :: []
def kX6_bruisesThen_0 : pProg := (0, 1, a_iload 1) :: (1, 1, a_iconst (-1)) :: (2, 3, a_icmp_eq 17) :: (5, 1, a_aload 0) :: (6, 1, a_iload 1) :: (7, 3, a_callv 2 4 [0, 1, 2, 3, 4, 5, 6, 7, 8, 9, 10, 11, 12, 13, 14, 15, 16] tX6_isMiner) :: (10, 3, a_if_ne 17) :: (13, 1, a_iconst (-1)) :: (14, 3, a_goto 24) :: []
set_option maxRecDepth 100000 in
theorem sX6_bruisesThen_45 (l : Launch) : AllS (pSnd l rmX6_bruisesThen yX6_bruisesThen.cls cX6_bruisesThen wsX6_bruisesThen 5 (some .int)) 45 kX6_bruisesThen_45 :=
  alls _ (s_aload_n rfl dX6_bruisesThen_45) <|
  alls _ (s_callv (ct_X6_thinks l) rfl rfl rfl (gdV wd_1016 wd_1018 wd_37 wd_65 wd_1019) rfl rfl (by decide +kernel) ⟨Nat.le_of_ble_eq_true rfl, Nat.le_of_ble_eq_true rfl⟩ dX6_bruisesThen_46) <|
  alls _ (s_aload_n rfl dX6_bruisesThen_49) <|
  alls _ (s_iload_n rfl dX6_bruisesThen_50) <|
  alls _ (s_callv (ct_X6_goes l) rfl rfl rfl (gdV wd_930 wd_932 wd_29 wd_65 wd_933) rfl rfl (by decide +kernel) ⟨Nat.le_of_ble_eq_true rfl, Nat.le_of_ble_eq_true rfl⟩ dX6_bruisesThen_51) <|
  alls _ (s_aload_n rfl dX6_bruisesThen_54) <|
  alls _ (s_getf (C := RX6) (T := TX6) (N := 29) rfl (in_c inX6) (by decide) (List.mem_cons_of_mem _ wd_751) rfl dX6_bruisesThen_55) <|
  alls _ (s_iload_n rfl dX6_bruisesThen_58) <|
  alls _ (s_iald dX6_bruisesThen_59) <|
  alls _ (s_istore dX6_bruisesThen_60) <|
  alls _ (s_aload_n rfl dX6_bruisesThen_62) <|
  alls _ (s_callv (ct_X6_forgets l) rfl rfl rfl (gdV wd_1020 wd_1022 wd_38 wd_65 wd_1023) rfl rfl (by decide +kernel) ⟨Nat.le_of_ble_eq_true rfl, Nat.le_of_ble_eq_true rfl⟩ dX6_bruisesThen_63) <|
  alls _ (s_iload dX6_bruisesThen_66) <|
  alls _ (s_iret dX6_bruisesThen_68) <|
  alls_nil _
set_option maxRecDepth 100000 in
theorem sX6_bruisesThen_35 (l : Launch) : AllS (pSnd l rmX6_bruisesThen yX6_bruisesThen.cls cX6_bruisesThen wsX6_bruisesThen 5 (some .int)) 35 kX6_bruisesThen_35 :=
  alls _ (s_iload_n rfl dX6_bruisesThen_35) <|
  alls _ (s_if_ge (by decide) dX6_bruisesThen_36) <|
  alls _ (s_aload_n rfl dX6_bruisesThen_39) <|
  alls _ (s_iload_n rfl dX6_bruisesThen_40) <|
  alls _ (s_callv (ct_X6_allBruisesIn l) rfl rfl rfl (gdV wd_1028 wd_1030 wd_39 wd_65 wd_1031) rfl rfl (by decide +kernel) ⟨Nat.le_of_ble_eq_true rfl, Nat.le_of_ble_eq_true rfl⟩ dX6_bruisesThen_41) <|
  alls _ (s_iret dX6_bruisesThen_44) <|
  alls_nil _
set_option maxRecDepth 100000 in
theorem sX6_bruisesThen_24 (l : Launch) : AllS (pSnd l rmX6_bruisesThen yX6_bruisesThen.cls cX6_bruisesThen wsX6_bruisesThen 5 (some .int)) 24 kX6_bruisesThen_24 :=
  alls _ (s_istore_n rfl dX6_bruisesThen_24) <|
  alls _ (s_iload_n rfl dX6_bruisesThen_25) <|
  alls _ (s_if_eq (by decide) dX6_bruisesThen_26) <|
  alls _ (s_aload_n rfl dX6_bruisesThen_29) <|
  alls _ (s_iload_n rfl dX6_bruisesThen_30) <|
  alls _ (s_callv (ct_X6_no l) rfl rfl rfl (gdV wd_842 wd_844 wd_11 wd_65 wd_845) rfl rfl (by decide +kernel) ⟨Nat.le_of_ble_eq_true rfl, Nat.le_of_ble_eq_true rfl⟩ dX6_bruisesThen_31) <|
  alls _ (s_iret dX6_bruisesThen_34) <|
  alls_nil _
set_option maxRecDepth 100000 in
theorem sX6_bruisesThen_17 (l : Launch) : AllS (pSnd l rmX6_bruisesThen yX6_bruisesThen.cls cX6_bruisesThen wsX6_bruisesThen 5 (some .int)) 17 kX6_bruisesThen_17 :=
  alls _ (s_iload_n rfl dX6_bruisesThen_17) <|
  alls _ (s_iconst dX6_bruisesThen_18) <|
  alls _ (s_bipush (by decide) dX6_bruisesThen_19) <|
  alls _ (s_calls (ct_X6_bound l) rfl rfl (gdS wd_841) (List.mem_cons_of_mem _ wd_839) (List.mem_cons_of_mem _ wd_840) (List.mem_cons_of_mem _ wd_65) rfl rfl (by decide +kernel) ⟨Nat.le_of_ble_eq_true rfl, Nat.le_of_ble_eq_true rfl⟩ dX6_bruisesThen_21) <|
  alls _ s_fall (alls_nil _)
set_option maxRecDepth 100000 in
theorem sX6_bruisesThen_0 (l : Launch) : AllS (pSnd l rmX6_bruisesThen yX6_bruisesThen.cls cX6_bruisesThen wsX6_bruisesThen 5 (some .int)) 0 kX6_bruisesThen_0 :=
  alls _ (s_iload_n rfl dX6_bruisesThen_0) <|
  alls _ (s_iconst dX6_bruisesThen_1) <|
  alls _ (s_icmp_eq (by decide) dX6_bruisesThen_2) <|
  alls _ (s_aload_n rfl dX6_bruisesThen_5) <|
  alls _ (s_iload_n rfl dX6_bruisesThen_6) <|
  alls _ (s_callv (ct_X6_isMiner l) rfl rfl rfl (gdV wd_914 wd_916 wd_25 wd_65 wd_917) rfl rfl (by decide +kernel) ⟨Nat.le_of_ble_eq_true rfl, Nat.le_of_ble_eq_true rfl⟩ dX6_bruisesThen_7) <|
  alls _ (s_if_ne (by decide) dX6_bruisesThen_10) <|
  alls _ (s_iconst dX6_bruisesThen_13) <|
  alls _ (s_goto (by decide) dX6_bruisesThen_14) <|
  alls_nil _
def KX6_bruisesThen : List (Nat × pProg) := [(0, kX6_bruisesThen_0), (17, kX6_bruisesThen_17), (24, kX6_bruisesThen_24), (35, kX6_bruisesThen_35), (45, kX6_bruisesThen_45)]
theorem bX6_bruisesThen_0 : blkOf KX6_bruisesThen 0 = some kX6_bruisesThen_0 := rfl
theorem bX6_bruisesThen_17 : blkOf KX6_bruisesThen 17 = some kX6_bruisesThen_17 := rfl
theorem bX6_bruisesThen_24 : blkOf KX6_bruisesThen 24 = some kX6_bruisesThen_24 := rfl
theorem bX6_bruisesThen_35 : blkOf KX6_bruisesThen 35 = some kX6_bruisesThen_35 := rfl
theorem bX6_bruisesThen_45 : blkOf KX6_bruisesThen 45 = some kX6_bruisesThen_45 := rfl
def tX6_bruisesThen : pT := pM KX6_bruisesThen 5
theorem ct_X6_bruisesThen (l : Launch) : pCtr l yX6_bruisesThen wsX6_bruisesThen rmX6_bruisesThen 3 tX6_bruisesThen := ctr_of (by decide +kernel) rfl (List.forall_mem_cons.mpr ⟨sX6_bruisesThen_0 l, List.forall_mem_cons.mpr ⟨sX6_bruisesThen_17 l, List.forall_mem_cons.mpr ⟨sX6_bruisesThen_24 l, List.forall_mem_cons.mpr ⟨sX6_bruisesThen_35 l, List.forall_mem_cons.mpr ⟨sX6_bruisesThen_45 l, fun _ h => absurd h List.not_mem_nil⟩⟩⟩⟩⟩)
theorem dX6_facedWhen_0 : decode cX6_facedWhen 0 = .ok (.aload_n 0, 1) := by decide +kernel
theorem dX6_facedWhen_1 : decode cX6_facedWhen 1 = .ok (.invokevirtual 207, 3) := by decide +kernel
theorem dX6_facedWhen_4 : decode cX6_facedWhen 4 = .ok (.bipush (-9), 2) := by decide +kernel
theorem dX6_facedWhen_6 : decode cX6_facedWhen 6 = .ok (.istore_n 2, 1) := by decide +kernel
theorem dX6_facedWhen_7 : decode cX6_facedWhen 7 = .ok (.iconst 0, 1) := by decide +kernel
theorem dX6_facedWhen_8 : decode cX6_facedWhen 8 = .ok (.istore_n 3, 1) := by decide +kernel
theorem dX6_facedWhen_9 : decode cX6_facedWhen 9 = .ok (.iload_n 3, 1) := by decide +kernel
theorem dX6_facedWhen_10 : decode cX6_facedWhen 10 = .ok (.bipush 60, 2) := by decide +kernel
theorem dX6_facedWhen_12 : decode cX6_facedWhen 12 = .ok (.if_icmp .gt 35, 3) := by decide +kernel
theorem dX6_facedWhen_15 : decode cX6_facedWhen 15 = .ok (.iload_n 2, 1) := by decide +kernel
theorem dX6_facedWhen_16 : decode cX6_facedWhen 16 = .ok (.ifCond .ge 31, 3) := by decide +kernel
theorem dX6_facedWhen_19 : decode cX6_facedWhen 19 = .ok (.aload_n 0, 1) := by decide +kernel
theorem dX6_facedWhen_20 : decode cX6_facedWhen 20 = .ok (.getfield 25, 3) := by decide +kernel
theorem dX6_facedWhen_23 : decode cX6_facedWhen 23 = .ok (.iload_n 1, 1) := by decide +kernel
theorem dX6_facedWhen_24 : decode cX6_facedWhen 24 = .ok (.iaload, 1) := by decide +kernel
theorem dX6_facedWhen_25 : decode cX6_facedWhen 25 = .ok (.bipush 19, 2) := by decide +kernel
theorem dX6_facedWhen_27 : decode cX6_facedWhen 27 = .ok (.if_icmp .ne 7, 3) := by decide +kernel
theorem dX6_facedWhen_30 : decode cX6_facedWhen 30 = .ok (.iload_n 3, 1) := by decide +kernel
theorem dX6_facedWhen_31 : decode cX6_facedWhen 31 = .ok (.goto 5, 3) := by decide +kernel
theorem dX6_facedWhen_34 : decode cX6_facedWhen 34 = .ok (.bipush (-9), 2) := by decide +kernel
theorem dX6_facedWhen_36 : decode cX6_facedWhen 36 = .ok (.istore_n 2, 1) := by decide +kernel
theorem dX6_facedWhen_37 : decode cX6_facedWhen 37 = .ok (.aload_n 0, 1) := by decide +kernel
theorem dX6_facedWhen_38 : decode cX6_facedWhen 38 = .ok (.invokevirtual 197, 3) := by decide +kernel
theorem dX6_facedWhen_41 : decode cX6_facedWhen 41 = .ok (.iinc 3 1, 3) := by decide +kernel
theorem dX6_facedWhen_44 : decode cX6_facedWhen 44 = .ok (.goto (-35), 3) := by decide +kernel
theorem dX6_facedWhen_47 : decode cX6_facedWhen 47 = .ok (.aload_n 0, 1) := by decide +kernel
theorem dX6_facedWhen_48 : decode cX6_facedWhen 48 = .ok (.invokevirtual 210, 3) := by decide +kernel
theorem dX6_facedWhen_51 : decode cX6_facedWhen 51 = .ok (.iload_n 2, 1) := by decide +kernel
theorem dX6_facedWhen_52 : decode cX6_facedWhen 52 = .ok (.ireturn, 1) := by decide +kernel
def rmX6_facedWhen : Room := { frames := 5, cells := 0, slots := 0, locals := 111 }
abbrev wsX6_facedWhen : List Cond := .code yX6_facedWhen cX6_facedWhen 4 (some .int) :: gw_tbl
def kX6_facedWhen_47 : pProg := (47, 1, a_aload 0) :: (48, 3, a_callv 1 4 [0, 1, 2, 3, 4, 5, 6, 7, 8, 9, 10, 11, 12, 13, 14, 15, 16] tX6_forgets) :: (51, 1, a_iload 2) :: (52, 1, a_iret) :: []
def kX6_facedWhen_36 : pProg := (36, 1, a_istore 2) :: (37, 1, a_aload 0) :: (38, 3, a_callv 1 4 [0, 1, 2, 3, 4, 5, 6, 7, 8, 9, 10, 11, 12, 13, 14, 15, 16] tX6_goesMinute) :: (41, 3, a_iinc 3 1) :: (44, 3, a_goto 9) :: []
def kX6_facedWhen_34 : pProg := (34, 2, a_iconst (-9)) :: (36, 0, a_fall 36) :: []
def kX6_facedWhen_9 : pProg := (9, 1, a_iload 3) :: (10, 2, a_iconst 60) :: (12, 3, a_icmp_gt 47) :: (15, 1, a_iload 2) :: (16, 3, a_if_ge 47) :: (19, 1, a_aload 0) :: (20, 3, a_getf 0 4 5) :: (23, 1, a_iload 1) :: (24, 1, a_iald 6) :: (25, 2, a_iconst 19) :: (27, 3, a_icmp_ne 34) :: (30, 1, a_iload 3) :: (31, 3, a_goto 36) :: []
def kX6_facedWhen_0 : pProg := (0, 1, a_aload 0) :: (1, 3, a_callv 1 4 [0, 1, 2, 3, 4, 5, 6, 7, 8, 9, 10, 11, 12, 13, 14, 15, 16] tX6_thinks) :: (4, 2, a_iconst (-9)) :: (6, 1, a_istore 2) :: (7, 1, a_iconst 0) :: (8, 1, a_istore 3) :: (9, 0, a_fall 9) :: []
set_option maxRecDepth 100000 in
theorem sX6_facedWhen_47 (l : Launch) : AllS (pSnd l rmX6_facedWhen yX6_facedWhen.cls cX6_facedWhen wsX6_facedWhen 4 (some .int)) 47 kX6_facedWhen_47 :=
  alls _ (s_aload_n rfl dX6_facedWhen_47) <|
  alls _ (s_callv (ct_X6_forgets l) rfl rfl rfl (gdV wd_1020 wd_1022 wd_38 wd_65 wd_1023) rfl rfl (by decide +kernel) ⟨Nat.le_of_ble_eq_true rfl, Nat.le_of_ble_eq_true rfl⟩ dX6_facedWhen_48) <|
  alls _ (s_iload_n rfl dX6_facedWhen_51) <|
  alls _ (s_iret dX6_facedWhen_52) <|
  alls_nil _
set_option maxRecDepth 100000 in
theorem sX6_facedWhen_36 (l : Launch) : AllS (pSnd l rmX6_facedWhen yX6_facedWhen.cls cX6_facedWhen wsX6_facedWhen 4 (some .int)) 36 kX6_facedWhen_36 :=
  alls _ (s_istore_n rfl dX6_facedWhen_36) <|
  alls _ (s_aload_n rfl dX6_facedWhen_37) <|
  alls _ (s_callv (ct_X6_goesMinute l) rfl rfl rfl (gdV wd_934 wd_936 wd_30 wd_65 wd_937) rfl rfl (by decide +kernel) ⟨Nat.le_of_ble_eq_true rfl, Nat.le_of_ble_eq_true rfl⟩ dX6_facedWhen_38) <|
  alls _ (s_iinc dX6_facedWhen_41) <|
  alls _ (s_goto (by decide) dX6_facedWhen_44) <|
  alls_nil _
set_option maxRecDepth 100000 in
theorem sX6_facedWhen_34 (l : Launch) : AllS (pSnd l rmX6_facedWhen yX6_facedWhen.cls cX6_facedWhen wsX6_facedWhen 4 (some .int)) 34 kX6_facedWhen_34 :=
  alls _ (s_bipush (by decide) dX6_facedWhen_34) <|
  alls _ s_fall (alls_nil _)
set_option maxRecDepth 100000 in
theorem sX6_facedWhen_9 (l : Launch) : AllS (pSnd l rmX6_facedWhen yX6_facedWhen.cls cX6_facedWhen wsX6_facedWhen 4 (some .int)) 9 kX6_facedWhen_9 :=
  alls _ (s_iload_n rfl dX6_facedWhen_9) <|
  alls _ (s_bipush (by decide) dX6_facedWhen_10) <|
  alls _ (s_icmp_gt (by decide) dX6_facedWhen_12) <|
  alls _ (s_iload_n rfl dX6_facedWhen_15) <|
  alls _ (s_if_ge (by decide) dX6_facedWhen_16) <|
  alls _ (s_aload_n rfl dX6_facedWhen_19) <|
  alls _ (s_getf (C := RX6) (T := TX6) (N := 29) rfl (in_c inX6) (by decide) (List.mem_cons_of_mem _ wd_752) rfl dX6_facedWhen_20) <|
  alls _ (s_iload_n rfl dX6_facedWhen_23) <|
  alls _ (s_iald dX6_facedWhen_24) <|
  alls _ (s_bipush (by decide) dX6_facedWhen_25) <|
  alls _ (s_icmp_ne (by decide) dX6_facedWhen_27) <|
  alls _ (s_iload_n rfl dX6_facedWhen_30) <|
  alls _ (s_goto (by decide) dX6_facedWhen_31) <|
  alls_nil _
set_option maxRecDepth 100000 in
theorem sX6_facedWhen_0 (l : Launch) : AllS (pSnd l rmX6_facedWhen yX6_facedWhen.cls cX6_facedWhen wsX6_facedWhen 4 (some .int)) 0 kX6_facedWhen_0 :=
  alls _ (s_aload_n rfl dX6_facedWhen_0) <|
  alls _ (s_callv (ct_X6_thinks l) rfl rfl rfl (gdV wd_1016 wd_1018 wd_37 wd_65 wd_1019) rfl rfl (by decide +kernel) ⟨Nat.le_of_ble_eq_true rfl, Nat.le_of_ble_eq_true rfl⟩ dX6_facedWhen_1) <|
  alls _ (s_bipush (by decide) dX6_facedWhen_4) <|
  alls _ (s_istore_n rfl dX6_facedWhen_6) <|
  alls _ (s_iconst dX6_facedWhen_7) <|
  alls _ (s_istore_n rfl dX6_facedWhen_8) <|
  alls _ s_fall (alls_nil _)
def KX6_facedWhen : List (Nat × pProg) := [(0, kX6_facedWhen_0), (9, kX6_facedWhen_9), (34, kX6_facedWhen_34), (36, kX6_facedWhen_36), (47, kX6_facedWhen_47)]
theorem bX6_facedWhen_0 : blkOf KX6_facedWhen 0 = some kX6_facedWhen_0 := rfl
theorem bX6_facedWhen_9 : blkOf KX6_facedWhen 9 = some kX6_facedWhen_9 := rfl
theorem bX6_facedWhen_34 : blkOf KX6_facedWhen 34 = some kX6_facedWhen_34 := rfl
theorem bX6_facedWhen_36 : blkOf KX6_facedWhen 36 = some kX6_facedWhen_36 := rfl
theorem bX6_facedWhen_47 : blkOf KX6_facedWhen 47 = some kX6_facedWhen_47 := rfl
def tX6_facedWhen : pT := pM KX6_facedWhen 4
theorem ct_X6_facedWhen (l : Launch) : pCtr l yX6_facedWhen wsX6_facedWhen rmX6_facedWhen 2 tX6_facedWhen := ctr_of (by decide +kernel) rfl (List.forall_mem_cons.mpr ⟨sX6_facedWhen_0 l, List.forall_mem_cons.mpr ⟨sX6_facedWhen_9 l, List.forall_mem_cons.mpr ⟨sX6_facedWhen_34 l, List.forall_mem_cons.mpr ⟨sX6_facedWhen_36 l, List.forall_mem_cons.mpr ⟨sX6_facedWhen_47 l, fun _ h => absurd h List.not_mem_nil⟩⟩⟩⟩⟩)
theorem dX6_firstFaced_0 : decode cX6_firstFaced 0 = .ok (.bipush (-9), 2) := by decide +kernel
theorem dX6_firstFaced_2 : decode cX6_firstFaced 2 = .ok (.istore_n 1, 1) := by decide +kernel
theorem dX6_firstFaced_3 : decode cX6_firstFaced 3 = .ok (.bipush 61, 2) := by decide +kernel
theorem dX6_firstFaced_5 : decode cX6_firstFaced 5 = .ok (.istore_n 2, 1) := by decide +kernel
theorem dX6_firstFaced_6 : decode cX6_firstFaced 6 = .ok (.iconst 0, 1) := by decide +kernel
theorem dX6_firstFaced_7 : decode cX6_firstFaced 7 = .ok (.istore_n 3, 1) := by decide +kernel
theorem dX6_firstFaced_8 : decode cX6_firstFaced 8 = .ok (.iload_n 3, 1) := by decide +kernel
theorem dX6_firstFaced_9 : decode cX6_firstFaced 9 = .ok (.aload_n 0, 1) := by decide +kernel
theorem dX6_firstFaced_10 : decode cX6_firstFaced 10 = .ok (.getfield 58, 3) := by decide +kernel
theorem dX6_firstFaced_13 : decode cX6_firstFaced 13 = .ok (.if_icmp .ge 35, 3) := by decide +kernel
theorem dX6_firstFaced_16 : decode cX6_firstFaced 16 = .ok (.aload_n 0, 1) := by decide +kernel
theorem dX6_firstFaced_17 : decode cX6_firstFaced 17 = .ok (.iload_n 3, 1) := by decide +kernel
theorem dX6_firstFaced_18 : decode cX6_firstFaced 18 = .ok (.invokevirtual 219, 3) := by decide +kernel
theorem dX6_firstFaced_21 : decode cX6_firstFaced 21 = .ok (.istore 4, 2) := by decide +kernel
theorem dX6_firstFaced_23 : decode cX6_firstFaced 23 = .ok (.iload 4, 2) := by decide +kernel
theorem dX6_firstFaced_25 : decode cX6_firstFaced 25 = .ok (.ifCond .lt 17, 3) := by decide +kernel
theorem dX6_firstFaced_28 : decode cX6_firstFaced 28 = .ok (.iload 4, 2) := by decide +kernel
theorem dX6_firstFaced_30 : decode cX6_firstFaced 30 = .ok (.iload_n 2, 1) := by decide +kernel
theorem dX6_firstFaced_31 : decode cX6_firstFaced 31 = .ok (.if_icmp .lt 6, 3) := by decide +kernel
theorem dX6_firstFaced_34 : decode cX6_firstFaced 34 = .ok (.goto 8, 3) := by decide +kernel
theorem dX6_firstFaced_37 : decode cX6_firstFaced 37 = .ok (.iload_n 3, 1) := by decide +kernel
theorem dX6_firstFaced_38 : decode cX6_firstFaced 38 = .ok (.istore_n 1, 1) := by decide +kernel
theorem dX6_firstFaced_39 : decode cX6_firstFaced 39 = .ok (.iload 4, 2) := by decide +kernel
theorem dX6_firstFaced_41 : decode cX6_firstFaced 41 = .ok (.istore_n 2, 1) := by decide +kernel
theorem dX6_firstFaced_42 : decode cX6_firstFaced 42 = .ok (.iinc 3 1, 3) := by decide +kernel
theorem dX6_firstFaced_45 : decode cX6_firstFaced 45 = .ok (.goto (-37), 3) := by decide +kernel
theorem dX6_firstFaced_48 : decode cX6_firstFaced 48 = .ok (.iload_n 1, 1) := by decide +kernel
theorem dX6_firstFaced_49 : decode cX6_firstFaced 49 = .ok (.ireturn, 1) := by decide +kernel
def rmX6_firstFaced : Room := { frames := 6, cells := 0, slots := 0, locals := 134 }
abbrev wsX6_firstFaced : List Cond := .code yX6_firstFaced cX6_firstFaced 5 (some .int) :: gw_tbl
def kX6_firstFaced_48 : pProg := (48, 1, a_iload 1) :: (49, 1, a_iret) :: []
def kX6_firstFaced_42 : pProg := (42, 3, a_iinc 3 1) :: (45, 3, a_goto 8) :: []
def kX6_firstFaced_37 : pProg := (37, 1, a_iload 3) :: (38, 1, a_istore 1) :: (39, 2, a_iload 4) :: (41, 1, a_istore 2) :: (42, 0, a_fall 42) :: []
def kX6_firstFaced_8 : pProg := (8, 1, a_iload 3) :: (9, 1, a_aload 0) :: (10, 3, a_getf 0 4 7) :: (13, 3, a_icmp_ge 48) :: (16, 1, a_aload 0) :: (17, 1, a_iload 3) :: (18, 3, a_callv 2 4 [0, 1, 2, 3, 4, 5, 6, 7, 8, 9, 10, 11, 12, 13, 14, 15, 16] tX6_facedWhen) :: (21, 2, a_istore 4) :: (23, 2, a_iload 4) :: (25, 3, a_if_lt 42) :: (28, 2, a_iload 4) :: (30, 1, a_iload 2) :: (31, 3, a_icmp_lt 37) :: (34, 3, a_goto 42) :: []
def kX6_firstFaced_0 : pProg := (0, 2, a_iconst (-9)) :: (2, 1, a_istore 1) :: (3, 2, a_iconst 61) :: (5, 1, a_istore 2) :: (6, 1, a_iconst 0) :: (7, 1, a_istore 3) :: (8, 0, a_fall 8) :: []
set_option maxRecDepth 100000 in
theorem sX6_firstFaced_48 (l : Launch) : AllS (pSnd l rmX6_firstFaced yX6_firstFaced.cls cX6_firstFaced wsX6_firstFaced 5 (some .int)) 48 kX6_firstFaced_48 :=
  alls _ (s_iload_n rfl dX6_firstFaced_48) <|
  alls _ (s_iret dX6_firstFaced_49) <|
  alls_nil _
set_option maxRecDepth 100000 in
theorem sX6_firstFaced_42 (l : Launch) : AllS (pSnd l rmX6_firstFaced yX6_firstFaced.cls cX6_firstFaced wsX6_firstFaced 5 (some .int)) 42 kX6_firstFaced_42 :=
  alls _ (s_iinc dX6_firstFaced_42) <|
  alls _ (s_goto (by decide) dX6_firstFaced_45) <|
  alls_nil _
set_option maxRecDepth 100000 in
theorem sX6_firstFaced_37 (l : Launch) : AllS (pSnd l rmX6_firstFaced yX6_firstFaced.cls cX6_firstFaced wsX6_firstFaced 5 (some .int)) 37 kX6_firstFaced_37 :=
  alls _ (s_iload_n rfl dX6_firstFaced_37) <|
  alls _ (s_istore_n rfl dX6_firstFaced_38) <|
  alls _ (s_iload dX6_firstFaced_39) <|
  alls _ (s_istore_n rfl dX6_firstFaced_41) <|
  alls _ s_fall (alls_nil _)
set_option maxRecDepth 100000 in
theorem sX6_firstFaced_8 (l : Launch) : AllS (pSnd l rmX6_firstFaced yX6_firstFaced.cls cX6_firstFaced wsX6_firstFaced 5 (some .int)) 8 kX6_firstFaced_8 :=
  alls _ (s_iload_n rfl dX6_firstFaced_8) <|
  alls _ (s_aload_n rfl dX6_firstFaced_9) <|
  alls _ (s_getf (C := RX6) (T := TX6) (N := 29) rfl (in_c inX6) (by decide) (List.mem_cons_of_mem _ wd_754) rfl dX6_firstFaced_10) <|
  alls _ (s_icmp_ge (by decide) dX6_firstFaced_13) <|
  alls _ (s_aload_n rfl dX6_firstFaced_16) <|
  alls _ (s_iload_n rfl dX6_firstFaced_17) <|
  alls _ (s_callv (ct_X6_facedWhen l) rfl rfl rfl (gdV wd_1044 wd_1046 wd_42 wd_65 wd_1047) rfl rfl (by decide +kernel) ⟨Nat.le_of_ble_eq_true rfl, Nat.le_of_ble_eq_true rfl⟩ dX6_firstFaced_18) <|
  alls _ (s_istore dX6_firstFaced_21) <|
  alls _ (s_iload dX6_firstFaced_23) <|
  alls _ (s_if_lt (by decide) dX6_firstFaced_25) <|
  alls _ (s_iload dX6_firstFaced_28) <|
  alls _ (s_iload_n rfl dX6_firstFaced_30) <|
  alls _ (s_icmp_lt (by decide) dX6_firstFaced_31) <|
  alls _ (s_goto (by decide) dX6_firstFaced_34) <|
  alls_nil _
set_option maxRecDepth 100000 in
theorem sX6_firstFaced_0 (l : Launch) : AllS (pSnd l rmX6_firstFaced yX6_firstFaced.cls cX6_firstFaced wsX6_firstFaced 5 (some .int)) 0 kX6_firstFaced_0 :=
  alls _ (s_bipush (by decide) dX6_firstFaced_0) <|
  alls _ (s_istore_n rfl dX6_firstFaced_2) <|
  alls _ (s_bipush (by decide) dX6_firstFaced_3) <|
  alls _ (s_istore_n rfl dX6_firstFaced_5) <|
  alls _ (s_iconst dX6_firstFaced_6) <|
  alls _ (s_istore_n rfl dX6_firstFaced_7) <|
  alls _ s_fall (alls_nil _)
def KX6_firstFaced : List (Nat × pProg) := [(0, kX6_firstFaced_0), (8, kX6_firstFaced_8), (37, kX6_firstFaced_37), (42, kX6_firstFaced_42), (48, kX6_firstFaced_48)]
theorem bX6_firstFaced_0 : blkOf KX6_firstFaced 0 = some kX6_firstFaced_0 := rfl
theorem bX6_firstFaced_8 : blkOf KX6_firstFaced 8 = some kX6_firstFaced_8 := rfl
theorem bX6_firstFaced_37 : blkOf KX6_firstFaced 37 = some kX6_firstFaced_37 := rfl
theorem bX6_firstFaced_42 : blkOf KX6_firstFaced 42 = some kX6_firstFaced_42 := rfl
theorem bX6_firstFaced_48 : blkOf KX6_firstFaced 48 = some kX6_firstFaced_48 := rfl
def tX6_firstFaced : pT := pM KX6_firstFaced 5
theorem ct_X6_firstFaced (l : Launch) : pCtr l yX6_firstFaced wsX6_firstFaced rmX6_firstFaced 1 tX6_firstFaced := ctr_of (by decide +kernel) rfl (List.forall_mem_cons.mpr ⟨sX6_firstFaced_0 l, List.forall_mem_cons.mpr ⟨sX6_firstFaced_8 l, List.forall_mem_cons.mpr ⟨sX6_firstFaced_37 l, List.forall_mem_cons.mpr ⟨sX6_firstFaced_42 l, List.forall_mem_cons.mpr ⟨sX6_firstFaced_48 l, fun _ h => absurd h List.not_mem_nil⟩⟩⟩⟩⟩)
theorem dX6_allFaced_0 : decode cX6_allFaced 0 = .ok (.iconst 0, 1) := by decide +kernel
theorem dX6_allFaced_1 : decode cX6_allFaced 1 = .ok (.istore_n 1, 1) := by decide +kernel
theorem dX6_allFaced_2 : decode cX6_allFaced 2 = .ok (.iconst 0, 1) := by decide +kernel
theorem dX6_allFaced_3 : decode cX6_allFaced 3 = .ok (.istore_n 2, 1) := by decide +kernel
theorem dX6_allFaced_4 : decode cX6_allFaced 4 = .ok (.iload_n 2, 1) := by decide +kernel
theorem dX6_allFaced_5 : decode cX6_allFaced 5 = .ok (.aload_n 0, 1) := by decide +kernel
theorem dX6_allFaced_6 : decode cX6_allFaced 6 = .ok (.getfield 58, 3) := by decide +kernel
theorem dX6_allFaced_9 : decode cX6_allFaced 9 = .ok (.if_icmp .ge 33, 3) := by decide +kernel
theorem dX6_allFaced_12 : decode cX6_allFaced 12 = .ok (.aload_n 0, 1) := by decide +kernel
theorem dX6_allFaced_13 : decode cX6_allFaced 13 = .ok (.iload_n 2, 1) := by decide +kernel
theorem dX6_allFaced_14 : decode cX6_allFaced 14 = .ok (.invokevirtual 219, 3) := by decide +kernel
theorem dX6_allFaced_17 : decode cX6_allFaced 17 = .ok (.istore_n 3, 1) := by decide +kernel
theorem dX6_allFaced_18 : decode cX6_allFaced 18 = .ok (.iload_n 3, 1) := by decide +kernel
theorem dX6_allFaced_19 : decode cX6_allFaced 19 = .ok (.ifCond .ge 6, 3) := by decide +kernel
theorem dX6_allFaced_22 : decode cX6_allFaced 22 = .ok (.bipush (-9), 2) := by decide +kernel
theorem dX6_allFaced_24 : decode cX6_allFaced 24 = .ok (.ireturn, 1) := by decide +kernel
theorem dX6_allFaced_25 : decode cX6_allFaced 25 = .ok (.iload_n 3, 1) := by decide +kernel
theorem dX6_allFaced_26 : decode cX6_allFaced 26 = .ok (.iload_n 1, 1) := by decide +kernel
theorem dX6_allFaced_27 : decode cX6_allFaced 27 = .ok (.if_icmp .le 7, 3) := by decide +kernel
theorem dX6_allFaced_30 : decode cX6_allFaced 30 = .ok (.iload_n 3, 1) := by decide +kernel
theorem dX6_allFaced_31 : decode cX6_allFaced 31 = .ok (.goto 4, 3) := by decide +kernel
theorem dX6_allFaced_34 : decode cX6_allFaced 34 = .ok (.iload_n 1, 1) := by decide +kernel
theorem dX6_allFaced_35 : decode cX6_allFaced 35 = .ok (.istore_n 1, 1) := by decide +kernel
theorem dX6_allFaced_36 : decode cX6_allFaced 36 = .ok (.iinc 2 1, 3) := by decide +kernel
theorem dX6_allFaced_39 : decode cX6_allFaced 39 = .ok (.goto (-35), 3) := by decide +kernel
theorem dX6_allFaced_42 : decode cX6_allFaced 42 = .ok (.iload_n 1, 1) := by decide +kernel
theorem dX6_allFaced_43 : decode cX6_allFaced 43 = .ok (.ireturn, 1) := by decide +kernel
def rmX6_allFaced : Room := { frames := 6, cells := 0, slots := 0, locals := 134 }
abbrev wsX6_allFaced : List Cond := .code yX6_allFaced cX6_allFaced 4 (some .int) :: gw_tbl
def kX6_allFaced_42 : pProg := (42, 1, a_iload 1) :: (43, 1, a_iret) :: []
def kX6_allFaced_35 : pProg := (35, 1, a_istore 1) :: (36, 3, a_iinc 2 1) :: (39, 3, a_goto 4) :: []
def kX6_allFaced_34 : pProg := (34, 1, a_iload 1) :: (35, 0, a_fall 35) :: []
def kX6_allFaced_25 : pProg := (25, 1, a_iload 3) :: (26, 1, a_iload 1) :: (27, 3, a_icmp_le 34) :: (30, 1, a_iload 3) :: (31, 3, a_goto 35) :: []
def kX6_allFaced_4 : pProg := (4, 1, a_iload 2) :: (5, 1, a_aload 0) :: (6, 3, a_getf 0 4 7) :: (9, 3, a_icmp_ge 42) :: (12, 1, a_aload 0) :: (13, 1, a_iload 2) :: (14, 3, a_callv 2 4 [0, 1, 2, 3, 4, 5, 6, 7, 8, 9, 10, 11, 12, 13, 14, 15, 16] tX6_facedWhen) :: (17, 1, a_istore 3) :: (18, 1, a_iload 3) :: (19, 3, a_if_ge 25) :: (22, 2, a_iconst (-9)) :: (24, 1, a_iret) :: []
def kX6_allFaced_0 : pProg := (0, 1, a_iconst 0) :: (1, 1, a_istore 1) :: (2, 1, a_iconst 0) :: (3, 1, a_istore 2) :: (4, 0, a_fall 4) :: []
set_option maxRecDepth 100000 in
theorem sX6_allFaced_42 (l : Launch) : AllS (pSnd l rmX6_allFaced yX6_allFaced.cls cX6_allFaced wsX6_allFaced 4 (some .int)) 42 kX6_allFaced_42 :=
  alls _ (s_iload_n rfl dX6_allFaced_42) <|
  alls _ (s_iret dX6_allFaced_43) <|
  alls_nil _
set_option maxRecDepth 100000 in
theorem sX6_allFaced_35 (l : Launch) : AllS (pSnd l rmX6_allFaced yX6_allFaced.cls cX6_allFaced wsX6_allFaced 4 (some .int)) 35 kX6_allFaced_35 :=
  alls _ (s_istore_n rfl dX6_allFaced_35) <|
  alls _ (s_iinc dX6_allFaced_36) <|
  alls _ (s_goto (by decide) dX6_allFaced_39) <|
  alls_nil _
set_option maxRecDepth 100000 in
theorem sX6_allFaced_34 (l : Launch) : AllS (pSnd l rmX6_allFaced yX6_allFaced.cls cX6_allFaced wsX6_allFaced 4 (some .int)) 34 kX6_allFaced_34 :=
  alls _ (s_iload_n rfl dX6_allFaced_34) <|
  alls _ s_fall (alls_nil _)
set_option maxRecDepth 100000 in
theorem sX6_allFaced_25 (l : Launch) : AllS (pSnd l rmX6_allFaced yX6_allFaced.cls cX6_allFaced wsX6_allFaced 4 (some .int)) 25 kX6_allFaced_25 :=
  alls _ (s_iload_n rfl dX6_allFaced_25) <|
  alls _ (s_iload_n rfl dX6_allFaced_26) <|
  alls _ (s_icmp_le (by decide) dX6_allFaced_27) <|
  alls _ (s_iload_n rfl dX6_allFaced_30) <|
  alls _ (s_goto (by decide) dX6_allFaced_31) <|
  alls_nil _
set_option maxRecDepth 100000 in
theorem sX6_allFaced_4 (l : Launch) : AllS (pSnd l rmX6_allFaced yX6_allFaced.cls cX6_allFaced wsX6_allFaced 4 (some .int)) 4 kX6_allFaced_4 :=
  alls _ (s_iload_n rfl dX6_allFaced_4) <|
  alls _ (s_aload_n rfl dX6_allFaced_5) <|
  alls _ (s_getf (C := RX6) (T := TX6) (N := 29) rfl (in_c inX6) (by decide) (List.mem_cons_of_mem _ wd_754) rfl dX6_allFaced_6) <|
  alls _ (s_icmp_ge (by decide) dX6_allFaced_9) <|
  alls _ (s_aload_n rfl dX6_allFaced_12) <|
  alls _ (s_iload_n rfl dX6_allFaced_13) <|
  alls _ (s_callv (ct_X6_facedWhen l) rfl rfl rfl (gdV wd_1044 wd_1046 wd_42 wd_65 wd_1047) rfl rfl (by decide +kernel) ⟨Nat.le_of_ble_eq_true rfl, Nat.le_of_ble_eq_true rfl⟩ dX6_allFaced_14) <|
  alls _ (s_istore_n rfl dX6_allFaced_17) <|
  alls _ (s_iload_n rfl dX6_allFaced_18) <|
  alls _ (s_if_ge (by decide) dX6_allFaced_19) <|
  alls _ (s_bipush (by decide) dX6_allFaced_22) <|
  alls _ (s_iret dX6_allFaced_24) <|
  alls_nil _
set_option maxRecDepth 100000 in
theorem sX6_allFaced_0 (l : Launch) : AllS (pSnd l rmX6_allFaced yX6_allFaced.cls cX6_allFaced wsX6_allFaced 4 (some .int)) 0 kX6_allFaced_0 :=
  alls _ (s_iconst dX6_allFaced_0) <|
  alls _ (s_istore_n rfl dX6_allFaced_1) <|
  alls _ (s_iconst dX6_allFaced_2) <|
  alls _ (s_istore_n rfl dX6_allFaced_3) <|
  alls _ s_fall (alls_nil _)
def KX6_allFaced : List (Nat × pProg) := [(0, kX6_allFaced_0), (4, kX6_allFaced_4), (25, kX6_allFaced_25), (34, kX6_allFaced_34), (35, kX6_allFaced_35), (42, kX6_allFaced_42)]
theorem bX6_allFaced_0 : blkOf KX6_allFaced 0 = some kX6_allFaced_0 := rfl
theorem bX6_allFaced_4 : blkOf KX6_allFaced 4 = some kX6_allFaced_4 := rfl
theorem bX6_allFaced_25 : blkOf KX6_allFaced 25 = some kX6_allFaced_25 := rfl
theorem bX6_allFaced_34 : blkOf KX6_allFaced 34 = some kX6_allFaced_34 := rfl
theorem bX6_allFaced_35 : blkOf KX6_allFaced 35 = some kX6_allFaced_35 := rfl
theorem bX6_allFaced_42 : blkOf KX6_allFaced 42 = some kX6_allFaced_42 := rfl
def tX6_allFaced : pT := pM KX6_allFaced 4
theorem ct_X6_allFaced (l : Launch) : pCtr l yX6_allFaced wsX6_allFaced rmX6_allFaced 1 tX6_allFaced := ctr_of (by decide +kernel) rfl (List.forall_mem_cons.mpr ⟨sX6_allFaced_0 l, List.forall_mem_cons.mpr ⟨sX6_allFaced_4 l, List.forall_mem_cons.mpr ⟨sX6_allFaced_25 l, List.forall_mem_cons.mpr ⟨sX6_allFaced_34 l, List.forall_mem_cons.mpr ⟨sX6_allFaced_35 l, List.forall_mem_cons.mpr ⟨sX6_allFaced_42 l, fun _ h => absurd h List.not_mem_nil⟩⟩⟩⟩⟩⟩)
theorem dX6_faced_0 : decode cX6_faced 0 = .ok (.iload_n 1, 1) := by decide +kernel
theorem dX6_faced_1 : decode cX6_faced 1 = .ok (.bipush (-2), 2) := by decide +kernel
theorem dX6_faced_3 : decode cX6_faced 3 = .ok (.if_icmp .lt 11, 3) := by decide +kernel
theorem dX6_faced_6 : decode cX6_faced 6 = .ok (.iload_n 1, 1) := by decide +kernel
theorem dX6_faced_7 : decode cX6_faced 7 = .ok (.aload_n 0, 1) := by decide +kernel
theorem dX6_faced_8 : decode cX6_faced 8 = .ok (.getfield 58, 3) := by decide +kernel
theorem dX6_faced_11 : decode cX6_faced 11 = .ok (.if_icmp .lt 9, 3) := by decide +kernel
theorem dX6_faced_14 : decode cX6_faced 14 = .ok (.aload_n 0, 1) := by decide +kernel
theorem dX6_faced_15 : decode cX6_faced 15 = .ok (.iconst (-1), 1) := by decide +kernel
theorem dX6_faced_16 : decode cX6_faced 16 = .ok (.invokevirtual 71, 3) := by decide +kernel
theorem dX6_faced_19 : decode cX6_faced 19 = .ok (.ireturn, 1) := by decide +kernel
theorem dX6_faced_20 : decode cX6_faced 20 = .ok (.iload_n 1, 1) := by decide +kernel
theorem dX6_faced_21 : decode cX6_faced 21 = .ok (.iconst (-1), 1) := by decide +kernel
theorem dX6_faced_22 : decode cX6_faced 22 = .ok (.if_icmp .ne 10, 3) := by decide +kernel
theorem dX6_faced_25 : decode cX6_faced 25 = .ok (.aload_n 0, 1) := by decide +kernel
theorem dX6_faced_26 : decode cX6_faced 26 = .ok (.invokevirtual 222, 3) := by decide +kernel
theorem dX6_faced_29 : decode cX6_faced 29 = .ok (.goto 21, 3) := by decide +kernel
theorem dX6_faced_32 : decode cX6_faced 32 = .ok (.iload_n 1, 1) := by decide +kernel
theorem dX6_faced_33 : decode cX6_faced 33 = .ok (.bipush (-2), 2) := by decide +kernel
theorem dX6_faced_35 : decode cX6_faced 35 = .ok (.if_icmp .ne 10, 3) := by decide +kernel
theorem dX6_faced_38 : decode cX6_faced 38 = .ok (.aload_n 0, 1) := by decide +kernel
theorem dX6_faced_39 : decode cX6_faced 39 = .ok (.invokevirtual 225, 3) := by decide +kernel
theorem dX6_faced_42 : decode cX6_faced 42 = .ok (.goto 8, 3) := by decide +kernel
theorem dX6_faced_45 : decode cX6_faced 45 = .ok (.aload_n 0, 1) := by decide +kernel
theorem dX6_faced_46 : decode cX6_faced 46 = .ok (.iload_n 1, 1) := by decide +kernel
theorem dX6_faced_47 : decode cX6_faced 47 = .ok (.invokevirtual 219, 3) := by decide +kernel
theorem dX6_faced_50 : decode cX6_faced 50 = .ok (.ireturn, 1) := by decide +kernel
def rmX6_faced : Room := { frames := 7, cells := 0, slots := 0, locals := 158 }
abbrev wsX6_faced : List Cond := .code yX6_faced cX6_faced 2 (some .int) :: gw_tbl
def kX6_faced_50 : pProg := (50, 1, a_iret) :: []
def kX6_faced_45 : pProg := (45, 1, a_aload 0) :: (46, 1, a_iload 1) :: (47, 3, a_callv 2 4 [0, 1, 2, 3, 4, 5, 6, 7, 8, 9, 10, 11, 12, 13, 14, 15, 16] tX6_facedWhen) :: (50, 0, a_fall 50) :: []
def kX6_faced_32 : pProg := (32, 1, a_iload 1) :: (33, 2, a_iconst (-2)) :: (35, 3, a_icmp_ne 45) :: (38, 1, a_aload 0) :: (39, 3, a_callv 1 4 [0, 1, 2, 3, 4, 5, 6, 7, 8, 9, 10, 11, 12, 13, 14, 15, 16] tX6_allFaced) :: (42, 3, a_goto 50) :: []
def kX6_faced_20 : pProg := (20, 1, a_iload 1) :: (21, 1, a_iconst (-1)) :: (22, 3, a_icmp_ne 32) :: (25, 1, a_aload 0) :: (26, 3, a_callv 1 4 [0, 1, 2, 3, 4, 5, 6, 7, 8, 9, 10, 11, 12, 13, 14, 15, 16] tX6_firstFaced) :: (29, 3, a_goto 50) :: []
def kX6_faced_14 : pProg := (14, 1, a_aload 0) :: (15, 1, a_iconst (-1)) :: (16, 3, a_callv 2 4 [0, 1, 2, 3, 4, 5, 6, 7, 8, 9, 10, 11, 12, 13, 14, 15, 16] tX6_no) :: (19, 1, a_iret) :: []
def kX6_faced_0 : pProg := (0, 1, a_iload 1) :: (1, 2, a_iconst (-2)) :: (3, 3, a_icmp_lt 14) :: (6, 1, a_iload 1) :: (7, 1, a_aload 0) :: (8, 3, a_getf 0 4 7) :: (11, 3, a_icmp_lt 20) :: (14, 0, a_fall 14) :: []
set_option maxRecDepth 100000 in
theorem sX6_faced_50 (l : Launch) : AllS (pSnd l rmX6_faced yX6_faced.cls cX6_faced wsX6_faced 2 (some .int)) 50 kX6_faced_50 :=
  alls _ (s_iret dX6_faced_50) <|
  alls_nil _
set_option maxRecDepth 100000 in
theorem sX6_faced_45 (l : Launch) : AllS (pSnd l rmX6_faced yX6_faced.cls cX6_faced wsX6_faced 2 (some .int)) 45 kX6_faced_45 :=
  alls _ (s_aload_n rfl dX6_faced_45) <|
  alls _ (s_iload_n rfl dX6_faced_46) <|
  alls _ (s_callv (ct_X6_facedWhen l) rfl rfl rfl (gdV wd_1044 wd_1046 wd_42 wd_65 wd_1047) rfl rfl (by decide +kernel) ⟨Nat.le_of_ble_eq_true rfl, Nat.le_of_ble_eq_true rfl⟩ dX6_faced_47) <|
  alls _ s_fall (alls_nil _)
set_option maxRecDepth 100000 in
theorem sX6_faced_32 (l : Launch) : AllS (pSnd l rmX6_faced yX6_faced.cls cX6_faced wsX6_faced 2 (some .int)) 32 kX6_faced_32 :=
  alls _ (s_iload_n rfl dX6_faced_32) <|
  alls _ (s_bipush (by decide) dX6_faced_33) <|
  alls _ (s_icmp_ne (by decide) dX6_faced_35) <|
  alls _ (s_aload_n rfl dX6_faced_38) <|
  alls _ (s_callv (ct_X6_allFaced l) rfl rfl rfl (gdV wd_1048 wd_1050 wd_43 wd_65 wd_1051) rfl rfl (by decide +kernel) ⟨Nat.le_of_ble_eq_true rfl, Nat.le_of_ble_eq_true rfl⟩ dX6_faced_39) <|
  alls _ (s_goto (by decide) dX6_faced_42) <|
  alls_nil _
set_option maxRecDepth 100000 in
theorem sX6_faced_20 (l : Launch) : AllS (pSnd l rmX6_faced yX6_faced.cls cX6_faced wsX6_faced 2 (some .int)) 20 kX6_faced_20 :=
  alls _ (s_iload_n rfl dX6_faced_20) <|
  alls _ (s_iconst dX6_faced_21) <|
  alls _ (s_icmp_ne (by decide) dX6_faced_22) <|
  alls _ (s_aload_n rfl dX6_faced_25) <|
  alls _ (s_callv (ct_X6_firstFaced l) rfl rfl rfl (gdV wd_1040 wd_1042 wd_41 wd_65 wd_1043) rfl rfl (by decide +kernel) ⟨Nat.le_of_ble_eq_true rfl, Nat.le_of_ble_eq_true rfl⟩ dX6_faced_26) <|
  alls _ (s_goto (by decide) dX6_faced_29) <|
  alls_nil _
set_option maxRecDepth 100000 in
theorem sX6_faced_14 (l : Launch) : AllS (pSnd l rmX6_faced yX6_faced.cls cX6_faced wsX6_faced 2 (some .int)) 14 kX6_faced_14 :=
  alls _ (s_aload_n rfl dX6_faced_14) <|
  alls _ (s_iconst dX6_faced_15) <|
  alls _ (s_callv (ct_X6_no l) rfl rfl rfl (gdV wd_842 wd_844 wd_11 wd_65 wd_845) rfl rfl (by decide +kernel) ⟨Nat.le_of_ble_eq_true rfl, Nat.le_of_ble_eq_true rfl⟩ dX6_faced_16) <|
  alls _ (s_iret dX6_faced_19) <|
  alls_nil _
set_option maxRecDepth 100000 in
theorem sX6_faced_0 (l : Launch) : AllS (pSnd l rmX6_faced yX6_faced.cls cX6_faced wsX6_faced 2 (some .int)) 0 kX6_faced_0 :=
  alls _ (s_iload_n rfl dX6_faced_0) <|
  alls _ (s_bipush (by decide) dX6_faced_1) <|
  alls _ (s_icmp_lt (by decide) dX6_faced_3) <|
  alls _ (s_iload_n rfl dX6_faced_6) <|
  alls _ (s_aload_n rfl dX6_faced_7) <|
  alls _ (s_getf (C := RX6) (T := TX6) (N := 29) rfl (in_c inX6) (by decide) (List.mem_cons_of_mem _ wd_754) rfl dX6_faced_8) <|
  alls _ (s_icmp_lt (by decide) dX6_faced_11) <|
  alls _ s_fall (alls_nil _)
def KX6_faced : List (Nat × pProg) := [(0, kX6_faced_0), (14, kX6_faced_14), (20, kX6_faced_20), (32, kX6_faced_32), (45, kX6_faced_45), (50, kX6_faced_50)]
theorem bX6_faced_0 : blkOf KX6_faced 0 = some kX6_faced_0 := rfl
theorem bX6_faced_14 : blkOf KX6_faced 14 = some kX6_faced_14 := rfl
theorem bX6_faced_20 : blkOf KX6_faced 20 = some kX6_faced_20 := rfl
theorem bX6_faced_32 : blkOf KX6_faced 32 = some kX6_faced_32 := rfl
theorem bX6_faced_45 : blkOf KX6_faced 45 = some kX6_faced_45 := rfl
theorem bX6_faced_50 : blkOf KX6_faced 50 = some kX6_faced_50 := rfl
def tX6_faced : pT := pM KX6_faced 2
theorem ct_X6_faced (l : Launch) : pCtr l yX6_faced wsX6_faced rmX6_faced 2 tX6_faced := ctr_of (by decide +kernel) rfl (List.forall_mem_cons.mpr ⟨sX6_faced_0 l, List.forall_mem_cons.mpr ⟨sX6_faced_14 l, List.forall_mem_cons.mpr ⟨sX6_faced_20 l, List.forall_mem_cons.mpr ⟨sX6_faced_32 l, List.forall_mem_cons.mpr ⟨sX6_faced_45 l, List.forall_mem_cons.mpr ⟨sX6_faced_50 l, fun _ h => absurd h List.not_mem_nil⟩⟩⟩⟩⟩⟩)
theorem dX6_done_0 : decode cX6_done 0 = .ok (.aload_n 0, 1) := by decide +kernel
theorem dX6_done_1 : decode cX6_done 1 = .ok (.iload_n 1, 1) := by decide +kernel
theorem dX6_done_2 : decode cX6_done 2 = .ok (.invokevirtual 106, 3) := by decide +kernel
theorem dX6_done_5 : decode cX6_done 5 = .ok (.ifCond .ne 9, 3) := by decide +kernel
theorem dX6_done_8 : decode cX6_done 8 = .ok (.aload_n 0, 1) := by decide +kernel
theorem dX6_done_9 : decode cX6_done 9 = .ok (.iconst (-1), 1) := by decide +kernel
theorem dX6_done_10 : decode cX6_done 10 = .ok (.invokevirtual 71, 3) := by decide +kernel
theorem dX6_done_13 : decode cX6_done 13 = .ok (.ireturn, 1) := by decide +kernel
theorem dX6_done_14 : decode cX6_done 14 = .ok (.aload_n 0, 1) := by decide +kernel
theorem dX6_done_15 : decode cX6_done 15 = .ok (.invokevirtual 207, 3) := by decide +kernel
theorem dX6_done_18 : decode cX6_done 18 = .ok (.bipush (-9), 2) := by decide +kernel
theorem dX6_done_20 : decode cX6_done 20 = .ok (.istore_n 2, 1) := by decide +kernel
theorem dX6_done_21 : decode cX6_done 21 = .ok (.iconst 0, 1) := by decide +kernel
theorem dX6_done_22 : decode cX6_done 22 = .ok (.istore_n 3, 1) := by decide +kernel
theorem dX6_done_23 : decode cX6_done 23 = .ok (.iload_n 3, 1) := by decide +kernel
theorem dX6_done_24 : decode cX6_done 24 = .ok (.bipush 60, 2) := by decide +kernel
theorem dX6_done_26 : decode cX6_done 26 = .ok (.if_icmp .gt 33, 3) := by decide +kernel
theorem dX6_done_29 : decode cX6_done 29 = .ok (.iload_n 2, 1) := by decide +kernel
theorem dX6_done_30 : decode cX6_done 30 = .ok (.ifCond .ge 29, 3) := by decide +kernel
theorem dX6_done_33 : decode cX6_done 33 = .ok (.aload_n 0, 1) := by decide +kernel
theorem dX6_done_34 : decode cX6_done 34 = .ok (.getfield 28, 3) := by decide +kernel
theorem dX6_done_37 : decode cX6_done 37 = .ok (.iload_n 1, 1) := by decide +kernel
theorem dX6_done_38 : decode cX6_done 38 = .ok (.iaload, 1) := by decide +kernel
theorem dX6_done_39 : decode cX6_done 39 = .ok (.ifCond .ne 7, 3) := by decide +kernel
theorem dX6_done_42 : decode cX6_done 42 = .ok (.iload_n 3, 1) := by decide +kernel
theorem dX6_done_43 : decode cX6_done 43 = .ok (.goto 5, 3) := by decide +kernel
theorem dX6_done_46 : decode cX6_done 46 = .ok (.bipush (-9), 2) := by decide +kernel
theorem dX6_done_48 : decode cX6_done 48 = .ok (.istore_n 2, 1) := by decide +kernel
theorem dX6_done_49 : decode cX6_done 49 = .ok (.aload_n 0, 1) := by decide +kernel
theorem dX6_done_50 : decode cX6_done 50 = .ok (.invokevirtual 197, 3) := by decide +kernel
theorem dX6_done_53 : decode cX6_done 53 = .ok (.iinc 3 1, 3) := by decide +kernel
theorem dX6_done_56 : decode cX6_done 56 = .ok (.goto (-33), 3) := by decide +kernel
theorem dX6_done_59 : decode cX6_done 59 = .ok (.aload_n 0, 1) := by decide +kernel
theorem dX6_done_60 : decode cX6_done 60 = .ok (.invokevirtual 210, 3) := by decide +kernel
theorem dX6_done_63 : decode cX6_done 63 = .ok (.iload_n 2, 1) := by decide +kernel
theorem dX6_done_64 : decode cX6_done 64 = .ok (.ireturn, 1) := by decide +kernel
def rmX6_done : Room := { frames := 5, cells := 0, slots := 0, locals := 111 }
abbrev wsX6_done : List Cond := .code yX6_done cX6_done 4 (some .int) :: gw_tbl
def kX6_done_59 : pProg := (59, 1, a_aload 0) :: (60, 3, a_callv 1 4 [0, 1, 2, 3, 4, 5, 6, 7, 8, 9, 10, 11, 12, 13, 14, 15, 16] tX6_forgets) :: (63, 1, a_iload 2) :: (64, 1, a_iret) :: []
def kX6_done_48 : pProg := (48, 1, a_istore 2) :: (49, 1, a_aload 0) :: (50, 3, a_callv 1 4 [0, 1, 2, 3, 4, 5, 6, 7, 8, 9, 10, 11, 12, 13, 14, 15, 16] tX6_goesMinute) :: (53, 3, a_iinc 3 1) :: (56, 3, a_goto 23) :: []
def kX6_done_46 : pProg := (46, 2, a_iconst (-9)) :: (48, 0, a_fall 48) :: []
def kX6_done_23 : pProg := (23, 1, a_iload 3) :: (24, 2, a_iconst 60) :: (26, 3, a_icmp_gt 59) :: (29, 1, a_iload 2) :: (30, 3, a_if_ge 59) :: (33, 1, a_aload 0) :: (34, 3, a_getf 0 4 6) :: (37, 1, a_iload 1) :: (38, 1, a_iald 7) :: (39, 3, a_if_ne 46) :: (42, 1, a_iload 3) :: (43, 3, a_goto 48) :: []
def kX6_done_14 : pProg := (14, 1, a_aload 0) :: (15, 3, a_callv 1 4 [0, 1, 2, 3, 4, 5, 6, 7, 8, 9, 10, 11, 12, 13, 14, 15, 16] tX6_thinks) :: (18, 2, a_iconst (-9)) :: (20, 1, a_istore 2) :: (21, 1, a_iconst 0) :: (22, 1, a_istore 3) :: (23, 0, a_fall 23) :: []
def kX6_done_0 : pProg := (0, 1, a_aload 0) :: (1, 1, a_iload 1) :: (2, 3, a_callv 2 4 [0, 1, 2, 3, 4, 5, 6, 7, 8, 9, 10, 11, 12, 13, 14, 15, 16] tX6_isPair) :: (5, 3, a_if_ne 14) :: (8, 1, a_aload 0) :: (9, 1, a_iconst (-1)) :: (10, 3, a_callv 2 4 [0, 1, 2, 3, 4, 5, 6, 7, 8, 9, 10, 11, 12, 13, 14, 15, 16] tX6_no) :: (13, 1, a_iret) :: []
set_option maxRecDepth 100000 in
theorem sX6_done_59 (l : Launch) : AllS (pSnd l rmX6_done yX6_done.cls cX6_done wsX6_done 4 (some .int)) 59 kX6_done_59 :=
  alls _ (s_aload_n rfl dX6_done_59) <|
  alls _ (s_callv (ct_X6_forgets l) rfl rfl rfl (gdV wd_1020 wd_1022 wd_38 wd_65 wd_1023) rfl rfl (by decide +kernel) ⟨Nat.le_of_ble_eq_true rfl, Nat.le_of_ble_eq_true rfl⟩ dX6_done_60) <|
  alls _ (s_iload_n rfl dX6_done_63) <|
  alls _ (s_iret dX6_done_64) <|
  alls_nil _
set_option maxRecDepth 100000 in
theorem sX6_done_48 (l : Launch) : AllS (pSnd l rmX6_done yX6_done.cls cX6_done wsX6_done 4 (some .int)) 48 kX6_done_48 :=
  alls _ (s_istore_n rfl dX6_done_48) <|
  alls _ (s_aload_n rfl dX6_done_49) <|
  alls _ (s_callv (ct_X6_goesMinute l) rfl rfl rfl (gdV wd_934 wd_936 wd_30 wd_65 wd_937) rfl rfl (by decide +kernel) ⟨Nat.le_of_ble_eq_true rfl, Nat.le_of_ble_eq_true rfl⟩ dX6_done_50) <|
  alls _ (s_iinc dX6_done_53) <|
  alls _ (s_goto (by decide) dX6_done_56) <|
  alls_nil _
set_option maxRecDepth 100000 in
theorem sX6_done_46 (l : Launch) : AllS (pSnd l rmX6_done yX6_done.cls cX6_done wsX6_done 4 (some .int)) 46 kX6_done_46 :=
  alls _ (s_bipush (by decide) dX6_done_46) <|
  alls _ s_fall (alls_nil _)
set_option maxRecDepth 100000 in
theorem sX6_done_23 (l : Launch) : AllS (pSnd l rmX6_done yX6_done.cls cX6_done wsX6_done 4 (some .int)) 23 kX6_done_23 :=
  alls _ (s_iload_n rfl dX6_done_23) <|
  alls _ (s_bipush (by decide) dX6_done_24) <|
  alls _ (s_icmp_gt (by decide) dX6_done_26) <|
  alls _ (s_iload_n rfl dX6_done_29) <|
  alls _ (s_if_ge (by decide) dX6_done_30) <|
  alls _ (s_aload_n rfl dX6_done_33) <|
  alls _ (s_getf (C := RX6) (T := TX6) (N := 29) rfl (in_c inX6) (by decide) (List.mem_cons_of_mem _ wd_753) rfl dX6_done_34) <|
  alls _ (s_iload_n rfl dX6_done_37) <|
  alls _ (s_iald dX6_done_38) <|
  alls _ (s_if_ne (by decide) dX6_done_39) <|
  alls _ (s_iload_n rfl dX6_done_42) <|
  alls _ (s_goto (by decide) dX6_done_43) <|
  alls_nil _
set_option maxRecDepth 100000 in
theorem sX6_done_14 (l : Launch) : AllS (pSnd l rmX6_done yX6_done.cls cX6_done wsX6_done 4 (some .int)) 14 kX6_done_14 :=
  alls _ (s_aload_n rfl dX6_done_14) <|
  alls _ (s_callv (ct_X6_thinks l) rfl rfl rfl (gdV wd_1016 wd_1018 wd_37 wd_65 wd_1019) rfl rfl (by decide +kernel) ⟨Nat.le_of_ble_eq_true rfl, Nat.le_of_ble_eq_true rfl⟩ dX6_done_15) <|
  alls _ (s_bipush (by decide) dX6_done_18) <|
  alls _ (s_istore_n rfl dX6_done_20) <|
  alls _ (s_iconst dX6_done_21) <|
  alls _ (s_istore_n rfl dX6_done_22) <|
  alls _ s_fall (alls_nil _)
set_option maxRecDepth 100000 in
theorem sX6_done_0 (l : Launch) : AllS (pSnd l rmX6_done yX6_done.cls cX6_done wsX6_done 4 (some .int)) 0 kX6_done_0 :=
  alls _ (s_aload_n rfl dX6_done_0) <|
  alls _ (s_iload_n rfl dX6_done_1) <|
  alls _ (s_callv (ct_X6_isPair l) rfl rfl rfl (gdV wd_907 wd_909 wd_24 wd_65 wd_910) rfl rfl (by decide +kernel) ⟨Nat.le_of_ble_eq_true rfl, Nat.le_of_ble_eq_true rfl⟩ dX6_done_2) <|
  alls _ (s_if_ne (by decide) dX6_done_5) <|
  alls _ (s_aload_n rfl dX6_done_8) <|
  alls _ (s_iconst dX6_done_9) <|
  alls _ (s_callv (ct_X6_no l) rfl rfl rfl (gdV wd_842 wd_844 wd_11 wd_65 wd_845) rfl rfl (by decide +kernel) ⟨Nat.le_of_ble_eq_true rfl, Nat.le_of_ble_eq_true rfl⟩ dX6_done_10) <|
  alls _ (s_iret dX6_done_13) <|
  alls_nil _
def KX6_done : List (Nat × pProg) := [(0, kX6_done_0), (14, kX6_done_14), (23, kX6_done_23), (46, kX6_done_46), (48, kX6_done_48), (59, kX6_done_59)]
theorem bX6_done_0 : blkOf KX6_done 0 = some kX6_done_0 := rfl
theorem bX6_done_14 : blkOf KX6_done 14 = some kX6_done_14 := rfl
theorem bX6_done_23 : blkOf KX6_done 23 = some kX6_done_23 := rfl
theorem bX6_done_46 : blkOf KX6_done 46 = some kX6_done_46 := rfl
theorem bX6_done_48 : blkOf KX6_done 48 = some kX6_done_48 := rfl
theorem bX6_done_59 : blkOf KX6_done 59 = some kX6_done_59 := rfl
def tX6_done : pT := pM KX6_done 4
theorem ct_X6_done (l : Launch) : pCtr l yX6_done wsX6_done rmX6_done 2 tX6_done := ctr_of (by decide +kernel) rfl (List.forall_mem_cons.mpr ⟨sX6_done_0 l, List.forall_mem_cons.mpr ⟨sX6_done_14 l, List.forall_mem_cons.mpr ⟨sX6_done_23 l, List.forall_mem_cons.mpr ⟨sX6_done_46 l, List.forall_mem_cons.mpr ⟨sX6_done_48 l, List.forall_mem_cons.mpr ⟨sX6_done_59 l, fun _ h => absurd h List.not_mem_nil⟩⟩⟩⟩⟩⟩)
theorem dX6_hurt_0 : decode cX6_hurt 0 = .ok (.aload_n 0, 1) := by decide +kernel
theorem dX6_hurt_1 : decode cX6_hurt 1 = .ok (.iload_n 1, 1) := by decide +kernel
theorem dX6_hurt_2 : decode cX6_hurt 2 = .ok (.invokevirtual 128, 3) := by decide +kernel
theorem dX6_hurt_5 : decode cX6_hurt 5 = .ok (.ifCond .ne 7, 3) := by decide +kernel
theorem dX6_hurt_8 : decode cX6_hurt 8 = .ok (.iconst (-1), 1) := by decide +kernel
theorem dX6_hurt_9 : decode cX6_hurt 9 = .ok (.goto 10, 3) := by decide +kernel
theorem dX6_hurt_12 : decode cX6_hurt 12 = .ok (.iload_n 2, 1) := by decide +kernel
theorem dX6_hurt_13 : decode cX6_hurt 13 = .ok (.iconst 0, 1) := by decide +kernel
theorem dX6_hurt_14 : decode cX6_hurt 14 = .ok (.bipush 99, 2) := by decide +kernel
theorem dX6_hurt_16 : decode cX6_hurt 16 = .ok (.invokestatic 64, 3) := by decide +kernel
theorem dX6_hurt_19 : decode cX6_hurt 19 = .ok (.istore_n 3, 1) := by decide +kernel
theorem dX6_hurt_20 : decode cX6_hurt 20 = .ok (.iload_n 3, 1) := by decide +kernel
theorem dX6_hurt_21 : decode cX6_hurt 21 = .ok (.ifCond .eq 9, 3) := by decide +kernel
theorem dX6_hurt_24 : decode cX6_hurt 24 = .ok (.aload_n 0, 1) := by decide +kernel
theorem dX6_hurt_25 : decode cX6_hurt 25 = .ok (.iload_n 3, 1) := by decide +kernel
theorem dX6_hurt_26 : decode cX6_hurt 26 = .ok (.invokevirtual 71, 3) := by decide +kernel
theorem dX6_hurt_29 : decode cX6_hurt 29 = .ok (.ireturn, 1) := by decide +kernel
theorem dX6_hurt_30 : decode cX6_hurt 30 = .ok (.aload_n 0, 1) := by decide +kernel
theorem dX6_hurt_31 : decode cX6_hurt 31 = .ok (.invokevirtual 207, 3) := by decide +kernel
theorem dX6_hurt_34 : decode cX6_hurt 34 = .ok (.bipush (-9), 2) := by decide +kernel
theorem dX6_hurt_36 : decode cX6_hurt 36 = .ok (.istore 4, 2) := by decide +kernel
theorem dX6_hurt_38 : decode cX6_hurt 38 = .ok (.iconst 0, 1) := by decide +kernel
theorem dX6_hurt_39 : decode cX6_hurt 39 = .ok (.istore 5, 2) := by decide +kernel
theorem dX6_hurt_41 : decode cX6_hurt 41 = .ok (.iload 5, 2) := by decide +kernel
theorem dX6_hurt_43 : decode cX6_hurt 43 = .ok (.bipush 60, 2) := by decide +kernel
theorem dX6_hurt_45 : decode cX6_hurt 45 = .ok (.if_icmp .gt 37, 3) := by decide +kernel
theorem dX6_hurt_48 : decode cX6_hurt 48 = .ok (.iload 4, 2) := by decide +kernel
theorem dX6_hurt_50 : decode cX6_hurt 50 = .ok (.ifCond .ge 32, 3) := by decide +kernel
theorem dX6_hurt_53 : decode cX6_hurt 53 = .ok (.aload_n 0, 1) := by decide +kernel
theorem dX6_hurt_54 : decode cX6_hurt 54 = .ok (.getfield 22, 3) := by decide +kernel
theorem dX6_hurt_57 : decode cX6_hurt 57 = .ok (.iload_n 1, 1) := by decide +kernel
theorem dX6_hurt_58 : decode cX6_hurt 58 = .ok (.iaload, 1) := by decide +kernel
theorem dX6_hurt_59 : decode cX6_hurt 59 = .ok (.iload_n 2, 1) := by decide +kernel
theorem dX6_hurt_60 : decode cX6_hurt 60 = .ok (.if_icmp .lt 8, 3) := by decide +kernel
theorem dX6_hurt_63 : decode cX6_hurt 63 = .ok (.iload 5, 2) := by decide +kernel
theorem dX6_hurt_65 : decode cX6_hurt 65 = .ok (.goto 5, 3) := by decide +kernel
theorem dX6_hurt_68 : decode cX6_hurt 68 = .ok (.bipush (-9), 2) := by decide +kernel
theorem dX6_hurt_70 : decode cX6_hurt 70 = .ok (.istore 4, 2) := by decide +kernel
theorem dX6_hurt_72 : decode cX6_hurt 72 = .ok (.aload_n 0, 1) := by decide +kernel
theorem dX6_hurt_73 : decode cX6_hurt 73 = .ok (.invokevirtual 197, 3) := by decide +kernel
theorem dX6_hurt_76 : decode cX6_hurt 76 = .ok (.iinc 5 1, 3) := by decide +kernel
theorem dX6_hurt_79 : decode cX6_hurt 79 = .ok (.goto (-38), 3) := by decide +kernel
theorem dX6_hurt_82 : decode cX6_hurt 82 = .ok (.aload_n 0, 1) := by decide +kernel
theorem dX6_hurt_83 : decode cX6_hurt 83 = .ok (.invokevirtual 210, 3) := by decide +kernel
theorem dX6_hurt_86 : decode cX6_hurt 86 = .ok (.iload 4, 2) := by decide +kernel
theorem dX6_hurt_88 : decode cX6_hurt 88 = .ok (.ireturn, 1) := by decide +kernel
def rmX6_hurt : Room := { frames := 5, cells := 0, slots := 0, locals := 111 }
abbrev wsX6_hurt : List Cond := .code yX6_hurt cX6_hurt 6 (some .int) :: gw_tbl
def kX6_hurt_82 : pProg := (82, 1, a_aload 0) :: (83, 3, a_callv 1 4 [0, 1, 2, 3, 4, 5, 6, 7, 8, 9, 10, 11, 12, 13, 14, 15, 16] tX6_forgets) :: (86, 2, a_iload 4) :: (88, 1, a_iret) :: []
def kX6_hurt_70 : pProg := (70, 2, a_istore 4) :: (72, 1, a_aload 0) :: (73, 3, a_callv 1 4 [0, 1, 2, 3, 4, 5, 6, 7, 8, 9, 10, 11, 12, 13, 14, 15, 16] tX6_goesMinute) :: (76, 3, a_iinc 5 1) :: (79, 3, a_goto 41) :: []
def kX6_hurt_68 : pProg := (68, 2, a_iconst (-9)) :: (70, 0, a_fall 70) :: []
def kX6_hurt_41 : pProg := (41, 2, a_iload 5) :: (43, 2, a_iconst 60) :: (45, 3, a_icmp_gt 82) :: (48, 2, a_iload 4) :: (50, 3, a_if_ge 82) :: (53, 1, a_aload 0) :: (54, 3, a_getf 0 4 4) :: (57, 1, a_iload 1) :: (58, 1, a_iald 5) :: (59, 1, a_iload 2) :: (60, 3, a_icmp_lt 68) :: (63, 2, a_iload 5) :: (65, 3, a_goto 70) :: []
def kX6_hurt_30 : pProg := (30, 1, a_aload 0) :: (31, 3, a_callv 1 4 [0, 1, 2, 3, 4, 5, 6, 7, 8, 9, 10, 11, 12, 13, 14, 15, 16] tX6_thinks) :: (34, 2, a_iconst (-9)) :: (36, 2, a_istore 4) :: (38, 1, a_iconst 0) :: (39, 2, a_istore 5) :: (41, 0, a_fall 41) :: []
def kX6_hurt_19 : pProg := (19, 1, a_istore 3) :: (20, 1, a_iload 3) :: (21, 3, a_if_eq 30) :: (24, 1, a_aload 0) :: (25, 1, a_iload 3) :: (26, 3, a_callv 2 4 [0, 1, 2, 3, 4, 5, 6, 7, 8, 9, 10, 11, 12, 13, 14, 15, 16] tX6_no) :: (29, 1, a_iret) :: []
def kX6_hurt_12 : pProg := (12, 1, a_iload 2) :: (13, 1, a_iconst 0) :: (14, 2, a_iconst 99) :: (16, 3, a_calls 3 [] tX6_bound) :: (19, 0, a_fall 19) :: []
def kX6_hurt_0 : pProg := (0, 1, a_aload 0) :: (1, 1, a_iload 1) :: (2, 3, a_callv 2 4 [0, 1, 2, 3, 4, 5, 6, 7, 8, 9, 10, 11, 12, 13, 14, 15, 16] tX6_isMiner) :: (5, 3, a_if_ne 12) :: (8, 1, a_iconst (-1)) :: (9, 3, a_goto 19) :: []
set_option maxRecDepth 100000 in
theorem sX6_hurt_82 (l : Launch) : AllS (pSnd l rmX6_hurt yX6_hurt.cls cX6_hurt wsX6_hurt 6 (some .int)) 82 kX6_hurt_82 :=
  alls _ (s_aload_n rfl dX6_hurt_82) <|
  alls _ (s_callv (ct_X6_forgets l) rfl rfl rfl (gdV wd_1020 wd_1022 wd_38 wd_65 wd_1023) rfl rfl (by decide +kernel) ⟨Nat.le_of_ble_eq_true rfl, Nat.le_of_ble_eq_true rfl⟩ dX6_hurt_83) <|
  alls _ (s_iload dX6_hurt_86) <|
  alls _ (s_iret dX6_hurt_88) <|
  alls_nil _
set_option maxRecDepth 100000 in
theorem sX6_hurt_70 (l : Launch) : AllS (pSnd l rmX6_hurt yX6_hurt.cls cX6_hurt wsX6_hurt 6 (some .int)) 70 kX6_hurt_70 :=
  alls _ (s_istore dX6_hurt_70) <|
  alls _ (s_aload_n rfl dX6_hurt_72) <|
  alls _ (s_callv (ct_X6_goesMinute l) rfl rfl rfl (gdV wd_934 wd_936 wd_30 wd_65 wd_937) rfl rfl (by decide +kernel) ⟨Nat.le_of_ble_eq_true rfl, Nat.le_of_ble_eq_true rfl⟩ dX6_hurt_73) <|
  alls _ (s_iinc dX6_hurt_76) <|
  alls _ (s_goto (by decide) dX6_hurt_79) <|
  alls_nil _
set_option maxRecDepth 100000 in
theorem sX6_hurt_68 (l : Launch) : AllS (pSnd l rmX6_hurt yX6_hurt.cls cX6_hurt wsX6_hurt 6 (some .int)) 68 kX6_hurt_68 :=
  alls _ (s_bipush (by decide) dX6_hurt_68) <|
  alls _ s_fall (alls_nil _)
set_option maxRecDepth 100000 in
theorem sX6_hurt_41 (l : Launch) : AllS (pSnd l rmX6_hurt yX6_hurt.cls cX6_hurt wsX6_hurt 6 (some .int)) 41 kX6_hurt_41 :=
  alls _ (s_iload dX6_hurt_41) <|
  alls _ (s_bipush (by decide) dX6_hurt_43) <|
  alls _ (s_icmp_gt (by decide) dX6_hurt_45) <|
  alls _ (s_iload dX6_hurt_48) <|
  alls _ (s_if_ge (by decide) dX6_hurt_50) <|
  alls _ (s_aload_n rfl dX6_hurt_53) <|
  alls _ (s_getf (C := RX6) (T := TX6) (N := 29) rfl (in_c inX6) (by decide) (List.mem_cons_of_mem _ wd_751) rfl dX6_hurt_54) <|
  alls _ (s_iload_n rfl dX6_hurt_57) <|
  alls _ (s_iald dX6_hurt_58) <|
  alls _ (s_iload_n rfl dX6_hurt_59) <|
  alls _ (s_icmp_lt (by decide) dX6_hurt_60) <|
  alls _ (s_iload dX6_hurt_63) <|
  alls _ (s_goto (by decide) dX6_hurt_65) <|
  alls_nil _
set_option maxRecDepth 100000 in
theorem sX6_hurt_30 (l : Launch) : AllS (pSnd l rmX6_hurt yX6_hurt.cls cX6_hurt wsX6_hurt 6 (some .int)) 30 kX6_hurt_30 :=
  alls _ (s_aload_n rfl dX6_hurt_30) <|
  alls _ (s_callv (ct_X6_thinks l) rfl rfl rfl (gdV wd_1016 wd_1018 wd_37 wd_65 wd_1019) rfl rfl (by decide +kernel) ⟨Nat.le_of_ble_eq_true rfl, Nat.le_of_ble_eq_true rfl⟩ dX6_hurt_31) <|
  alls _ (s_bipush (by decide) dX6_hurt_34) <|
  alls _ (s_istore dX6_hurt_36) <|
  alls _ (s_iconst dX6_hurt_38) <|
  alls _ (s_istore dX6_hurt_39) <|
  alls _ s_fall (alls_nil _)
set_option maxRecDepth 100000 in
theorem sX6_hurt_19 (l : Launch) : AllS (pSnd l rmX6_hurt yX6_hurt.cls cX6_hurt wsX6_hurt 6 (some .int)) 19 kX6_hurt_19 :=
  alls _ (s_istore_n rfl dX6_hurt_19) <|
  alls _ (s_iload_n rfl dX6_hurt_20) <|
  alls _ (s_if_eq (by decide) dX6_hurt_21) <|
  alls _ (s_aload_n rfl dX6_hurt_24) <|
  alls _ (s_iload_n rfl dX6_hurt_25) <|
  alls _ (s_callv (ct_X6_no l) rfl rfl rfl (gdV wd_842 wd_844 wd_11 wd_65 wd_845) rfl rfl (by decide +kernel) ⟨Nat.le_of_ble_eq_true rfl, Nat.le_of_ble_eq_true rfl⟩ dX6_hurt_26) <|
  alls _ (s_iret dX6_hurt_29) <|
  alls_nil _
set_option maxRecDepth 100000 in
theorem sX6_hurt_12 (l : Launch) : AllS (pSnd l rmX6_hurt yX6_hurt.cls cX6_hurt wsX6_hurt 6 (some .int)) 12 kX6_hurt_12 :=
  alls _ (s_iload_n rfl dX6_hurt_12) <|
  alls _ (s_iconst dX6_hurt_13) <|
  alls _ (s_bipush (by decide) dX6_hurt_14) <|
  alls _ (s_calls (ct_X6_bound l) rfl rfl (gdS wd_841) (List.mem_cons_of_mem _ wd_839) (List.mem_cons_of_mem _ wd_840) (List.mem_cons_of_mem _ wd_65) rfl rfl (by decide +kernel) ⟨Nat.le_of_ble_eq_true rfl, Nat.le_of_ble_eq_true rfl⟩ dX6_hurt_16) <|
  alls _ s_fall (alls_nil _)
set_option maxRecDepth 100000 in
theorem sX6_hurt_0 (l : Launch) : AllS (pSnd l rmX6_hurt yX6_hurt.cls cX6_hurt wsX6_hurt 6 (some .int)) 0 kX6_hurt_0 :=
  alls _ (s_aload_n rfl dX6_hurt_0) <|
  alls _ (s_iload_n rfl dX6_hurt_1) <|
  alls _ (s_callv (ct_X6_isMiner l) rfl rfl rfl (gdV wd_914 wd_916 wd_25 wd_65 wd_917) rfl rfl (by decide +kernel) ⟨Nat.le_of_ble_eq_true rfl, Nat.le_of_ble_eq_true rfl⟩ dX6_hurt_2) <|
  alls _ (s_if_ne (by decide) dX6_hurt_5) <|
  alls _ (s_iconst dX6_hurt_8) <|
  alls _ (s_goto (by decide) dX6_hurt_9) <|
  alls_nil _
def KX6_hurt : List (Nat × pProg) := [(0, kX6_hurt_0), (12, kX6_hurt_12), (19, kX6_hurt_19), (30, kX6_hurt_30), (41, kX6_hurt_41), (68, kX6_hurt_68), (70, kX6_hurt_70), (82, kX6_hurt_82)]
theorem bX6_hurt_0 : blkOf KX6_hurt 0 = some kX6_hurt_0 := rfl
theorem bX6_hurt_12 : blkOf KX6_hurt 12 = some kX6_hurt_12 := rfl
theorem bX6_hurt_19 : blkOf KX6_hurt 19 = some kX6_hurt_19 := rfl
theorem bX6_hurt_30 : blkOf KX6_hurt 30 = some kX6_hurt_30 := rfl
theorem bX6_hurt_41 : blkOf KX6_hurt 41 = some kX6_hurt_41 := rfl
theorem bX6_hurt_68 : blkOf KX6_hurt 68 = some kX6_hurt_68 := rfl
theorem bX6_hurt_70 : blkOf KX6_hurt 70 = some kX6_hurt_70 := rfl
theorem bX6_hurt_82 : blkOf KX6_hurt 82 = some kX6_hurt_82 := rfl
def tX6_hurt : pT := pM KX6_hurt 6
theorem ct_X6_hurt (l : Launch) : pCtr l yX6_hurt wsX6_hurt rmX6_hurt 3 tX6_hurt := ctr_of (by decide +kernel) rfl (List.forall_mem_cons.mpr ⟨sX6_hurt_0 l, List.forall_mem_cons.mpr ⟨sX6_hurt_12 l, List.forall_mem_cons.mpr ⟨sX6_hurt_19 l, List.forall_mem_cons.mpr ⟨sX6_hurt_30 l, List.forall_mem_cons.mpr ⟨sX6_hurt_41 l, List.forall_mem_cons.mpr ⟨sX6_hurt_68 l, List.forall_mem_cons.mpr ⟨sX6_hurt_70 l, List.forall_mem_cons.mpr ⟨sX6_hurt_82 l, fun _ h => absurd h List.not_mem_nil⟩⟩⟩⟩⟩⟩⟩⟩)
theorem dX6_saidWhen_0 : decode cX6_saidWhen 0 = .ok (.aload_n 0, 1) := by decide +kernel
theorem dX6_saidWhen_1 : decode cX6_saidWhen 1 = .ok (.invokevirtual 207, 3) := by decide +kernel
theorem dX6_saidWhen_4 : decode cX6_saidWhen 4 = .ok (.aload_n 0, 1) := by decide +kernel
theorem dX6_saidWhen_5 : decode cX6_saidWhen 5 = .ok (.getfield 28, 3) := by decide +kernel
theorem dX6_saidWhen_8 : decode cX6_saidWhen 8 = .ok (.iload_n 1, 1) := by decide +kernel
theorem dX6_saidWhen_9 : decode cX6_saidWhen 9 = .ok (.iload_n 2, 1) := by decide +kernel
theorem dX6_saidWhen_10 : decode cX6_saidWhen 10 = .ok (.iastore, 1) := by decide +kernel
theorem dX6_saidWhen_11 : decode cX6_saidWhen 11 = .ok (.bipush (-9), 2) := by decide +kernel
theorem dX6_saidWhen_13 : decode cX6_saidWhen 13 = .ok (.istore_n 3, 1) := by decide +kernel
theorem dX6_saidWhen_14 : decode cX6_saidWhen 14 = .ok (.iconst 0, 1) := by decide +kernel
theorem dX6_saidWhen_15 : decode cX6_saidWhen 15 = .ok (.istore 4, 2) := by decide +kernel
theorem dX6_saidWhen_17 : decode cX6_saidWhen 17 = .ok (.iload 4, 2) := by decide +kernel
theorem dX6_saidWhen_19 : decode cX6_saidWhen 19 = .ok (.bipush 60, 2) := by decide +kernel
theorem dX6_saidWhen_21 : decode cX6_saidWhen 21 = .ok (.if_icmp .gt 45, 3) := by decide +kernel
theorem dX6_saidWhen_24 : decode cX6_saidWhen 24 = .ok (.iload_n 3, 1) := by decide +kernel
theorem dX6_saidWhen_25 : decode cX6_saidWhen 25 = .ok (.ifCond .ge 41, 3) := by decide +kernel
theorem dX6_saidWhen_28 : decode cX6_saidWhen 28 = .ok (.aload_n 0, 1) := by decide +kernel
theorem dX6_saidWhen_29 : decode cX6_saidWhen 29 = .ok (.getfield 25, 3) := by decide +kernel
theorem dX6_saidWhen_32 : decode cX6_saidWhen 32 = .ok (.iload_n 1, 1) := by decide +kernel
theorem dX6_saidWhen_33 : decode cX6_saidWhen 33 = .ok (.iaload, 1) := by decide +kernel
theorem dX6_saidWhen_34 : decode cX6_saidWhen 34 = .ok (.bipush 19, 2) := by decide +kernel
theorem dX6_saidWhen_36 : decode cX6_saidWhen 36 = .ok (.if_icmp .ne 17, 3) := by decide +kernel
theorem dX6_saidWhen_39 : decode cX6_saidWhen 39 = .ok (.aload_n 0, 1) := by decide +kernel
theorem dX6_saidWhen_40 : decode cX6_saidWhen 40 = .ok (.getfield 28, 3) := by decide +kernel
theorem dX6_saidWhen_43 : decode cX6_saidWhen 43 = .ok (.iload_n 1, 1) := by decide +kernel
theorem dX6_saidWhen_44 : decode cX6_saidWhen 44 = .ok (.iaload, 1) := by decide +kernel
theorem dX6_saidWhen_45 : decode cX6_saidWhen 45 = .ok (.ifCond .ne 8, 3) := by decide +kernel
theorem dX6_saidWhen_48 : decode cX6_saidWhen 48 = .ok (.iload 4, 2) := by decide +kernel
theorem dX6_saidWhen_50 : decode cX6_saidWhen 50 = .ok (.goto 5, 3) := by decide +kernel
theorem dX6_saidWhen_53 : decode cX6_saidWhen 53 = .ok (.bipush (-9), 2) := by decide +kernel
theorem dX6_saidWhen_55 : decode cX6_saidWhen 55 = .ok (.istore_n 3, 1) := by decide +kernel
theorem dX6_saidWhen_56 : decode cX6_saidWhen 56 = .ok (.aload_n 0, 1) := by decide +kernel
theorem dX6_saidWhen_57 : decode cX6_saidWhen 57 = .ok (.invokevirtual 197, 3) := by decide +kernel
theorem dX6_saidWhen_60 : decode cX6_saidWhen 60 = .ok (.iinc 4 1, 3) := by decide +kernel
theorem dX6_saidWhen_63 : decode cX6_saidWhen 63 = .ok (.goto (-46), 3) := by decide +kernel
theorem dX6_saidWhen_66 : decode cX6_saidWhen 66 = .ok (.aload_n 0, 1) := by decide +kernel
theorem dX6_saidWhen_67 : decode cX6_saidWhen 67 = .ok (.invokevirtual 210, 3) := by decide +kernel
theorem dX6_saidWhen_70 : decode cX6_saidWhen 70 = .ok (.iload_n 3, 1) := by decide +kernel
theorem dX6_saidWhen_71 : decode cX6_saidWhen 71 = .ok (.ireturn, 1) := by decide +kernel
def rmX6_saidWhen : Room := { frames := 5, cells := 0, slots := 0, locals := 111 }
abbrev wsX6_saidWhen : List Cond := .code yX6_saidWhen cX6_saidWhen 5 (some .int) :: gw_tbl
def kX6_saidWhen_66 : pProg := (66, 1, a_aload 0) :: (67, 3, a_callv 1 4 [0, 1, 2, 3, 4, 5, 6, 7, 8, 9, 10, 11, 12, 13, 14, 15, 16] tX6_forgets) :: (70, 1, a_iload 3) :: (71, 1, a_iret) :: []
def kX6_saidWhen_55 : pProg := (55, 1, a_istore 3) :: (56, 1, a_aload 0) :: (57, 3, a_callv 1 4 [0, 1, 2, 3, 4, 5, 6, 7, 8, 9, 10, 11, 12, 13, 14, 15, 16] tX6_goesMinute) :: (60, 3, a_iinc 4 1) :: (63, 3, a_goto 17) :: []
def kX6_saidWhen_53 : pProg := (53, 2, a_iconst (-9)) :: (55, 0, a_fall 55) :: []
def kX6_saidWhen_17 : pProg := (17, 2, a_iload 4) :: (19, 2, a_iconst 60) :: (21, 3, a_icmp_gt 66) :: (24, 1, a_iload 3) :: (25, 3, a_if_ge 66) :: (28, 1, a_aload 0) :: (29, 3, a_getf 0 4 5) :: (32, 1, a_iload 1) :: (33, 1, a_iald 6) :: (34, 2, a_iconst 19) :: (36, 3, a_icmp_ne 53) :: (39, 1, a_aload 0) :: (40, 3, a_getf 0 4 6) :: (43, 1, a_iload 1) :: (44, 1, a_iald 7) :: (45, 3, a_if_ne 53) :: (48, 2, a_iload 4) :: (50, 3, a_goto 55) :: []
def kX6_saidWhen_0 : pProg := (0, 1, a_aload 0) :: (1, 3, a_callv 1 4 [0, 1, 2, 3, 4, 5, 6, 7, 8, 9, 10, 11, 12, 13, 14, 15, 16] tX6_thinks) :: (4, 1, a_aload 0) :: (5, 3, a_getf 0 4 6) :: (8, 1, a_iload 1) :: (9, 1, a_iload 2) :: (10, 1, a_iast 7) :: (11, 2, a_iconst (-9)) :: (13, 1, a_istore 3) :: (14, 1, a_iconst 0) :: (15, 2, a_istore 4) :: (17, 0, a_fall 17) :: []
set_option maxRecDepth 100000 in
theorem sX6_saidWhen_66 (l : Launch) : AllS (pSnd l rmX6_saidWhen yX6_saidWhen.cls cX6_saidWhen wsX6_saidWhen 5 (some .int)) 66 kX6_saidWhen_66 :=
  alls _ (s_aload_n rfl dX6_saidWhen_66) <|
  alls _ (s_callv (ct_X6_forgets l) rfl rfl rfl (gdV wd_1020 wd_1022 wd_38 wd_65 wd_1023) rfl rfl (by decide +kernel) ⟨Nat.le_of_ble_eq_true rfl, Nat.le_of_ble_eq_true rfl⟩ dX6_saidWhen_67) <|
  alls _ (s_iload_n rfl dX6_saidWhen_70) <|
  alls _ (s_iret dX6_saidWhen_71) <|
  alls_nil _
set_option maxRecDepth 100000 in
theorem sX6_saidWhen_55 (l : Launch) : AllS (pSnd l rmX6_saidWhen yX6_saidWhen.cls cX6_saidWhen wsX6_saidWhen 5 (some .int)) 55 kX6_saidWhen_55 :=
  alls _ (s_istore_n rfl dX6_saidWhen_55) <|
  alls _ (s_aload_n rfl dX6_saidWhen_56) <|
  alls _ (s_callv (ct_X6_goesMinute l) rfl rfl rfl (gdV wd_934 wd_936 wd_30 wd_65 wd_937) rfl rfl (by decide +kernel) ⟨Nat.le_of_ble_eq_true rfl, Nat.le_of_ble_eq_true rfl⟩ dX6_saidWhen_57) <|
  alls _ (s_iinc dX6_saidWhen_60) <|
  alls _ (s_goto (by decide) dX6_saidWhen_63) <|
  alls_nil _
set_option maxRecDepth 100000 in
theorem sX6_saidWhen_53 (l : Launch) : AllS (pSnd l rmX6_saidWhen yX6_saidWhen.cls cX6_saidWhen wsX6_saidWhen 5 (some .int)) 53 kX6_saidWhen_53 :=
  alls _ (s_bipush (by decide) dX6_saidWhen_53) <|
  alls _ s_fall (alls_nil _)
set_option maxRecDepth 100000 in
theorem sX6_saidWhen_17 (l : Launch) : AllS (pSnd l rmX6_saidWhen yX6_saidWhen.cls cX6_saidWhen wsX6_saidWhen 5 (some .int)) 17 kX6_saidWhen_17 :=
  alls _ (s_iload dX6_saidWhen_17) <|
  alls _ (s_bipush (by decide) dX6_saidWhen_19) <|
  alls _ (s_icmp_gt (by decide) dX6_saidWhen_21) <|
  alls _ (s_iload_n rfl dX6_saidWhen_24) <|
  alls _ (s_if_ge (by decide) dX6_saidWhen_25) <|
  alls _ (s_aload_n rfl dX6_saidWhen_28) <|
  alls _ (s_getf (C := RX6) (T := TX6) (N := 29) rfl (in_c inX6) (by decide) (List.mem_cons_of_mem _ wd_752) rfl dX6_saidWhen_29) <|
  alls _ (s_iload_n rfl dX6_saidWhen_32) <|
  alls _ (s_iald dX6_saidWhen_33) <|
  alls _ (s_bipush (by decide) dX6_saidWhen_34) <|
  alls _ (s_icmp_ne (by decide) dX6_saidWhen_36) <|
  alls _ (s_aload_n rfl dX6_saidWhen_39) <|
  alls _ (s_getf (C := RX6) (T := TX6) (N := 29) rfl (in_c inX6) (by decide) (List.mem_cons_of_mem _ wd_753) rfl dX6_saidWhen_40) <|
  alls _ (s_iload_n rfl dX6_saidWhen_43) <|
  alls _ (s_iald dX6_saidWhen_44) <|
  alls _ (s_if_ne (by decide) dX6_saidWhen_45) <|
  alls _ (s_iload dX6_saidWhen_48) <|
  alls _ (s_goto (by decide) dX6_saidWhen_50) <|
  alls_nil _
set_option maxRecDepth 100000 in
theorem sX6_saidWhen_0 (l : Launch) : AllS (pSnd l rmX6_saidWhen yX6_saidWhen.cls cX6_saidWhen wsX6_saidWhen 5 (some .int)) 0 kX6_saidWhen_0 :=
  alls _ (s_aload_n rfl dX6_saidWhen_0) <|
  alls _ (s_callv (ct_X6_thinks l) rfl rfl rfl (gdV wd_1016 wd_1018 wd_37 wd_65 wd_1019) rfl rfl (by decide +kernel) ⟨Nat.le_of_ble_eq_true rfl, Nat.le_of_ble_eq_true rfl⟩ dX6_saidWhen_1) <|
  alls _ (s_aload_n rfl dX6_saidWhen_4) <|
  alls _ (s_getf (C := RX6) (T := TX6) (N := 29) rfl (in_c inX6) (by decide) (List.mem_cons_of_mem _ wd_753) rfl dX6_saidWhen_5) <|
  alls _ (s_iload_n rfl dX6_saidWhen_8) <|
  alls _ (s_iload_n rfl dX6_saidWhen_9) <|
  alls _ (s_iast dX6_saidWhen_10) <|
  alls _ (s_bipush (by decide) dX6_saidWhen_11) <|
  alls _ (s_istore_n rfl dX6_saidWhen_13) <|
  alls _ (s_iconst dX6_saidWhen_14) <|
  alls _ (s_istore dX6_saidWhen_15) <|
  alls _ s_fall (alls_nil _)
def KX6_saidWhen : List (Nat × pProg) := [(0, kX6_saidWhen_0), (17, kX6_saidWhen_17), (53, kX6_saidWhen_53), (55, kX6_saidWhen_55), (66, kX6_saidWhen_66)]
theorem bX6_saidWhen_0 : blkOf KX6_saidWhen 0 = some kX6_saidWhen_0 := rfl
theorem bX6_saidWhen_17 : blkOf KX6_saidWhen 17 = some kX6_saidWhen_17 := rfl
theorem bX6_saidWhen_53 : blkOf KX6_saidWhen 53 = some kX6_saidWhen_53 := rfl
theorem bX6_saidWhen_55 : blkOf KX6_saidWhen 55 = some kX6_saidWhen_55 := rfl
theorem bX6_saidWhen_66 : blkOf KX6_saidWhen 66 = some kX6_saidWhen_66 := rfl
def tX6_saidWhen : pT := pM KX6_saidWhen 5
theorem ct_X6_saidWhen (l : Launch) : pCtr l yX6_saidWhen wsX6_saidWhen rmX6_saidWhen 3 tX6_saidWhen := ctr_of (by decide +kernel) rfl (List.forall_mem_cons.mpr ⟨sX6_saidWhen_0 l, List.forall_mem_cons.mpr ⟨sX6_saidWhen_17 l, List.forall_mem_cons.mpr ⟨sX6_saidWhen_53 l, List.forall_mem_cons.mpr ⟨sX6_saidWhen_55 l, List.forall_mem_cons.mpr ⟨sX6_saidWhen_66 l, fun _ h => absurd h List.not_mem_nil⟩⟩⟩⟩⟩)
theorem dX6_begins_0 : decode cX6_begins 0 = .ok (.aload_n 0, 1) := by decide +kernel
theorem dX6_begins_1 : decode cX6_begins 1 = .ok (.iload_n 1, 1) := by decide +kernel
theorem dX6_begins_2 : decode cX6_begins 2 = .ok (.invokevirtual 106, 3) := by decide +kernel
theorem dX6_begins_5 : decode cX6_begins 5 = .ok (.ifCond .ne 9, 3) := by decide +kernel
theorem dX6_begins_8 : decode cX6_begins 8 = .ok (.aload_n 0, 1) := by decide +kernel
theorem dX6_begins_9 : decode cX6_begins 9 = .ok (.iconst (-1), 1) := by decide +kernel
theorem dX6_begins_10 : decode cX6_begins 10 = .ok (.invokevirtual 71, 3) := by decide +kernel
theorem dX6_begins_13 : decode cX6_begins 13 = .ok (.ireturn, 1) := by decide +kernel
theorem dX6_begins_14 : decode cX6_begins 14 = .ok (.bipush (-9), 2) := by decide +kernel
theorem dX6_begins_16 : decode cX6_begins 16 = .ok (.istore_n 2, 1) := by decide +kernel
theorem dX6_begins_17 : decode cX6_begins 17 = .ok (.bipush 61, 2) := by decide +kernel
theorem dX6_begins_19 : decode cX6_begins 19 = .ok (.istore_n 3, 1) := by decide +kernel
theorem dX6_begins_20 : decode cX6_begins 20 = .ok (.iconst 0, 1) := by decide +kernel
theorem dX6_begins_21 : decode cX6_begins 21 = .ok (.istore 4, 2) := by decide +kernel
theorem dX6_begins_23 : decode cX6_begins 23 = .ok (.iload 4, 2) := by decide +kernel
theorem dX6_begins_25 : decode cX6_begins 25 = .ok (.bipush 20, 2) := by decide +kernel
theorem dX6_begins_27 : decode cX6_begins 27 = .ok (.if_icmp .gt 38, 3) := by decide +kernel
theorem dX6_begins_30 : decode cX6_begins 30 = .ok (.aload_n 0, 1) := by decide +kernel
theorem dX6_begins_31 : decode cX6_begins 31 = .ok (.iload_n 1, 1) := by decide +kernel
theorem dX6_begins_32 : decode cX6_begins 32 = .ok (.iload 4, 2) := by decide +kernel
theorem dX6_begins_34 : decode cX6_begins 34 = .ok (.invokevirtual 228, 3) := by decide +kernel
theorem dX6_begins_37 : decode cX6_begins 37 = .ok (.istore 5, 2) := by decide +kernel
theorem dX6_begins_39 : decode cX6_begins 39 = .ok (.iload 5, 2) := by decide +kernel
theorem dX6_begins_41 : decode cX6_begins 41 = .ok (.ifCond .lt 18, 3) := by decide +kernel
theorem dX6_begins_44 : decode cX6_begins 44 = .ok (.iload 5, 2) := by decide +kernel
theorem dX6_begins_46 : decode cX6_begins 46 = .ok (.iload_n 3, 1) := by decide +kernel
theorem dX6_begins_47 : decode cX6_begins 47 = .ok (.if_icmp .le 6, 3) := by decide +kernel
theorem dX6_begins_50 : decode cX6_begins 50 = .ok (.goto 9, 3) := by decide +kernel
theorem dX6_begins_53 : decode cX6_begins 53 = .ok (.iload 4, 2) := by decide +kernel
theorem dX6_begins_55 : decode cX6_begins 55 = .ok (.istore_n 2, 1) := by decide +kernel
theorem dX6_begins_56 : decode cX6_begins 56 = .ok (.iload 5, 2) := by decide +kernel
theorem dX6_begins_58 : decode cX6_begins 58 = .ok (.istore_n 3, 1) := by decide +kernel
theorem dX6_begins_59 : decode cX6_begins 59 = .ok (.iinc 4 1, 3) := by decide +kernel
theorem dX6_begins_62 : decode cX6_begins 62 = .ok (.goto (-39), 3) := by decide +kernel
theorem dX6_begins_65 : decode cX6_begins 65 = .ok (.iload_n 2, 1) := by decide +kernel
theorem dX6_begins_66 : decode cX6_begins 66 = .ok (.ireturn, 1) := by decide +kernel
def rmX6_begins : Room := { frames := 6, cells := 0, slots := 0, locals := 135 }
abbrev wsX6_begins : List Cond := .code yX6_begins cX6_begins 6 (some .int) :: gw_tbl
def kX6_begins_65 : pProg := (65, 1, a_iload 2) :: (66, 1, a_iret) :: []
def kX6_begins_59 : pProg := (59, 3, a_iinc 4 1) :: (62, 3, a_goto 23) :: []
def kX6_begins_53 : pProg := (53, 2, a_iload 4) :: (55, 1, a_istore 2) :: (56, 2, a_iload 5) :: (58, 1, a_istore 3) :: (59, 0, a_fall 59) :: []
def kX6_begins_23 : pProg := (23, 2, a_iload 4) :: (25, 2, a_iconst 20) :: (27, 3, a_icmp_gt 65) :: (30, 1, a_aload 0) :: (31, 1, a_iload 1) :: (32, 2, a_iload 4) :: (34, 3, a_callv 3 4 [0, 1, 2, 3, 4, 5, 6, 7, 8, 9, 10, 11, 12, 13, 14, 15, 16] tX6_saidWhen) :: (37, 2, a_istore 5) :: (39, 2, a_iload 5) :: (41, 3, a_if_lt 59) :: (44, 2, a_iload 5) :: (46, 1, a_iload 3) :: (47, 3, a_icmp_le 53) :: (50, 3, a_goto 59) :: []
def kX6_begins_14 : pProg := (14, 2, a_iconst (-9)) :: (16, 1, a_istore 2) :: (17, 2, a_iconst 61) :: (19, 1, a_istore 3) :: (20, 1, a_iconst 0) :: (21, 2, a_istore 4) :: (23, 0, a_fall 23) :: []
def kX6_begins_0 : pProg := (0, 1, a_aload 0) :: (1, 1, a_iload 1) :: (2, 3, a_callv 2 4 [0, 1, 2, 3, 4, 5, 6, 7, 8, 9, 10, 11, 12, 13, 14, 15, 16] tX6_isPair) :: (5, 3, a_if_ne 14) :: (8, 1, a_aload 0) :: (9, 1, a_iconst (-1)) :: (10, 3, a_callv 2 4 [0, 1, 2, 3, 4, 5, 6, 7, 8, 9, 10, 11, 12, 13, 14, 15, 16] tX6_no) :: (13, 1, a_iret) :: []
set_option maxRecDepth 100000 in
theorem sX6_begins_65 (l : Launch) : AllS (pSnd l rmX6_begins yX6_begins.cls cX6_begins wsX6_begins 6 (some .int)) 65 kX6_begins_65 :=
  alls _ (s_iload_n rfl dX6_begins_65) <|
  alls _ (s_iret dX6_begins_66) <|
  alls_nil _
set_option maxRecDepth 100000 in
theorem sX6_begins_59 (l : Launch) : AllS (pSnd l rmX6_begins yX6_begins.cls cX6_begins wsX6_begins 6 (some .int)) 59 kX6_begins_59 :=
  alls _ (s_iinc dX6_begins_59) <|
  alls _ (s_goto (by decide) dX6_begins_62) <|
  alls_nil _
set_option maxRecDepth 100000 in
theorem sX6_begins_53 (l : Launch) : AllS (pSnd l rmX6_begins yX6_begins.cls cX6_begins wsX6_begins 6 (some .int)) 53 kX6_begins_53 :=
  alls _ (s_iload dX6_begins_53) <|
  alls _ (s_istore_n rfl dX6_begins_55) <|
  alls _ (s_iload dX6_begins_56) <|
  alls _ (s_istore_n rfl dX6_begins_58) <|
  alls _ s_fall (alls_nil _)
set_option maxRecDepth 100000 in
theorem sX6_begins_23 (l : Launch) : AllS (pSnd l rmX6_begins yX6_begins.cls cX6_begins wsX6_begins 6 (some .int)) 23 kX6_begins_23 :=
  alls _ (s_iload dX6_begins_23) <|
  alls _ (s_bipush (by decide) dX6_begins_25) <|
  alls _ (s_icmp_gt (by decide) dX6_begins_27) <|
  alls _ (s_aload_n rfl dX6_begins_30) <|
  alls _ (s_iload_n rfl dX6_begins_31) <|
  alls _ (s_iload dX6_begins_32) <|
  alls _ (s_callv (ct_X6_saidWhen l) rfl rfl rfl (gdV wd_1064 wd_1066 wd_44 wd_65 wd_1067) rfl rfl (by decide +kernel) ⟨Nat.le_of_ble_eq_true rfl, Nat.le_of_ble_eq_true rfl⟩ dX6_begins_34) <|
  alls _ (s_istore dX6_begins_37) <|
  alls _ (s_iload dX6_begins_39) <|
  alls _ (s_if_lt (by decide) dX6_begins_41) <|
  alls _ (s_iload dX6_begins_44) <|
  alls _ (s_iload_n rfl dX6_begins_46) <|
  alls _ (s_icmp_le (by decide) dX6_begins_47) <|
  alls _ (s_goto (by decide) dX6_begins_50) <|
  alls_nil _
set_option maxRecDepth 100000 in
theorem sX6_begins_14 (l : Launch) : AllS (pSnd l rmX6_begins yX6_begins.cls cX6_begins wsX6_begins 6 (some .int)) 14 kX6_begins_14 :=
  alls _ (s_bipush (by decide) dX6_begins_14) <|
  alls _ (s_istore_n rfl dX6_begins_16) <|
  alls _ (s_bipush (by decide) dX6_begins_17) <|
  alls _ (s_istore_n rfl dX6_begins_19) <|
  alls _ (s_iconst dX6_begins_20) <|
  alls _ (s_istore dX6_begins_21) <|
  alls _ s_fall (alls_nil _)
set_option maxRecDepth 100000 in
theorem sX6_begins_0 (l : Launch) : AllS (pSnd l rmX6_begins yX6_begins.cls cX6_begins wsX6_begins 6 (some .int)) 0 kX6_begins_0 :=
  alls _ (s_aload_n rfl dX6_begins_0) <|
  alls _ (s_iload_n rfl dX6_begins_1) <|
  alls _ (s_callv (ct_X6_isPair l) rfl rfl rfl (gdV wd_907 wd_909 wd_24 wd_65 wd_910) rfl rfl (by decide +kernel) ⟨Nat.le_of_ble_eq_true rfl, Nat.le_of_ble_eq_true rfl⟩ dX6_begins_2) <|
  alls _ (s_if_ne (by decide) dX6_begins_5) <|
  alls _ (s_aload_n rfl dX6_begins_8) <|
  alls _ (s_iconst dX6_begins_9) <|
  alls _ (s_callv (ct_X6_no l) rfl rfl rfl (gdV wd_842 wd_844 wd_11 wd_65 wd_845) rfl rfl (by decide +kernel) ⟨Nat.le_of_ble_eq_true rfl, Nat.le_of_ble_eq_true rfl⟩ dX6_begins_10) <|
  alls _ (s_iret dX6_begins_13) <|
  alls_nil _
def KX6_begins : List (Nat × pProg) := [(0, kX6_begins_0), (14, kX6_begins_14), (23, kX6_begins_23), (53, kX6_begins_53), (59, kX6_begins_59), (65, kX6_begins_65)]
theorem bX6_begins_0 : blkOf KX6_begins 0 = some kX6_begins_0 := rfl
theorem bX6_begins_14 : blkOf KX6_begins 14 = some kX6_begins_14 := rfl
theorem bX6_begins_23 : blkOf KX6_begins 23 = some kX6_begins_23 := rfl
theorem bX6_begins_53 : blkOf KX6_begins 53 = some kX6_begins_53 := rfl
theorem bX6_begins_59 : blkOf KX6_begins 59 = some kX6_begins_59 := rfl
theorem bX6_begins_65 : blkOf KX6_begins 65 = some kX6_begins_65 := rfl
def tX6_begins : pT := pM KX6_begins 6
theorem ct_X6_begins (l : Launch) : pCtr l yX6_begins wsX6_begins rmX6_begins 2 tX6_begins := ctr_of (by decide +kernel) rfl (List.forall_mem_cons.mpr ⟨sX6_begins_0 l, List.forall_mem_cons.mpr ⟨sX6_begins_14 l, List.forall_mem_cons.mpr ⟨sX6_begins_23 l, List.forall_mem_cons.mpr ⟨sX6_begins_53 l, List.forall_mem_cons.mpr ⟨sX6_begins_59 l, List.forall_mem_cons.mpr ⟨sX6_begins_65 l, fun _ h => absurd h List.not_mem_nil⟩⟩⟩⟩⟩⟩)
theorem dX6_clears_0 : decode cX6_clears 0 = .ok (.iload_n 1, 1) := by decide +kernel
theorem dX6_clears_1 : decode cX6_clears 1 = .ok (.iconst 0, 1) := by decide +kernel
theorem dX6_clears_2 : decode cX6_clears 2 = .ok (.bipush 40, 2) := by decide +kernel
theorem dX6_clears_4 : decode cX6_clears 4 = .ok (.invokestatic 64, 3) := by decide +kernel
theorem dX6_clears_7 : decode cX6_clears 7 = .ok (.istore_n 2, 1) := by decide +kernel
theorem dX6_clears_8 : decode cX6_clears 8 = .ok (.iload_n 2, 1) := by decide +kernel
theorem dX6_clears_9 : decode cX6_clears 9 = .ok (.ifCond .eq 9, 3) := by decide +kernel
theorem dX6_clears_12 : decode cX6_clears 12 = .ok (.aload_n 0, 1) := by decide +kernel
theorem dX6_clears_13 : decode cX6_clears 13 = .ok (.iload_n 2, 1) := by decide +kernel
theorem dX6_clears_14 : decode cX6_clears 14 = .ok (.invokevirtual 71, 3) := by decide +kernel
theorem dX6_clears_17 : decode cX6_clears 17 = .ok (.ireturn, 1) := by decide +kernel
theorem dX6_clears_18 : decode cX6_clears 18 = .ok (.bipush (-9), 2) := by decide +kernel
theorem dX6_clears_20 : decode cX6_clears 20 = .ok (.istore_n 3, 1) := by decide +kernel
theorem dX6_clears_21 : decode cX6_clears 21 = .ok (.aload_n 0, 1) := by decide +kernel
theorem dX6_clears_22 : decode cX6_clears 22 = .ok (.iload_n 1, 1) := by decide +kernel
theorem dX6_clears_23 : decode cX6_clears 23 = .ok (.invokevirtual 216, 3) := by decide +kernel
theorem dX6_clears_26 : decode cX6_clears 26 = .ok (.istore 4, 2) := by decide +kernel
theorem dX6_clears_28 : decode cX6_clears 28 = .ok (.iconst 0, 1) := by decide +kernel
theorem dX6_clears_29 : decode cX6_clears 29 = .ok (.istore 5, 2) := by decide +kernel
theorem dX6_clears_31 : decode cX6_clears 31 = .ok (.iload 5, 2) := by decide +kernel
theorem dX6_clears_33 : decode cX6_clears 33 = .ok (.bipush 20, 2) := by decide +kernel
theorem dX6_clears_35 : decode cX6_clears 35 = .ok (.if_icmp .ge 59, 3) := by decide +kernel
theorem dX6_clears_38 : decode cX6_clears 38 = .ok (.aload_n 0, 1) := by decide +kernel
theorem dX6_clears_39 : decode cX6_clears 39 = .ok (.getfield 13, 3) := by decide +kernel
theorem dX6_clears_42 : decode cX6_clears 42 = .ok (.iload 5, 2) := by decide +kernel
theorem dX6_clears_44 : decode cX6_clears 44 = .ok (.iaload, 1) := by decide +kernel
theorem dX6_clears_45 : decode cX6_clears 45 = .ok (.istore 6, 2) := by decide +kernel
theorem dX6_clears_47 : decode cX6_clears 47 = .ok (.aload_n 0, 1) := by decide +kernel
theorem dX6_clears_48 : decode cX6_clears 48 = .ok (.getfield 13, 3) := by decide +kernel
theorem dX6_clears_51 : decode cX6_clears 51 = .ok (.iload 5, 2) := by decide +kernel
theorem dX6_clears_53 : decode cX6_clears 53 = .ok (.iconst 0, 1) := by decide +kernel
theorem dX6_clears_54 : decode cX6_clears 54 = .ok (.iastore, 1) := by decide +kernel
theorem dX6_clears_55 : decode cX6_clears 55 = .ok (.aload_n 0, 1) := by decide +kernel
theorem dX6_clears_56 : decode cX6_clears 56 = .ok (.iload_n 1, 1) := by decide +kernel
theorem dX6_clears_57 : decode cX6_clears 57 = .ok (.invokevirtual 216, 3) := by decide +kernel
theorem dX6_clears_60 : decode cX6_clears 60 = .ok (.istore 7, 2) := by decide +kernel
theorem dX6_clears_62 : decode cX6_clears 62 = .ok (.aload_n 0, 1) := by decide +kernel
theorem dX6_clears_63 : decode cX6_clears 63 = .ok (.getfield 13, 3) := by decide +kernel
theorem dX6_clears_66 : decode cX6_clears 66 = .ok (.iload 5, 2) := by decide +kernel
theorem dX6_clears_68 : decode cX6_clears 68 = .ok (.iload 6, 2) := by decide +kernel
theorem dX6_clears_70 : decode cX6_clears 70 = .ok (.iastore, 1) := by decide +kernel
theorem dX6_clears_71 : decode cX6_clears 71 = .ok (.iload 7, 2) := by decide +kernel
theorem dX6_clears_73 : decode cX6_clears 73 = .ok (.iload 4, 2) := by decide +kernel
theorem dX6_clears_75 : decode cX6_clears 75 = .ok (.if_icmp .lt 6, 3) := by decide +kernel
theorem dX6_clears_78 : decode cX6_clears 78 = .ok (.goto 10, 3) := by decide +kernel
theorem dX6_clears_81 : decode cX6_clears 81 = .ok (.iload 5, 2) := by decide +kernel
theorem dX6_clears_83 : decode cX6_clears 83 = .ok (.istore_n 3, 1) := by decide +kernel
theorem dX6_clears_84 : decode cX6_clears 84 = .ok (.iload 7, 2) := by decide +kernel
theorem dX6_clears_86 : decode cX6_clears 86 = .ok (.istore 4, 2) := by decide +kernel
theorem dX6_clears_88 : decode cX6_clears 88 = .ok (.iinc 5 1, 3) := by decide +kernel
theorem dX6_clears_91 : decode cX6_clears 91 = .ok (.goto (-60), 3) := by decide +kernel
theorem dX6_clears_94 : decode cX6_clears 94 = .ok (.iload_n 3, 1) := by decide +kernel
theorem dX6_clears_95 : decode cX6_clears 95 = .ok (.ireturn, 1) := by decide +kernel
def rmX6_clears : Room := { frames := 7, cells := 0, slots := 0, locals := 155 }
abbrev wsX6_clears : List Cond := .code yX6_clears cX6_clears 8 (some .int) :: gw_tbl
def kX6_clears_94 : pProg := (94, 1, a_iload 3) :: (95, 1, a_iret) :: []
def kX6_clears_88 : pProg := (88, 3, a_iinc 5 1) :: (91, 3, a_goto 31) :: []
def kX6_clears_81 : pProg := (81, 2, a_iload 5) :: (83, 1, a_istore 3) :: (84, 2, a_iload 7) :: (86, 2, a_istore 4) :: (88, 0, a_fall 88) :: []
def kX6_clears_31 : pProg := (31, 2, a_iload 5) :: (33, 2, a_iconst 20) :: (35, 3, a_icmp_ge 94) :: (38, 1, a_aload 0) :: (39, 3, a_getf 0 4 1) :: (42, 2, a_iload 5) :: (44, 1, a_iald 2) :: (45, 2, a_istore 6) :: (47, 1, a_aload 0) :: (48, 3, a_getf 0 4 1) :: (51, 2, a_iload 5) :: (53, 1, a_iconst 0) :: (54, 1, a_iast 2) :: (55, 1, a_aload 0) :: (56, 1, a_iload 1) :: (57, 3, a_callv 2 4 [0, 1, 2, 3, 4, 5, 6, 7, 8, 9, 10, 11, 12, 13, 14, 15, 16] tX6_allBruisesIn) :: (60, 2, a_istore 7) :: (62, 1, a_aload 0) :: (63, 3, a_getf 0 4 1) :: (66, 2, a_iload 5) :: (68, 2, a_iload 6) :: (70, 1, a_iast 2) :: (71, 2, a_iload 7) :: (73, 2, a_iload 4) :: (75, 3, a_icmp_lt 81) :: (78, 3, a_goto 88) :: []
def kX6_clears_18 : pProg := (18, 2, a_iconst (-9)) :: (20, 1, a_istore 3) :: (21, 1, a_aload 0) :: (22, 1, a_iload 1) :: (23, 3, a_callv 2 4 [0, 1, 2, 3, 4, 5, 6, 7, 8, 9, 10, 11, 12, 13, 14, 15, 16] tX6_allBruisesIn) :: (26, 2, a_istore 4) :: (28, 1, a_iconst 0) :: (29, 2, a_istore 5) :: (31, 0, a_fall 31) :: []
def kX6_clears_0 : pProg := (0, 1, a_iload 1) :: (1, 1, a_iconst 0) :: (2, 2, a_iconst 40) :: (4, 3, a_calls 3 [] tX6_bound) :: (7, 1, a_istore 2) :: (8, 1, a_iload 2) :: (9, 3, a_if_eq 18) :: (12, 1, a_aload 0) :: (13, 1, a_iload 2) :: (14, 3, a_callv 2 4 [0, 1, 2, 3, 4, 5, 6, 7, 8, 9, 10, 11, 12, 13, 14, 15, 16] tX6_no) :: (17, 1, a_iret) :: []
set_option maxRecDepth 100000 in
theorem sX6_clears_94 (l : Launch) : AllS (pSnd l rmX6_clears yX6_clears.cls cX6_clears wsX6_clears 8 (some .int)) 94 kX6_clears_94 :=
  alls _ (s_iload_n rfl dX6_clears_94) <|
  alls _ (s_iret dX6_clears_95) <|
  alls_nil _
set_option maxRecDepth 100000 in
theorem sX6_clears_88 (l : Launch) : AllS (pSnd l rmX6_clears yX6_clears.cls cX6_clears wsX6_clears 8 (some .int)) 88 kX6_clears_88 :=
  alls _ (s_iinc dX6_clears_88) <|
  alls _ (s_goto (by decide) dX6_clears_91) <|
  alls_nil _
set_option maxRecDepth 100000 in
theorem sX6_clears_81 (l : Launch) : AllS (pSnd l rmX6_clears yX6_clears.cls cX6_clears wsX6_clears 8 (some .int)) 81 kX6_clears_81 :=
  alls _ (s_iload dX6_clears_81) <|
  alls _ (s_istore_n rfl dX6_clears_83) <|
  alls _ (s_iload dX6_clears_84) <|
  alls _ (s_istore dX6_clears_86) <|
  alls _ s_fall (alls_nil _)
set_option maxRecDepth 100000 in
theorem sX6_clears_31 (l : Launch) : AllS (pSnd l rmX6_clears yX6_clears.cls cX6_clears wsX6_clears 8 (some .int)) 31 kX6_clears_31 :=
  alls _ (s_iload dX6_clears_31) <|
  alls _ (s_bipush (by decide) dX6_clears_33) <|
  alls _ (s_icmp_ge (by decide) dX6_clears_35) <|
  alls _ (s_aload_n rfl dX6_clears_38) <|
  alls _ (s_getf (C := RX6) (T := TX6) (N := 29) rfl (in_c inX6) (by decide) (List.mem_cons_of_mem _ wd_748) rfl dX6_clears_39) <|
  alls _ (s_iload dX6_clears_42) <|
  alls _ (s_iald dX6_clears_44) <|
  alls _ (s_istore dX6_clears_45) <|
  alls _ (s_aload_n rfl dX6_clears_47) <|
  alls _ (s_getf (C := RX6) (T := TX6) (N := 29) rfl (in_c inX6) (by decide) (List.mem_cons_of_mem _ wd_748) rfl dX6_clears_48) <|
  alls _ (s_iload dX6_clears_51) <|
  alls _ (s_iconst dX6_clears_53) <|
  alls _ (s_iast dX6_clears_54) <|
  alls _ (s_aload_n rfl dX6_clears_55) <|
  alls _ (s_iload_n rfl dX6_clears_56) <|
  alls _ (s_callv (ct_X6_allBruisesIn l) rfl rfl rfl (gdV wd_1028 wd_1030 wd_39 wd_65 wd_1031) rfl rfl (by decide +kernel) ⟨Nat.le_of_ble_eq_true rfl, Nat.le_of_ble_eq_true rfl⟩ dX6_clears_57) <|
  alls _ (s_istore dX6_clears_60) <|
  alls _ (s_aload_n rfl dX6_clears_62) <|
  alls _ (s_getf (C := RX6) (T := TX6) (N := 29) rfl (in_c inX6) (by decide) (List.mem_cons_of_mem _ wd_748) rfl dX6_clears_63) <|
  alls _ (s_iload dX6_clears_66) <|
  alls _ (s_iload dX6_clears_68) <|
  alls _ (s_iast dX6_clears_70) <|
  alls _ (s_iload dX6_clears_71) <|
  alls _ (s_iload dX6_clears_73) <|
  alls _ (s_icmp_lt (by decide) dX6_clears_75) <|
  alls _ (s_goto (by decide) dX6_clears_78) <|
  alls_nil _
set_option maxRecDepth 100000 in
theorem sX6_clears_18 (l : Launch) : AllS (pSnd l rmX6_clears yX6_clears.cls cX6_clears wsX6_clears 8 (some .int)) 18 kX6_clears_18 :=
  alls _ (s_bipush (by decide) dX6_clears_18) <|
  alls _ (s_istore_n rfl dX6_clears_20) <|
  alls _ (s_aload_n rfl dX6_clears_21) <|
  alls _ (s_iload_n rfl dX6_clears_22) <|
  alls _ (s_callv (ct_X6_allBruisesIn l) rfl rfl rfl (gdV wd_1028 wd_1030 wd_39 wd_65 wd_1031) rfl rfl (by decide +kernel) ⟨Nat.le_of_ble_eq_true rfl, Nat.le_of_ble_eq_true rfl⟩ dX6_clears_23) <|
  alls _ (s_istore dX6_clears_26) <|
  alls _ (s_iconst dX6_clears_28) <|
  alls _ (s_istore dX6_clears_29) <|
  alls _ s_fall (alls_nil _)
set_option maxRecDepth 100000 in
theorem sX6_clears_0 (l : Launch) : AllS (pSnd l rmX6_clears yX6_clears.cls cX6_clears wsX6_clears 8 (some .int)) 0 kX6_clears_0 :=
  alls _ (s_iload_n rfl dX6_clears_0) <|
  alls _ (s_iconst dX6_clears_1) <|
  alls _ (s_bipush (by decide) dX6_clears_2) <|
  alls _ (s_calls (ct_X6_bound l) rfl rfl (gdS wd_841) (List.mem_cons_of_mem _ wd_839) (List.mem_cons_of_mem _ wd_840) (List.mem_cons_of_mem _ wd_65) rfl rfl (by decide +kernel) ⟨Nat.le_of_ble_eq_true rfl, Nat.le_of_ble_eq_true rfl⟩ dX6_clears_4) <|
  alls _ (s_istore_n rfl dX6_clears_7) <|
  alls _ (s_iload_n rfl dX6_clears_8) <|
  alls _ (s_if_eq (by decide) dX6_clears_9) <|
  alls _ (s_aload_n rfl dX6_clears_12) <|
  alls _ (s_iload_n rfl dX6_clears_13) <|
  alls _ (s_callv (ct_X6_no l) rfl rfl rfl (gdV wd_842 wd_844 wd_11 wd_65 wd_845) rfl rfl (by decide +kernel) ⟨Nat.le_of_ble_eq_true rfl, Nat.le_of_ble_eq_true rfl⟩ dX6_clears_14) <|
  alls _ (s_iret dX6_clears_17) <|
  alls_nil _
def KX6_clears : List (Nat × pProg) := [(0, kX6_clears_0), (18, kX6_clears_18), (31, kX6_clears_31), (81, kX6_clears_81), (88, kX6_clears_88), (94, kX6_clears_94)]
theorem bX6_clears_0 : blkOf KX6_clears 0 = some kX6_clears_0 := rfl
theorem bX6_clears_18 : blkOf KX6_clears 18 = some kX6_clears_18 := rfl
theorem bX6_clears_31 : blkOf KX6_clears 31 = some kX6_clears_31 := rfl
theorem bX6_clears_81 : blkOf KX6_clears 81 = some kX6_clears_81 := rfl
theorem bX6_clears_88 : blkOf KX6_clears 88 = some kX6_clears_88 := rfl
theorem bX6_clears_94 : blkOf KX6_clears 94 = some kX6_clears_94 := rfl
def tX6_clears : pT := pM KX6_clears 8
theorem ct_X6_clears (l : Launch) : pCtr l yX6_clears wsX6_clears rmX6_clears 2 tX6_clears := ctr_of (by decide +kernel) rfl (List.forall_mem_cons.mpr ⟨sX6_clears_0 l, List.forall_mem_cons.mpr ⟨sX6_clears_18 l, List.forall_mem_cons.mpr ⟨sX6_clears_31 l, List.forall_mem_cons.mpr ⟨sX6_clears_81 l, List.forall_mem_cons.mpr ⟨sX6_clears_88 l, List.forall_mem_cons.mpr ⟨sX6_clears_94 l, fun _ h => absurd h List.not_mem_nil⟩⟩⟩⟩⟩⟩)
theorem dX6_change_0 : decode cX6_change 0 = .ok (.bipush (-9), 2) := by decide +kernel
theorem dX6_change_2 : decode cX6_change 2 = .ok (.istore_n 1, 1) := by decide +kernel
theorem dX6_change_3 : decode cX6_change 3 = .ok (.aload_n 0, 1) := by decide +kernel
theorem dX6_change_4 : decode cX6_change 4 = .ok (.invokevirtual 225, 3) := by decide +kernel
theorem dX6_change_7 : decode cX6_change 7 = .ok (.istore_n 2, 1) := by decide +kernel
theorem dX6_change_8 : decode cX6_change 8 = .ok (.iload_n 2, 1) := by decide +kernel
theorem dX6_change_9 : decode cX6_change 9 = .ok (.ifCond .ge 6, 3) := by decide +kernel
theorem dX6_change_12 : decode cX6_change 12 = .ok (.bipush 61, 2) := by decide +kernel
theorem dX6_change_14 : decode cX6_change 14 = .ok (.istore_n 2, 1) := by decide +kernel
theorem dX6_change_15 : decode cX6_change 15 = .ok (.iconst 0, 1) := by decide +kernel
theorem dX6_change_16 : decode cX6_change 16 = .ok (.istore_n 3, 1) := by decide +kernel
theorem dX6_change_17 : decode cX6_change 17 = .ok (.iload_n 3, 1) := by decide +kernel
theorem dX6_change_18 : decode cX6_change 18 = .ok (.iconst 2, 1) := by decide +kernel
theorem dX6_change_19 : decode cX6_change 19 = .ok (.aload_n 0, 1) := by decide +kernel
theorem dX6_change_20 : decode cX6_change 20 = .ok (.getfield 58, 3) := by decide +kernel
theorem dX6_change_23 : decode cX6_change 23 = .ok (.imul, 1) := by decide +kernel
theorem dX6_change_24 : decode cX6_change 24 = .ok (.if_icmp .ge 89, 3) := by decide +kernel
theorem dX6_change_27 : decode cX6_change 27 = .ok (.iload_n 3, 1) := by decide +kernel
theorem dX6_change_28 : decode cX6_change 28 = .ok (.iconst 1, 1) := by decide +kernel
theorem dX6_change_29 : decode cX6_change 29 = .ok (.iadd, 1) := by decide +kernel
theorem dX6_change_30 : decode cX6_change 30 = .ok (.istore 4, 2) := by decide +kernel
theorem dX6_change_32 : decode cX6_change 32 = .ok (.iload 4, 2) := by decide +kernel
theorem dX6_change_34 : decode cX6_change 34 = .ok (.iconst 2, 1) := by decide +kernel
theorem dX6_change_35 : decode cX6_change 35 = .ok (.aload_n 0, 1) := by decide +kernel
theorem dX6_change_36 : decode cX6_change 36 = .ok (.getfield 58, 3) := by decide +kernel
theorem dX6_change_39 : decode cX6_change 39 = .ok (.imul, 1) := by decide +kernel
theorem dX6_change_40 : decode cX6_change 40 = .ok (.if_icmp .ge 67, 3) := by decide +kernel
theorem dX6_change_43 : decode cX6_change 43 = .ok (.iload_n 3, 1) := by decide +kernel
theorem dX6_change_44 : decode cX6_change 44 = .ok (.iconst 2, 1) := by decide +kernel
theorem dX6_change_45 : decode cX6_change 45 = .ok (.idiv, 1) := by decide +kernel
theorem dX6_change_46 : decode cX6_change 46 = .ok (.iload 4, 2) := by decide +kernel
theorem dX6_change_48 : decode cX6_change 48 = .ok (.iconst 2, 1) := by decide +kernel
theorem dX6_change_49 : decode cX6_change 49 = .ok (.idiv, 1) := by decide +kernel
theorem dX6_change_50 : decode cX6_change 50 = .ok (.if_icmp .ne 6, 3) := by decide +kernel
theorem dX6_change_53 : decode cX6_change 53 = .ok (.goto 48, 3) := by decide +kernel
theorem dX6_change_56 : decode cX6_change 56 = .ok (.aload_n 0, 1) := by decide +kernel
theorem dX6_change_57 : decode cX6_change 57 = .ok (.iload_n 3, 1) := by decide +kernel
theorem dX6_change_58 : decode cX6_change 58 = .ok (.iload 4, 2) := by decide +kernel
theorem dX6_change_60 : decode cX6_change 60 = .ok (.invokevirtual 131, 3) := by decide +kernel
theorem dX6_change_63 : decode cX6_change 63 = .ok (.aload_n 0, 1) := by decide +kernel
theorem dX6_change_64 : decode cX6_change 64 = .ok (.invokevirtual 225, 3) := by decide +kernel
theorem dX6_change_67 : decode cX6_change 67 = .ok (.istore 5, 2) := by decide +kernel
theorem dX6_change_69 : decode cX6_change 69 = .ok (.aload_n 0, 1) := by decide +kernel
theorem dX6_change_70 : decode cX6_change 70 = .ok (.iload_n 3, 1) := by decide +kernel
theorem dX6_change_71 : decode cX6_change 71 = .ok (.iload 4, 2) := by decide +kernel
theorem dX6_change_73 : decode cX6_change 73 = .ok (.invokevirtual 131, 3) := by decide +kernel
theorem dX6_change_76 : decode cX6_change 76 = .ok (.iload 5, 2) := by decide +kernel
theorem dX6_change_78 : decode cX6_change 78 = .ok (.ifCond .lt 23, 3) := by decide +kernel
theorem dX6_change_81 : decode cX6_change 81 = .ok (.iload 5, 2) := by decide +kernel
theorem dX6_change_83 : decode cX6_change 83 = .ok (.iload_n 2, 1) := by decide +kernel
theorem dX6_change_84 : decode cX6_change 84 = .ok (.if_icmp .lt 6, 3) := by decide +kernel
theorem dX6_change_87 : decode cX6_change 87 = .ok (.goto 14, 3) := by decide +kernel
theorem dX6_change_90 : decode cX6_change 90 = .ok (.bipush 10, 2) := by decide +kernel
theorem dX6_change_92 : decode cX6_change 92 = .ok (.iload_n 3, 1) := by decide +kernel
theorem dX6_change_93 : decode cX6_change 93 = .ok (.imul, 1) := by decide +kernel
theorem dX6_change_94 : decode cX6_change 94 = .ok (.iload 4, 2) := by decide +kernel
theorem dX6_change_96 : decode cX6_change 96 = .ok (.iadd, 1) := by decide +kernel
theorem dX6_change_97 : decode cX6_change 97 = .ok (.istore_n 1, 1) := by decide +kernel
theorem dX6_change_98 : decode cX6_change 98 = .ok (.iload 5, 2) := by decide +kernel
theorem dX6_change_100 : decode cX6_change 100 = .ok (.istore_n 2, 1) := by decide +kernel
theorem dX6_change_101 : decode cX6_change 101 = .ok (.iinc 4 1, 3) := by decide +kernel
theorem dX6_change_104 : decode cX6_change 104 = .ok (.goto (-72), 3) := by decide +kernel
theorem dX6_change_107 : decode cX6_change 107 = .ok (.iinc 3 1, 3) := by decide +kernel
theorem dX6_change_110 : decode cX6_change 110 = .ok (.goto (-93), 3) := by decide +kernel
theorem dX6_change_113 : decode cX6_change 113 = .ok (.iload_n 1, 1) := by decide +kernel
theorem dX6_change_114 : decode cX6_change 114 = .ok (.ireturn, 1) := by decide +kernel
def rmX6_change : Room := { frames := 7, cells := 0, slots := 0, locals := 157 }
abbrev wsX6_change : List Cond := .code yX6_change cX6_change 6 (some .int) :: gw_tbl
def kX6_change_113 : pProg := (113, 1, a_iload 1) :: (114, 1, a_iret) :: []
def kX6_change_107 : pProg := (107, 3, a_iinc 3 1) :: (110, 3, a_goto 17) :: []
def kX6_change_101 : pProg := (101, 3, a_iinc 4 1) :: (104, 3, a_goto 32) :: []
def kX6_change_90 : pProg := (90, 2, a_iconst 10) :: (92, 1, a_iload 3) :: (93, 1, a_imul) :: (94, 2, a_iload 4) :: (96, 1, a_iadd) :: (97, 1, a_istore 1) :: (98, 2, a_iload 5) :: (100, 1, a_istore 2) :: (101, 0, a_fall 101) :: []
def kX6_change_56 : pProg := (56, 1, a_aload 0) :: (57, 1, a_iload 3) :: (58, 2, a_iload 4) :: (60, 3, a_callv 3 4 [0, 1, 2, 3, 4, 5, 6, 7, 8, 9, 10, 11, 12, 13, 14, 15, 16] tX6_changesTwo) :: (63, 1, a_aload 0) :: (64, 3, a_callv 1 4 [0, 1, 2, 3, 4, 5, 6, 7, 8, 9, 10, 11, 12, 13, 14, 15, 16] tX6_allFaced) :: (67, 2, a_istore 5) :: (69, 1, a_aload 0) :: (70, 1, a_iload 3) :: (71, 2, a_iload 4) :: (73, 3, a_callv 3 4 [0, 1, 2, 3, 4, 5, 6, 7, 8, 9, 10, 11, 12, 13, 14, 15, 16] tX6_changesTwo) :: (76, 2, a_iload 5) :: (78, 3, a_if_lt 101) :: (81, 2, a_iload 5) :: (83, 1, a_iload 2) :: (84, 3, a_icmp_lt 90) :: (87, 3, a_goto 101) :: []
def kX6_change_32 : pProg := (32, 2, a_iload 4) :: (34, 1, a_iconst 2) :: (35, 1, a_aload 0) :: (36, 3, a_getf 0 4 7) :: (39, 1, a_imul) :: (40, 3, a_icmp_ge 107) :: (43, 1, a_iload 3) :: (44, 1, a_iconst 2) :: (45, 1, a_idiv) :: (46, 2, a_iload 4) :: (48, 1, a_iconst 2) :: (49, 1, a_idiv) :: (50, 3, a_icmp_ne 56) :: (53, 3, a_goto 101) :: []
def kX6_change_17 : pProg := (17, 1, a_iload 3) :: (18, 1, a_iconst 2) :: (19, 1, a_aload 0) :: (20, 3, a_getf 0 4 7) :: (23, 1, a_imul) :: (24, 3, a_icmp_ge 113) :: (27, 1, a_iload 3) :: (28, 1, a_iconst 1) :: (29, 1, a_iadd) :: (30, 2, a_istore 4) :: (32, 0, a_fall 32) :: []
def kX6_change_15 : pProg := (15, 1, a_iconst 0) :: (16, 1, a_istore 3) :: (17, 0, a_fall 17) :: []
def kX6_change_0 : pProg := (0, 2, a_iconst (-9)) :: (2, 1, a_istore 1) :: (3, 1, a_aload 0) :: (4, 3, a_callv 1 4 [0, 1, 2, 3, 4, 5, 6, 7, 8, 9, 10, 11, 12, 13, 14, 15, 16] tX6_allFaced) :: (7, 1, a_istore 2) :: (8, 1, a_iload 2) :: (9, 3, a_if_ge 15) :: (12, 2, a_iconst 61) :: (14, 1, a_istore 2) :: (15, 0, a_fall 15) :: []
set_option maxRecDepth 100000 in
theorem sX6_change_113 (l : Launch) : AllS (pSnd l rmX6_change yX6_change.cls cX6_change wsX6_change 6 (some .int)) 113 kX6_change_113 :=
  alls _ (s_iload_n rfl dX6_change_113) <|
  alls _ (s_iret dX6_change_114) <|
  alls_nil _
set_option maxRecDepth 100000 in
theorem sX6_change_107 (l : Launch) : AllS (pSnd l rmX6_change yX6_change.cls cX6_change wsX6_change 6 (some .int)) 107 kX6_change_107 :=
  alls _ (s_iinc dX6_change_107) <|
  alls _ (s_goto (by decide) dX6_change_110) <|
  alls_nil _
set_option maxRecDepth 100000 in
theorem sX6_change_101 (l : Launch) : AllS (pSnd l rmX6_change yX6_change.cls cX6_change wsX6_change 6 (some .int)) 101 kX6_change_101 :=
  alls _ (s_iinc dX6_change_101) <|
  alls _ (s_goto (by decide) dX6_change_104) <|
  alls_nil _
set_option maxRecDepth 100000 in
theorem sX6_change_90 (l : Launch) : AllS (pSnd l rmX6_change yX6_change.cls cX6_change wsX6_change 6 (some .int)) 90 kX6_change_90 :=
  alls _ (s_bipush (by decide) dX6_change_90) <|
  alls _ (s_iload_n rfl dX6_change_92) <|
  alls _ (s_imul dX6_change_93) <|
  alls _ (s_iload dX6_change_94) <|
  alls _ (s_iadd dX6_change_96) <|
  alls _ (s_istore_n rfl dX6_change_97) <|
  alls _ (s_iload dX6_change_98) <|
  alls _ (s_istore_n rfl dX6_change_100) <|
  alls _ s_fall (alls_nil _)
set_option maxRecDepth 100000 in
theorem sX6_change_56 (l : Launch) : AllS (pSnd l rmX6_change yX6_change.cls cX6_change wsX6_change 6 (some .int)) 56 kX6_change_56 :=
  alls _ (s_aload_n rfl dX6_change_56) <|
  alls _ (s_iload_n rfl dX6_change_57) <|
  alls _ (s_iload dX6_change_58) <|
  alls _ (s_callv (ct_X6_changesTwo l) rfl rfl rfl (gdV wd_918 wd_920 wd_26 wd_65 wd_921) rfl rfl (by decide +kernel) ⟨Nat.le_of_ble_eq_true rfl, Nat.le_of_ble_eq_true rfl⟩ dX6_change_60) <|
  alls _ (s_aload_n rfl dX6_change_63) <|
  alls _ (s_callv (ct_X6_allFaced l) rfl rfl rfl (gdV wd_1048 wd_1050 wd_43 wd_65 wd_1051) rfl rfl (by decide +kernel) ⟨Nat.le_of_ble_eq_true rfl, Nat.le_of_ble_eq_true rfl⟩ dX6_change_64) <|
  alls _ (s_istore dX6_change_67) <|
  alls _ (s_aload_n rfl dX6_change_69) <|
  alls _ (s_iload_n rfl dX6_change_70) <|
  alls _ (s_iload dX6_change_71) <|
  alls _ (s_callv (ct_X6_changesTwo l) rfl rfl rfl (gdV wd_918 wd_920 wd_26 wd_65 wd_921) rfl rfl (by decide +kernel) ⟨Nat.le_of_ble_eq_true rfl, Nat.le_of_ble_eq_true rfl⟩ dX6_change_73) <|
  alls _ (s_iload dX6_change_76) <|
  alls _ (s_if_lt (by decide) dX6_change_78) <|
  alls _ (s_iload dX6_change_81) <|
  alls _ (s_iload_n rfl dX6_change_83) <|
  alls _ (s_icmp_lt (by decide) dX6_change_84) <|
  alls _ (s_goto (by decide) dX6_change_87) <|
  alls_nil _
set_option maxRecDepth 100000 in
theorem sX6_change_32 (l : Launch) : AllS (pSnd l rmX6_change yX6_change.cls cX6_change wsX6_change 6 (some .int)) 32 kX6_change_32 :=
  alls _ (s_iload dX6_change_32) <|
  alls _ (s_iconst dX6_change_34) <|
  alls _ (s_aload_n rfl dX6_change_35) <|
  alls _ (s_getf (C := RX6) (T := TX6) (N := 29) rfl (in_c inX6) (by decide) (List.mem_cons_of_mem _ wd_754) rfl dX6_change_36) <|
  alls _ (s_imul dX6_change_39) <|
  alls _ (s_icmp_ge (by decide) dX6_change_40) <|
  alls _ (s_iload_n rfl dX6_change_43) <|
  alls _ (s_iconst dX6_change_44) <|
  alls _ (s_idiv dX6_change_45) <|
  alls _ (s_iload dX6_change_46) <|
  alls _ (s_iconst dX6_change_48) <|
  alls _ (s_idiv dX6_change_49) <|
  alls _ (s_icmp_ne (by decide) dX6_change_50) <|
  alls _ (s_goto (by decide) dX6_change_53) <|
  alls_nil _
set_option maxRecDepth 100000 in
theorem sX6_change_17 (l : Launch) : AllS (pSnd l rmX6_change yX6_change.cls cX6_change wsX6_change 6 (some .int)) 17 kX6_change_17 :=
  alls _ (s_iload_n rfl dX6_change_17) <|
  alls _ (s_iconst dX6_change_18) <|
  alls _ (s_aload_n rfl dX6_change_19) <|
  alls _ (s_getf (C := RX6) (T := TX6) (N := 29) rfl (in_c inX6) (by decide) (List.mem_cons_of_mem _ wd_754) rfl dX6_change_20) <|
  alls _ (s_imul dX6_change_23) <|
  alls _ (s_icmp_ge (by decide) dX6_change_24) <|
  alls _ (s_iload_n rfl dX6_change_27) <|
  alls _ (s_iconst dX6_change_28) <|
  alls _ (s_iadd dX6_change_29) <|
  alls _ (s_istore dX6_change_30) <|
  alls _ s_fall (alls_nil _)
set_option maxRecDepth 100000 in
theorem sX6_change_15 (l : Launch) : AllS (pSnd l rmX6_change yX6_change.cls cX6_change wsX6_change 6 (some .int)) 15 kX6_change_15 :=
  alls _ (s_iconst dX6_change_15) <|
  alls _ (s_istore_n rfl dX6_change_16) <|
  alls _ s_fall (alls_nil _)
set_option maxRecDepth 100000 in
theorem sX6_change_0 (l : Launch) : AllS (pSnd l rmX6_change yX6_change.cls cX6_change wsX6_change 6 (some .int)) 0 kX6_change_0 :=
  alls _ (s_bipush (by decide) dX6_change_0) <|
  alls _ (s_istore_n rfl dX6_change_2) <|
  alls _ (s_aload_n rfl dX6_change_3) <|
  alls _ (s_callv (ct_X6_allFaced l) rfl rfl rfl (gdV wd_1048 wd_1050 wd_43 wd_65 wd_1051) rfl rfl (by decide +kernel) ⟨Nat.le_of_ble_eq_true rfl, Nat.le_of_ble_eq_true rfl⟩ dX6_change_4) <|
  alls _ (s_istore_n rfl dX6_change_7) <|
  alls _ (s_iload_n rfl dX6_change_8) <|
  alls _ (s_if_ge (by decide) dX6_change_9) <|
  alls _ (s_bipush (by decide) dX6_change_12) <|
  alls _ (s_istore_n rfl dX6_change_14) <|
  alls _ s_fall (alls_nil _)
def KX6_change : List (Nat × pProg) := [(0, kX6_change_0), (15, kX6_change_15), (17, kX6_change_17), (32, kX6_change_32), (56, kX6_change_56), (90, kX6_change_90), (101, kX6_change_101), (107, kX6_change_107), (113, kX6_change_113)]
theorem bX6_change_0 : blkOf KX6_change 0 = some kX6_change_0 := rfl
theorem bX6_change_15 : blkOf KX6_change 15 = some kX6_change_15 := rfl
theorem bX6_change_17 : blkOf KX6_change 17 = some kX6_change_17 := rfl
theorem bX6_change_32 : blkOf KX6_change 32 = some kX6_change_32 := rfl
theorem bX6_change_56 : blkOf KX6_change 56 = some kX6_change_56 := rfl
theorem bX6_change_90 : blkOf KX6_change 90 = some kX6_change_90 := rfl
theorem bX6_change_101 : blkOf KX6_change 101 = some kX6_change_101 := rfl
theorem bX6_change_107 : blkOf KX6_change 107 = some kX6_change_107 := rfl
theorem bX6_change_113 : blkOf KX6_change 113 = some kX6_change_113 := rfl
def tX6_change : pT := pM KX6_change 6
theorem ct_X6_change (l : Launch) : pCtr l yX6_change wsX6_change rmX6_change 1 tX6_change := ctr_of (by decide +kernel) rfl (List.forall_mem_cons.mpr ⟨sX6_change_0 l, List.forall_mem_cons.mpr ⟨sX6_change_15 l, List.forall_mem_cons.mpr ⟨sX6_change_17 l, List.forall_mem_cons.mpr ⟨sX6_change_32 l, List.forall_mem_cons.mpr ⟨sX6_change_56 l, List.forall_mem_cons.mpr ⟨sX6_change_90 l, List.forall_mem_cons.mpr ⟨sX6_change_101 l, List.forall_mem_cons.mpr ⟨sX6_change_107 l, List.forall_mem_cons.mpr ⟨sX6_change_113 l, fun _ h => absurd h List.not_mem_nil⟩⟩⟩⟩⟩⟩⟩⟩⟩)
theorem dX6_bestKind_0 : decode cX6_bestKind 0 = .ok (.aload_n 0, 1) := by decide +kernel
theorem dX6_bestKind_1 : decode cX6_bestKind 1 = .ok (.iload_n 1, 1) := by decide +kernel
theorem dX6_bestKind_2 : decode cX6_bestKind 2 = .ok (.invokevirtual 128, 3) := by decide +kernel
theorem dX6_bestKind_5 : decode cX6_bestKind 5 = .ok (.ifCond .ne 7, 3) := by decide +kernel
theorem dX6_bestKind_8 : decode cX6_bestKind 8 = .ok (.iconst (-1), 1) := by decide +kernel
theorem dX6_bestKind_9 : decode cX6_bestKind 9 = .ok (.goto 18, 3) := by decide +kernel
theorem dX6_bestKind_12 : decode cX6_bestKind 12 = .ok (.iload_n 2, 1) := by decide +kernel
theorem dX6_bestKind_13 : decode cX6_bestKind 13 = .ok (.iconst 0, 1) := by decide +kernel
theorem dX6_bestKind_14 : decode cX6_bestKind 14 = .ok (.iconst 1, 1) := by decide +kernel
theorem dX6_bestKind_15 : decode cX6_bestKind 15 = .ok (.invokestatic 82, 3) := by decide +kernel
theorem dX6_bestKind_18 : decode cX6_bestKind 18 = .ok (.ifCond .ne 8, 3) := by decide +kernel
theorem dX6_bestKind_21 : decode cX6_bestKind 21 = .ok (.bipush (-2), 2) := by decide +kernel
theorem dX6_bestKind_23 : decode cX6_bestKind 23 = .ok (.goto 4, 3) := by decide +kernel
theorem dX6_bestKind_26 : decode cX6_bestKind 26 = .ok (.iconst 0, 1) := by decide +kernel
theorem dX6_bestKind_27 : decode cX6_bestKind 27 = .ok (.istore_n 3, 1) := by decide +kernel
theorem dX6_bestKind_28 : decode cX6_bestKind 28 = .ok (.iload_n 3, 1) := by decide +kernel
theorem dX6_bestKind_29 : decode cX6_bestKind 29 = .ok (.ifCond .eq 9, 3) := by decide +kernel
theorem dX6_bestKind_32 : decode cX6_bestKind 32 = .ok (.aload_n 0, 1) := by decide +kernel
theorem dX6_bestKind_33 : decode cX6_bestKind 33 = .ok (.iload_n 3, 1) := by decide +kernel
theorem dX6_bestKind_34 : decode cX6_bestKind 34 = .ok (.invokevirtual 71, 3) := by decide +kernel
theorem dX6_bestKind_37 : decode cX6_bestKind 37 = .ok (.ireturn, 1) := by decide +kernel
theorem dX6_bestKind_38 : decode cX6_bestKind 38 = .ok (.aload_n 0, 1) := by decide +kernel
theorem dX6_bestKind_39 : decode cX6_bestKind 39 = .ok (.getfield 16, 3) := by decide +kernel
theorem dX6_bestKind_42 : decode cX6_bestKind 42 = .ok (.iload_n 1, 1) := by decide +kernel
theorem dX6_bestKind_43 : decode cX6_bestKind 43 = .ok (.iaload, 1) := by decide +kernel
theorem dX6_bestKind_44 : decode cX6_bestKind 44 = .ok (.istore 4, 2) := by decide +kernel
theorem dX6_bestKind_46 : decode cX6_bestKind 46 = .ok (.bipush (-9), 2) := by decide +kernel
theorem dX6_bestKind_48 : decode cX6_bestKind 48 = .ok (.istore 5, 2) := by decide +kernel
theorem dX6_bestKind_50 : decode cX6_bestKind 50 = .ok (.bipush (-9), 2) := by decide +kernel
theorem dX6_bestKind_52 : decode cX6_bestKind 52 = .ok (.istore 6, 2) := by decide +kernel
theorem dX6_bestKind_54 : decode cX6_bestKind 54 = .ok (.iconst 0, 1) := by decide +kernel
theorem dX6_bestKind_55 : decode cX6_bestKind 55 = .ok (.istore 7, 2) := by decide +kernel
theorem dX6_bestKind_57 : decode cX6_bestKind 57 = .ok (.iload 7, 2) := by decide +kernel
theorem dX6_bestKind_59 : decode cX6_bestKind 59 = .ok (.bipush 6, 2) := by decide +kernel
theorem dX6_bestKind_61 : decode cX6_bestKind 61 = .ok (.if_icmp .ge 54, 3) := by decide +kernel
theorem dX6_bestKind_64 : decode cX6_bestKind 64 = .ok (.aload_n 0, 1) := by decide +kernel
theorem dX6_bestKind_65 : decode cX6_bestKind 65 = .ok (.getfield 16, 3) := by decide +kernel
theorem dX6_bestKind_68 : decode cX6_bestKind 68 = .ok (.iload_n 1, 1) := by decide +kernel
theorem dX6_bestKind_69 : decode cX6_bestKind 69 = .ok (.iload 7, 2) := by decide +kernel
theorem dX6_bestKind_71 : decode cX6_bestKind 71 = .ok (.iastore, 1) := by decide +kernel
theorem dX6_bestKind_72 : decode cX6_bestKind 72 = .ok (.aload_n 0, 1) := by decide +kernel
theorem dX6_bestKind_73 : decode cX6_bestKind 73 = .ok (.iload_n 1, 1) := by decide +kernel
theorem dX6_bestKind_74 : decode cX6_bestKind 74 = .ok (.iconst 2, 1) := by decide +kernel
theorem dX6_bestKind_75 : decode cX6_bestKind 75 = .ok (.idiv, 1) := by decide +kernel
theorem dX6_bestKind_76 : decode cX6_bestKind 76 = .ok (.invokevirtual 219, 3) := by decide +kernel
theorem dX6_bestKind_79 : decode cX6_bestKind 79 = .ok (.istore 8, 2) := by decide +kernel
theorem dX6_bestKind_81 : decode cX6_bestKind 81 = .ok (.iload 8, 2) := by decide +kernel
theorem dX6_bestKind_83 : decode cX6_bestKind 83 = .ok (.ifCond .lt 26, 3) := by decide +kernel
theorem dX6_bestKind_86 : decode cX6_bestKind 86 = .ok (.iload 5, 2) := by decide +kernel
theorem dX6_bestKind_88 : decode cX6_bestKind 88 = .ok (.ifCond .lt 13, 3) := by decide +kernel
theorem dX6_bestKind_91 : decode cX6_bestKind 91 = .ok (.iload 8, 2) := by decide +kernel
theorem dX6_bestKind_93 : decode cX6_bestKind 93 = .ok (.iload 6, 2) := by decide +kernel
theorem dX6_bestKind_95 : decode cX6_bestKind 95 = .ok (.if_icmp .lt 6, 3) := by decide +kernel
theorem dX6_bestKind_98 : decode cX6_bestKind 98 = .ok (.goto 11, 3) := by decide +kernel
theorem dX6_bestKind_101 : decode cX6_bestKind 101 = .ok (.iload 7, 2) := by decide +kernel
theorem dX6_bestKind_103 : decode cX6_bestKind 103 = .ok (.istore 5, 2) := by decide +kernel
theorem dX6_bestKind_105 : decode cX6_bestKind 105 = .ok (.iload 8, 2) := by decide +kernel
theorem dX6_bestKind_107 : decode cX6_bestKind 107 = .ok (.istore 6, 2) := by decide +kernel
theorem dX6_bestKind_109 : decode cX6_bestKind 109 = .ok (.iinc 7 1, 3) := by decide +kernel
theorem dX6_bestKind_112 : decode cX6_bestKind 112 = .ok (.goto (-55), 3) := by decide +kernel
theorem dX6_bestKind_115 : decode cX6_bestKind 115 = .ok (.aload_n 0, 1) := by decide +kernel
theorem dX6_bestKind_116 : decode cX6_bestKind 116 = .ok (.getfield 16, 3) := by decide +kernel
theorem dX6_bestKind_119 : decode cX6_bestKind 119 = .ok (.iload_n 1, 1) := by decide +kernel
theorem dX6_bestKind_120 : decode cX6_bestKind 120 = .ok (.iload 4, 2) := by decide +kernel
theorem dX6_bestKind_122 : decode cX6_bestKind 122 = .ok (.iastore, 1) := by decide +kernel
theorem dX6_bestKind_123 : decode cX6_bestKind 123 = .ok (.iload_n 2, 1) := by decide +kernel
theorem dX6_bestKind_124 : decode cX6_bestKind 124 = .ok (.ifCond .ne 8, 3) := by decide +kernel
theorem dX6_bestKind_127 : decode cX6_bestKind 127 = .ok (.iload 5, 2) := by decide +kernel
theorem dX6_bestKind_129 : decode cX6_bestKind 129 = .ok (.goto 5, 3) := by decide +kernel
theorem dX6_bestKind_132 : decode cX6_bestKind 132 = .ok (.iload 6, 2) := by decide +kernel
theorem dX6_bestKind_134 : decode cX6_bestKind 134 = .ok (.ireturn, 1) := by decide +kernel
def rmX6_bestKind : Room := { frames := 6, cells := 0, slots := 0, locals := 134 }
abbrev wsX6_bestKind : List Cond := .code yX6_bestKind cX6_bestKind 9 (some .int) :: gw_tbl
def kX6_bestKind_134 : pProg := (134, 1, a_iret) :: []
def kX6_bestKind_132 : pProg := (132, 2, a_iload 6) :: (134, 0, a_fall 134) :: []
def kX6_bestKind_115 : pProg := (115, 1, a_aload 0) :: (116, 3, a_getf 0 4 2) :: (119, 1, a_iload 1) :: (120, 2, a_iload 4) :: (122, 1, a_iast 3) :: (123, 1, a_iload 2) :: (124, 3, a_if_ne 132) :: (127, 2, a_iload 5) :: (129, 3, a_goto 134) :: []
def kX6_bestKind_109 : pProg := (109, 3, a_iinc 7 1) :: (112, 3, a_goto 57) :: []
def kX6_bestKind_101 : pProg := (101, 2, a_iload 7) :: (103, 2, a_istore 5) :: (105, 2, a_iload 8) :: (107, 2, a_istore 6) :: (109, 0, a_fall 109) :: []
def kX6_bestKind_57 : pProg := (57, 2, a_iload 7) :: (59, 2, a_iconst 6) :: (61, 3, a_icmp_ge 115) :: (64, 1, a_aload 0) :: (65, 3, a_getf 0 4 2) :: (68, 1, a_iload 1) :: (69, 2, a_iload 7) :: (71, 1, a_iast 3) :: (72, 1, a_aload 0) :: (73, 1, a_iload 1) :: (74, 1, a_iconst 2) :: (75, 1, a_idiv) :: (76, 3, a_callv 2 4 [0, 1, 2, 3, 4, 5, 6, 7, 8, 9, 10, 11, 12, 13, 14, 15, 16] tX6_facedWhen) :: (79, 2, a_istore 8) :: (81, 2, a_iload 8) :: (83, 3, a_if_lt 109) :: (86, 2, a_iload 5) :: (88, 3, a_if_lt 101) :: (91, 2, a_iload 8) :: (93, 2, a_iload 6) :: (95, 3, a_icmp_lt 101) :: (98, 3, a_goto 109) :: []
def kX6_bestKind_38 : pProg := (38, 1, a_aload 0) :: (39, 3, a_getf 0 4 2) :: (42, 1, a_iload 1) :: (43, 1, a_iald 3) :: (44, 2, a_istore 4) :: (46, 2, a_iconst (-9)) :: (48, 2, a_istore 5) :: (50, 2, a_iconst (-9)) :: (52, 2, a_istore 6) :: (54, 1, a_iconst 0) :: (55, 2, a_istore 7) :: (57, 0, a_fall 57) :: []
def kX6_bestKind_27 : pProg := (27, 1, a_istore 3) :: (28, 1, a_iload 3) :: (29, 3, a_if_eq 38) :: (32, 1, a_aload 0) :: (33, 1, a_iload 3) :: (34, 3, a_callv 2 4 [0, 1, 2, 3, 4, 5, 6, 7, 8, 9, 10, 11, 12, 13, 14, 15, 16] tX6_no) :: (37, 1, a_iret) :: []
def kX6_bestKind_26 : pProg := (26, 1, a_iconst 0) :: (27, 0, a_fall 27) :: []
def kX6_bestKind_12 : pProg := (12, 1, a_iload 2) :: (13, 1, a_iconst 0) :: (14, 1, a_iconst 1) :: (15, 3, a_calls 3 [] tX6_isIn) :: (18, 3, a_if_ne 26) :: (21, 2, a_iconst (-2)) :: (23, 3, a_goto 27) :: []
def kX6_bestKind_0 : pProg := (0, 1, a_aload 0) :: (1, 1, a_iload 1) :: (2, 3, a_callv 2 4 [0, 1, 2, 3, 4, 5, 6, 7, 8, 9, 10, 11, 12, 13, 14, 15, 16] tX6_isMiner) :: (5, 3, a_if_ne 12) :: (8, 1, a_iconst (-1)) :: (9, 3, a_goto 27) :: []
set_option maxRecDepth 100000 in
theorem sX6_bestKind_134 (l : Launch) : AllS (pSnd l rmX6_bestKind yX6_bestKind.cls cX6_bestKind wsX6_bestKind 9 (some .int)) 134 kX6_bestKind_134 :=
  alls _ (s_iret dX6_bestKind_134) <|
  alls_nil _
set_option maxRecDepth 100000 in
theorem sX6_bestKind_132 (l : Launch) : AllS (pSnd l rmX6_bestKind yX6_bestKind.cls cX6_bestKind wsX6_bestKind 9 (some .int)) 132 kX6_bestKind_132 :=
  alls _ (s_iload dX6_bestKind_132) <|
  alls _ s_fall (alls_nil _)
set_option maxRecDepth 100000 in
theorem sX6_bestKind_115 (l : Launch) : AllS (pSnd l rmX6_bestKind yX6_bestKind.cls cX6_bestKind wsX6_bestKind 9 (some .int)) 115 kX6_bestKind_115 :=
  alls _ (s_aload_n rfl dX6_bestKind_115) <|
  alls _ (s_getf (C := RX6) (T := TX6) (N := 29) rfl (in_c inX6) (by decide) (List.mem_cons_of_mem _ wd_749) rfl dX6_bestKind_116) <|
  alls _ (s_iload_n rfl dX6_bestKind_119) <|
  alls _ (s_iload dX6_bestKind_120) <|
  alls _ (s_iast dX6_bestKind_122) <|
  alls _ (s_iload_n rfl dX6_bestKind_123) <|
  alls _ (s_if_ne (by decide) dX6_bestKind_124) <|
  alls _ (s_iload dX6_bestKind_127) <|
  alls _ (s_goto (by decide) dX6_bestKind_129) <|
  alls_nil _
set_option maxRecDepth 100000 in
theorem sX6_bestKind_109 (l : Launch) : AllS (pSnd l rmX6_bestKind yX6_bestKind.cls cX6_bestKind wsX6_bestKind 9 (some .int)) 109 kX6_bestKind_109 :=
  alls _ (s_iinc dX6_bestKind_109) <|
  alls _ (s_goto (by decide) dX6_bestKind_112) <|
  alls_nil _
set_option maxRecDepth 100000 in
theorem sX6_bestKind_101 (l : Launch) : AllS (pSnd l rmX6_bestKind yX6_bestKind.cls cX6_bestKind wsX6_bestKind 9 (some .int)) 101 kX6_bestKind_101 :=
  alls _ (s_iload dX6_bestKind_101) <|
  alls _ (s_istore dX6_bestKind_103) <|
  alls _ (s_iload dX6_bestKind_105) <|
  alls _ (s_istore dX6_bestKind_107) <|
  alls _ s_fall (alls_nil _)
set_option maxRecDepth 100000 in
theorem sX6_bestKind_57 (l : Launch) : AllS (pSnd l rmX6_bestKind yX6_bestKind.cls cX6_bestKind wsX6_bestKind 9 (some .int)) 57 kX6_bestKind_57 :=
  alls _ (s_iload dX6_bestKind_57) <|
  alls _ (s_bipush (by decide) dX6_bestKind_59) <|
  alls _ (s_icmp_ge (by decide) dX6_bestKind_61) <|
  alls _ (s_aload_n rfl dX6_bestKind_64) <|
  alls _ (s_getf (C := RX6) (T := TX6) (N := 29) rfl (in_c inX6) (by decide) (List.mem_cons_of_mem _ wd_749) rfl dX6_bestKind_65) <|
  alls _ (s_iload_n rfl dX6_bestKind_68) <|
  alls _ (s_iload dX6_bestKind_69) <|
  alls _ (s_iast dX6_bestKind_71) <|
  alls _ (s_aload_n rfl dX6_bestKind_72) <|
  alls _ (s_iload_n rfl dX6_bestKind_73) <|
  alls _ (s_iconst dX6_bestKind_74) <|
  alls _ (s_idiv dX6_bestKind_75) <|
  alls _ (s_callv (ct_X6_facedWhen l) rfl rfl rfl (gdV wd_1044 wd_1046 wd_42 wd_65 wd_1047) rfl rfl (by decide +kernel) ⟨Nat.le_of_ble_eq_true rfl, Nat.le_of_ble_eq_true rfl⟩ dX6_bestKind_76) <|
  alls _ (s_istore dX6_bestKind_79) <|
  alls _ (s_iload dX6_bestKind_81) <|
  alls _ (s_if_lt (by decide) dX6_bestKind_83) <|
  alls _ (s_iload dX6_bestKind_86) <|
  alls _ (s_if_lt (by decide) dX6_bestKind_88) <|
  alls _ (s_iload dX6_bestKind_91) <|
  alls _ (s_iload dX6_bestKind_93) <|
  alls _ (s_icmp_lt (by decide) dX6_bestKind_95) <|
  alls _ (s_goto (by decide) dX6_bestKind_98) <|
  alls_nil _
set_option maxRecDepth 100000 in
theorem sX6_bestKind_38 (l : Launch) : AllS (pSnd l rmX6_bestKind yX6_bestKind.cls cX6_bestKind wsX6_bestKind 9 (some .int)) 38 kX6_bestKind_38 :=
  alls _ (s_aload_n rfl dX6_bestKind_38) <|
  alls _ (s_getf (C := RX6) (T := TX6) (N := 29) rfl (in_c inX6) (by decide) (List.mem_cons_of_mem _ wd_749) rfl dX6_bestKind_39) <|
  alls _ (s_iload_n rfl dX6_bestKind_42) <|
  alls _ (s_iald dX6_bestKind_43) <|
  alls _ (s_istore dX6_bestKind_44) <|
  alls _ (s_bipush (by decide) dX6_bestKind_46) <|
  alls _ (s_istore dX6_bestKind_48) <|
  alls _ (s_bipush (by decide) dX6_bestKind_50) <|
  alls _ (s_istore dX6_bestKind_52) <|
  alls _ (s_iconst dX6_bestKind_54) <|
  alls _ (s_istore dX6_bestKind_55) <|
  alls _ s_fall (alls_nil _)
set_option maxRecDepth 100000 in
theorem sX6_bestKind_27 (l : Launch) : AllS (pSnd l rmX6_bestKind yX6_bestKind.cls cX6_bestKind wsX6_bestKind 9 (some .int)) 27 kX6_bestKind_27 :=
  alls _ (s_istore_n rfl dX6_bestKind_27) <|
  alls _ (s_iload_n rfl dX6_bestKind_28) <|
  alls _ (s_if_eq (by decide) dX6_bestKind_29) <|
  alls _ (s_aload_n rfl dX6_bestKind_32) <|
  alls _ (s_iload_n rfl dX6_bestKind_33) <|
  alls _ (s_callv (ct_X6_no l) rfl rfl rfl (gdV wd_842 wd_844 wd_11 wd_65 wd_845) rfl rfl (by decide +kernel) ⟨Nat.le_of_ble_eq_true rfl, Nat.le_of_ble_eq_true rfl⟩ dX6_bestKind_34) <|
  alls _ (s_iret dX6_bestKind_37) <|
  alls_nil _
set_option maxRecDepth 100000 in
theorem sX6_bestKind_26 (l : Launch) : AllS (pSnd l rmX6_bestKind yX6_bestKind.cls cX6_bestKind wsX6_bestKind 9 (some .int)) 26 kX6_bestKind_26 :=
  alls _ (s_iconst dX6_bestKind_26) <|
  alls _ s_fall (alls_nil _)
set_option maxRecDepth 100000 in
theorem sX6_bestKind_12 (l : Launch) : AllS (pSnd l rmX6_bestKind yX6_bestKind.cls cX6_bestKind wsX6_bestKind 9 (some .int)) 12 kX6_bestKind_12 :=
  alls _ (s_iload_n rfl dX6_bestKind_12) <|
  alls _ (s_iconst dX6_bestKind_13) <|
  alls _ (s_iconst dX6_bestKind_14) <|
  alls _ (s_calls (ct_X6_isIn l) rfl rfl (gdS wd_868) (List.mem_cons_of_mem _ wd_866) (List.mem_cons_of_mem _ wd_867) (List.mem_cons_of_mem _ wd_65) rfl rfl (by decide +kernel) ⟨Nat.le_of_ble_eq_true rfl, Nat.le_of_ble_eq_true rfl⟩ dX6_bestKind_15) <|
  alls _ (s_if_ne (by decide) dX6_bestKind_18) <|
  alls _ (s_bipush (by decide) dX6_bestKind_21) <|
  alls _ (s_goto (by decide) dX6_bestKind_23) <|
  alls_nil _
set_option maxRecDepth 100000 in
theorem sX6_bestKind_0 (l : Launch) : AllS (pSnd l rmX6_bestKind yX6_bestKind.cls cX6_bestKind wsX6_bestKind 9 (some .int)) 0 kX6_bestKind_0 :=
  alls _ (s_aload_n rfl dX6_bestKind_0) <|
  alls _ (s_iload_n rfl dX6_bestKind_1) <|
  alls _ (s_callv (ct_X6_isMiner l) rfl rfl rfl (gdV wd_914 wd_916 wd_25 wd_65 wd_917) rfl rfl (by decide +kernel) ⟨Nat.le_of_ble_eq_true rfl, Nat.le_of_ble_eq_true rfl⟩ dX6_bestKind_2) <|
  alls _ (s_if_ne (by decide) dX6_bestKind_5) <|
  alls _ (s_iconst dX6_bestKind_8) <|
  alls _ (s_goto (by decide) dX6_bestKind_9) <|
  alls_nil _
def KX6_bestKind : List (Nat × pProg) := [(0, kX6_bestKind_0), (12, kX6_bestKind_12), (26, kX6_bestKind_26), (27, kX6_bestKind_27), (38, kX6_bestKind_38), (57, kX6_bestKind_57), (101, kX6_bestKind_101), (109, kX6_bestKind_109), (115, kX6_bestKind_115), (132, kX6_bestKind_132), (134, kX6_bestKind_134)]
theorem bX6_bestKind_0 : blkOf KX6_bestKind 0 = some kX6_bestKind_0 := rfl
theorem bX6_bestKind_12 : blkOf KX6_bestKind 12 = some kX6_bestKind_12 := rfl
theorem bX6_bestKind_26 : blkOf KX6_bestKind 26 = some kX6_bestKind_26 := rfl
theorem bX6_bestKind_27 : blkOf KX6_bestKind 27 = some kX6_bestKind_27 := rfl
theorem bX6_bestKind_38 : blkOf KX6_bestKind 38 = some kX6_bestKind_38 := rfl
theorem bX6_bestKind_57 : blkOf KX6_bestKind 57 = some kX6_bestKind_57 := rfl
theorem bX6_bestKind_101 : blkOf KX6_bestKind 101 = some kX6_bestKind_101 := rfl
theorem bX6_bestKind_109 : blkOf KX6_bestKind 109 = some kX6_bestKind_109 := rfl
theorem bX6_bestKind_115 : blkOf KX6_bestKind 115 = some kX6_bestKind_115 := rfl
theorem bX6_bestKind_132 : blkOf KX6_bestKind 132 = some kX6_bestKind_132 := rfl
theorem bX6_bestKind_134 : blkOf KX6_bestKind 134 = some kX6_bestKind_134 := rfl
def tX6_bestKind : pT := pM KX6_bestKind 9
theorem ct_X6_bestKind (l : Launch) : pCtr l yX6_bestKind wsX6_bestKind rmX6_bestKind 3 tX6_bestKind := ctr_of (by decide +kernel) rfl (List.forall_mem_cons.mpr ⟨sX6_bestKind_0 l, List.forall_mem_cons.mpr ⟨sX6_bestKind_12 l, List.forall_mem_cons.mpr ⟨sX6_bestKind_26 l, List.forall_mem_cons.mpr ⟨sX6_bestKind_27 l, List.forall_mem_cons.mpr ⟨sX6_bestKind_38 l, List.forall_mem_cons.mpr ⟨sX6_bestKind_57 l, List.forall_mem_cons.mpr ⟨sX6_bestKind_101 l, List.forall_mem_cons.mpr ⟨sX6_bestKind_109 l, List.forall_mem_cons.mpr ⟨sX6_bestKind_115 l, List.forall_mem_cons.mpr ⟨sX6_bestKind_132 l, List.forall_mem_cons.mpr ⟨sX6_bestKind_134 l, fun _ h => absurd h List.not_mem_nil⟩⟩⟩⟩⟩⟩⟩⟩⟩⟩⟩)
theorem dX6_beamsFrom_0 : decode cX6_beamsFrom 0 = .ok (.aload_n 0, 1) := by decide +kernel
theorem dX6_beamsFrom_1 : decode cX6_beamsFrom 1 = .ok (.invokevirtual 207, 3) := by decide +kernel
theorem dX6_beamsFrom_4 : decode cX6_beamsFrom 4 = .ok (.aload_n 0, 1) := by decide +kernel
theorem dX6_beamsFrom_5 : decode cX6_beamsFrom 5 = .ok (.getfield 25, 3) := by decide +kernel
theorem dX6_beamsFrom_8 : decode cX6_beamsFrom 8 = .ok (.iload_n 1, 1) := by decide +kernel
theorem dX6_beamsFrom_9 : decode cX6_beamsFrom 9 = .ok (.iload_n 2, 1) := by decide +kernel
theorem dX6_beamsFrom_10 : decode cX6_beamsFrom 10 = .ok (.iastore, 1) := by decide +kernel
theorem dX6_beamsFrom_11 : decode cX6_beamsFrom 11 = .ok (.iconst 0, 1) := by decide +kernel
theorem dX6_beamsFrom_12 : decode cX6_beamsFrom 12 = .ok (.istore_n 3, 1) := by decide +kernel
theorem dX6_beamsFrom_13 : decode cX6_beamsFrom 13 = .ok (.iconst 0, 1) := by decide +kernel
theorem dX6_beamsFrom_14 : decode cX6_beamsFrom 14 = .ok (.istore 4, 2) := by decide +kernel
theorem dX6_beamsFrom_16 : decode cX6_beamsFrom 16 = .ok (.iload 4, 2) := by decide +kernel
theorem dX6_beamsFrom_18 : decode cX6_beamsFrom 18 = .ok (.bipush 60, 2) := by decide +kernel
theorem dX6_beamsFrom_20 : decode cX6_beamsFrom 20 = .ok (.if_icmp .ge 69, 3) := by decide +kernel
theorem dX6_beamsFrom_23 : decode cX6_beamsFrom 23 = .ok (.aload_n 0, 1) := by decide +kernel
theorem dX6_beamsFrom_24 : decode cX6_beamsFrom 24 = .ok (.getfield 25, 3) := by decide +kernel
theorem dX6_beamsFrom_27 : decode cX6_beamsFrom 27 = .ok (.iload_n 1, 1) := by decide +kernel
theorem dX6_beamsFrom_28 : decode cX6_beamsFrom 28 = .ok (.iaload, 1) := by decide +kernel
theorem dX6_beamsFrom_29 : decode cX6_beamsFrom 29 = .ok (.bipush 19, 2) := by decide +kernel
theorem dX6_beamsFrom_31 : decode cX6_beamsFrom 31 = .ok (.if_icmp .ge 58, 3) := by decide +kernel
theorem dX6_beamsFrom_34 : decode cX6_beamsFrom 34 = .ok (.aload_n 0, 1) := by decide +kernel
theorem dX6_beamsFrom_35 : decode cX6_beamsFrom 35 = .ok (.dup, 1) := by decide +kernel
theorem dX6_beamsFrom_36 : decode cX6_beamsFrom 36 = .ok (.getfield 112, 3) := by decide +kernel
theorem dX6_beamsFrom_39 : decode cX6_beamsFrom 39 = .ok (.iconst 1, 1) := by decide +kernel
theorem dX6_beamsFrom_40 : decode cX6_beamsFrom 40 = .ok (.iadd, 1) := by decide +kernel
theorem dX6_beamsFrom_41 : decode cX6_beamsFrom 41 = .ok (.putfield 112, 3) := by decide +kernel
theorem dX6_beamsFrom_44 : decode cX6_beamsFrom 44 = .ok (.aload_n 0, 1) := by decide +kernel
theorem dX6_beamsFrom_45 : decode cX6_beamsFrom 45 = .ok (.iload_n 1, 1) := by decide +kernel
theorem dX6_beamsFrom_46 : decode cX6_beamsFrom 46 = .ok (.aload_n 0, 1) := by decide +kernel
theorem dX6_beamsFrom_47 : decode cX6_beamsFrom 47 = .ok (.getfield 112, 3) := by decide +kernel
theorem dX6_beamsFrom_50 : decode cX6_beamsFrom 50 = .ok (.invokevirtual 184, 3) := by decide +kernel
theorem dX6_beamsFrom_53 : decode cX6_beamsFrom 53 = .ok (.istore 5, 2) := by decide +kernel
theorem dX6_beamsFrom_55 : decode cX6_beamsFrom 55 = .ok (.aload_n 0, 1) := by decide +kernel
theorem dX6_beamsFrom_56 : decode cX6_beamsFrom 56 = .ok (.iload_n 1, 1) := by decide +kernel
theorem dX6_beamsFrom_57 : decode cX6_beamsFrom 57 = .ok (.invokevirtual 194, 3) := by decide +kernel
theorem dX6_beamsFrom_60 : decode cX6_beamsFrom 60 = .ok (.iload_n 3, 1) := by decide +kernel
theorem dX6_beamsFrom_61 : decode cX6_beamsFrom 61 = .ok (.iload 5, 2) := by decide +kernel
theorem dX6_beamsFrom_63 : decode cX6_beamsFrom 63 = .ok (.ifCond .ge 7, 3) := by decide +kernel
theorem dX6_beamsFrom_66 : decode cX6_beamsFrom 66 = .ok (.iconst 0, 1) := by decide +kernel
theorem dX6_beamsFrom_67 : decode cX6_beamsFrom 67 = .ok (.goto 14, 3) := by decide +kernel
theorem dX6_beamsFrom_70 : decode cX6_beamsFrom 70 = .ok (.aload_n 0, 1) := by decide +kernel
theorem dX6_beamsFrom_71 : decode cX6_beamsFrom 71 = .ok (.getfield 13, 3) := by decide +kernel
theorem dX6_beamsFrom_74 : decode cX6_beamsFrom 74 = .ok (.aload_n 0, 1) := by decide +kernel
theorem dX6_beamsFrom_75 : decode cX6_beamsFrom 75 = .ok (.getfield 25, 3) := by decide +kernel
theorem dX6_beamsFrom_78 : decode cX6_beamsFrom 78 = .ok (.iload_n 1, 1) := by decide +kernel
theorem dX6_beamsFrom_79 : decode cX6_beamsFrom 79 = .ok (.iaload, 1) := by decide +kernel
theorem dX6_beamsFrom_80 : decode cX6_beamsFrom 80 = .ok (.iaload, 1) := by decide +kernel
theorem dX6_beamsFrom_81 : decode cX6_beamsFrom 81 = .ok (.iadd, 1) := by decide +kernel
theorem dX6_beamsFrom_82 : decode cX6_beamsFrom 82 = .ok (.istore_n 3, 1) := by decide +kernel
theorem dX6_beamsFrom_83 : decode cX6_beamsFrom 83 = .ok (.iinc 4 1, 3) := by decide +kernel
theorem dX6_beamsFrom_86 : decode cX6_beamsFrom 86 = .ok (.goto (-70), 3) := by decide +kernel
theorem dX6_beamsFrom_89 : decode cX6_beamsFrom 89 = .ok (.aload_n 0, 1) := by decide +kernel
theorem dX6_beamsFrom_90 : decode cX6_beamsFrom 90 = .ok (.getfield 25, 3) := by decide +kernel
theorem dX6_beamsFrom_93 : decode cX6_beamsFrom 93 = .ok (.iload_n 1, 1) := by decide +kernel
theorem dX6_beamsFrom_94 : decode cX6_beamsFrom 94 = .ok (.iaload, 1) := by decide +kernel
theorem dX6_beamsFrom_95 : decode cX6_beamsFrom 95 = .ok (.bipush 19, 2) := by decide +kernel
theorem dX6_beamsFrom_97 : decode cX6_beamsFrom 97 = .ok (.if_icmp .ne 7, 3) := by decide +kernel
theorem dX6_beamsFrom_100 : decode cX6_beamsFrom 100 = .ok (.iconst 1, 1) := by decide +kernel
theorem dX6_beamsFrom_101 : decode cX6_beamsFrom 101 = .ok (.goto 4, 3) := by decide +kernel
theorem dX6_beamsFrom_104 : decode cX6_beamsFrom 104 = .ok (.iconst 0, 1) := by decide +kernel
theorem dX6_beamsFrom_105 : decode cX6_beamsFrom 105 = .ok (.istore 4, 2) := by decide +kernel
theorem dX6_beamsFrom_107 : decode cX6_beamsFrom 107 = .ok (.aload_n 0, 1) := by decide +kernel
theorem dX6_beamsFrom_108 : decode cX6_beamsFrom 108 = .ok (.invokevirtual 210, 3) := by decide +kernel
theorem dX6_beamsFrom_111 : decode cX6_beamsFrom 111 = .ok (.iload 4, 2) := by decide +kernel
theorem dX6_beamsFrom_113 : decode cX6_beamsFrom 113 = .ok (.ifCond .eq 7, 3) := by decide +kernel
theorem dX6_beamsFrom_116 : decode cX6_beamsFrom 116 = .ok (.iload_n 3, 1) := by decide +kernel
theorem dX6_beamsFrom_117 : decode cX6_beamsFrom 117 = .ok (.goto 6, 3) := by decide +kernel
theorem dX6_beamsFrom_120 : decode cX6_beamsFrom 120 = .ok (.sipush 10000, 3) := by decide +kernel
theorem dX6_beamsFrom_123 : decode cX6_beamsFrom 123 = .ok (.ireturn, 1) := by decide +kernel
def rmX6_beamsFrom : Room := { frames := 4, cells := 0, slots := 0, locals := 90 }
abbrev wsX6_beamsFrom : List Cond := .code yX6_beamsFrom cX6_beamsFrom 6 (some .int) :: gw_tbl
def kX6_beamsFrom_123 : pProg := (123, 1, a_iret) :: []
def kX6_beamsFrom_120 : pProg := (120, 3, a_iconst 10000) :: (123, 0, a_fall 123) :: []
def kX6_beamsFrom_105 : pProg := (105, 2, a_istore 4) :: (107, 1, a_aload 0) :: (108, 3, a_callv 1 4 [0, 1, 2, 3, 4, 5, 6, 7, 8, 9, 10, 11, 12, 13, 14, 15, 16] tX6_forgets) :: (111, 2, a_iload 4) :: (113, 3, a_if_eq 120) :: (116, 1, a_iload 3) :: (117, 3, a_goto 123) :: []
def kX6_beamsFrom_104 : pProg := (104, 1, a_iconst 0) :: (105, 0, a_fall 105) :: []
def kX6_beamsFrom_89 : pProg := (89, 1, a_aload 0) :: (90, 3, a_getf 0 4 5) :: (93, 1, a_iload 1) :: (94, 1, a_iald 6) :: (95, 2, a_iconst 19) :: (97, 3, a_icmp_ne 104) :: (100, 1, a_iconst 1) :: (101, 3, a_goto 105) :: []
def kX6_beamsFrom_81 : pProg := (81, 1, a_iadd) :: (82, 1, a_istore 3) :: (83, 3, a_iinc 4 1) :: (86, 3, a_goto 16) :: []
def kX6_beamsFrom_70 : pProg := (70, 1, a_aload 0) :: (71, 3, a_getf 0 4 1) :: (74, 1, a_aload 0) :: (75, 3, a_getf 0 4 5) :: (78, 1, a_iload 1) :: (79, 1, a_iald 6) :: (80, 1, a_iald 2) :: (81, 0, a_fall 81) :: []
def kX6_beamsFrom_16 : pProg := (16, 2, a_iload 4) :: (18, 2, a_iconst 60) :: (20, 3, a_icmp_ge 89) :: (23, 1, a_aload 0) :: (24, 3, a_getf 0 4 5) :: (27, 1, a_iload 1) :: (28, 1, a_iald 6) :: (29, 2, a_iconst 19) :: (31, 3, a_icmp_ge 89) :: (34, 1, a_aload 0) :: (35, 1, a_dup) :: (36, 3, a_getf 0 4 8) :: (39, 1, a_iconst 1) :: (40, 1, a_iadd) :: (41, 3, a_putf 0 4 8 .int) :: (44, 1, a_aload 0) :: (45, 1, a_iload 1) :: (46, 1, a_aload 0) :: (47, 3, a_getf 0 4 8) :: (50, 3, a_callv 3 4 [0, 1, 2, 3, 4, 5, 6, 7, 8, 9, 10, 11, 12, 13, 14, 15, 16] tX6_speaker) :: (53, 2, a_istore 5) :: (55, 1, a_aload 0) :: (56, 1, a_iload 1) :: (57, 3, a_callv 2 4 [0, 1, 2, 3, 4, 5, 6, 7, 8, 9, 10, 11, 12, 13, 14, 15, 16] tX6_goesPair) :: (60, 1, a_iload 3) :: (61, 2, a_iload 5) :: (63, 3, a_if_ge 70) :: (66, 1, a_iconst 0) :: (67, 3, a_goto 81) :: []
def kX6_beamsFrom_0 : pProg := (0, 1, a_aload 0) :: (1, 3, a_callv 1 4 [0, 1, 2, 3, 4, 5, 6, 7, 8, 9, 10, 11, 12, 13, 14, 15, 16] tX6_thinks) :: (4, 1, a_aload 0) :: (5, 3, a_getf 0 4 5) :: (8, 1, a_iload 1) :: (9, 1, a_iload 2) :: (10, 1, a_iast 6) :: (11, 1, a_iconst 0) :: (12, 1, a_istore 3) :: (13, 1, a_iconst 0) :: (14, 2, a_istore 4) :: (16, 0, a_fall 16) :: []
set_option maxRecDepth 100000 in
theorem sX6_beamsFrom_123 (l : Launch) : AllS (pSnd l rmX6_beamsFrom yX6_beamsFrom.cls cX6_beamsFrom wsX6_beamsFrom 6 (some .int)) 123 kX6_beamsFrom_123 :=
  alls _ (s_iret dX6_beamsFrom_123) <|
  alls_nil _
set_option maxRecDepth 100000 in
theorem sX6_beamsFrom_120 (l : Launch) : AllS (pSnd l rmX6_beamsFrom yX6_beamsFrom.cls cX6_beamsFrom wsX6_beamsFrom 6 (some .int)) 120 kX6_beamsFrom_120 :=
  alls _ (s_sipush (by decide) dX6_beamsFrom_120) <|
  alls _ s_fall (alls_nil _)
set_option maxRecDepth 100000 in
theorem sX6_beamsFrom_105 (l : Launch) : AllS (pSnd l rmX6_beamsFrom yX6_beamsFrom.cls cX6_beamsFrom wsX6_beamsFrom 6 (some .int)) 105 kX6_beamsFrom_105 :=
  alls _ (s_istore dX6_beamsFrom_105) <|
  alls _ (s_aload_n rfl dX6_beamsFrom_107) <|
  alls _ (s_callv (ct_X6_forgets l) rfl rfl rfl (gdV wd_1020 wd_1022 wd_38 wd_65 wd_1023) rfl rfl (by decide +kernel) ⟨Nat.le_of_ble_eq_true rfl, Nat.le_of_ble_eq_true rfl⟩ dX6_beamsFrom_108) <|
  alls _ (s_iload dX6_beamsFrom_111) <|
  alls _ (s_if_eq (by decide) dX6_beamsFrom_113) <|
  alls _ (s_iload_n rfl dX6_beamsFrom_116) <|
  alls _ (s_goto (by decide) dX6_beamsFrom_117) <|
  alls_nil _
set_option maxRecDepth 100000 in
theorem sX6_beamsFrom_104 (l : Launch) : AllS (pSnd l rmX6_beamsFrom yX6_beamsFrom.cls cX6_beamsFrom wsX6_beamsFrom 6 (some .int)) 104 kX6_beamsFrom_104 :=
  alls _ (s_iconst dX6_beamsFrom_104) <|
  alls _ s_fall (alls_nil _)
set_option maxRecDepth 100000 in
theorem sX6_beamsFrom_89 (l : Launch) : AllS (pSnd l rmX6_beamsFrom yX6_beamsFrom.cls cX6_beamsFrom wsX6_beamsFrom 6 (some .int)) 89 kX6_beamsFrom_89 :=
  alls _ (s_aload_n rfl dX6_beamsFrom_89) <|
  alls _ (s_getf (C := RX6) (T := TX6) (N := 29) rfl (in_c inX6) (by decide) (List.mem_cons_of_mem _ wd_752) rfl dX6_beamsFrom_90) <|
  alls _ (s_iload_n rfl dX6_beamsFrom_93) <|
  alls _ (s_iald dX6_beamsFrom_94) <|
  alls _ (s_bipush (by decide) dX6_beamsFrom_95) <|
  alls _ (s_icmp_ne (by decide) dX6_beamsFrom_97) <|
  alls _ (s_iconst dX6_beamsFrom_100) <|
  alls _ (s_goto (by decide) dX6_beamsFrom_101) <|
  alls_nil _
set_option maxRecDepth 100000 in
theorem sX6_beamsFrom_81 (l : Launch) : AllS (pSnd l rmX6_beamsFrom yX6_beamsFrom.cls cX6_beamsFrom wsX6_beamsFrom 6 (some .int)) 81 kX6_beamsFrom_81 :=
  alls _ (s_iadd dX6_beamsFrom_81) <|
  alls _ (s_istore_n rfl dX6_beamsFrom_82) <|
  alls _ (s_iinc dX6_beamsFrom_83) <|
  alls _ (s_goto (by decide) dX6_beamsFrom_86) <|
  alls_nil _
set_option maxRecDepth 100000 in
theorem sX6_beamsFrom_70 (l : Launch) : AllS (pSnd l rmX6_beamsFrom yX6_beamsFrom.cls cX6_beamsFrom wsX6_beamsFrom 6 (some .int)) 70 kX6_beamsFrom_70 :=
  alls _ (s_aload_n rfl dX6_beamsFrom_70) <|
  alls _ (s_getf (C := RX6) (T := TX6) (N := 29) rfl (in_c inX6) (by decide) (List.mem_cons_of_mem _ wd_748) rfl dX6_beamsFrom_71) <|
  alls _ (s_aload_n rfl dX6_beamsFrom_74) <|
  alls _ (s_getf (C := RX6) (T := TX6) (N := 29) rfl (in_c inX6) (by decide) (List.mem_cons_of_mem _ wd_752) rfl dX6_beamsFrom_75) <|
  alls _ (s_iload_n rfl dX6_beamsFrom_78) <|
  alls _ (s_iald dX6_beamsFrom_79) <|
  alls _ (s_iald dX6_beamsFrom_80) <|
  alls _ s_fall (alls_nil _)
set_option maxRecDepth 100000 in
theorem sX6_beamsFrom_16 (l : Launch) : AllS (pSnd l rmX6_beamsFrom yX6_beamsFrom.cls cX6_beamsFrom wsX6_beamsFrom 6 (some .int)) 16 kX6_beamsFrom_16 :=
  alls _ (s_iload dX6_beamsFrom_16) <|
  alls _ (s_bipush (by decide) dX6_beamsFrom_18) <|
  alls _ (s_icmp_ge (by decide) dX6_beamsFrom_20) <|
  alls _ (s_aload_n rfl dX6_beamsFrom_23) <|
  alls _ (s_getf (C := RX6) (T := TX6) (N := 29) rfl (in_c inX6) (by decide) (List.mem_cons_of_mem _ wd_752) rfl dX6_beamsFrom_24) <|
  alls _ (s_iload_n rfl dX6_beamsFrom_27) <|
  alls _ (s_iald dX6_beamsFrom_28) <|
  alls _ (s_bipush (by decide) dX6_beamsFrom_29) <|
  alls _ (s_icmp_ge (by decide) dX6_beamsFrom_31) <|
  alls _ (s_aload_n rfl dX6_beamsFrom_34) <|
  alls _ (s_dup dX6_beamsFrom_35) <|
  alls _ (s_getf (C := RX6) (T := TX6) (N := 29) rfl (in_c inX6) (by decide) (List.mem_cons_of_mem _ wd_755) rfl dX6_beamsFrom_36) <|
  alls _ (s_iconst dX6_beamsFrom_39) <|
  alls _ (s_iadd dX6_beamsFrom_40) <|
  alls _ (s_putf (C := RX6) (T := TX6) (N := 29) tyX6 rfl (in_c inX6) tyX6_ok nmX6 (by decide) (List.mem_cons_of_mem _ wd_755) rfl rfl (tyX6_ok 8 (by decide)) dX6_beamsFrom_41) <|
  alls _ (s_aload_n rfl dX6_beamsFrom_44) <|
  alls _ (s_iload_n rfl dX6_beamsFrom_45) <|
  alls _ (s_aload_n rfl dX6_beamsFrom_46) <|
  alls _ (s_getf (C := RX6) (T := TX6) (N := 29) rfl (in_c inX6) (by decide) (List.mem_cons_of_mem _ wd_755) rfl dX6_beamsFrom_47) <|
  alls _ (s_callv (ct_X6_speaker l) rfl rfl rfl (gdV wd_942 wd_944 wd_32 wd_65 wd_945) rfl rfl (by decide +kernel) ⟨Nat.le_of_ble_eq_true rfl, Nat.le_of_ble_eq_true rfl⟩ dX6_beamsFrom_50) <|
  alls _ (s_istore dX6_beamsFrom_53) <|
  alls _ (s_aload_n rfl dX6_beamsFrom_55) <|
  alls _ (s_iload_n rfl dX6_beamsFrom_56) <|
  alls _ (s_callv (ct_X6_goesPair l) rfl rfl rfl (gdV wd_938 wd_940 wd_31 wd_65 wd_941) rfl rfl (by decide +kernel) ⟨Nat.le_of_ble_eq_true rfl, Nat.le_of_ble_eq_true rfl⟩ dX6_beamsFrom_57) <|
  alls _ (s_iload_n rfl dX6_beamsFrom_60) <|
  alls _ (s_iload dX6_beamsFrom_61) <|
  alls _ (s_if_ge (by decide) dX6_beamsFrom_63) <|
  alls _ (s_iconst dX6_beamsFrom_66) <|
  alls _ (s_goto (by decide) dX6_beamsFrom_67) <|
  alls_nil _
set_option maxRecDepth 100000 in
theorem sX6_beamsFrom_0 (l : Launch) : AllS (pSnd l rmX6_beamsFrom yX6_beamsFrom.cls cX6_beamsFrom wsX6_beamsFrom 6 (some .int)) 0 kX6_beamsFrom_0 :=
  alls _ (s_aload_n rfl dX6_beamsFrom_0) <|
  alls _ (s_callv (ct_X6_thinks l) rfl rfl rfl (gdV wd_1016 wd_1018 wd_37 wd_65 wd_1019) rfl rfl (by decide +kernel) ⟨Nat.le_of_ble_eq_true rfl, Nat.le_of_ble_eq_true rfl⟩ dX6_beamsFrom_1) <|
  alls _ (s_aload_n rfl dX6_beamsFrom_4) <|
  alls _ (s_getf (C := RX6) (T := TX6) (N := 29) rfl (in_c inX6) (by decide) (List.mem_cons_of_mem _ wd_752) rfl dX6_beamsFrom_5) <|
  alls _ (s_iload_n rfl dX6_beamsFrom_8) <|
  alls _ (s_iload_n rfl dX6_beamsFrom_9) <|
  alls _ (s_iast dX6_beamsFrom_10) <|
  alls _ (s_iconst dX6_beamsFrom_11) <|
  alls _ (s_istore_n rfl dX6_beamsFrom_12) <|
  alls _ (s_iconst dX6_beamsFrom_13) <|
  alls _ (s_istore dX6_beamsFrom_14) <|
  alls _ s_fall (alls_nil _)
def KX6_beamsFrom : List (Nat × pProg) := [(0, kX6_beamsFrom_0), (16, kX6_beamsFrom_16), (70, kX6_beamsFrom_70), (81, kX6_beamsFrom_81), (89, kX6_beamsFrom_89), (104, kX6_beamsFrom_104), (105, kX6_beamsFrom_105), (120, kX6_beamsFrom_120), (123, kX6_beamsFrom_123)]
theorem bX6_beamsFrom_0 : blkOf KX6_beamsFrom 0 = some kX6_beamsFrom_0 := rfl
theorem bX6_beamsFrom_16 : blkOf KX6_beamsFrom 16 = some kX6_beamsFrom_16 := rfl
theorem bX6_beamsFrom_70 : blkOf KX6_beamsFrom 70 = some kX6_beamsFrom_70 := rfl
theorem bX6_beamsFrom_81 : blkOf KX6_beamsFrom 81 = some kX6_beamsFrom_81 := rfl
theorem bX6_beamsFrom_89 : blkOf KX6_beamsFrom 89 = some kX6_beamsFrom_89 := rfl
theorem bX6_beamsFrom_104 : blkOf KX6_beamsFrom 104 = some kX6_beamsFrom_104 := rfl
theorem bX6_beamsFrom_105 : blkOf KX6_beamsFrom 105 = some kX6_beamsFrom_105 := rfl
theorem bX6_beamsFrom_120 : blkOf KX6_beamsFrom 120 = some kX6_beamsFrom_120 := rfl
theorem bX6_beamsFrom_123 : blkOf KX6_beamsFrom 123 = some kX6_beamsFrom_123 := rfl
def tX6_beamsFrom : pT := pM KX6_beamsFrom 6
theorem ct_X6_beamsFrom (l : Launch) : pCtr l yX6_beamsFrom wsX6_beamsFrom rmX6_beamsFrom 3 tX6_beamsFrom := ctr_of (by decide +kernel) rfl (List.forall_mem_cons.mpr ⟨sX6_beamsFrom_0 l, List.forall_mem_cons.mpr ⟨sX6_beamsFrom_16 l, List.forall_mem_cons.mpr ⟨sX6_beamsFrom_70 l, List.forall_mem_cons.mpr ⟨sX6_beamsFrom_81 l, List.forall_mem_cons.mpr ⟨sX6_beamsFrom_89 l, List.forall_mem_cons.mpr ⟨sX6_beamsFrom_104 l, List.forall_mem_cons.mpr ⟨sX6_beamsFrom_105 l, List.forall_mem_cons.mpr ⟨sX6_beamsFrom_120 l, List.forall_mem_cons.mpr ⟨sX6_beamsFrom_123 l, fun _ h => absurd h List.not_mem_nil⟩⟩⟩⟩⟩⟩⟩⟩⟩)
theorem dX6_bestCell_0 : decode cX6_bestCell 0 = .ok (.aload_n 0, 1) := by decide +kernel
theorem dX6_bestCell_1 : decode cX6_bestCell 1 = .ok (.iload_n 1, 1) := by decide +kernel
theorem dX6_bestCell_2 : decode cX6_bestCell 2 = .ok (.invokevirtual 106, 3) := by decide +kernel
theorem dX6_bestCell_5 : decode cX6_bestCell 5 = .ok (.ifCond .ne 7, 3) := by decide +kernel
theorem dX6_bestCell_8 : decode cX6_bestCell 8 = .ok (.iconst (-1), 1) := by decide +kernel
theorem dX6_bestCell_9 : decode cX6_bestCell 9 = .ok (.goto 18, 3) := by decide +kernel
theorem dX6_bestCell_12 : decode cX6_bestCell 12 = .ok (.iload_n 2, 1) := by decide +kernel
theorem dX6_bestCell_13 : decode cX6_bestCell 13 = .ok (.iconst 0, 1) := by decide +kernel
theorem dX6_bestCell_14 : decode cX6_bestCell 14 = .ok (.iconst 1, 1) := by decide +kernel
theorem dX6_bestCell_15 : decode cX6_bestCell 15 = .ok (.invokestatic 82, 3) := by decide +kernel
theorem dX6_bestCell_18 : decode cX6_bestCell 18 = .ok (.ifCond .ne 8, 3) := by decide +kernel
theorem dX6_bestCell_21 : decode cX6_bestCell 21 = .ok (.bipush (-2), 2) := by decide +kernel
theorem dX6_bestCell_23 : decode cX6_bestCell 23 = .ok (.goto 4, 3) := by decide +kernel
theorem dX6_bestCell_26 : decode cX6_bestCell 26 = .ok (.iconst 0, 1) := by decide +kernel
theorem dX6_bestCell_27 : decode cX6_bestCell 27 = .ok (.istore_n 3, 1) := by decide +kernel
theorem dX6_bestCell_28 : decode cX6_bestCell 28 = .ok (.iload_n 3, 1) := by decide +kernel
theorem dX6_bestCell_29 : decode cX6_bestCell 29 = .ok (.ifCond .eq 9, 3) := by decide +kernel
theorem dX6_bestCell_32 : decode cX6_bestCell 32 = .ok (.aload_n 0, 1) := by decide +kernel
theorem dX6_bestCell_33 : decode cX6_bestCell 33 = .ok (.iload_n 3, 1) := by decide +kernel
theorem dX6_bestCell_34 : decode cX6_bestCell 34 = .ok (.invokevirtual 71, 3) := by decide +kernel
theorem dX6_bestCell_37 : decode cX6_bestCell 37 = .ok (.ireturn, 1) := by decide +kernel
theorem dX6_bestCell_38 : decode cX6_bestCell 38 = .ok (.bipush (-9), 2) := by decide +kernel
theorem dX6_bestCell_40 : decode cX6_bestCell 40 = .ok (.istore 4, 2) := by decide +kernel
theorem dX6_bestCell_42 : decode cX6_bestCell 42 = .ok (.sipush 10000, 3) := by decide +kernel
theorem dX6_bestCell_45 : decode cX6_bestCell 45 = .ok (.istore 5, 2) := by decide +kernel
theorem dX6_bestCell_47 : decode cX6_bestCell 47 = .ok (.iconst 0, 1) := by decide +kernel
theorem dX6_bestCell_48 : decode cX6_bestCell 48 = .ok (.istore 6, 2) := by decide +kernel
theorem dX6_bestCell_50 : decode cX6_bestCell 50 = .ok (.iload 6, 2) := by decide +kernel
theorem dX6_bestCell_52 : decode cX6_bestCell 52 = .ok (.bipush 20, 2) := by decide +kernel
theorem dX6_bestCell_54 : decode cX6_bestCell 54 = .ok (.if_icmp .ge 36, 3) := by decide +kernel
theorem dX6_bestCell_57 : decode cX6_bestCell 57 = .ok (.aload_n 0, 1) := by decide +kernel
theorem dX6_bestCell_58 : decode cX6_bestCell 58 = .ok (.iload_n 1, 1) := by decide +kernel
theorem dX6_bestCell_59 : decode cX6_bestCell 59 = .ok (.iload 6, 2) := by decide +kernel
theorem dX6_bestCell_61 : decode cX6_bestCell 61 = .ok (.invokevirtual 231, 3) := by decide +kernel
theorem dX6_bestCell_64 : decode cX6_bestCell 64 = .ok (.istore 7, 2) := by decide +kernel
theorem dX6_bestCell_66 : decode cX6_bestCell 66 = .ok (.iload 7, 2) := by decide +kernel
theorem dX6_bestCell_68 : decode cX6_bestCell 68 = .ok (.iload 5, 2) := by decide +kernel
theorem dX6_bestCell_70 : decode cX6_bestCell 70 = .ok (.if_icmp .lt 6, 3) := by decide +kernel
theorem dX6_bestCell_73 : decode cX6_bestCell 73 = .ok (.goto 11, 3) := by decide +kernel
theorem dX6_bestCell_76 : decode cX6_bestCell 76 = .ok (.iload 6, 2) := by decide +kernel
theorem dX6_bestCell_78 : decode cX6_bestCell 78 = .ok (.istore 4, 2) := by decide +kernel
theorem dX6_bestCell_80 : decode cX6_bestCell 80 = .ok (.iload 7, 2) := by decide +kernel
theorem dX6_bestCell_82 : decode cX6_bestCell 82 = .ok (.istore 5, 2) := by decide +kernel
theorem dX6_bestCell_84 : decode cX6_bestCell 84 = .ok (.iinc 6 1, 3) := by decide +kernel
theorem dX6_bestCell_87 : decode cX6_bestCell 87 = .ok (.goto (-37), 3) := by decide +kernel
theorem dX6_bestCell_90 : decode cX6_bestCell 90 = .ok (.iload_n 2, 1) := by decide +kernel
theorem dX6_bestCell_91 : decode cX6_bestCell 91 = .ok (.ifCond .eq 8, 3) := by decide +kernel
theorem dX6_bestCell_94 : decode cX6_bestCell 94 = .ok (.iload 4, 2) := by decide +kernel
theorem dX6_bestCell_96 : decode cX6_bestCell 96 = .ok (.ifCond .ge 8, 3) := by decide +kernel
theorem dX6_bestCell_99 : decode cX6_bestCell 99 = .ok (.iload 4, 2) := by decide +kernel
theorem dX6_bestCell_101 : decode cX6_bestCell 101 = .ok (.goto 5, 3) := by decide +kernel
theorem dX6_bestCell_104 : decode cX6_bestCell 104 = .ok (.iload 5, 2) := by decide +kernel
theorem dX6_bestCell_106 : decode cX6_bestCell 106 = .ok (.ireturn, 1) := by decide +kernel
def rmX6_bestCell : Room := { frames := 5, cells := 0, slots := 0, locals := 115 }
abbrev wsX6_bestCell : List Cond := .code yX6_bestCell cX6_bestCell 8 (some .int) :: gw_tbl
def kX6_bestCell_106 : pProg := (106, 1, a_iret) :: []
def kX6_bestCell_104 : pProg := (104, 2, a_iload 5) :: (106, 0, a_fall 106) :: []
def kX6_bestCell_99 : pProg := (99, 2, a_iload 4) :: (101, 3, a_goto 106) :: []
def kX6_bestCell_90 : pProg := (90, 1, a_iload 2) :: (91, 3, a_if_eq 99) :: (94, 2, a_iload 4) :: (96, 3, a_if_ge 104) :: (99, 0, a_fall 99) :: []
def kX6_bestCell_84 : pProg := (84, 3, a_iinc 6 1) :: (87, 3, a_goto 50) :: []
def kX6_bestCell_76 : pProg := (76, 2, a_iload 6) :: (78, 2, a_istore 4) :: (80, 2, a_iload 7) :: (82, 2, a_istore 5) :: (84, 0, a_fall 84) :: []
def kX6_bestCell_50 : pProg := (50, 2, a_iload 6) :: (52, 2, a_iconst 20) :: (54, 3, a_icmp_ge 90) :: (57, 1, a_aload 0) :: (58, 1, a_iload 1) :: (59, 2, a_iload 6) :: (61, 3, a_callv 3 4 [0, 1, 2, 3, 4, 5, 6, 7, 8, 9, 10, 11, 12, 13, 14, 15, 16] tX6_beamsFrom) :: (64, 2, a_istore 7) :: (66, 2, a_iload 7) :: (68, 2, a_iload 5) :: (70, 3, a_icmp_lt 76) :: (73, 3, a_goto 84) :: []
def kX6_bestCell_38 : pProg := (38, 2, a_iconst (-9)) :: (40, 2, a_istore 4) :: (42, 3, a_iconst 10000) :: (45, 2, a_istore 5) :: (47, 1, a_iconst 0) :: (48, 2, a_istore 6) :: (50, 0, a_fall 50) :: []
def kX6_bestCell_27 : pProg := (27, 1, a_istore 3) :: (28, 1, a_iload 3) :: (29, 3, a_if_eq 38) :: (32, 1, a_aload 0) :: (33, 1, a_iload 3) :: (34, 3, a_callv 2 4 [0, 1, 2, 3, 4, 5, 6, 7, 8, 9, 10, 11, 12, 13, 14, 15, 16] tX6_no) :: (37, 1, a_iret) :: []
def kX6_bestCell_26 : pProg := (26, 1, a_iconst 0) :: (27, 0, a_fall 27) :: []
def kX6_bestCell_12 : pProg := (12, 1, a_iload 2) :: (13, 1, a_iconst 0) :: (14, 1, a_iconst 1) :: (15, 3, a_calls 3 [] tX6_isIn) :: (18, 3, a_if_ne 26) :: (21, 2, a_iconst (-2)) :: (23, 3, a_goto 27) :: []
def kX6_bestCell_0 : pProg := (0, 1, a_aload 0) :: (1, 1, a_iload 1) :: (2, 3, a_callv 2 4 [0, 1, 2, 3, 4, 5, 6, 7, 8, 9, 10, 11, 12, 13, 14, 15, 16] tX6_isPair) :: (5, 3, a_if_ne 12) :: (8, 1, a_iconst (-1)) :: (9, 3, a_goto 27) :: []
set_option maxRecDepth 100000 in
theorem sX6_bestCell_106 (l : Launch) : AllS (pSnd l rmX6_bestCell yX6_bestCell.cls cX6_bestCell wsX6_bestCell 8 (some .int)) 106 kX6_bestCell_106 :=
  alls _ (s_iret dX6_bestCell_106) <|
  alls_nil _
set_option maxRecDepth 100000 in
theorem sX6_bestCell_104 (l : Launch) : AllS (pSnd l rmX6_bestCell yX6_bestCell.cls cX6_bestCell wsX6_bestCell 8 (some .int)) 104 kX6_bestCell_104 :=
  alls _ (s_iload dX6_bestCell_104) <|
  alls _ s_fall (alls_nil _)
set_option maxRecDepth 100000 in
theorem sX6_bestCell_99 (l : Launch) : AllS (pSnd l rmX6_bestCell yX6_bestCell.cls cX6_bestCell wsX6_bestCell 8 (some .int)) 99 kX6_bestCell_99 :=
  alls _ (s_iload dX6_bestCell_99) <|
  alls _ (s_goto (by decide) dX6_bestCell_101) <|
  alls_nil _
set_option maxRecDepth 100000 in
theorem sX6_bestCell_90 (l : Launch) : AllS (pSnd l rmX6_bestCell yX6_bestCell.cls cX6_bestCell wsX6_bestCell 8 (some .int)) 90 kX6_bestCell_90 :=
  alls _ (s_iload_n rfl dX6_bestCell_90) <|
  alls _ (s_if_eq (by decide) dX6_bestCell_91) <|
  alls _ (s_iload dX6_bestCell_94) <|
  alls _ (s_if_ge (by decide) dX6_bestCell_96) <|
  alls _ s_fall (alls_nil _)
set_option maxRecDepth 100000 in
theorem sX6_bestCell_84 (l : Launch) : AllS (pSnd l rmX6_bestCell yX6_bestCell.cls cX6_bestCell wsX6_bestCell 8 (some .int)) 84 kX6_bestCell_84 :=
  alls _ (s_iinc dX6_bestCell_84) <|
  alls _ (s_goto (by decide) dX6_bestCell_87) <|
  alls_nil _
set_option maxRecDepth 100000 in
theorem sX6_bestCell_76 (l : Launch) : AllS (pSnd l rmX6_bestCell yX6_bestCell.cls cX6_bestCell wsX6_bestCell 8 (some .int)) 76 kX6_bestCell_76 :=
  alls _ (s_iload dX6_bestCell_76) <|
  alls _ (s_istore dX6_bestCell_78) <|
  alls _ (s_iload dX6_bestCell_80) <|
  alls _ (s_istore dX6_bestCell_82) <|
  alls _ s_fall (alls_nil _)
set_option maxRecDepth 100000 in
theorem sX6_bestCell_50 (l : Launch) : AllS (pSnd l rmX6_bestCell yX6_bestCell.cls cX6_bestCell wsX6_bestCell 8 (some .int)) 50 kX6_bestCell_50 :=
  alls _ (s_iload dX6_bestCell_50) <|
  alls _ (s_bipush (by decide) dX6_bestCell_52) <|
  alls _ (s_icmp_ge (by decide) dX6_bestCell_54) <|
  alls _ (s_aload_n rfl dX6_bestCell_57) <|
  alls _ (s_iload_n rfl dX6_bestCell_58) <|
  alls _ (s_iload dX6_bestCell_59) <|
  alls _ (s_callv (ct_X6_beamsFrom l) rfl rfl rfl (gdV wd_1084 wd_1086 wd_45 wd_65 wd_1087) rfl rfl (by decide +kernel) ⟨Nat.le_of_ble_eq_true rfl, Nat.le_of_ble_eq_true rfl⟩ dX6_bestCell_61) <|
  alls _ (s_istore dX6_bestCell_64) <|
  alls _ (s_iload dX6_bestCell_66) <|
  alls _ (s_iload dX6_bestCell_68) <|
  alls _ (s_icmp_lt (by decide) dX6_bestCell_70) <|
  alls _ (s_goto (by decide) dX6_bestCell_73) <|
  alls_nil _
set_option maxRecDepth 100000 in
theorem sX6_bestCell_38 (l : Launch) : AllS (pSnd l rmX6_bestCell yX6_bestCell.cls cX6_bestCell wsX6_bestCell 8 (some .int)) 38 kX6_bestCell_38 :=
  alls _ (s_bipush (by decide) dX6_bestCell_38) <|
  alls _ (s_istore dX6_bestCell_40) <|
  alls _ (s_sipush (by decide) dX6_bestCell_42) <|
  alls _ (s_istore dX6_bestCell_45) <|
  alls _ (s_iconst dX6_bestCell_47) <|
  alls _ (s_istore dX6_bestCell_48) <|
  alls _ s_fall (alls_nil _)
set_option maxRecDepth 100000 in
theorem sX6_bestCell_27 (l : Launch) : AllS (pSnd l rmX6_bestCell yX6_bestCell.cls cX6_bestCell wsX6_bestCell 8 (some .int)) 27 kX6_bestCell_27 :=
  alls _ (s_istore_n rfl dX6_bestCell_27) <|
  alls _ (s_iload_n rfl dX6_bestCell_28) <|
  alls _ (s_if_eq (by decide) dX6_bestCell_29) <|
  alls _ (s_aload_n rfl dX6_bestCell_32) <|
  alls _ (s_iload_n rfl dX6_bestCell_33) <|
  alls _ (s_callv (ct_X6_no l) rfl rfl rfl (gdV wd_842 wd_844 wd_11 wd_65 wd_845) rfl rfl (by decide +kernel) ⟨Nat.le_of_ble_eq_true rfl, Nat.le_of_ble_eq_true rfl⟩ dX6_bestCell_34) <|
  alls _ (s_iret dX6_bestCell_37) <|
  alls_nil _
set_option maxRecDepth 100000 in
theorem sX6_bestCell_26 (l : Launch) : AllS (pSnd l rmX6_bestCell yX6_bestCell.cls cX6_bestCell wsX6_bestCell 8 (some .int)) 26 kX6_bestCell_26 :=
  alls _ (s_iconst dX6_bestCell_26) <|
  alls _ s_fall (alls_nil _)
set_option maxRecDepth 100000 in
theorem sX6_bestCell_12 (l : Launch) : AllS (pSnd l rmX6_bestCell yX6_bestCell.cls cX6_bestCell wsX6_bestCell 8 (some .int)) 12 kX6_bestCell_12 :=
  alls _ (s_iload_n rfl dX6_bestCell_12) <|
  alls _ (s_iconst dX6_bestCell_13) <|
  alls _ (s_iconst dX6_bestCell_14) <|
  alls _ (s_calls (ct_X6_isIn l) rfl rfl (gdS wd_868) (List.mem_cons_of_mem _ wd_866) (List.mem_cons_of_mem _ wd_867) (List.mem_cons_of_mem _ wd_65) rfl rfl (by decide +kernel) ⟨Nat.le_of_ble_eq_true rfl, Nat.le_of_ble_eq_true rfl⟩ dX6_bestCell_15) <|
  alls _ (s_if_ne (by decide) dX6_bestCell_18) <|
  alls _ (s_bipush (by decide) dX6_bestCell_21) <|
  alls _ (s_goto (by decide) dX6_bestCell_23) <|
  alls_nil _
set_option maxRecDepth 100000 in
theorem sX6_bestCell_0 (l : Launch) : AllS (pSnd l rmX6_bestCell yX6_bestCell.cls cX6_bestCell wsX6_bestCell 8 (some .int)) 0 kX6_bestCell_0 :=
  alls _ (s_aload_n rfl dX6_bestCell_0) <|
  alls _ (s_iload_n rfl dX6_bestCell_1) <|
  alls _ (s_callv (ct_X6_isPair l) rfl rfl rfl (gdV wd_907 wd_909 wd_24 wd_65 wd_910) rfl rfl (by decide +kernel) ⟨Nat.le_of_ble_eq_true rfl, Nat.le_of_ble_eq_true rfl⟩ dX6_bestCell_2) <|
  alls _ (s_if_ne (by decide) dX6_bestCell_5) <|
  alls _ (s_iconst dX6_bestCell_8) <|
  alls _ (s_goto (by decide) dX6_bestCell_9) <|
  alls_nil _
def KX6_bestCell : List (Nat × pProg) := [(0, kX6_bestCell_0), (12, kX6_bestCell_12), (26, kX6_bestCell_26), (27, kX6_bestCell_27), (38, kX6_bestCell_38), (50, kX6_bestCell_50), (76, kX6_bestCell_76), (84, kX6_bestCell_84), (90, kX6_bestCell_90), (99, kX6_bestCell_99), (104, kX6_bestCell_104), (106, kX6_bestCell_106)]
theorem bX6_bestCell_0 : blkOf KX6_bestCell 0 = some kX6_bestCell_0 := rfl
theorem bX6_bestCell_12 : blkOf KX6_bestCell 12 = some kX6_bestCell_12 := rfl
theorem bX6_bestCell_26 : blkOf KX6_bestCell 26 = some kX6_bestCell_26 := rfl
theorem bX6_bestCell_27 : blkOf KX6_bestCell 27 = some kX6_bestCell_27 := rfl
theorem bX6_bestCell_38 : blkOf KX6_bestCell 38 = some kX6_bestCell_38 := rfl
theorem bX6_bestCell_50 : blkOf KX6_bestCell 50 = some kX6_bestCell_50 := rfl
theorem bX6_bestCell_76 : blkOf KX6_bestCell 76 = some kX6_bestCell_76 := rfl
theorem bX6_bestCell_84 : blkOf KX6_bestCell 84 = some kX6_bestCell_84 := rfl
theorem bX6_bestCell_90 : blkOf KX6_bestCell 90 = some kX6_bestCell_90 := rfl
theorem bX6_bestCell_99 : blkOf KX6_bestCell 99 = some kX6_bestCell_99 := rfl
theorem bX6_bestCell_104 : blkOf KX6_bestCell 104 = some kX6_bestCell_104 := rfl
theorem bX6_bestCell_106 : blkOf KX6_bestCell 106 = some kX6_bestCell_106 := rfl
def tX6_bestCell : pT := pM KX6_bestCell 8
theorem ct_X6_bestCell (l : Launch) : pCtr l yX6_bestCell wsX6_bestCell rmX6_bestCell 3 tX6_bestCell := ctr_of (by decide +kernel) rfl (List.forall_mem_cons.mpr ⟨sX6_bestCell_0 l, List.forall_mem_cons.mpr ⟨sX6_bestCell_12 l, List.forall_mem_cons.mpr ⟨sX6_bestCell_26 l, List.forall_mem_cons.mpr ⟨sX6_bestCell_27 l, List.forall_mem_cons.mpr ⟨sX6_bestCell_38 l, List.forall_mem_cons.mpr ⟨sX6_bestCell_50 l, List.forall_mem_cons.mpr ⟨sX6_bestCell_76 l, List.forall_mem_cons.mpr ⟨sX6_bestCell_84 l, List.forall_mem_cons.mpr ⟨sX6_bestCell_90 l, List.forall_mem_cons.mpr ⟨sX6_bestCell_99 l, List.forall_mem_cons.mpr ⟨sX6_bestCell_104 l, List.forall_mem_cons.mpr ⟨sX6_bestCell_106 l, fun _ h => absurd h List.not_mem_nil⟩⟩⟩⟩⟩⟩⟩⟩⟩⟩⟩⟩)
theorem dX6_walksOne_0 : decode cX6_walksOne 0 = .ok (.iload_n 1, 1) := by decide +kernel
theorem dX6_walksOne_1 : decode cX6_walksOne 1 = .ok (.bipush 19, 2) := by decide +kernel
theorem dX6_walksOne_3 : decode cX6_walksOne 3 = .ok (.if_icmp .ne 45, 3) := by decide +kernel
theorem dX6_walksOne_6 : decode cX6_walksOne 6 = .ok (.aload_n 0, 1) := by decide +kernel
theorem dX6_walksOne_7 : decode cX6_walksOne 7 = .ok (.getfield 49, 3) := by decide +kernel
theorem dX6_walksOne_10 : decode cX6_walksOne 10 = .ok (.bipush 19, 2) := by decide +kernel
theorem dX6_walksOne_12 : decode cX6_walksOne 12 = .ok (.aload_n 0, 1) := by decide +kernel
theorem dX6_walksOne_13 : decode cX6_walksOne 13 = .ok (.getfield 46, 3) := by decide +kernel
theorem dX6_walksOne_16 : decode cX6_walksOne 16 = .ok (.bipush 19, 2) := by decide +kernel
theorem dX6_walksOne_18 : decode cX6_walksOne 18 = .ok (.iaload, 1) := by decide +kernel
theorem dX6_walksOne_19 : decode cX6_walksOne 19 = .ok (.aload_n 0, 1) := by decide +kernel
theorem dX6_walksOne_20 : decode cX6_walksOne 20 = .ok (.getfield 49, 3) := by decide +kernel
theorem dX6_walksOne_23 : decode cX6_walksOne 23 = .ok (.bipush 19, 2) := by decide +kernel
theorem dX6_walksOne_25 : decode cX6_walksOne 25 = .ok (.iaload, 1) := by decide +kernel
theorem dX6_walksOne_26 : decode cX6_walksOne 26 = .ok (.if_icmp .ge 13, 3) := by decide +kernel
theorem dX6_walksOne_29 : decode cX6_walksOne 29 = .ok (.aload_n 0, 1) := by decide +kernel
theorem dX6_walksOne_30 : decode cX6_walksOne 30 = .ok (.getfield 46, 3) := by decide +kernel
theorem dX6_walksOne_33 : decode cX6_walksOne 33 = .ok (.bipush 19, 2) := by decide +kernel
theorem dX6_walksOne_35 : decode cX6_walksOne 35 = .ok (.iaload, 1) := by decide +kernel
theorem dX6_walksOne_36 : decode cX6_walksOne 36 = .ok (.goto 10, 3) := by decide +kernel
theorem dX6_walksOne_39 : decode cX6_walksOne 39 = .ok (.aload_n 0, 1) := by decide +kernel
theorem dX6_walksOne_40 : decode cX6_walksOne 40 = .ok (.getfield 49, 3) := by decide +kernel
theorem dX6_walksOne_43 : decode cX6_walksOne 43 = .ok (.bipush 19, 2) := by decide +kernel
theorem dX6_walksOne_45 : decode cX6_walksOne 45 = .ok (.iaload, 1) := by decide +kernel
theorem dX6_walksOne_46 : decode cX6_walksOne 46 = .ok (.iastore, 1) := by decide +kernel
theorem dX6_walksOne_47 : decode cX6_walksOne 47 = .ok (.return_, 1) := by decide +kernel
theorem dX6_walksOne_48 : decode cX6_walksOne 48 = .ok (.aload_n 0, 1) := by decide +kernel
theorem dX6_walksOne_49 : decode cX6_walksOne 49 = .ok (.getfield 46, 3) := by decide +kernel
theorem dX6_walksOne_52 : decode cX6_walksOne 52 = .ok (.iload_n 1, 1) := by decide +kernel
theorem dX6_walksOne_53 : decode cX6_walksOne 53 = .ok (.iaload, 1) := by decide +kernel
theorem dX6_walksOne_54 : decode cX6_walksOne 54 = .ok (.aload_n 0, 1) := by decide +kernel
theorem dX6_walksOne_55 : decode cX6_walksOne 55 = .ok (.getfield 13, 3) := by decide +kernel
theorem dX6_walksOne_58 : decode cX6_walksOne 58 = .ok (.iload_n 1, 1) := by decide +kernel
theorem dX6_walksOne_59 : decode cX6_walksOne 59 = .ok (.iconst 1, 1) := by decide +kernel
theorem dX6_walksOne_60 : decode cX6_walksOne 60 = .ok (.iadd, 1) := by decide +kernel
theorem dX6_walksOne_61 : decode cX6_walksOne 61 = .ok (.iaload, 1) := by decide +kernel
theorem dX6_walksOne_62 : decode cX6_walksOne 62 = .ok (.iadd, 1) := by decide +kernel
theorem dX6_walksOne_63 : decode cX6_walksOne 63 = .ok (.istore_n 3, 1) := by decide +kernel
theorem dX6_walksOne_64 : decode cX6_walksOne 64 = .ok (.aload_n 0, 1) := by decide +kernel
theorem dX6_walksOne_65 : decode cX6_walksOne 65 = .ok (.getfield 49, 3) := by decide +kernel
theorem dX6_walksOne_68 : decode cX6_walksOne 68 = .ok (.iload_n 1, 1) := by decide +kernel
theorem dX6_walksOne_69 : decode cX6_walksOne 69 = .ok (.iconst 1, 1) := by decide +kernel
theorem dX6_walksOne_70 : decode cX6_walksOne 70 = .ok (.iadd, 1) := by decide +kernel
theorem dX6_walksOne_71 : decode cX6_walksOne 71 = .ok (.iload_n 3, 1) := by decide +kernel
theorem dX6_walksOne_72 : decode cX6_walksOne 72 = .ok (.aload_n 0, 1) := by decide +kernel
theorem dX6_walksOne_73 : decode cX6_walksOne 73 = .ok (.getfield 49, 3) := by decide +kernel
theorem dX6_walksOne_76 : decode cX6_walksOne 76 = .ok (.iload_n 1, 1) := by decide +kernel
theorem dX6_walksOne_77 : decode cX6_walksOne 77 = .ok (.iconst 1, 1) := by decide +kernel
theorem dX6_walksOne_78 : decode cX6_walksOne 78 = .ok (.iadd, 1) := by decide +kernel
theorem dX6_walksOne_79 : decode cX6_walksOne 79 = .ok (.iaload, 1) := by decide +kernel
theorem dX6_walksOne_80 : decode cX6_walksOne 80 = .ok (.if_icmp .ge 7, 3) := by decide +kernel
theorem dX6_walksOne_83 : decode cX6_walksOne 83 = .ok (.iload_n 3, 1) := by decide +kernel
theorem dX6_walksOne_84 : decode cX6_walksOne 84 = .ok (.goto 11, 3) := by decide +kernel
theorem dX6_walksOne_87 : decode cX6_walksOne 87 = .ok (.aload_n 0, 1) := by decide +kernel
theorem dX6_walksOne_88 : decode cX6_walksOne 88 = .ok (.getfield 49, 3) := by decide +kernel
theorem dX6_walksOne_91 : decode cX6_walksOne 91 = .ok (.iload_n 1, 1) := by decide +kernel
theorem dX6_walksOne_92 : decode cX6_walksOne 92 = .ok (.iconst 1, 1) := by decide +kernel
theorem dX6_walksOne_93 : decode cX6_walksOne 93 = .ok (.iadd, 1) := by decide +kernel
theorem dX6_walksOne_94 : decode cX6_walksOne 94 = .ok (.iaload, 1) := by decide +kernel
theorem dX6_walksOne_95 : decode cX6_walksOne 95 = .ok (.iastore, 1) := by decide +kernel
theorem dX6_walksOne_96 : decode cX6_walksOne 96 = .ok (.iload_n 1, 1) := by decide +kernel
theorem dX6_walksOne_97 : decode cX6_walksOne 97 = .ok (.iload_n 2, 1) := by decide +kernel
theorem dX6_walksOne_98 : decode cX6_walksOne 98 = .ok (.iadd, 1) := by decide +kernel
theorem dX6_walksOne_99 : decode cX6_walksOne 99 = .ok (.invokestatic 191, 3) := by decide +kernel
theorem dX6_walksOne_102 : decode cX6_walksOne 102 = .ok (.istore 4, 2) := by decide +kernel
theorem dX6_walksOne_104 : decode cX6_walksOne 104 = .ok (.aload_n 0, 1) := by decide +kernel
theorem dX6_walksOne_105 : decode cX6_walksOne 105 = .ok (.getfield 49, 3) := by decide +kernel
theorem dX6_walksOne_108 : decode cX6_walksOne 108 = .ok (.iload 4, 2) := by decide +kernel
theorem dX6_walksOne_110 : decode cX6_walksOne 110 = .ok (.aload_n 0, 1) := by decide +kernel
theorem dX6_walksOne_111 : decode cX6_walksOne 111 = .ok (.getfield 46, 3) := by decide +kernel
theorem dX6_walksOne_114 : decode cX6_walksOne 114 = .ok (.iload_n 1, 1) := by decide +kernel
theorem dX6_walksOne_115 : decode cX6_walksOne 115 = .ok (.iaload, 1) := by decide +kernel
theorem dX6_walksOne_116 : decode cX6_walksOne 116 = .ok (.aload_n 0, 1) := by decide +kernel
theorem dX6_walksOne_117 : decode cX6_walksOne 117 = .ok (.getfield 49, 3) := by decide +kernel
theorem dX6_walksOne_120 : decode cX6_walksOne 120 = .ok (.iload 4, 2) := by decide +kernel
theorem dX6_walksOne_122 : decode cX6_walksOne 122 = .ok (.iaload, 1) := by decide +kernel
theorem dX6_walksOne_123 : decode cX6_walksOne 123 = .ok (.if_icmp .ge 12, 3) := by decide +kernel
theorem dX6_walksOne_126 : decode cX6_walksOne 126 = .ok (.aload_n 0, 1) := by decide +kernel
theorem dX6_walksOne_127 : decode cX6_walksOne 127 = .ok (.getfield 46, 3) := by decide +kernel
theorem dX6_walksOne_130 : decode cX6_walksOne 130 = .ok (.iload_n 1, 1) := by decide +kernel
theorem dX6_walksOne_131 : decode cX6_walksOne 131 = .ok (.iaload, 1) := by decide +kernel
theorem dX6_walksOne_132 : decode cX6_walksOne 132 = .ok (.goto 10, 3) := by decide +kernel
theorem dX6_walksOne_135 : decode cX6_walksOne 135 = .ok (.aload_n 0, 1) := by decide +kernel
theorem dX6_walksOne_136 : decode cX6_walksOne 136 = .ok (.getfield 49, 3) := by decide +kernel
theorem dX6_walksOne_139 : decode cX6_walksOne 139 = .ok (.iload 4, 2) := by decide +kernel
theorem dX6_walksOne_141 : decode cX6_walksOne 141 = .ok (.iaload, 1) := by decide +kernel
theorem dX6_walksOne_142 : decode cX6_walksOne 142 = .ok (.iastore, 1) := by decide +kernel
theorem dX6_walksOne_143 : decode cX6_walksOne 143 = .ok (.return_, 1) := by decide +kernel
def rmX6_walksOne : Room := { frames := 1, cells := 0, slots := 0, locals := 20 }
abbrev wsX6_walksOne : List Cond := .code yX6_walksOne cX6_walksOne 5 none :: gw_tbl
def kX6_walksOne_142 : pProg := (142, 1, a_iast 14) :: (143, 1, a_vret) :: []
def kX6_walksOne_135 : pProg := (135, 1, a_aload 0) :: (136, 3, a_getf 0 4 24) :: (139, 2, a_iload 4) :: (141, 1, a_iald 14) :: (142, 0, a_fall 142) :: []
def kX6_walksOne_95 : pProg := (95, 1, a_iast 14) :: (96, 1, a_iload 1) :: (97, 1, a_iload 2) :: (98, 1, a_iadd) :: (99, 3, a_calls 1 [] tX6_faceAtMost) :: (102, 2, a_istore 4) :: (104, 1, a_aload 0) :: (105, 3, a_getf 0 4 24) :: (108, 2, a_iload 4) :: (110, 1, a_aload 0) :: (111, 3, a_getf 0 4 23) :: (114, 1, a_iload 1) :: (115, 1, a_iald 13) :: (116, 1, a_aload 0) :: (117, 3, a_getf 0 4 24) :: (120, 2, a_iload 4) :: (122, 1, a_iald 14) :: (123, 3, a_icmp_ge 135) :: (126, 1, a_aload 0) :: (127, 3, a_getf 0 4 23) :: (130, 1, a_iload 1) :: (131, 1, a_iald 13) :: (132, 3, a_goto 142) :: []
def kX6_walksOne_87 : pProg := (87, 1, a_aload 0) :: (88, 3, a_getf 0 4 24) :: (91, 1, a_iload 1) :: (92, 1, a_iconst 1) :: (93, 1, a_iadd) :: (94, 1, a_iald 14) :: (95, 0, a_fall 95) :: []
def kX6_walksOne_48 : pProg := (48, 1, a_aload 0) :: (49, 3, a_getf 0 4 23) :: (52, 1, a_iload 1) :: (53, 1, a_iald 13) :: (54, 1, a_aload 0) :: (55, 3, a_getf 0 4 1) :: (58, 1, a_iload 1) :: (59, 1, a_iconst 1) :: (60, 1, a_iadd) :: (61, 1, a_iald 2) :: (62, 1, a_iadd) :: (63, 1, a_istore 3) :: (64, 1, a_aload 0) :: (65, 3, a_getf 0 4 24) :: (68, 1, a_iload 1) :: (69, 1, a_iconst 1) :: (70, 1, a_iadd) :: (71, 1, a_iload 3) :: (72, 1, a_aload 0) :: (73, 3, a_getf 0 4 24) :: (76, 1, a_iload 1) :: (77, 1, a_iconst 1) :: (78, 1, a_iadd) :: (79, 1, a_iald 14) :: (80, 3, a_icmp_ge 87) :: (83, 1, a_iload 3) :: (84, 3, a_goto 95) :: []
def kX6_walksOne_46 : pProg := (46, 1, a_iast 14) :: (47, 1, a_vret) :: []
def kX6_walksOne_39 : pProg := (39, 1, a_aload 0) :: (40, 3, a_getf 0 4 24) :: (43, 2, a_iconst 19) :: (45, 1, a_iald 14) :: (46, 0, a_fall 46) :: []
def kX6_walksOne_0 : pProg := (0, 1, a_iload 1) :: (1, 2, a_iconst 19) :: (3, 3, a_icmp_ne 48) :: (6, 1, a_aload 0) :: (7, 3, a_getf 0 4 24) :: (10, 2, a_iconst 19) :: (12, 1, a_aload 0) :: (13, 3, a_getf 0 4 23) :: (16, 2, a_iconst 19) :: (18, 1, a_iald 13) :: (19, 1, a_aload 0) :: (20, 3, a_getf 0 4 24) :: (23, 2, a_iconst 19) :: (25, 1, a_iald 14) :: (26, 3, a_icmp_ge 39) :: (29, 1, a_aload 0) :: (30, 3, a_getf 0 4 23) :: (33, 2, a_iconst 19) :: (35, 1, a_iald 13) :: (36, 3, a_goto 46) :: []
set_option maxRecDepth 100000 in
theorem sX6_walksOne_142 (l : Launch) : AllS (pSnd l rmX6_walksOne yX6_walksOne.cls cX6_walksOne wsX6_walksOne 5 none) 142 kX6_walksOne_142 :=
  alls _ (s_iast dX6_walksOne_142) <|
  alls _ (s_vret dX6_walksOne_143) <|
  alls_nil _
set_option maxRecDepth 100000 in
theorem sX6_walksOne_135 (l : Launch) : AllS (pSnd l rmX6_walksOne yX6_walksOne.cls cX6_walksOne wsX6_walksOne 5 none) 135 kX6_walksOne_135 :=
  alls _ (s_aload_n rfl dX6_walksOne_135) <|
  alls _ (s_getf (C := RX6) (T := TX6) (N := 29) rfl (in_c inX6) (by decide) (List.mem_cons_of_mem _ wd_771) rfl dX6_walksOne_136) <|
  alls _ (s_iload dX6_walksOne_139) <|
  alls _ (s_iald dX6_walksOne_141) <|
  alls _ s_fall (alls_nil _)
set_option maxRecDepth 100000 in
theorem sX6_walksOne_95 (l : Launch) : AllS (pSnd l rmX6_walksOne yX6_walksOne.cls cX6_walksOne wsX6_walksOne 5 none) 95 kX6_walksOne_95 :=
  alls _ (s_iast dX6_walksOne_95) <|
  alls _ (s_iload_n rfl dX6_walksOne_96) <|
  alls _ (s_iload_n rfl dX6_walksOne_97) <|
  alls _ (s_iadd dX6_walksOne_98) <|
  alls _ (s_calls (ct_X6_faceAtMost l) rfl rfl (gdS wd_963) (List.mem_cons_of_mem _ wd_961) (List.mem_cons_of_mem _ wd_962) (List.mem_cons_of_mem _ wd_65) rfl rfl (by decide +kernel) ⟨Nat.le_of_ble_eq_true rfl, Nat.le_of_ble_eq_true rfl⟩ dX6_walksOne_99) <|
  alls _ (s_istore dX6_walksOne_102) <|
  alls _ (s_aload_n rfl dX6_walksOne_104) <|
  alls _ (s_getf (C := RX6) (T := TX6) (N := 29) rfl (in_c inX6) (by decide) (List.mem_cons_of_mem _ wd_771) rfl dX6_walksOne_105) <|
  alls _ (s_iload dX6_walksOne_108) <|
  alls _ (s_aload_n rfl dX6_walksOne_110) <|
  alls _ (s_getf (C := RX6) (T := TX6) (N := 29) rfl (in_c inX6) (by decide) (List.mem_cons_of_mem _ wd_770) rfl dX6_walksOne_111) <|
  alls _ (s_iload_n rfl dX6_walksOne_114) <|
  alls _ (s_iald dX6_walksOne_115) <|
  alls _ (s_aload_n rfl dX6_walksOne_116) <|
  alls _ (s_getf (C := RX6) (T := TX6) (N := 29) rfl (in_c inX6) (by decide) (List.mem_cons_of_mem _ wd_771) rfl dX6_walksOne_117) <|
  alls _ (s_iload dX6_walksOne_120) <|
  alls _ (s_iald dX6_walksOne_122) <|
  alls _ (s_icmp_ge (by decide) dX6_walksOne_123) <|
  alls _ (s_aload_n rfl dX6_walksOne_126) <|
  alls _ (s_getf (C := RX6) (T := TX6) (N := 29) rfl (in_c inX6) (by decide) (List.mem_cons_of_mem _ wd_770) rfl dX6_walksOne_127) <|
  alls _ (s_iload_n rfl dX6_walksOne_130) <|
  alls _ (s_iald dX6_walksOne_131) <|
  alls _ (s_goto (by decide) dX6_walksOne_132) <|
  alls_nil _
set_option maxRecDepth 100000 in
theorem sX6_walksOne_87 (l : Launch) : AllS (pSnd l rmX6_walksOne yX6_walksOne.cls cX6_walksOne wsX6_walksOne 5 none) 87 kX6_walksOne_87 :=
  alls _ (s_aload_n rfl dX6_walksOne_87) <|
  alls _ (s_getf (C := RX6) (T := TX6) (N := 29) rfl (in_c inX6) (by decide) (List.mem_cons_of_mem _ wd_771) rfl dX6_walksOne_88) <|
  alls _ (s_iload_n rfl dX6_walksOne_91) <|
  alls _ (s_iconst dX6_walksOne_92) <|
  alls _ (s_iadd dX6_walksOne_93) <|
  alls _ (s_iald dX6_walksOne_94) <|
  alls _ s_fall (alls_nil _)
set_option maxRecDepth 100000 in
theorem sX6_walksOne_48 (l : Launch) : AllS (pSnd l rmX6_walksOne yX6_walksOne.cls cX6_walksOne wsX6_walksOne 5 none) 48 kX6_walksOne_48 :=
  alls _ (s_aload_n rfl dX6_walksOne_48) <|
  alls _ (s_getf (C := RX6) (T := TX6) (N := 29) rfl (in_c inX6) (by decide) (List.mem_cons_of_mem _ wd_770) rfl dX6_walksOne_49) <|
  alls _ (s_iload_n rfl dX6_walksOne_52) <|
  alls _ (s_iald dX6_walksOne_53) <|
  alls _ (s_aload_n rfl dX6_walksOne_54) <|
  alls _ (s_getf (C := RX6) (T := TX6) (N := 29) rfl (in_c inX6) (by decide) (List.mem_cons_of_mem _ wd_748) rfl dX6_walksOne_55) <|
  alls _ (s_iload_n rfl dX6_walksOne_58) <|
  alls _ (s_iconst dX6_walksOne_59) <|
  alls _ (s_iadd dX6_walksOne_60) <|
  alls _ (s_iald dX6_walksOne_61) <|
  alls _ (s_iadd dX6_walksOne_62) <|
  alls _ (s_istore_n rfl dX6_walksOne_63) <|
  alls _ (s_aload_n rfl dX6_walksOne_64) <|
  alls _ (s_getf (C := RX6) (T := TX6) (N := 29) rfl (in_c inX6) (by decide) (List.mem_cons_of_mem _ wd_771) rfl dX6_walksOne_65) <|
  alls _ (s_iload_n rfl dX6_walksOne_68) <|
  alls _ (s_iconst dX6_walksOne_69) <|
  alls _ (s_iadd dX6_walksOne_70) <|
  alls _ (s_iload_n rfl dX6_walksOne_71) <|
  alls _ (s_aload_n rfl dX6_walksOne_72) <|
  alls _ (s_getf (C := RX6) (T := TX6) (N := 29) rfl (in_c inX6) (by decide) (List.mem_cons_of_mem _ wd_771) rfl dX6_walksOne_73) <|
  alls _ (s_iload_n rfl dX6_walksOne_76) <|
  alls _ (s_iconst dX6_walksOne_77) <|
  alls _ (s_iadd dX6_walksOne_78) <|
  alls _ (s_iald dX6_walksOne_79) <|
  alls _ (s_icmp_ge (by decide) dX6_walksOne_80) <|
  alls _ (s_iload_n rfl dX6_walksOne_83) <|
  alls _ (s_goto (by decide) dX6_walksOne_84) <|
  alls_nil _
set_option maxRecDepth 100000 in
theorem sX6_walksOne_46 (l : Launch) : AllS (pSnd l rmX6_walksOne yX6_walksOne.cls cX6_walksOne wsX6_walksOne 5 none) 46 kX6_walksOne_46 :=
  alls _ (s_iast dX6_walksOne_46) <|
  alls _ (s_vret dX6_walksOne_47) <|
  alls_nil _
set_option maxRecDepth 100000 in
theorem sX6_walksOne_39 (l : Launch) : AllS (pSnd l rmX6_walksOne yX6_walksOne.cls cX6_walksOne wsX6_walksOne 5 none) 39 kX6_walksOne_39 :=
  alls _ (s_aload_n rfl dX6_walksOne_39) <|
  alls _ (s_getf (C := RX6) (T := TX6) (N := 29) rfl (in_c inX6) (by decide) (List.mem_cons_of_mem _ wd_771) rfl dX6_walksOne_40) <|
  alls _ (s_bipush (by decide) dX6_walksOne_43) <|
  alls _ (s_iald dX6_walksOne_45) <|
  alls _ s_fall (alls_nil _)
set_option maxRecDepth 100000 in
theorem sX6_walksOne_0 (l : Launch) : AllS (pSnd l rmX6_walksOne yX6_walksOne.cls cX6_walksOne wsX6_walksOne 5 none) 0 kX6_walksOne_0 :=
  alls _ (s_iload_n rfl dX6_walksOne_0) <|
  alls _ (s_bipush (by decide) dX6_walksOne_1) <|
  alls _ (s_icmp_ne (by decide) dX6_walksOne_3) <|
  alls _ (s_aload_n rfl dX6_walksOne_6) <|
  alls _ (s_getf (C := RX6) (T := TX6) (N := 29) rfl (in_c inX6) (by decide) (List.mem_cons_of_mem _ wd_771) rfl dX6_walksOne_7) <|
  alls _ (s_bipush (by decide) dX6_walksOne_10) <|
  alls _ (s_aload_n rfl dX6_walksOne_12) <|
  alls _ (s_getf (C := RX6) (T := TX6) (N := 29) rfl (in_c inX6) (by decide) (List.mem_cons_of_mem _ wd_770) rfl dX6_walksOne_13) <|
  alls _ (s_bipush (by decide) dX6_walksOne_16) <|
  alls _ (s_iald dX6_walksOne_18) <|
  alls _ (s_aload_n rfl dX6_walksOne_19) <|
  alls _ (s_getf (C := RX6) (T := TX6) (N := 29) rfl (in_c inX6) (by decide) (List.mem_cons_of_mem _ wd_771) rfl dX6_walksOne_20) <|
  alls _ (s_bipush (by decide) dX6_walksOne_23) <|
  alls _ (s_iald dX6_walksOne_25) <|
  alls _ (s_icmp_ge (by decide) dX6_walksOne_26) <|
  alls _ (s_aload_n rfl dX6_walksOne_29) <|
  alls _ (s_getf (C := RX6) (T := TX6) (N := 29) rfl (in_c inX6) (by decide) (List.mem_cons_of_mem _ wd_770) rfl dX6_walksOne_30) <|
  alls _ (s_bipush (by decide) dX6_walksOne_33) <|
  alls _ (s_iald dX6_walksOne_35) <|
  alls _ (s_goto (by decide) dX6_walksOne_36) <|
  alls_nil _
def KX6_walksOne : List (Nat × pProg) := [(0, kX6_walksOne_0), (39, kX6_walksOne_39), (46, kX6_walksOne_46), (48, kX6_walksOne_48), (87, kX6_walksOne_87), (95, kX6_walksOne_95), (135, kX6_walksOne_135), (142, kX6_walksOne_142)]
theorem bX6_walksOne_0 : blkOf KX6_walksOne 0 = some kX6_walksOne_0 := rfl
theorem bX6_walksOne_39 : blkOf KX6_walksOne 39 = some kX6_walksOne_39 := rfl
theorem bX6_walksOne_46 : blkOf KX6_walksOne 46 = some kX6_walksOne_46 := rfl
theorem bX6_walksOne_48 : blkOf KX6_walksOne 48 = some kX6_walksOne_48 := rfl
theorem bX6_walksOne_87 : blkOf KX6_walksOne 87 = some kX6_walksOne_87 := rfl
theorem bX6_walksOne_95 : blkOf KX6_walksOne 95 = some kX6_walksOne_95 := rfl
theorem bX6_walksOne_135 : blkOf KX6_walksOne 135 = some kX6_walksOne_135 := rfl
theorem bX6_walksOne_142 : blkOf KX6_walksOne 142 = some kX6_walksOne_142 := rfl
def tX6_walksOne : pT := pM KX6_walksOne 5
theorem ct_X6_walksOne (l : Launch) : pCtr l yX6_walksOne wsX6_walksOne rmX6_walksOne 3 tX6_walksOne := ctr_of (by decide +kernel) rfl (List.forall_mem_cons.mpr ⟨sX6_walksOne_0 l, List.forall_mem_cons.mpr ⟨sX6_walksOne_39 l, List.forall_mem_cons.mpr ⟨sX6_walksOne_46 l, List.forall_mem_cons.mpr ⟨sX6_walksOne_48 l, List.forall_mem_cons.mpr ⟨sX6_walksOne_87 l, List.forall_mem_cons.mpr ⟨sX6_walksOne_95 l, List.forall_mem_cons.mpr ⟨sX6_walksOne_135 l, List.forall_mem_cons.mpr ⟨sX6_walksOne_142 l, fun _ h => absurd h List.not_mem_nil⟩⟩⟩⟩⟩⟩⟩⟩)
