/-! tables of the program by numbers: classes 0 .. 5 (Fault, Layout, LinkModule, Machine, LinkStation, LinkStationModel), 6 the law, 7 Math, 8 Arrays; methods; links -/
def xWT : List Cond := lw_tbl.filter goodWord
def xok (p : Nat) (w : Cond) : Bool := decide (lw_tbl[p]? = some w) && goodWord w
theorem xok_mem {p : Nat} {w : Cond} (h : xok p w = true) : w ∈ xWT := by
  unfold xok at h
  rw [Bool.and_eq_true, decide_eq_true_eq] at h
  exact List.mem_filter.mpr ⟨List.mem_of_getElem? h.1, h.2⟩
def xR (c : Nat) : String := match c with
  | 0 => RX0
  | 1 => RX1
  | 2 => RX2
  | 3 => RX3
  | 4 => RX4
  | 5 => RX5
  | 6 => RL
  | 7 => RJ9
  | _ => RJ7
def xT (c : Nat) : u_T := match c with
  | 0 => TX0
  | 1 => TX1
  | 2 => TX2
  | 3 => TX3
  | 4 => TX4
  | _ => TX5
def xN (c : Nat) : Nat := match c with
  | 0 => 4
  | 1 => 9
  | 2 => 16
  | 3 => 15
  | 4 => 6
  | _ => 39
def xty (c : Nat) : Nat → FieldType := match c with
  | 0 => tyX0
  | 1 => tyX1
  | 2 => tyX2
  | 3 => tyX3
  | 4 => tyX4
  | _ => tyX5
theorem xty_ok : ∀ c, c < 6 → ∀ k, k < xN c → parseFieldDescriptor ((xT c k).2.2.1) = some (xty c k) := by
  intro c hc
  match c, hc with
  | 0, _ => exact tyX0_ok
  | 1, _ => exact tyX1_ok
  | 2, _ => exact tyX2_ok
  | 3, _ => exact tyX3_ok
  | 4, _ => exact tyX4_ok
  | 5, _ => exact tyX5_ok
  | n + 6, h => exact absurd h (by omega)
theorem xnm_ok : ∀ c, c < 6 → ∀ a, a < xN c → ∀ b, b < xN c → a ≠ b → (xT c a).2.1 ≠ (xT c b).2.1 := by
  intro c hc
  match c, hc with
  | 0, _ => exact nmX0
  | 1, _ => exact nmX1
  | 2, _ => exact nmX2
  | 3, _ => exact nmX3
  | 4, _ => exact nmX4
  | 5, _ => exact nmX5
  | n + 6, h => exact absurd h (by omega)
abbrev xMt : Type := MethodName × ByteArray × Nat × Option FieldType × Nat × Nat × Nat
/-- name, code, locals, answer, class, 0 virtual 1 <init> 2 static, parameters -/
def xMs : List xMt := [(yX0_init, cX0_init, 1, none, 0, 1, 0),
  (yX0_become, cX0_become, 5, none, 0, 0, 4),
  (yX1_init, cX1_init, 2, none, 1, 1, 1),
  (yX1_clear, cX1_clear, 1, none, 1, 0, 0),
  (yX1_arrange, cX1_arrange, 4, none, 1, 0, 2),
  (yX1_placeFrom, cX1_placeFrom, 5, none, 1, 0, 1),
  (yX1_append, cX1_append, 2, none, 1, 0, 1),
  (yX1_beginFrom, cX1_beginFrom, 5, none, 1, 2, 3),
  (yX1_findGivers, cX1_findGivers, 4, none, 1, 0, 0),
  (yX1_isBetterGiver, cX1_isBetterGiver, 4, some .boolean, 1, 0, 2),
  (yX1_holds, cX1_holds, 2, some .boolean, 1, 0, 1),
  (yX1_giverOf, cX1_giverOf, 3, some .int, 1, 0, 2),
  (yX1_findFault, cX1_findFault, 3, none, 1, 0, 1),
  (yX1_findFaultIn, cX1_findFaultIn, 5, none, 1, 0, 2),
  (yX1_lookAtUse, cX1_lookAtUse, 7, none, 1, 0, 5),
  (yX1_refresh, cX1_refresh, 3, none, 1, 0, 0),
  (yX1_refreshSlots, cX1_refreshSlots, 5, none, 1, 0, 1),
  (yX1_isTrulyBound, cX1_isTrulyBound, 5, some .boolean, 1, 0, 0),
  (yX1_addressOf, cX1_addressOf, 4, some .int, 1, 0, 2),
  (yX2_init, cX2_init, 1, none, 2, 1, 0),
  (yX2_addNeed, cX2_addNeed, 3, some .boolean, 2, 0, 1),
  (yX2_addDefinition, cX2_addDefinition, 5, some .boolean, 2, 0, 4),
  (yX2_addStep, cX2_addStep, 5, some .boolean, 2, 0, 4),
  (yX2_keepsToItself, cX2_keepsToItself, 2, some .boolean, 2, 0, 1),
  (yX2_offers, cX2_offers, 2, some .boolean, 2, 0, 1),
  (yX2_isWeak, cX2_isWeak, 2, some .boolean, 2, 0, 1),
  (yX2_nameUsedAt, cX2_nameUsedAt, 2, some .int, 2, 0, 1),
  (yX2_kindWantedAt, cX2_kindWantedAt, 2, some .int, 2, 0, 1),
  (yX3_init, cX3_init, 1, none, 3, 1, 0),
  (yX3_prepare, cX3_prepare, 5, none, 3, 0, 2),
  (yX3_addStart, cX3_addStart, 5, none, 3, 0, 3),
  (yX3_go, cX3_go, 5, some .int, 3, 0, 2),
  (yX3_takeTurn, cX3_takeTurn, 6, some .int, 3, 0, 2),
  (yX3_makeStep, cX3_makeStep, 6, some .int, 3, 0, 5),
  (yX3_reckon, cX3_reckon, 5, none, 3, 0, 4),
  (yX3_callName, cX3_callName, 5, some .int, 3, 0, 2),
  (yX3_callAt, cX3_callAt, 6, some .int, 3, 0, 2),
  (yX3_enter, cX3_enter, 3, some .int, 3, 0, 2),
  (yX3_goBack, cX3_goBack, 1, some .int, 3, 0, 0),
  (yX3_startNext, cX3_startNext, 1, some .int, 3, 0, 0),
  (yX3_readDatum, cX3_readDatum, 4, some .int, 3, 0, 2),
  (yX3_writeDatum, cX3_writeDatum, 5, none, 3, 0, 3),
  (yX3_say, cX3_say, 2, none, 3, 0, 1),
  (yX4_init, cX4_init, 4, none, 4, 1, 0),
  (yX4_module, cX4_module, 1, some .int, 4, 0, 0),
  (yX4_need, cX4_need, 3, some .int, 4, 0, 2),
  (yX4_define, cX4_define, 7, some .int, 4, 0, 5),
  (yX4_optional, cX4_optional, 3, some .int, 4, 0, 2),
  (yX4_beginner, cX4_beginner, 3, some .int, 4, 0, 2),
  (yX4_put, cX4_put, 6, some .int, 4, 0, 5),
  (yX4_load, cX4_load, 3, some .int, 4, 0, 2),
  (yX4_fault, cX4_fault, 2, some .int, 4, 0, 1),
  (yX4_order, cX4_order, 3, some .int, 4, 0, 2),
  (yX4_comes, cX4_comes, 3, some .int, 4, 0, 2),
  (yX4_bound, cX4_bound, 3, some .int, 4, 0, 2),
  (yX4_run, cX4_run, 4, some .int, 4, 0, 2),
  (yX4_count, cX4_count, 2, some .int, 4, 0, 1),
  (yX4_said, cX4_said, 2, some .int, 4, 0, 1),
  (yX4_register, cX4_register, 2, some .int, 4, 0, 1),
  (yX4_datum, cX4_datum, 3, some .int, 4, 0, 2),
  (yX4_check, cX4_check, 1, some .int, 4, 0, 0),
  (yX4_isModule, cX4_isModule, 2, some .boolean, 4, 0, 1),
  (yX4_takeTrial, cX4_takeTrial, 2, none, 4, 0, 0),
  (yX4_isName, cX4_isName, 1, some .boolean, 4, 2, 1),
  (yX4_isStep, cX4_isStep, 1, some .boolean, 4, 2, 1),
  (yX4_isRegister, cX4_isRegister, 1, some .boolean, 4, 2, 1),
  (yX4_isWellFormed, cX4_isWellFormed, 4, some .boolean, 4, 2, 4),
  (yX5_init, cX5_init, 1, none, 5, 1, 0),
  (yX5_isModule, cX5_isModule, 2, some .boolean, 5, 0, 1),
  (yX5_isName, cX5_isName, 1, some .boolean, 5, 2, 1),
  (yX5_isRegister, cX5_isRegister, 1, some .boolean, 5, 2, 1),
  (yX5_isStep, cX5_isStep, 1, some .boolean, 5, 2, 1),
  (yX5_module, cX5_module, 1, some .int, 5, 0, 0),
  (yX5_need, cX5_need, 4, some .int, 5, 0, 2),
  (yX5_ofName, cX5_ofName, 4, some .int, 5, 0, 2),
  (yX5_define, cX5_define, 7, some .int, 5, 0, 5),
  (yX5_optional, cX5_optional, 3, some .int, 5, 0, 2),
  (yX5_beginner, cX5_beginner, 3, some .int, 5, 0, 2),
  (yX5_isGood, cX5_isGood, 4, some .boolean, 5, 2, 4),
  (yX5_put, cX5_put, 7, some .int, 5, 0, 5),
  (yX5_find, cX5_find, 9, some .int, 5, 0, 4),
  (yX5_findOrder, cX5_findOrder, 6, none, 5, 0, 1),
  (yX5_look, cX5_look, 7, some .int, 5, 0, 4),
  (yX5_lookAt, cX5_lookAt, 6, some .int, 5, 0, 1),
  (yX5_findBegun, cX5_findBegun, 6, none, 5, 0, 0),
  (yX5_usesCall, cX5_usesCall, 6, some .boolean, 5, 0, 2),
  (yX5_moduleOf, cX5_moduleOf, 2, some .int, 5, 0, 1),
  (yX5_setAll, cX5_setAll, 4, none, 5, 0, 0),
  (yX5_load, cX5_load, 5, some .int, 5, 0, 2),
  (yX5_fault, cX5_fault, 2, some .int, 5, 0, 1),
  (yX5_order, cX5_order, 3, some .int, 5, 0, 2),
  (yX5_placeOf, cX5_placeOf, 3, some .int, 5, 0, 1),
  (yX5_comes, cX5_comes, 3, some .int, 5, 0, 2),
  (yX5_bound, cX5_bound, 3, some .int, 5, 0, 2),
  (yX5_call, cX5_call, 2, some .int, 5, 0, 1),
  (yX5_atAddress, cX5_atAddress, 6, some .int, 5, 0, 1),
  (yX5_addressOf, cX5_addressOf, 2, some .int, 5, 0, 1),
  (yX5_callName, cX5_callName, 4, some .int, 5, 0, 1),
  (yX5_make, cX5_make, 7, some .int, 5, 0, 0),
  (yX5_go, cX5_go, 4, some .int, 5, 0, 2),
  (yX5_run, cX5_run, 8, some .int, 5, 0, 2),
  (yX5_count, cX5_count, 2, some .int, 5, 0, 1),
  (yX5_said, cX5_said, 2, some .int, 5, 0, 1),
  (yX5_register, cX5_register, 2, some .int, 5, 0, 1),
  (yX5_datum, cX5_datum, 4, some .int, 5, 0, 2),
  (yX5_check, cX5_check, 1, some .int, 5, 0, 0),
  (yJ7_fill_53178, cJ7_fill_53178, 4, none, 8, 2, 2),
  (yL_law, cL_law, 4, some .boolean, 6, 2, 1)]
def xM (y : Nat) : xMt := xMs.getD y (yL_law, cL_law, 4, some .boolean, 6, 2, 1)
abbrev mX0_init : Nat := 0
abbrev mX0_become : Nat := 1
abbrev mX1_init : Nat := 2
abbrev mX1_clear : Nat := 3
abbrev mX1_arrange : Nat := 4
abbrev mX1_placeFrom : Nat := 5
abbrev mX1_append : Nat := 6
abbrev mX1_beginFrom : Nat := 7
abbrev mX1_findGivers : Nat := 8
abbrev mX1_isBetterGiver : Nat := 9
abbrev mX1_holds : Nat := 10
abbrev mX1_giverOf : Nat := 11
abbrev mX1_findFault : Nat := 12
abbrev mX1_findFaultIn : Nat := 13
abbrev mX1_lookAtUse : Nat := 14
abbrev mX1_refresh : Nat := 15
abbrev mX1_refreshSlots : Nat := 16
abbrev mX1_isTrulyBound : Nat := 17
abbrev mX1_addressOf : Nat := 18
abbrev mX2_init : Nat := 19
abbrev mX2_addNeed : Nat := 20
abbrev mX2_addDefinition : Nat := 21
abbrev mX2_addStep : Nat := 22
abbrev mX2_keepsToItself : Nat := 23
abbrev mX2_offers : Nat := 24
abbrev mX2_isWeak : Nat := 25
abbrev mX2_nameUsedAt : Nat := 26
abbrev mX2_kindWantedAt : Nat := 27
abbrev mX3_init : Nat := 28
abbrev mX3_prepare : Nat := 29
abbrev mX3_addStart : Nat := 30
abbrev mX3_go : Nat := 31
abbrev mX3_takeTurn : Nat := 32
abbrev mX3_makeStep : Nat := 33
abbrev mX3_reckon : Nat := 34
abbrev mX3_callName : Nat := 35
abbrev mX3_callAt : Nat := 36
abbrev mX3_enter : Nat := 37
abbrev mX3_goBack : Nat := 38
abbrev mX3_startNext : Nat := 39
abbrev mX3_readDatum : Nat := 40
abbrev mX3_writeDatum : Nat := 41
abbrev mX3_say : Nat := 42
abbrev mX4_init : Nat := 43
abbrev mX4_module : Nat := 44
abbrev mX4_need : Nat := 45
abbrev mX4_define : Nat := 46
abbrev mX4_optional : Nat := 47
abbrev mX4_beginner : Nat := 48
abbrev mX4_put : Nat := 49
abbrev mX4_load : Nat := 50
abbrev mX4_fault : Nat := 51
abbrev mX4_order : Nat := 52
abbrev mX4_comes : Nat := 53
abbrev mX4_bound : Nat := 54
abbrev mX4_run : Nat := 55
abbrev mX4_count : Nat := 56
abbrev mX4_said : Nat := 57
abbrev mX4_register : Nat := 58
abbrev mX4_datum : Nat := 59
abbrev mX4_check : Nat := 60
abbrev mX4_isModule : Nat := 61
abbrev mX4_takeTrial : Nat := 62
abbrev mX4_isName : Nat := 63
abbrev mX4_isStep : Nat := 64
abbrev mX4_isRegister : Nat := 65
abbrev mX4_isWellFormed : Nat := 66
abbrev mX5_init : Nat := 67
abbrev mX5_isModule : Nat := 68
abbrev mX5_isName : Nat := 69
abbrev mX5_isRegister : Nat := 70
abbrev mX5_isStep : Nat := 71
abbrev mX5_module : Nat := 72
abbrev mX5_need : Nat := 73
abbrev mX5_ofName : Nat := 74
abbrev mX5_define : Nat := 75
abbrev mX5_optional : Nat := 76
abbrev mX5_beginner : Nat := 77
abbrev mX5_isGood : Nat := 78
abbrev mX5_put : Nat := 79
abbrev mX5_find : Nat := 80
abbrev mX5_findOrder : Nat := 81
abbrev mX5_look : Nat := 82
abbrev mX5_lookAt : Nat := 83
abbrev mX5_findBegun : Nat := 84
abbrev mX5_usesCall : Nat := 85
abbrev mX5_moduleOf : Nat := 86
abbrev mX5_setAll : Nat := 87
abbrev mX5_load : Nat := 88
abbrev mX5_fault : Nat := 89
abbrev mX5_order : Nat := 90
abbrev mX5_placeOf : Nat := 91
abbrev mX5_comes : Nat := 92
abbrev mX5_bound : Nat := 93
abbrev mX5_call : Nat := 94
abbrev mX5_atAddress : Nat := 95
abbrev mX5_addressOf : Nat := 96
abbrev mX5_callName : Nat := 97
abbrev mX5_make : Nat := 98
abbrev mX5_go : Nat := 99
abbrev mX5_run : Nat := 100
abbrev mX5_count : Nat := 101
abbrev mX5_said : Nat := 102
abbrev mX5_register : Nat := 103
abbrev mX5_datum : Nat := 104
abbrev mX5_check : Nat := 105
abbrev mJ7_fill_53178 : Nat := 106
abbrev mL_law : Nat := 107
def xPos : List (Nat × Nat × Nat × Nat) := [(60, 40, 59, 0), (393, 40, 391, 392), (232, 44, 231, 0), (309, 44, 307, 308), (353, 44, 351, 352), (358, 44, 357, 1), (362, 44, 361, 2), (365, 44, 364, 0), (369, 44, 368, 3), (377, 44, 376, 4), (381, 44, 379, 380), (405, 44, 403, 404), (389, 44, 387, 388), (397, 44, 396, 5), (401, 44, 400, 6), (425, 44, 423, 424), (432, 44, 431, 8), (545, 44, 543, 544), (513, 44, 511, 512), (143, 42, 142, 0), (305, 42, 303, 304), (323, 42, 321, 322), (345, 42, 343, 344), (409, 42, 407, 408), (373, 42, 371, 372), (385, 42, 383, 384), (413, 42, 411, 412), (417, 42, 415, 416), (84, 41, 83, 0), (458, 41, 456, 457), (463, 41, 462, 9), (469, 41, 467, 468), (477, 41, 476, 11), (481, 41, 480, 12), (521, 41, 520, 20), (485, 41, 484, 13), (496, 41, 495, 15), (489, 41, 488, 14), (501, 41, 500, 16), (473, 41, 472, 10), (505, 41, 504, 17), (509, 41, 508, 18), (517, 41, 516, 19), (52, 39, 51, 0), (293, 39, 291, 292), (297, 39, 295, 296), (313, 39, 311, 312), (327, 39, 325, 326), (331, 39, 329, 330), (335, 39, 333, 334), (349, 39, 347, 348), (436, 39, 434, 435), (440, 39, 438, 439), (444, 39, 442, 443), (450, 39, 448, 449), (454, 39, 452, 453), (525, 39, 523, 524), (529, 39, 527, 528), (533, 39, 531, 532), (537, 39, 535, 536), (541, 39, 539, 540), (301, 39, 300, 0), (421, 39, 420, 7), (316, 39, 315, 0), (319, 39, 318, 0), (341, 39, 340, 0), (338, 39, 337, 0), (550, 45, 549, 0), (681, 45, 680, 21), (688, 45, 687, 0), (713, 45, 712, 0), (691, 45, 690, 0), (673, 45, 671, 672), (677, 45, 675, 676), (695, 45, 694, 22), (685, 45, 683, 684), (699, 45, 697, 698), (703, 45, 701, 702), (710, 45, 709, 0), (707, 45, 705, 706), (733, 45, 732, 26), (721, 45, 720, 23), (729, 45, 728, 25), (725, 45, 724, 24), (737, 45, 736, 27), (745, 45, 744, 29), (749, 45, 748, 30), (741, 45, 740, 28), (717, 45, 715, 716), (753, 45, 751, 752), (757, 45, 755, 756), (765, 45, 764, 31), (761, 45, 759, 760), (769, 45, 767, 768), (781, 45, 780, 33), (797, 45, 796, 37), (793, 45, 792, 36), (789, 45, 788, 35), (785, 45, 784, 34), (777, 45, 776, 32), (773, 45, 771, 772), (801, 45, 799, 800), (805, 45, 803, 804), (809, 45, 807, 808), (813, 45, 811, 812), (817, 45, 815, 816), (147, 43, 146, 0), (0, 0, 0, 0)]
def xchk (y : Nat) : Bool :=
  let M := xM y
  let P := xPos.getD y (0, 0, 0, 0)
  xok P.1 (.code M.1 M.2.1 M.2.2.1 M.2.2.2.1) && xok P.2.1 (.initialized M.1.cls) && (if M.2.2.2.2.2.1 = 2 then xok P.2.2.1 (.static M.1) else xok P.2.2.1 (.instanceMethod M.1)) && (if M.2.2.2.2.2.1 = 0 then xok P.2.2.2 (.selects M.1.cls M.1 M.1) else true)
   && (if M.2.2.2.2.2.1 = 1 then decide (M.1.name = "<init>") && decide (M.2.2.2.1 = none) else true) && decide (M.1.cls = xR M.2.2.2.2.1) && decide (M.1.cls ≠ "java/lang/invoke/MethodHandle") && decide (M.1.cls ≠ "java/lang/invoke/VarHandle") && plainName M.1.cls
   && decide ((parseMethodDescriptor M.1.desc).map (fun d => d.parameters.length) = some M.2.2.2.2.2.2) && decide (M.2.2.1 ≤ 13)
def xNM : Nat := 107
theorem xchk_0 : (List.range 12).all (fun i => xchk (0 + i)) = true := by decide +kernel
theorem xchk_12 : (List.range 12).all (fun i => xchk (12 + i)) = true := by decide +kernel
theorem xchk_24 : (List.range 12).all (fun i => xchk (24 + i)) = true := by decide +kernel
theorem xchk_36 : (List.range 12).all (fun i => xchk (36 + i)) = true := by decide +kernel
theorem xchk_48 : (List.range 12).all (fun i => xchk (48 + i)) = true := by decide +kernel
theorem xchk_60 : (List.range 12).all (fun i => xchk (60 + i)) = true := by decide +kernel
theorem xchk_72 : (List.range 12).all (fun i => xchk (72 + i)) = true := by decide +kernel
theorem xchk_84 : (List.range 12).all (fun i => xchk (84 + i)) = true := by decide +kernel
theorem xchk_96 : (List.range 11).all (fun i => xchk (96 + i)) = true := by decide +kernel
theorem xchk_all (y : Nat) (hy : y < xNM) : xchk y = true := by
  have key : ∀ (a n : Nat), (List.range n).all (fun i => xchk (a + i)) = true → a ≤ y → y < a + n → xchk y = true := fun a n h h1 h2 => by
    have := List.all_eq_true.mp h (y - a) (List.mem_range.mpr (by omega))
    rwa [show a + (y - a) = y by omega] at this
  have hy : y < 107 := hy
  by_cases h0 : y < 12
  · exact key 0 12 xchk_0 (by omega) (by omega)
  by_cases h12 : y < 24
  · exact key 12 12 xchk_12 (by omega) (by omega)
  by_cases h24 : y < 36
  · exact key 24 12 xchk_24 (by omega) (by omega)
  by_cases h36 : y < 48
  · exact key 36 12 xchk_36 (by omega) (by omega)
  by_cases h48 : y < 60
  · exact key 48 12 xchk_48 (by omega) (by omega)
  by_cases h60 : y < 72
  · exact key 60 12 xchk_60 (by omega) (by omega)
  by_cases h72 : y < 84
  · exact key 72 12 xchk_72 (by omega) (by omega)
  by_cases h84 : y < 96
  · exact key 84 12 xchk_84 (by omega) (by omega)
  by_cases h96 : y < 107
  · exact key 96 11 xchk_96 (by omega) (by omega)
  omega
def xFL : List (Nat × Nat × Nat × Nat × Nat) := [(0, 9, 0, 0, 62), (4, 96, 0, 0, 63), (1, 97, 0, 0, 64), (0, 15, 0, 1, 65), (4, 102, 0, 1, 66), (0, 18, 0, 2, 67), (4, 105, 0, 2, 68), (0, 21, 0, 3, 69), (4, 108, 0, 3, 70), (3, 9, 3, 0, 86), (4, 163, 3, 0, 87), (3, 15, 3, 1, 88), (4, 157, 3, 1, 89), (3, 18, 3, 2, 90), (4, 145, 3, 2, 91), (3, 22, 3, 3, 92), (4, 148, 3, 3, 93), (3, 25, 3, 4, 94), (4, 151, 3, 4, 95), (3, 28, 3, 5, 96), (4, 154, 3, 5, 97), (3, 31, 3, 6, 98), (3, 34, 3, 7, 99), (3, 37, 3, 8, 100), (3, 40, 3, 9, 101), (3, 43, 3, 10, 102), (3, 46, 3, 11, 103), (3, 49, 3, 12, 104), (3, 52, 3, 13, 105), (3, 55, 3, 14, 106), (2, 9, 2, 0, 148), (1, 71, 2, 0, 149), (2, 15, 2, 1, 150), (4, 56, 2, 1, 151), (1, 66, 2, 1, 152), (2, 19, 2, 2, 153), (1, 128, 2, 2, 154), (4, 131, 2, 2, 155), (2, 22, 2, 3, 156), (3, 96, 2, 3, 157), (1, 131, 2, 3, 158), (2, 25, 2, 4, 159), (2, 28, 2, 5, 160), (4, 69, 2, 5, 161), (2, 31, 2, 6, 162), (3, 164, 2, 6, 163), (2, 35, 2, 7, 164), (4, 72, 2, 7, 165), (1, 125, 2, 7, 166), (2, 38, 2, 8, 167), (3, 76, 2, 8, 168), (4, 76, 2, 8, 169), (1, 104, 2, 8, 170), (2, 41, 2, 9, 171), (3, 110, 2, 9, 172), (1, 146, 2, 9, 173), (2, 44, 2, 10, 174), (3, 113, 2, 10, 175), (1, 149, 2, 10, 176), (2, 47, 2, 11, 177), (3, 116, 2, 11, 178), (2, 50, 2, 12, 179), (3, 119, 2, 12, 180), (2, 53, 2, 13, 181), (3, 107, 2, 13, 182), (4, 85, 2, 13, 183), (1, 111, 2, 13, 184), (2, 56, 2, 14, 185), (3, 152, 2, 14, 186), (4, 128, 2, 14, 187), (1, 152, 2, 14, 188), (2, 59, 2, 15, 189), (3, 173, 2, 15, 190), (1, 134, 2, 15, 191), (4, 166, 2, 15, 192), (1, 39, 1, 0, 235), (3, 72, 1, 0, 236), (1, 9, 1, 1, 237), (3, 85, 1, 1, 238), (4, 114, 1, 1, 239), (1, 15, 1, 2, 240), (1, 18, 1, 3, 241), (3, 158, 1, 3, 242), (4, 111, 1, 3, 243), (1, 22, 1, 4, 244), (3, 69, 1, 4, 245), (4, 118, 1, 4, 246), (1, 25, 1, 5, 247), (1, 29, 1, 6, 248), (3, 64, 1, 6, 249), (1, 32, 1, 7, 250), (1, 35, 1, 8, 251), (4, 30, 4, 0, 271), (4, 7, 4, 1, 272), (4, 39, 4, 2, 273), (4, 43, 4, 3, 274), (4, 16, 4, 4, 275), (4, 23, 4, 5, 276), (5, 90, 5, 0, 552), (5, 7, 5, 1, 553), (5, 13, 5, 2, 554), (5, 16, 5, 3, 555), (5, 19, 5, 4, 556), (5, 22, 5, 5, 557), (5, 25, 5, 6, 558), (5, 28, 5, 7, 559), (5, 31, 5, 8, 560), (5, 34, 5, 9, 561), (5, 37, 5, 10, 562), (5, 41, 5, 11, 563), (5, 97, 5, 12, 564), (5, 139, 5, 13, 565), (5, 129, 5, 14, 566), (5, 132, 5, 15, 567), (5, 44, 5, 16, 568), (5, 47, 5, 17, 569), (5, 50, 5, 18, 570), (5, 53, 5, 19, 571), (5, 118, 5, 20, 572), (5, 56, 5, 21, 573), (5, 59, 5, 22, 574), (5, 62, 5, 23, 575), (5, 65, 5, 24, 576), (5, 68, 5, 25, 577), (5, 72, 5, 26, 578), (5, 75, 5, 27, 579), (5, 78, 5, 28, 580), (5, 192, 5, 29, 581), (5, 189, 5, 30, 582), (5, 174, 5, 31, 583), (5, 171, 5, 32, 584), (5, 81, 5, 33, 585), (5, 84, 5, 34, 586), (5, 87, 5, 35, 587), (5, 162, 5, 36, 588), (5, 165, 5, 37, 589), (5, 168, 5, 38, 590)]
def xfl (own idx : Nat) : Option (Nat × Nat) := (xFL.find? (fun e => e.1 == own && e.2.1 == idx)).map (fun e => (e.2.2.1, e.2.2.2.1))
theorem xFL_ok : xFL.all (fun e => xok e.2.2.2.2 (.fieldLink (xR e.1) e.2.1 (xT e.2.2.1 e.2.2.2.1).1 (xT e.2.2.1 e.2.2.2.1).2.1 (xT e.2.2.1 e.2.2.2.1).2.2.1) && decide (e.2.2.1 < 6) && decide (e.2.2.2.1 < xN e.2.2.1)) = true := by decide +kernel
theorem xfl_ok {own idx c k : Nat} (h : xfl own idx = some (c, k)) : Cond.fieldLink (xR own) idx (xT c k).1 (xT c k).2.1 (xT c k).2.2.1 ∈ xWT ∧ c < 6 ∧ k < xN c := by
  unfold xfl at h
  cases hf : xFL.find? (fun e => e.1 == own && e.2.1 == idx) with
  | none => rw [hf] at h; cases h
  | some e =>
    rw [hf] at h
    obtain ⟨e1, e2, e3, e4, e5⟩ := e
    have h1 := List.find?_some hf
    have h2 := List.all_eq_true.mp xFL_ok _ (List.mem_of_find?_eq_some hf)
    simp only [Bool.and_eq_true, beq_iff_eq, decide_eq_true_eq] at h1 h2
    simp only [Option.map_some, Option.some.injEq, Prod.mk.injEq] at h
    obtain ⟨rfl, rfl⟩ := h
    obtain ⟨rfl, rfl⟩ := h1
    exact ⟨xok_mem h2.1.1, h2.1.2, h2.2⟩
def xML : List (Nat × Nat × Nat × Nat × Nat) := [(6, 9, 43, 0, 50), (4, 15, 0, 0, 58), (4, 22, 28, 0, 82), (4, 29, 19, 0, 141), (2, 62, 106, 0, 145), (4, 36, 2, 0, 230), (1, 43, 106, 0, 234), (6, 13, 44, 0, 290), (6, 18, 45, 0, 294), (4, 46, 61, 0, 298), (4, 50, 20, 0, 302), (4, 53, 3, 0, 306), (6, 23, 46, 0, 310), (4, 59, 63, 0, 314), (4, 62, 64, 0, 317), (4, 65, 21, 0, 320), (6, 28, 47, 0, 324), (6, 32, 48, 0, 328), (6, 36, 49, 0, 332), (4, 79, 66, 0, 336), (4, 160, 65, 0, 339), (4, 82, 22, 0, 342), (6, 40, 50, 0, 346), (4, 88, 4, 0, 350), (1, 49, 3, 0, 354), (1, 52, 5, 0, 355), (1, 63, 6, 0, 359), (1, 56, 7, 0, 363), (1, 60, 8, 0, 366), (1, 74, 24, 0, 370), (1, 78, 9, 0, 374), (1, 82, 10, 0, 378), (1, 85, 25, 0, 382), (4, 92, 12, 0, 386), (1, 91, 1, 0, 390), (1, 100, 13, 0, 394), (1, 107, 14, 0, 398), (1, 121, 11, 0, 402), (1, 88, 23, 0, 406), (1, 114, 26, 0, 410), (1, 118, 27, 0, 414), (4, 99, 62, 0, 418), (4, 134, 15, 0, 422), (1, 143, 16, 0, 429), (6, 44, 51, 0, 433), (6, 49, 52, 0, 437), (6, 53, 53, 0, 441), (4, 121, 10, 0, 445), (4, 124, 11, 0, 446), (6, 57, 54, 0, 447), (6, 61, 55, 0, 451), (4, 137, 29, 0, 455), (3, 58, 106, 0, 459), (3, 81, 30, 0, 460), (3, 88, 11, 0, 464), (3, 92, 10, 0, 465), (4, 141, 31, 0, 466), (3, 99, 39, 0, 470), (3, 103, 32, 0, 474), (3, 122, 33, 0, 478), (3, 126, 35, 0, 482), (3, 155, 37, 0, 486), (3, 129, 36, 0, 493), (3, 161, 64, 1, 497), (3, 132, 38, 0, 498), (3, 135, 40, 0, 502), (3, 138, 41, 0, 506), (3, 141, 18, 0, 510), (3, 144, 42, 0, 514), (3, 148, 34, 0, 518), (6, 65, 56, 0, 522), (6, 69, 57, 0, 526), (6, 73, 58, 0, 530), (6, 77, 59, 0, 534), (6, 81, 60, 0, 538), (4, 169, 17, 0, 542), (6, 12, 67, 0, 548), (6, 17, 72, 0, 670), (6, 22, 73, 0, 674), (5, 93, 68, 0, 678), (6, 27, 75, 0, 682), (5, 101, 69, 0, 686), (5, 104, 71, 0, 689), (5, 107, 74, 0, 692), (6, 31, 76, 0, 696), (6, 35, 77, 0, 700), (6, 39, 79, 0, 704), (5, 114, 78, 0, 708), (5, 111, 70, 0, 711), (6, 43, 88, 0, 714), (5, 146, 81, 0, 718), (5, 150, 83, 0, 722), (5, 125, 82, 0, 726), (5, 121, 80, 0, 730), (5, 153, 84, 0, 734), (5, 156, 87, 0, 738), (5, 135, 85, 0, 742), (5, 142, 86, 0, 746), (6, 48, 89, 0, 750), (6, 52, 90, 0, 754), (6, 56, 92, 0, 758), (5, 159, 91, 0, 762), (6, 60, 93, 0, 766), (6, 64, 100, 0, 770), (5, 199, 99, 0, 774), (5, 177, 94, 0, 778), (5, 195, 98, 0, 782), (5, 180, 97, 0, 786), (5, 183, 96, 0, 790), (5, 186, 95, 0, 794), (6, 68, 101, 0, 798), (6, 72, 102, 0, 802), (6, 76, 103, 0, 806), (6, 80, 104, 0, 810), (6, 84, 105, 0, 814)]
/-- the method that a place of a class's pool names, and whether it is a nest mate's private one (1) -/
def xml (own idx : Nat) : Option (Nat × Nat) := (xML.find? (fun e => e.1 == own && e.2.1 == idx)).map (fun e => (e.2.2.1, e.2.2.2.1))
theorem xML_ok : xML.all (fun e => (if e.2.2.2.1 = 0 then xok e.2.2.2.2 (.methodLink (xR e.1) e.2.1 (xM e.2.2.1).1) else decide (e.1 = 3 ∧ e.2.1 = 161 ∧ e.2.2.1 = mX4_isStep)) && decide (e.2.2.1 < xNM)) = true := by decide +kernel
theorem xml_ok {own idx y b : Nat} (h : xml own idx = some (y, b)) : (b = 0 → Cond.methodLink (xR own) idx (xM y).1 ∈ xWT) ∧ (b ≠ 0 → own = 3 ∧ idx = 161 ∧ y = mX4_isStep) ∧ y < xNM := by
  unfold xml at h
  cases hf : xML.find? (fun e => e.1 == own && e.2.1 == idx) with
  | none => rw [hf] at h; cases h
  | some e =>
    rw [hf] at h
    obtain ⟨e1, e2, e3, e4, e5⟩ := e
    have h1 := List.find?_some hf
    have h2 := List.all_eq_true.mp xML_ok _ (List.mem_of_find?_eq_some hf)
    simp only [Bool.and_eq_true, beq_iff_eq, decide_eq_true_eq] at h1 h2
    simp only [Option.map_some, Option.some.injEq, Prod.mk.injEq] at h
    obtain ⟨rfl, rfl⟩ := h
    obtain ⟨rfl, rfl⟩ := h1
    refine ⟨fun hb => ?_, fun hb => ?_, h2.2⟩
    · have h3 := h2.1
      rw [if_pos hb] at h3
      exact xok_mem h3
    · have h3 := h2.1
      rw [if_neg hb, decide_eq_true_eq] at h3
      exact h3
/-- Object.<init> -/
def xOI : List (Nat × Nat × Nat) := [(4, 1, 53), (0, 3, 61), (3, 3, 85), (2, 3, 144), (1, 3, 233), (5, 1, 551)]
def xoi (own idx : Nat) : Bool := (xOI.find? (fun e => e.1 == own && e.2.1 == idx)).isSome
theorem xOI_ok : xOI.all (fun e => xok e.2.2 (.methodLink (xR e.1) e.2.1 Lib.objectInit)) = true := by decide +kernel
theorem xobj_ok : (xok 54 (.instanceMethod Lib.objectInit) && xok 55 (.code Lib.objectInit ⟨#[0xb1]⟩ 1 none)) = true := by decide +kernel
theorem xoi_ok {own idx : Nat} (h : xoi own idx = true) : Cond.methodLink (xR own) idx Lib.objectInit ∈ xWT := by
  unfold xoi at h
  cases hf : xOI.find? (fun e => e.1 == own && e.2.1 == idx) with
  | none => rw [hf] at h; cases h
  | some e =>
    obtain ⟨e1, e2, e3⟩ := e
    have h1 := List.find?_some hf
    have h2 := List.all_eq_true.mp xOI_ok _ (List.mem_of_find?_eq_some hf)
    simp only [Bool.and_eq_true, beq_iff_eq] at h1 h2
    obtain ⟨rfl, rfl⟩ := h1
    exact xok_mem h2
theorem xmx_ok : (xok 490 (.methodLink (xR 3) 168 Lib.Math.max.name) && xok 491 (.static Lib.Math.max.name) && xok 47 (.initialized "java/lang/Math") && xok 492 (.code Lib.Math.max.name Lib.Math.max.code 2 (some .int))) = true := by decide +kernel
def xmx (own idx : Nat) : Bool := own == 3 && idx == 168
theorem xac_ok : (xok 426 (.methodLink (xR 1) 137 arraycopyName) && xok 428 (.native arraycopyName) && xok 427 (.static arraycopyName) && xok 46 (.initialized "java/lang/System")) = true := by decide +kernel
def xac (own idx : Nat) : Bool := own == 1 && idx == 137
def xCL : List (Nat × Nat × Nat × Nat × Nat × Nat) := [(6, 7, 4, 48, 49, 39), (4, 13, 0, 56, 57, 40), (4, 20, 3, 80, 81, 41), (4, 27, 2, 139, 140, 42), (4, 34, 1, 228, 229, 44), (6, 10, 5, 546, 547, 45)]
def xcl (own idx : Nat) : Option Nat := (xCL.find? (fun e => e.1 == own && e.2.1 == idx)).map (fun e => e.2.2.1)
theorem xCL_ok : xCL.all (fun e => xok e.2.2.2.1 (.classLink (xR e.1) e.2.1 (xR e.2.2.1)) && xok e.2.2.2.2.1 (.instantiable (xR e.2.2.1) (xN e.2.2.1)) && xok e.2.2.2.2.2 (.initialized (xR e.2.2.1)) && decide (e.2.2.1 < 6)) = true := by decide +kernel
theorem xcl_ok {own idx c : Nat} (h : xcl own idx = some c) : Cond.classLink (xR own) idx (xR c) ∈ xWT ∧ Cond.instantiable (xR c) (xN c) ∈ xWT ∧ Cond.initialized (xR c) ∈ xWT ∧ c < 6 := by
  unfold xcl at h
  cases hf : xCL.find? (fun e => e.1 == own && e.2.1 == idx) with
  | none => rw [hf] at h; cases h
  | some e =>
    rw [hf] at h
    obtain ⟨e1, e2, e3, e4, e5, e6⟩ := e
    have h1 := List.find?_some hf
    have h2 := List.all_eq_true.mp xCL_ok _ (List.mem_of_find?_eq_some hf)
    simp only [Bool.and_eq_true, beq_iff_eq, decide_eq_true_eq] at h1 h2
    simp only [Option.map_some, Option.some.injEq] at h
    subst h
    obtain ⟨rfl, rfl⟩ := h1
    exact ⟨xok_mem h2.1.1.1, xok_mem h2.1.1.2, xok_mem h2.1.2, h2.2⟩
theorem xIa : ∀ c, c < 6 → (u_ws (xR c) (xT c) (xN c)).all (fun w => decide (w ∈ lw_tbl) && goodWord w) = true := by decide +kernel
theorem xIn {c : Nat} (hc : c < 6) : ∀ w ∈ u_ws (xR c) (xT c) (xN c), w ∈ xWT := by
  intro w hw
  have h := List.all_eq_true.mp (xIa c hc) w hw
  rw [Bool.and_eq_true, decide_eq_true_eq] at h
  exact List.mem_filter.mpr ⟨h.1, h.2⟩
theorem xinst_ok : ([(0, 57), (1, 229), (2, 140), (3, 81), (4, 49), (5, 547)] : List (Nat × Nat)).all (fun e => xok e.2 (.instantiable (xR e.1) (xN e.1))) = true := by decide +kernel
theorem xarr_ok : (decide (lw_tbl[138]? = some (.arrayClass .int)) && decide (lw_tbl[226]? = some (.arrayClass .boolean)) && decide (lw_tbl[227]? = some (.arrayOver (.object "LinkStation$LinkModule"))) && decide (lw_tbl[497]? = some (.methodLinkNest (xR 3) 161 (xM mX4_isStep).1 "LinkStation"))) = true := by decide +kernel
theorem xarrI : Cond.arrayClass .int ∈ xWT := xok_mem (p := 138) (by decide +kernel)
theorem xarrZ : Cond.arrayClass .boolean ∈ xWT := xok_mem (p := 226) (by decide +kernel)
