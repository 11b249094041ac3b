section
-- ===== PART A: goes FIRST, ahead of the names: the tables' words, and 'selects' of the private methods out of them =====
/-- a private method of a class that the tables say can be made, by its rows of tables_1 -/
def lw_okq (q : MethodName × Nat) : Prop := (q.1.cls ≠ "java/lang/invoke/MethodHandle" ∧ q.1.cls ≠ "java/lang/invoke/VarHandle") ∧ Cond.instantiable q.1.cls q.2 ∈ tables_1 ∧ Cond.privateMethod q.1 ∈ tables_1 ∧ Cond.instanceMethod q.1 ∈ tables_1
theorem lw_p0 : lw_okq (⟨"LinkStation", "isModule", "(I)Z"⟩, 6) := ⟨⟨by decide +kernel, by decide +kernel⟩, List.mem_of_getElem? (i := 11) (by decide +kernel), List.mem_of_getElem? (i := 261) (by decide +kernel), List.mem_of_getElem? (i := 262) (by decide +kernel)⟩
theorem lw_p1 : lw_okq (⟨"LinkStation$Layout", "placeFrom", "(I)V"⟩, 9) := ⟨⟨by decide +kernel, by decide +kernel⟩, List.mem_of_getElem? (i := 191) (by decide +kernel), List.mem_of_getElem? (i := 318) (by decide +kernel), List.mem_of_getElem? (i := 319) (by decide +kernel)⟩
theorem lw_p2 : lw_okq (⟨"LinkStation$Layout", "append", "(I)V"⟩, 9) := ⟨⟨by decide +kernel, by decide +kernel⟩, List.mem_of_getElem? (i := 191) (by decide +kernel), List.mem_of_getElem? (i := 322) (by decide +kernel), List.mem_of_getElem? (i := 323) (by decide +kernel)⟩
theorem lw_p3 : lw_okq (⟨"LinkStation$Layout", "findGivers", "()V"⟩, 9) := ⟨⟨by decide +kernel, by decide +kernel⟩, List.mem_of_getElem? (i := 191) (by decide +kernel), List.mem_of_getElem? (i := 329) (by decide +kernel), List.mem_of_getElem? (i := 330) (by decide +kernel)⟩
theorem lw_p4 : lw_okq (⟨"LinkStation$Layout", "isBetterGiver", "(II)Z"⟩, 9) := ⟨⟨by decide +kernel, by decide +kernel⟩, List.mem_of_getElem? (i := 191) (by decide +kernel), List.mem_of_getElem? (i := 337) (by decide +kernel), List.mem_of_getElem? (i := 338) (by decide +kernel)⟩
theorem lw_p5 : lw_okq (⟨"LinkStation$Layout", "findFaultIn", "(ILLinkStation$Fault;)V"⟩, 9) := ⟨⟨by decide +kernel, by decide +kernel⟩, List.mem_of_getElem? (i := 191) (by decide +kernel), List.mem_of_getElem? (i := 357) (by decide +kernel), List.mem_of_getElem? (i := 358) (by decide +kernel)⟩
theorem lw_p6 : lw_okq (⟨"LinkStation$Layout", "lookAtUse", "(IIIILLinkStation$Fault;)V"⟩, 9) := ⟨⟨by decide +kernel, by decide +kernel⟩, List.mem_of_getElem? (i := 191) (by decide +kernel), List.mem_of_getElem? (i := 361) (by decide +kernel), List.mem_of_getElem? (i := 362) (by decide +kernel)⟩
theorem lw_p7 : lw_okq (⟨"LinkStation", "takeTrial", "()V"⟩, 6) := ⟨⟨by decide +kernel, by decide +kernel⟩, List.mem_of_getElem? (i := 11) (by decide +kernel), List.mem_of_getElem? (i := 381) (by decide +kernel), List.mem_of_getElem? (i := 382) (by decide +kernel)⟩
theorem lw_p8 : lw_okq (⟨"LinkStation$Layout", "refreshSlots", "(I)V"⟩, 9) := ⟨⟨by decide +kernel, by decide +kernel⟩, List.mem_of_getElem? (i := 191) (by decide +kernel), List.mem_of_getElem? (i := 392) (by decide +kernel), List.mem_of_getElem? (i := 393) (by decide +kernel)⟩
theorem lw_p9 : lw_okq (⟨"LinkStation$Machine", "addStart", "(LLinkStation$Layout;II)V"⟩, 15) := ⟨⟨by decide +kernel, by decide +kernel⟩, List.mem_of_getElem? (i := 43) (by decide +kernel), List.mem_of_getElem? (i := 423) (by decide +kernel), List.mem_of_getElem? (i := 424) (by decide +kernel)⟩
theorem lw_p10 : lw_okq (⟨"LinkStation$Machine", "startNext", "()I"⟩, 15) := ⟨⟨by decide +kernel, by decide +kernel⟩, List.mem_of_getElem? (i := 43) (by decide +kernel), List.mem_of_getElem? (i := 433) (by decide +kernel), List.mem_of_getElem? (i := 434) (by decide +kernel)⟩
theorem lw_p11 : lw_okq (⟨"LinkStation$Machine", "takeTurn", "(LLinkStation$Layout;I)I"⟩, 15) := ⟨⟨by decide +kernel, by decide +kernel⟩, List.mem_of_getElem? (i := 43) (by decide +kernel), List.mem_of_getElem? (i := 437) (by decide +kernel), List.mem_of_getElem? (i := 438) (by decide +kernel)⟩
theorem lw_p12 : lw_okq (⟨"LinkStation$Machine", "makeStep", "(LLinkStation$Layout;IIII)I"⟩, 15) := ⟨⟨by decide +kernel, by decide +kernel⟩, List.mem_of_getElem? (i := 43) (by decide +kernel), List.mem_of_getElem? (i := 441) (by decide +kernel), List.mem_of_getElem? (i := 442) (by decide +kernel)⟩
theorem lw_p13 : lw_okq (⟨"LinkStation$Machine", "callName", "(LLinkStation$Layout;I)I"⟩, 15) := ⟨⟨by decide +kernel, by decide +kernel⟩, List.mem_of_getElem? (i := 43) (by decide +kernel), List.mem_of_getElem? (i := 445) (by decide +kernel), List.mem_of_getElem? (i := 446) (by decide +kernel)⟩
theorem lw_p14 : lw_okq (⟨"LinkStation$Machine", "enter", "(II)I"⟩, 15) := ⟨⟨by decide +kernel, by decide +kernel⟩, List.mem_of_getElem? (i := 43) (by decide +kernel), List.mem_of_getElem? (i := 449) (by decide +kernel), List.mem_of_getElem? (i := 450) (by decide +kernel)⟩
theorem lw_p15 : lw_okq (⟨"LinkStation$Machine", "callAt", "(LLinkStation$Layout;I)I"⟩, 15) := ⟨⟨by decide +kernel, by decide +kernel⟩, List.mem_of_getElem? (i := 43) (by decide +kernel), List.mem_of_getElem? (i := 456) (by decide +kernel), List.mem_of_getElem? (i := 457) (by decide +kernel)⟩
def lw_privs_1 : List (MethodName × Nat) := [(⟨"LinkStation", "isModule", "(I)Z"⟩, 6), (⟨"LinkStation$Layout", "placeFrom", "(I)V"⟩, 9), (⟨"LinkStation$Layout", "append", "(I)V"⟩, 9), (⟨"LinkStation$Layout", "findGivers", "()V"⟩, 9), (⟨"LinkStation$Layout", "isBetterGiver", "(II)Z"⟩, 9), (⟨"LinkStation$Layout", "findFaultIn", "(ILLinkStation$Fault;)V"⟩, 9), (⟨"LinkStation$Layout", "lookAtUse", "(IIIILLinkStation$Fault;)V"⟩, 9), (⟨"LinkStation", "takeTrial", "()V"⟩, 6), (⟨"LinkStation$Layout", "refreshSlots", "(I)V"⟩, 9), (⟨"LinkStation$Machine", "addStart", "(LLinkStation$Layout;II)V"⟩, 15), (⟨"LinkStation$Machine", "startNext", "()I"⟩, 15), (⟨"LinkStation$Machine", "takeTurn", "(LLinkStation$Layout;I)I"⟩, 15), (⟨"LinkStation$Machine", "makeStep", "(LLinkStation$Layout;IIII)I"⟩, 15), (⟨"LinkStation$Machine", "callName", "(LLinkStation$Layout;I)I"⟩, 15), (⟨"LinkStation$Machine", "enter", "(II)I"⟩, 15), (⟨"LinkStation$Machine", "callAt", "(LLinkStation$Layout;I)I"⟩, 15)]
theorem lw_r1 : ∀ q ∈ lw_privs_1, lw_okq q := List.forall_mem_cons.mpr ⟨lw_p0, List.forall_mem_cons.mpr ⟨lw_p1, List.forall_mem_cons.mpr ⟨lw_p2, List.forall_mem_cons.mpr ⟨lw_p3, List.forall_mem_cons.mpr ⟨lw_p4, List.forall_mem_cons.mpr ⟨lw_p5, List.forall_mem_cons.mpr ⟨lw_p6, List.forall_mem_cons.mpr ⟨lw_p7, List.forall_mem_cons.mpr ⟨lw_p8, List.forall_mem_cons.mpr ⟨lw_p9, List.forall_mem_cons.mpr ⟨lw_p10, List.forall_mem_cons.mpr ⟨lw_p11, List.forall_mem_cons.mpr ⟨lw_p12, List.forall_mem_cons.mpr ⟨lw_p13, List.forall_mem_cons.mpr ⟨lw_p14, List.forall_mem_cons.mpr ⟨lw_p15, fun _ h => absurd h List.not_mem_nil⟩⟩⟩⟩⟩⟩⟩⟩⟩⟩⟩⟩⟩⟩⟩⟩
theorem lw_p16 : lw_okq (⟨"LinkStation$Machine", "goBack", "()I"⟩, 15) := ⟨⟨by decide +kernel, by decide +kernel⟩, List.mem_of_getElem? (i := 43) (by decide +kernel), List.mem_of_getElem? (i := 461) (by decide +kernel), List.mem_of_getElem? (i := 462) (by decide +kernel)⟩
theorem lw_p17 : lw_okq (⟨"LinkStation$Machine", "readDatum", "(LLinkStation$Layout;I)I"⟩, 15) := ⟨⟨by decide +kernel, by decide +kernel⟩, List.mem_of_getElem? (i := 43) (by decide +kernel), List.mem_of_getElem? (i := 465) (by decide +kernel), List.mem_of_getElem? (i := 466) (by decide +kernel)⟩
theorem lw_p18 : lw_okq (⟨"LinkStation$Machine", "writeDatum", "(LLinkStation$Layout;II)V"⟩, 15) := ⟨⟨by decide +kernel, by decide +kernel⟩, List.mem_of_getElem? (i := 43) (by decide +kernel), List.mem_of_getElem? (i := 469) (by decide +kernel), List.mem_of_getElem? (i := 470) (by decide +kernel)⟩
theorem lw_p19 : lw_okq (⟨"LinkStation$Machine", "say", "(I)V"⟩, 15) := ⟨⟨by decide +kernel, by decide +kernel⟩, List.mem_of_getElem? (i := 43) (by decide +kernel), List.mem_of_getElem? (i := 477) (by decide +kernel), List.mem_of_getElem? (i := 478) (by decide +kernel)⟩
theorem lw_p20 : lw_okq (⟨"LinkStation$Machine", "reckon", "(IIII)V"⟩, 15) := ⟨⟨by decide +kernel, by decide +kernel⟩, List.mem_of_getElem? (i := 43) (by decide +kernel), List.mem_of_getElem? (i := 481) (by decide +kernel), List.mem_of_getElem? (i := 482) (by decide +kernel)⟩
theorem lw_p21 : lw_okq (⟨"LinkStationModel", "isModule", "(I)Z"⟩, 39) := ⟨⟨by decide +kernel, by decide +kernel⟩, List.mem_of_getElem? (i := 509) (by decide +kernel), List.mem_of_getElem? (i := 641) (by decide +kernel), List.mem_of_getElem? (i := 642) (by decide +kernel)⟩
theorem lw_p22 : lw_okq (⟨"LinkStationModel", "ofName", "(II)I"⟩, 39) := ⟨⟨by decide +kernel, by decide +kernel⟩, List.mem_of_getElem? (i := 509) (by decide +kernel), List.mem_of_getElem? (i := 655) (by decide +kernel), List.mem_of_getElem? (i := 656) (by decide +kernel)⟩
theorem lw_p23 : lw_okq (⟨"LinkStationModel", "findOrder", "(I)V"⟩, 39) := ⟨⟨by decide +kernel, by decide +kernel⟩, List.mem_of_getElem? (i := 509) (by decide +kernel), List.mem_of_getElem? (i := 681) (by decide +kernel), List.mem_of_getElem? (i := 682) (by decide +kernel)⟩
theorem lw_p24 : lw_okq (⟨"LinkStationModel", "lookAt", "(I)I"⟩, 39) := ⟨⟨by decide +kernel, by decide +kernel⟩, List.mem_of_getElem? (i := 509) (by decide +kernel), List.mem_of_getElem? (i := 685) (by decide +kernel), List.mem_of_getElem? (i := 686) (by decide +kernel)⟩
theorem lw_p25 : lw_okq (⟨"LinkStationModel", "look", "(IIIZ)I"⟩, 39) := ⟨⟨by decide +kernel, by decide +kernel⟩, List.mem_of_getElem? (i := 509) (by decide +kernel), List.mem_of_getElem? (i := 689) (by decide +kernel), List.mem_of_getElem? (i := 690) (by decide +kernel)⟩
theorem lw_p26 : lw_okq (⟨"LinkStationModel", "find", "([IIII)I"⟩, 39) := ⟨⟨by decide +kernel, by decide +kernel⟩, List.mem_of_getElem? (i := 509) (by decide +kernel), List.mem_of_getElem? (i := 693) (by decide +kernel), List.mem_of_getElem? (i := 694) (by decide +kernel)⟩
theorem lw_p27 : lw_okq (⟨"LinkStationModel", "findBegun", "()V"⟩, 39) := ⟨⟨by decide +kernel, by decide +kernel⟩, List.mem_of_getElem? (i := 509) (by decide +kernel), List.mem_of_getElem? (i := 697) (by decide +kernel), List.mem_of_getElem? (i := 698) (by decide +kernel)⟩
theorem lw_p28 : lw_okq (⟨"LinkStationModel", "setAll", "()V"⟩, 39) := ⟨⟨by decide +kernel, by decide +kernel⟩, List.mem_of_getElem? (i := 509) (by decide +kernel), List.mem_of_getElem? (i := 701) (by decide +kernel), List.mem_of_getElem? (i := 702) (by decide +kernel)⟩
theorem lw_p29 : lw_okq (⟨"LinkStationModel", "usesCall", "(II)Z"⟩, 39) := ⟨⟨by decide +kernel, by decide +kernel⟩, List.mem_of_getElem? (i := 509) (by decide +kernel), List.mem_of_getElem? (i := 705) (by decide +kernel), List.mem_of_getElem? (i := 706) (by decide +kernel)⟩
theorem lw_p30 : lw_okq (⟨"LinkStationModel", "moduleOf", "(I)I"⟩, 39) := ⟨⟨by decide +kernel, by decide +kernel⟩, List.mem_of_getElem? (i := 509) (by decide +kernel), List.mem_of_getElem? (i := 709) (by decide +kernel), List.mem_of_getElem? (i := 710) (by decide +kernel)⟩
theorem lw_p31 : lw_okq (⟨"LinkStationModel", "placeOf", "(I)I"⟩, 39) := ⟨⟨by decide +kernel, by decide +kernel⟩, List.mem_of_getElem? (i := 509) (by decide +kernel), List.mem_of_getElem? (i := 725) (by decide +kernel), List.mem_of_getElem? (i := 726) (by decide +kernel)⟩
def lw_privs_2 : List (MethodName × Nat) := [(⟨"LinkStation$Machine", "goBack", "()I"⟩, 15), (⟨"LinkStation$Machine", "readDatum", "(LLinkStation$Layout;I)I"⟩, 15), (⟨"LinkStation$Machine", "writeDatum", "(LLinkStation$Layout;II)V"⟩, 15), (⟨"LinkStation$Machine", "say", "(I)V"⟩, 15), (⟨"LinkStation$Machine", "reckon", "(IIII)V"⟩, 15), (⟨"LinkStationModel", "isModule", "(I)Z"⟩, 39), (⟨"LinkStationModel", "ofName", "(II)I"⟩, 39), (⟨"LinkStationModel", "findOrder", "(I)V"⟩, 39), (⟨"LinkStationModel", "lookAt", "(I)I"⟩, 39), (⟨"LinkStationModel", "look", "(IIIZ)I"⟩, 39), (⟨"LinkStationModel", "find", "([IIII)I"⟩, 39), (⟨"LinkStationModel", "findBegun", "()V"⟩, 39), (⟨"LinkStationModel", "setAll", "()V"⟩, 39), (⟨"LinkStationModel", "usesCall", "(II)Z"⟩, 39), (⟨"LinkStationModel", "moduleOf", "(I)I"⟩, 39), (⟨"LinkStationModel", "placeOf", "(I)I"⟩, 39)]
theorem lw_r2 : ∀ q ∈ lw_privs_2, lw_okq q := List.forall_mem_cons.mpr ⟨lw_p16, List.forall_mem_cons.mpr ⟨lw_p17, List.forall_mem_cons.mpr ⟨lw_p18, List.forall_mem_cons.mpr ⟨lw_p19, List.forall_mem_cons.mpr ⟨lw_p20, List.forall_mem_cons.mpr ⟨lw_p21, List.forall_mem_cons.mpr ⟨lw_p22, List.forall_mem_cons.mpr ⟨lw_p23, List.forall_mem_cons.mpr ⟨lw_p24, List.forall_mem_cons.mpr ⟨lw_p25, List.forall_mem_cons.mpr ⟨lw_p26, List.forall_mem_cons.mpr ⟨lw_p27, List.forall_mem_cons.mpr ⟨lw_p28, List.forall_mem_cons.mpr ⟨lw_p29, List.forall_mem_cons.mpr ⟨lw_p30, List.forall_mem_cons.mpr ⟨lw_p31, fun _ h => absurd h List.not_mem_nil⟩⟩⟩⟩⟩⟩⟩⟩⟩⟩⟩⟩⟩⟩⟩⟩
theorem lw_p32 : lw_okq (⟨"LinkStationModel", "go", "(II)I"⟩, 39) := ⟨⟨by decide +kernel, by decide +kernel⟩, List.mem_of_getElem? (i := 509) (by decide +kernel), List.mem_of_getElem? (i := 737) (by decide +kernel), List.mem_of_getElem? (i := 738) (by decide +kernel)⟩
theorem lw_p33 : lw_okq (⟨"LinkStationModel", "call", "(I)I"⟩, 39) := ⟨⟨by decide +kernel, by decide +kernel⟩, List.mem_of_getElem? (i := 509) (by decide +kernel), List.mem_of_getElem? (i := 741) (by decide +kernel), List.mem_of_getElem? (i := 742) (by decide +kernel)⟩
theorem lw_p34 : lw_okq (⟨"LinkStationModel", "make", "()I"⟩, 39) := ⟨⟨by decide +kernel, by decide +kernel⟩, List.mem_of_getElem? (i := 509) (by decide +kernel), List.mem_of_getElem? (i := 745) (by decide +kernel), List.mem_of_getElem? (i := 746) (by decide +kernel)⟩
theorem lw_p35 : lw_okq (⟨"LinkStationModel", "callName", "(I)I"⟩, 39) := ⟨⟨by decide +kernel, by decide +kernel⟩, List.mem_of_getElem? (i := 509) (by decide +kernel), List.mem_of_getElem? (i := 749) (by decide +kernel), List.mem_of_getElem? (i := 750) (by decide +kernel)⟩
theorem lw_p36 : lw_okq (⟨"LinkStationModel", "addressOf", "(I)I"⟩, 39) := ⟨⟨by decide +kernel, by decide +kernel⟩, List.mem_of_getElem? (i := 509) (by decide +kernel), List.mem_of_getElem? (i := 753) (by decide +kernel), List.mem_of_getElem? (i := 754) (by decide +kernel)⟩
theorem lw_p37 : lw_okq (⟨"LinkStationModel", "atAddress", "(I)I"⟩, 39) := ⟨⟨by decide +kernel, by decide +kernel⟩, List.mem_of_getElem? (i := 509) (by decide +kernel), List.mem_of_getElem? (i := 757) (by decide +kernel), List.mem_of_getElem? (i := 758) (by decide +kernel)⟩
def lw_privs_3 : List (MethodName × Nat) := [(⟨"LinkStationModel", "go", "(II)I"⟩, 39), (⟨"LinkStationModel", "call", "(I)I"⟩, 39), (⟨"LinkStationModel", "make", "()I"⟩, 39), (⟨"LinkStationModel", "callName", "(I)I"⟩, 39), (⟨"LinkStationModel", "addressOf", "(I)I"⟩, 39), (⟨"LinkStationModel", "atAddress", "(I)I"⟩, 39)]
theorem lw_r3 : ∀ q ∈ lw_privs_3, lw_okq q := List.forall_mem_cons.mpr ⟨lw_p32, List.forall_mem_cons.mpr ⟨lw_p33, List.forall_mem_cons.mpr ⟨lw_p34, List.forall_mem_cons.mpr ⟨lw_p35, List.forall_mem_cons.mpr ⟨lw_p36, List.forall_mem_cons.mpr ⟨lw_p37, fun _ h => absurd h List.not_mem_nil⟩⟩⟩⟩⟩⟩
def lw_privs : List (MethodName × Nat) := lw_privs_1 ++ (lw_privs_2 ++ (lw_privs_3))
def lw_tbl : List Cond := k2_sels lw_privs ++ tables_1
theorem lw_privs_ok : ∀ q ∈ lw_privs, lw_okq q := by
  show ∀ q ∈ lw_privs_1 ++ (lw_privs_2 ++ (lw_privs_3)), lw_okq q
  exact List.forall_mem_append.mpr ⟨lw_r1, List.forall_mem_append.mpr ⟨lw_r2, lw_r3⟩⟩
end
section
def RX0 : String := "LinkStation$Fault"
def TX0 : u_T := fun k => match k with
  | 0 => ("LinkStation$Fault", "kind", "I", false)
  | 1 => ("LinkStation$Fault", "module", "I", false)
  | 2 => ("LinkStation$Fault", "step", "I", false)
  | _ => ("LinkStation$Fault", "name", "I", false)
def tyX0 : Nat → FieldType := fun k => match k with
  | 0 => .int
  | 1 => .int
  | 2 => .int
  | _ => .int
theorem nmX0 : ∀ a, a < 4 → ∀ b, b < 4 → a ≠ b → (TX0 a).2.1 ≠ (TX0 b).2.1 := by decide +kernel
theorem tyX0_ok : ∀ k, k < 4 → parseFieldDescriptor (TX0 k).2.2.1 = some (tyX0 k) := by decide +kernel
abbrev cX0_init : ByteArray := prog_2_method_1_code
def yX0_init : MethodName := ⟨RX0, "<init>", "()V"⟩
abbrev cX0_become : ByteArray := prog_2_method_2_code
def yX0_become : MethodName := ⟨RX0, "become", "(IIII)V"⟩
def RX1 : String := "LinkStation$Layout"
def TX1 : u_T := fun k => match k with
  | 0 => ("LinkStation$Layout", "modules", "[LLinkStation$LinkModule;", true)
  | 1 => ("LinkStation$Layout", "inOrder", "[I", true)
  | 2 => ("LinkStation$Layout", "places", "[I", true)
  | 3 => ("LinkStation$Layout", "size", "I", false)
  | 4 => ("LinkStation$Layout", "begun", "[I", true)
  | 5 => ("LinkStation$Layout", "met", "[Z", true)
  | 6 => ("LinkStation$Layout", "begunCount", "I", false)
  | 7 => ("LinkStation$Layout", "givers", "[I", true)
  | _ => ("LinkStation$Layout", "lazy", "Z", false)
def tyX1 : Nat → FieldType := fun k => match k with
  | 0 => .array (.object "LinkStation$LinkModule")
  | 1 => .array .int
  | 2 => .array .int
  | 3 => .int
  | 4 => .array .int
  | 5 => .array .boolean
  | 6 => .int
  | 7 => .array .int
  | _ => .boolean
theorem nmX1 : ∀ a, a < 9 → ∀ b, b < 9 → a ≠ b → (TX1 a).2.1 ≠ (TX1 b).2.1 := by decide +kernel
theorem tyX1_ok : ∀ k, k < 9 → parseFieldDescriptor (TX1 k).2.2.1 = some (tyX1 k) := by decide +kernel
abbrev cX1_init : ByteArray := prog_3_method_1_code
def yX1_init : MethodName := ⟨RX1, "<init>", "([LLinkStation$LinkModule;)V"⟩
abbrev cX1_clear : ByteArray := prog_3_method_2_code
def yX1_clear : MethodName := ⟨RX1, "clear", "()V"⟩
abbrev cX1_arrange : ByteArray := prog_3_method_3_code
def yX1_arrange : MethodName := ⟨RX1, "arrange", "(IZ)V"⟩
abbrev cX1_placeFrom : ByteArray := prog_3_method_4_code
def yX1_placeFrom : MethodName := ⟨RX1, "placeFrom", "(I)V"⟩
abbrev cX1_append : ByteArray := prog_3_method_5_code
def yX1_append : MethodName := ⟨RX1, "append", "(I)V"⟩
abbrev cX1_beginFrom : ByteArray := prog_3_method_6_code
def yX1_beginFrom : MethodName := ⟨RX1, "beginFrom", "(LLinkStation$Layout;II)V"⟩
abbrev cX1_findGivers : ByteArray := prog_3_method_7_code
def yX1_findGivers : MethodName := ⟨RX1, "findGivers", "()V"⟩
abbrev cX1_isBetterGiver : ByteArray := prog_3_method_8_code
def yX1_isBetterGiver : MethodName := ⟨RX1, "isBetterGiver", "(II)Z"⟩
abbrev cX1_holds : ByteArray := prog_3_method_9_code
def yX1_holds : MethodName := ⟨RX1, "holds", "(I)Z"⟩
abbrev cX1_giverOf : ByteArray := prog_3_method_10_code
def yX1_giverOf : MethodName := ⟨RX1, "giverOf", "(II)I"⟩
abbrev cX1_findFault : ByteArray := prog_3_method_11_code
def yX1_findFault : MethodName := ⟨RX1, "findFault", "(LLinkStation$Fault;)V"⟩
abbrev cX1_findFaultIn : ByteArray := prog_3_method_12_code
def yX1_findFaultIn : MethodName := ⟨RX1, "findFaultIn", "(ILLinkStation$Fault;)V"⟩
abbrev cX1_lookAtUse : ByteArray := prog_3_method_13_code
def yX1_lookAtUse : MethodName := ⟨RX1, "lookAtUse", "(IIIILLinkStation$Fault;)V"⟩
abbrev cX1_refresh : ByteArray := prog_3_method_14_code
def yX1_refresh : MethodName := ⟨RX1, "refresh", "()V"⟩
abbrev cX1_refreshSlots : ByteArray := prog_3_method_15_code
def yX1_refreshSlots : MethodName := ⟨RX1, "refreshSlots", "(I)V"⟩
abbrev cX1_isTrulyBound : ByteArray := prog_3_method_16_code
def yX1_isTrulyBound : MethodName := ⟨RX1, "isTrulyBound", "()Z"⟩
abbrev cX1_addressOf : ByteArray := prog_3_method_17_code
def yX1_addressOf : MethodName := ⟨RX1, "addressOf", "(II)I"⟩
def RX2 : String := "LinkStation$LinkModule"
def TX2 : u_T := fun k => match k with
  | 0 => ("LinkStation$LinkModule", "needs", "[I", true)
  | 1 => ("LinkStation$LinkModule", "needCount", "I", false)
  | 2 => ("LinkStation$LinkModule", "kinds", "[I", true)
  | 3 => ("LinkStation$LinkModule", "values", "[I", true)
  | 4 => ("LinkStation$LinkModule", "hows", "[I", true)
  | 5 => ("LinkStation$LinkModule", "definitionCount", "I", false)
  | 6 => ("LinkStation$LinkModule", "functionAt", "[Z", true)
  | 7 => ("LinkStation$LinkModule", "optionals", "[Z", true)
  | 8 => ("LinkStation$LinkModule", "beginner", "I", false)
  | 9 => ("LinkStation$LinkModule", "ops", "[I", true)
  | 10 => ("LinkStation$LinkModule", "as", "[I", true)
  | 11 => ("LinkStation$LinkModule", "bs", "[I", true)
  | 12 => ("LinkStation$LinkModule", "cs", "[I", true)
  | 13 => ("LinkStation$LinkModule", "stepCount", "I", false)
  | 14 => ("LinkStation$LinkModule", "slots", "[I", true)
  | _ => ("LinkStation$LinkModule", "data", "[I", true)
def tyX2 : Nat → FieldType := fun k => match k with
  | 0 => .array .int
  | 1 => .int
  | 2 => .array .int
  | 3 => .array .int
  | 4 => .array .int
  | 5 => .int
  | 6 => .array .boolean
  | 7 => .array .boolean
  | 8 => .int
  | 9 => .array .int
  | 10 => .array .int
  | 11 => .array .int
  | 12 => .array .int
  | 13 => .int
  | 14 => .array .int
  | _ => .array .int
theorem nmX2 : ∀ a, a < 16 → ∀ b, b < 16 → a ≠ b → (TX2 a).2.1 ≠ (TX2 b).2.1 := by decide +kernel
theorem tyX2_ok : ∀ k, k < 16 → parseFieldDescriptor (TX2 k).2.2.1 = some (tyX2 k) := by decide +kernel
abbrev cX2_init : ByteArray := prog_4_method_1_code
def yX2_init : MethodName := ⟨RX2, "<init>", "()V"⟩
abbrev cX2_addNeed : ByteArray := prog_4_method_2_code
def yX2_addNeed : MethodName := ⟨RX2, "addNeed", "(I)Z"⟩
abbrev cX2_addDefinition : ByteArray := prog_4_method_3_code
def yX2_addDefinition : MethodName := ⟨RX2, "addDefinition", "(IIII)Z"⟩
abbrev cX2_addStep : ByteArray := prog_4_method_4_code
def yX2_addStep : MethodName := ⟨RX2, "addStep", "(IIII)Z"⟩
abbrev cX2_keepsToItself : ByteArray := prog_4_method_5_code
def yX2_keepsToItself : MethodName := ⟨RX2, "keepsToItself", "(I)Z"⟩
abbrev cX2_offers : ByteArray := prog_4_method_6_code
def yX2_offers : MethodName := ⟨RX2, "offers", "(I)Z"⟩
abbrev cX2_isWeak : ByteArray := prog_4_method_7_code
def yX2_isWeak : MethodName := ⟨RX2, "isWeak", "(I)Z"⟩
abbrev cX2_nameUsedAt : ByteArray := prog_4_method_8_code
def yX2_nameUsedAt : MethodName := ⟨RX2, "nameUsedAt", "(I)I"⟩
abbrev cX2_kindWantedAt : ByteArray := prog_4_method_9_code
def yX2_kindWantedAt : MethodName := ⟨RX2, "kindWantedAt", "(I)I"⟩
def RX3 : String := "LinkStation$Machine"
def TX3 : u_T := fun k => match k with
  | 0 => ("LinkStation$Machine", "registers", "[I", true)
  | 1 => ("LinkStation$Machine", "sayings", "[I", true)
  | 2 => ("LinkStation$Machine", "made", "I", false)
  | 3 => ("LinkStation$Machine", "saidCount", "I", false)
  | 4 => ("LinkStation$Machine", "boundCount", "I", false)
  | 5 => ("LinkStation$Machine", "deepest", "I", false)
  | 6 => ("LinkStation$Machine", "startModules", "[I", true)
  | 7 => ("LinkStation$Machine", "startSteps", "[I", true)
  | 8 => ("LinkStation$Machine", "startCount", "I", false)
  | 9 => ("LinkStation$Machine", "started", "I", false)
  | 10 => ("LinkStation$Machine", "backModules", "[I", true)
  | 11 => ("LinkStation$Machine", "backSteps", "[I", true)
  | 12 => ("LinkStation$Machine", "depth", "I", false)
  | 13 => ("LinkStation$Machine", "module", "I", false)
  | _ => ("LinkStation$Machine", "step", "I", false)
def tyX3 : Nat → FieldType := fun k => match k with
  | 0 => .array .int
  | 1 => .array .int
  | 2 => .int
  | 3 => .int
  | 4 => .int
  | 5 => .int
  | 6 => .array .int
  | 7 => .array .int
  | 8 => .int
  | 9 => .int
  | 10 => .array .int
  | 11 => .array .int
  | 12 => .int
  | 13 => .int
  | _ => .int
theorem nmX3 : ∀ a, a < 15 → ∀ b, b < 15 → a ≠ b → (TX3 a).2.1 ≠ (TX3 b).2.1 := by decide +kernel
theorem tyX3_ok : ∀ k, k < 15 → parseFieldDescriptor (TX3 k).2.2.1 = some (tyX3 k) := by decide +kernel
abbrev cX3_init : ByteArray := prog_5_method_1_code
def yX3_init : MethodName := ⟨RX3, "<init>", "()V"⟩
abbrev cX3_prepare : ByteArray := prog_5_method_2_code
def yX3_prepare : MethodName := ⟨RX3, "prepare", "(LLinkStation$Layout;I)V"⟩
abbrev cX3_addStart : ByteArray := prog_5_method_3_code
def yX3_addStart : MethodName := ⟨RX3, "addStart", "(LLinkStation$Layout;II)V"⟩
abbrev cX3_go : ByteArray := prog_5_method_4_code
def yX3_go : MethodName := ⟨RX3, "go", "(LLinkStation$Layout;I)I"⟩
abbrev cX3_takeTurn : ByteArray := prog_5_method_5_code
def yX3_takeTurn : MethodName := ⟨RX3, "takeTurn", "(LLinkStation$Layout;I)I"⟩
abbrev cX3_makeStep : ByteArray := prog_5_method_6_code
def yX3_makeStep : MethodName := ⟨RX3, "makeStep", "(LLinkStation$Layout;IIII)I"⟩
abbrev cX3_reckon : ByteArray := prog_5_method_7_code
def yX3_reckon : MethodName := ⟨RX3, "reckon", "(IIII)V"⟩
abbrev cX3_callName : ByteArray := prog_5_method_8_code
def yX3_callName : MethodName := ⟨RX3, "callName", "(LLinkStation$Layout;I)I"⟩
abbrev cX3_callAt : ByteArray := prog_5_method_9_code
def yX3_callAt : MethodName := ⟨RX3, "callAt", "(LLinkStation$Layout;I)I"⟩
abbrev cX3_enter : ByteArray := prog_5_method_10_code
def yX3_enter : MethodName := ⟨RX3, "enter", "(II)I"⟩
abbrev cX3_goBack : ByteArray := prog_5_method_11_code
def yX3_goBack : MethodName := ⟨RX3, "goBack", "()I"⟩
abbrev cX3_startNext : ByteArray := prog_5_method_12_code
def yX3_startNext : MethodName := ⟨RX3, "startNext", "()I"⟩
abbrev cX3_readDatum : ByteArray := prog_5_method_13_code
def yX3_readDatum : MethodName := ⟨RX3, "readDatum", "(LLinkStation$Layout;I)I"⟩
abbrev cX3_writeDatum : ByteArray := prog_5_method_14_code
def yX3_writeDatum : MethodName := ⟨RX3, "writeDatum", "(LLinkStation$Layout;II)V"⟩
abbrev cX3_say : ByteArray := prog_5_method_15_code
def yX3_say : MethodName := ⟨RX3, "say", "(I)V"⟩
def RX4 : String := "LinkStation"
def TX4 : u_T := fun k => match k with
  | 0 => ("LinkStation", "modules", "[LLinkStation$LinkModule;", true)
  | 1 => ("LinkStation", "moduleCount", "I", false)
  | 2 => ("LinkStation", "loaded", "LLinkStation$Layout;", false)
  | 3 => ("LinkStation", "trial", "LLinkStation$Layout;", false)
  | 4 => ("LinkStation", "latestFault", "LLinkStation$Fault;", true)
  | _ => ("LinkStation", "machine", "LLinkStation$Machine;", true)
def tyX4 : Nat → FieldType := fun k => match k with
  | 0 => .array (.object "LinkStation$LinkModule")
  | 1 => .int
  | 2 => .object "LinkStation$Layout"
  | 3 => .object "LinkStation$Layout"
  | 4 => .object "LinkStation$Fault"
  | _ => .object "LinkStation$Machine"
theorem nmX4 : ∀ a, a < 6 → ∀ b, b < 6 → a ≠ b → (TX4 a).2.1 ≠ (TX4 b).2.1 := by decide +kernel
theorem tyX4_ok : ∀ k, k < 6 → parseFieldDescriptor (TX4 k).2.2.1 = some (tyX4 k) := by decide +kernel
abbrev cX4_init : ByteArray := prog_1_method_1_code
def yX4_init : MethodName := ⟨RX4, "<init>", "()V"⟩
abbrev cX4_module : ByteArray := prog_1_method_2_code
def yX4_module : MethodName := ⟨RX4, "module", "()I"⟩
abbrev cX4_need : ByteArray := prog_1_method_3_code
def yX4_need : MethodName := ⟨RX4, "need", "(II)I"⟩
abbrev cX4_define : ByteArray := prog_1_method_4_code
def yX4_define : MethodName := ⟨RX4, "define", "(IIIII)I"⟩
abbrev cX4_optional : ByteArray := prog_1_method_5_code
def yX4_optional : MethodName := ⟨RX4, "optional", "(II)I"⟩
abbrev cX4_beginner : ByteArray := prog_1_method_6_code
def yX4_beginner : MethodName := ⟨RX4, "beginner", "(II)I"⟩
abbrev cX4_put : ByteArray := prog_1_method_7_code
def yX4_put : MethodName := ⟨RX4, "put", "(IIIII)I"⟩
abbrev cX4_load : ByteArray := prog_1_method_8_code
def yX4_load : MethodName := ⟨RX4, "load", "(II)I"⟩
abbrev cX4_fault : ByteArray := prog_1_method_9_code
def yX4_fault : MethodName := ⟨RX4, "fault", "(I)I"⟩
abbrev cX4_order : ByteArray := prog_1_method_10_code
def yX4_order : MethodName := ⟨RX4, "order", "(II)I"⟩
abbrev cX4_comes : ByteArray := prog_1_method_11_code
def yX4_comes : MethodName := ⟨RX4, "comes", "(II)I"⟩
abbrev cX4_bound : ByteArray := prog_1_method_12_code
def yX4_bound : MethodName := ⟨RX4, "bound", "(II)I"⟩
abbrev cX4_run : ByteArray := prog_1_method_13_code
def yX4_run : MethodName := ⟨RX4, "run", "(II)I"⟩
abbrev cX4_count : ByteArray := prog_1_method_14_code
def yX4_count : MethodName := ⟨RX4, "count", "(I)I"⟩
abbrev cX4_said : ByteArray := prog_1_method_15_code
def yX4_said : MethodName := ⟨RX4, "said", "(I)I"⟩
abbrev cX4_register : ByteArray := prog_1_method_16_code
def yX4_register : MethodName := ⟨RX4, "register", "(I)I"⟩
abbrev cX4_datum : ByteArray := prog_1_method_17_code
def yX4_datum : MethodName := ⟨RX4, "datum", "(II)I"⟩
abbrev cX4_check : ByteArray := prog_1_method_18_code
def yX4_check : MethodName := ⟨RX4, "check", "()I"⟩
abbrev cX4_isModule : ByteArray := prog_1_method_19_code
def yX4_isModule : MethodName := ⟨RX4, "isModule", "(I)Z"⟩
abbrev cX4_takeTrial : ByteArray := prog_1_method_20_code
def yX4_takeTrial : MethodName := ⟨RX4, "takeTrial", "()V"⟩
abbrev cX4_isName : ByteArray := prog_1_method_21_code
def yX4_isName : MethodName := ⟨RX4, "isName", "(I)Z"⟩
abbrev cX4_isStep : ByteArray := prog_1_method_22_code
def yX4_isStep : MethodName := ⟨RX4, "isStep", "(I)Z"⟩
abbrev cX4_isRegister : ByteArray := prog_1_method_23_code
def yX4_isRegister : MethodName := ⟨RX4, "isRegister", "(I)Z"⟩
abbrev cX4_isWellFormed : ByteArray := prog_1_method_24_code
def yX4_isWellFormed : MethodName := ⟨RX4, "isWellFormed", "(IIII)Z"⟩
def RX5 : String := "LinkStationModel"
def TX5 : u_T := fun k => match k with
  | 0 => ("LinkStationModel", "modules", "I", false)
  | 1 => ("LinkStationModel", "needs", "[I", true)
  | 2 => ("LinkStationModel", "needCount", "[I", true)
  | 3 => ("LinkStationModel", "defName", "[I", true)
  | 4 => ("LinkStationModel", "defKind", "[I", true)
  | 5 => ("LinkStationModel", "defValue", "[I", true)
  | 6 => ("LinkStationModel", "defHow", "[I", true)
  | 7 => ("LinkStationModel", "defCount", "[I", true)
  | 8 => ("LinkStationModel", "steps", "[I", true)
  | 9 => ("LinkStationModel", "stepCount", "[I", true)
  | 10 => ("LinkStationModel", "optional", "[Z", true)
  | 11 => ("LinkStationModel", "beginners", "[I", true)
  | 12 => ("LinkStationModel", "loaded", "Z", false)
  | 13 => ("LinkStationModel", "lazy", "Z", false)
  | 14 => ("LinkStationModel", "root", "I", false)
  | 15 => ("LinkStationModel", "many", "I", false)
  | 16 => ("LinkStationModel", "order", "[I", true)
  | 17 => ("LinkStationModel", "begun", "[I", true)
  | 18 => ("LinkStationModel", "slots", "[I", true)
  | 19 => ("LinkStationModel", "data", "[I", true)
  | 20 => ("LinkStationModel", "tried", "I", false)
  | 21 => ("LinkStationModel", "trial", "[I", true)
  | 22 => ("LinkStationModel", "met", "[Z", true)
  | 23 => ("LinkStationModel", "path", "[I", true)
  | 24 => ("LinkStationModel", "pathNext", "[I", true)
  | 25 => ("LinkStationModel", "faultModule", "I", false)
  | 26 => ("LinkStationModel", "faultStep", "I", false)
  | 27 => ("LinkStationModel", "faultName", "I", false)
  | 28 => ("LinkStationModel", "registers", "[I", true)
  | 29 => ("LinkStationModel", "made", "I", false)
  | 30 => ("LinkStationModel", "saidCount", "I", false)
  | 31 => ("LinkStationModel", "boundCount", "I", false)
  | 32 => ("LinkStationModel", "deepest", "I", false)
  | 33 => ("LinkStationModel", "words", "[I", true)
  | 34 => ("LinkStationModel", "backModule", "[I", true)
  | 35 => ("LinkStationModel", "backStep", "[I", true)
  | 36 => ("LinkStationModel", "deep", "I", false)
  | 37 => ("LinkStationModel", "nowModule", "I", false)
  | _ => ("LinkStationModel", "nowStep", "I", false)
def tyX5 : Nat → FieldType := fun k => match k with
  | 0 => .int
  | 1 => .array .int
  | 2 => .array .int
  | 3 => .array .int
  | 4 => .array .int
  | 5 => .array .int
  | 6 => .array .int
  | 7 => .array .int
  | 8 => .array .int
  | 9 => .array .int
  | 10 => .array .boolean
  | 11 => .array .int
  | 12 => .boolean
  | 13 => .boolean
  | 14 => .int
  | 15 => .int
  | 16 => .array .int
  | 17 => .array .int
  | 18 => .array .int
  | 19 => .array .int
  | 20 => .int
  | 21 => .array .int
  | 22 => .array .boolean
  | 23 => .array .int
  | 24 => .array .int
  | 25 => .int
  | 26 => .int
  | 27 => .int
  | 28 => .array .int
  | 29 => .int
  | 30 => .int
  | 31 => .int
  | 32 => .int
  | 33 => .array .int
  | 34 => .array .int
  | 35 => .array .int
  | 36 => .int
  | 37 => .int
  | _ => .int
theorem nmX5 : ∀ a, a < 39 → ∀ b, b < 39 → a ≠ b → (TX5 a).2.1 ≠ (TX5 b).2.1 := by decide +kernel
theorem tyX5_ok : ∀ k, k < 39 → parseFieldDescriptor (TX5 k).2.2.1 = some (tyX5 k) := by decide +kernel
abbrev cX5_init : ByteArray := prog_7_method_1_code
def yX5_init : MethodName := ⟨RX5, "<init>", "()V"⟩
abbrev cX5_isModule : ByteArray := prog_7_method_2_code
def yX5_isModule : MethodName := ⟨RX5, "isModule", "(I)Z"⟩
abbrev cX5_isName : ByteArray := prog_7_method_3_code
def yX5_isName : MethodName := ⟨RX5, "isName", "(I)Z"⟩
abbrev cX5_isRegister : ByteArray := prog_7_method_4_code
def yX5_isRegister : MethodName := ⟨RX5, "isRegister", "(I)Z"⟩
abbrev cX5_isStep : ByteArray := prog_7_method_5_code
def yX5_isStep : MethodName := ⟨RX5, "isStep", "(I)Z"⟩
abbrev cX5_module : ByteArray := prog_7_method_6_code
def yX5_module : MethodName := ⟨RX5, "module", "()I"⟩
abbrev cX5_need : ByteArray := prog_7_method_7_code
def yX5_need : MethodName := ⟨RX5, "need", "(II)I"⟩
abbrev cX5_ofName : ByteArray := prog_7_method_8_code
def yX5_ofName : MethodName := ⟨RX5, "ofName", "(II)I"⟩
abbrev cX5_define : ByteArray := prog_7_method_9_code
def yX5_define : MethodName := ⟨RX5, "define", "(IIIII)I"⟩
abbrev cX5_optional : ByteArray := prog_7_method_10_code
def yX5_optional : MethodName := ⟨RX5, "optional", "(II)I"⟩
abbrev cX5_beginner : ByteArray := prog_7_method_11_code
def yX5_beginner : MethodName := ⟨RX5, "beginner", "(II)I"⟩
abbrev cX5_isGood : ByteArray := prog_7_method_12_code
def yX5_isGood : MethodName := ⟨RX5, "isGood", "(IIII)Z"⟩
abbrev cX5_put : ByteArray := prog_7_method_13_code
def yX5_put : MethodName := ⟨RX5, "put", "(IIIII)I"⟩
abbrev cX5_find : ByteArray := prog_7_method_14_code
def yX5_find : MethodName := ⟨RX5, "find", "([IIII)I"⟩
abbrev cX5_findOrder : ByteArray := prog_7_method_15_code
def yX5_findOrder : MethodName := ⟨RX5, "findOrder", "(I)V"⟩
abbrev cX5_look : ByteArray := prog_7_method_16_code
def yX5_look : MethodName := ⟨RX5, "look", "(IIIZ)I"⟩
abbrev cX5_lookAt : ByteArray := prog_7_method_17_code
def yX5_lookAt : MethodName := ⟨RX5, "lookAt", "(I)I"⟩
abbrev cX5_findBegun : ByteArray := prog_7_method_18_code
def yX5_findBegun : MethodName := ⟨RX5, "findBegun", "()V"⟩
abbrev cX5_usesCall : ByteArray := prog_7_method_19_code
def yX5_usesCall : MethodName := ⟨RX5, "usesCall", "(II)Z"⟩
abbrev cX5_moduleOf : ByteArray := prog_7_method_20_code
def yX5_moduleOf : MethodName := ⟨RX5, "moduleOf", "(I)I"⟩
abbrev cX5_setAll : ByteArray := prog_7_method_21_code
def yX5_setAll : MethodName := ⟨RX5, "setAll", "()V"⟩
abbrev cX5_load : ByteArray := prog_7_method_22_code
def yX5_load : MethodName := ⟨RX5, "load", "(II)I"⟩
abbrev cX5_fault : ByteArray := prog_7_method_23_code
def yX5_fault : MethodName := ⟨RX5, "fault", "(I)I"⟩
abbrev cX5_order : ByteArray := prog_7_method_24_code
def yX5_order : MethodName := ⟨RX5, "order", "(II)I"⟩
abbrev cX5_placeOf : ByteArray := prog_7_method_25_code
def yX5_placeOf : MethodName := ⟨RX5, "placeOf", "(I)I"⟩
abbrev cX5_comes : ByteArray := prog_7_method_26_code
def yX5_comes : MethodName := ⟨RX5, "comes", "(II)I"⟩
abbrev cX5_bound : ByteArray := prog_7_method_27_code
def yX5_bound : MethodName := ⟨RX5, "bound", "(II)I"⟩
abbrev cX5_call : ByteArray := prog_7_method_28_code
def yX5_call : MethodName := ⟨RX5, "call", "(I)I"⟩
abbrev cX5_atAddress : ByteArray := prog_7_method_29_code
def yX5_atAddress : MethodName := ⟨RX5, "atAddress", "(I)I"⟩
abbrev cX5_addressOf : ByteArray := prog_7_method_30_code
def yX5_addressOf : MethodName := ⟨RX5, "addressOf", "(I)I"⟩
abbrev cX5_callName : ByteArray := prog_7_method_31_code
def yX5_callName : MethodName := ⟨RX5, "callName", "(I)I"⟩
abbrev cX5_make : ByteArray := prog_7_method_32_code
def yX5_make : MethodName := ⟨RX5, "make", "()I"⟩
abbrev cX5_go : ByteArray := prog_7_method_33_code
def yX5_go : MethodName := ⟨RX5, "go", "(II)I"⟩
abbrev cX5_run : ByteArray := prog_7_method_34_code
def yX5_run : MethodName := ⟨RX5, "run", "(II)I"⟩
abbrev cX5_count : ByteArray := prog_7_method_35_code
def yX5_count : MethodName := ⟨RX5, "count", "(I)I"⟩
abbrev cX5_said : ByteArray := prog_7_method_36_code
def yX5_said : MethodName := ⟨RX5, "said", "(I)I"⟩
abbrev cX5_register : ByteArray := prog_7_method_37_code
def yX5_register : MethodName := ⟨RX5, "register", "(I)I"⟩
abbrev cX5_datum : ByteArray := prog_7_method_38_code
def yX5_datum : MethodName := ⟨RX5, "datum", "(II)I"⟩
abbrev cX5_check : ByteArray := prog_7_method_39_code
def yX5_check : MethodName := ⟨RX5, "check", "()I"⟩
def RJ9 : String := "java/lang/Math"
def TJ9 : u_T := fun k => match k with
  | _ => ("", "", "", false)
def tyJ9 : Nat → FieldType := fun k => match k with
  | _ => .int
theorem nmJ9 : ∀ a, a < 0 → ∀ b, b < 0 → a ≠ b → (TJ9 a).2.1 ≠ (TJ9 b).2.1 := by decide +kernel
theorem tyJ9_ok : ∀ k, k < 0 → parseFieldDescriptor (TJ9 k).2.2.1 = some (tyJ9 k) := by decide +kernel
abbrev cJ9_max_7cf53 : ByteArray := prog_8_method_65_code
def yJ9_max_7cf53 : MethodName := ⟨RJ9, "max", "(II)I"⟩
def RJ10 : String := "java/lang/System"
def TJ10 : u_T := fun k => match k with
  | _ => ("", "", "", false)
def tyJ10 : Nat → FieldType := fun k => match k with
  | _ => .int
theorem nmJ10 : ∀ a, a < 0 → ∀ b, b < 0 → a ≠ b → (TJ10 a).2.1 ≠ (TJ10 b).2.1 := by decide +kernel
theorem tyJ10_ok : ∀ k, k < 0 → parseFieldDescriptor (TJ10 k).2.2.1 = some (tyJ10 k) := by decide +kernel
def RJ7 : String := "java/util/Arrays"
def TJ7 : u_T := fun k => match k with
  | _ => ("", "", "", false)
def tyJ7 : Nat → FieldType := fun k => match k with
  | _ => .int
theorem nmJ7 : ∀ a, a < 0 → ∀ b, b < 0 → a ≠ b → (TJ7 a).2.1 ≠ (TJ7 b).2.1 := by decide +kernel
theorem tyJ7_ok : ∀ k, k < 0 → parseFieldDescriptor (TJ7 k).2.2.1 = some (tyJ7 k) := by decide +kernel
abbrev cJ7_fill_53178 : ByteArray := prog_10_method_103_code
def yJ7_fill_53178 : MethodName := ⟨RJ7, "fill", "([II)V"⟩
def RL : String := "LinkStationLaw"
abbrev cL_law : ByteArray := code
def yL_law : MethodName := ⟨RL, "law", "([I)Z"⟩
end
section
/-! tables of the program by numbers: classes 0 .. 5 (Fault, Layout, LinkModule, Machine, LinkStation, LinkStationModel), 6 the law, 7 Math, 8 Arrays; methods; links -/
def xWT : List Cond := lw_tbl.filter goodWord
def xok (p : Nat) (w : Cond) : Bool := decide (lw_tbl[p]? = some w) && goodWord w
theorem xok_mem {p : Nat} {w : Cond} (h : xok p w = true) : w ∈ xWT := by
  unfold xok at h
  rw [Bool.and_eq_true, decide_eq_true_eq] at h
  exact List.mem_filter.mpr ⟨List.mem_of_getElem? h.1, h.2⟩
def xR (c : Nat) : String := match c with
  | 0 => RX0
  | 1 => RX1
  | 2 => RX2
  | 3 => RX3
  | 4 => RX4
  | 5 => RX5
  | 6 => RL
  | 7 => RJ9
  | _ => RJ7
def xT (c : Nat) : u_T := match c with
  | 0 => TX0
  | 1 => TX1
  | 2 => TX2
  | 3 => TX3
  | 4 => TX4
  | _ => TX5
def xN (c : Nat) : Nat := match c with
  | 0 => 4
  | 1 => 9
  | 2 => 16
  | 3 => 15
  | 4 => 6
  | _ => 39
def xty (c : Nat) : Nat → FieldType := match c with
  | 0 => tyX0
  | 1 => tyX1
  | 2 => tyX2
  | 3 => tyX3
  | 4 => tyX4
  | _ => tyX5
theorem xty_ok : ∀ c, c < 6 → ∀ k, k < xN c → parseFieldDescriptor ((xT c k).2.2.1) = some (xty c k) := by
  intro c hc
  match c, hc with
  | 0, _ => exact tyX0_ok
  | 1, _ => exact tyX1_ok
  | 2, _ => exact tyX2_ok
  | 3, _ => exact tyX3_ok
  | 4, _ => exact tyX4_ok
  | 5, _ => exact tyX5_ok
  | n + 6, h => exact absurd h (by omega)
theorem xnm_ok : ∀ c, c < 6 → ∀ a, a < xN c → ∀ b, b < xN c → a ≠ b → (xT c a).2.1 ≠ (xT c b).2.1 := by
  intro c hc
  match c, hc with
  | 0, _ => exact nmX0
  | 1, _ => exact nmX1
  | 2, _ => exact nmX2
  | 3, _ => exact nmX3
  | 4, _ => exact nmX4
  | 5, _ => exact nmX5
  | n + 6, h => exact absurd h (by omega)
abbrev xMt : Type := MethodName × ByteArray × Nat × Option FieldType × Nat × Nat × Nat
/-- name, code, locals, answer, class, 0 virtual 1 <init> 2 static, parameters -/
def xMs : List xMt := [(yX0_init, cX0_init, 1, none, 0, 1, 0),
  (yX0_become, cX0_become, 5, none, 0, 0, 4),
  (yX1_init, cX1_init, 2, none, 1, 1, 1),
  (yX1_clear, cX1_clear, 1, none, 1, 0, 0),
  (yX1_arrange, cX1_arrange, 4, none, 1, 0, 2),
  (yX1_placeFrom, cX1_placeFrom, 5, none, 1, 0, 1),
  (yX1_append, cX1_append, 2, none, 1, 0, 1),
  (yX1_beginFrom, cX1_beginFrom, 5, none, 1, 2, 3),
  (yX1_findGivers, cX1_findGivers, 4, none, 1, 0, 0),
  (yX1_isBetterGiver, cX1_isBetterGiver, 4, some .boolean, 1, 0, 2),
  (yX1_holds, cX1_holds, 2, some .boolean, 1, 0, 1),
  (yX1_giverOf, cX1_giverOf, 3, some .int, 1, 0, 2),
  (yX1_findFault, cX1_findFault, 3, none, 1, 0, 1),
  (yX1_findFaultIn, cX1_findFaultIn, 5, none, 1, 0, 2),
  (yX1_lookAtUse, cX1_lookAtUse, 7, none, 1, 0, 5),
  (yX1_refresh, cX1_refresh, 3, none, 1, 0, 0),
  (yX1_refreshSlots, cX1_refreshSlots, 5, none, 1, 0, 1),
  (yX1_isTrulyBound, cX1_isTrulyBound, 5, some .boolean, 1, 0, 0),
  (yX1_addressOf, cX1_addressOf, 4, some .int, 1, 0, 2),
  (yX2_init, cX2_init, 1, none, 2, 1, 0),
  (yX2_addNeed, cX2_addNeed, 3, some .boolean, 2, 0, 1),
  (yX2_addDefinition, cX2_addDefinition, 5, some .boolean, 2, 0, 4),
  (yX2_addStep, cX2_addStep, 5, some .boolean, 2, 0, 4),
  (yX2_keepsToItself, cX2_keepsToItself, 2, some .boolean, 2, 0, 1),
  (yX2_offers, cX2_offers, 2, some .boolean, 2, 0, 1),
  (yX2_isWeak, cX2_isWeak, 2, some .boolean, 2, 0, 1),
  (yX2_nameUsedAt, cX2_nameUsedAt, 2, some .int, 2, 0, 1),
  (yX2_kindWantedAt, cX2_kindWantedAt, 2, some .int, 2, 0, 1),
  (yX3_init, cX3_init, 1, none, 3, 1, 0),
  (yX3_prepare, cX3_prepare, 5, none, 3, 0, 2),
  (yX3_addStart, cX3_addStart, 5, none, 3, 0, 3),
  (yX3_go, cX3_go, 5, some .int, 3, 0, 2),
  (yX3_takeTurn, cX3_takeTurn, 6, some .int, 3, 0, 2),
  (yX3_makeStep, cX3_makeStep, 6, some .int, 3, 0, 5),
  (yX3_reckon, cX3_reckon, 5, none, 3, 0, 4),
  (yX3_callName, cX3_callName, 5, some .int, 3, 0, 2),
  (yX3_callAt, cX3_callAt, 6, some .int, 3, 0, 2),
  (yX3_enter, cX3_enter, 3, some .int, 3, 0, 2),
  (yX3_goBack, cX3_goBack, 1, some .int, 3, 0, 0),
  (yX3_startNext, cX3_startNext, 1, some .int, 3, 0, 0),
  (yX3_readDatum, cX3_readDatum, 4, some .int, 3, 0, 2),
  (yX3_writeDatum, cX3_writeDatum, 5, none, 3, 0, 3),
  (yX3_say, cX3_say, 2, none, 3, 0, 1),
  (yX4_init, cX4_init, 4, none, 4, 1, 0),
  (yX4_module, cX4_module, 1, some .int, 4, 0, 0),
  (yX4_need, cX4_need, 3, some .int, 4, 0, 2),
  (yX4_define, cX4_define, 7, some .int, 4, 0, 5),
  (yX4_optional, cX4_optional, 3, some .int, 4, 0, 2),
  (yX4_beginner, cX4_beginner, 3, some .int, 4, 0, 2),
  (yX4_put, cX4_put, 6, some .int, 4, 0, 5),
  (yX4_load, cX4_load, 3, some .int, 4, 0, 2),
  (yX4_fault, cX4_fault, 2, some .int, 4, 0, 1),
  (yX4_order, cX4_order, 3, some .int, 4, 0, 2),
  (yX4_comes, cX4_comes, 3, some .int, 4, 0, 2),
  (yX4_bound, cX4_bound, 3, some .int, 4, 0, 2),
  (yX4_run, cX4_run, 4, some .int, 4, 0, 2),
  (yX4_count, cX4_count, 2, some .int, 4, 0, 1),
  (yX4_said, cX4_said, 2, some .int, 4, 0, 1),
  (yX4_register, cX4_register, 2, some .int, 4, 0, 1),
  (yX4_datum, cX4_datum, 3, some .int, 4, 0, 2),
  (yX4_check, cX4_check, 1, some .int, 4, 0, 0),
  (yX4_isModule, cX4_isModule, 2, some .boolean, 4, 0, 1),
  (yX4_takeTrial, cX4_takeTrial, 2, none, 4, 0, 0),
  (yX4_isName, cX4_isName, 1, some .boolean, 4, 2, 1),
  (yX4_isStep, cX4_isStep, 1, some .boolean, 4, 2, 1),
  (yX4_isRegister, cX4_isRegister, 1, some .boolean, 4, 2, 1),
  (yX4_isWellFormed, cX4_isWellFormed, 4, some .boolean, 4, 2, 4),
  (yX5_init, cX5_init, 1, none, 5, 1, 0),
  (yX5_isModule, cX5_isModule, 2, some .boolean, 5, 0, 1),
  (yX5_isName, cX5_isName, 1, some .boolean, 5, 2, 1),
  (yX5_isRegister, cX5_isRegister, 1, some .boolean, 5, 2, 1),
  (yX5_isStep, cX5_isStep, 1, some .boolean, 5, 2, 1),
  (yX5_module, cX5_module, 1, some .int, 5, 0, 0),
  (yX5_need, cX5_need, 4, some .int, 5, 0, 2),
  (yX5_ofName, cX5_ofName, 4, some .int, 5, 0, 2),
  (yX5_define, cX5_define, 7, some .int, 5, 0, 5),
  (yX5_optional, cX5_optional, 3, some .int, 5, 0, 2),
  (yX5_beginner, cX5_beginner, 3, some .int, 5, 0, 2),
  (yX5_isGood, cX5_isGood, 4, some .boolean, 5, 2, 4),
  (yX5_put, cX5_put, 7, some .int, 5, 0, 5),
  (yX5_find, cX5_find, 9, some .int, 5, 0, 4),
  (yX5_findOrder, cX5_findOrder, 6, none, 5, 0, 1),
  (yX5_look, cX5_look, 7, some .int, 5, 0, 4),
  (yX5_lookAt, cX5_lookAt, 6, some .int, 5, 0, 1),
  (yX5_findBegun, cX5_findBegun, 6, none, 5, 0, 0),
  (yX5_usesCall, cX5_usesCall, 6, some .boolean, 5, 0, 2),
  (yX5_moduleOf, cX5_moduleOf, 2, some .int, 5, 0, 1),
  (yX5_setAll, cX5_setAll, 4, none, 5, 0, 0),
  (yX5_load, cX5_load, 5, some .int, 5, 0, 2),
  (yX5_fault, cX5_fault, 2, some .int, 5, 0, 1),
  (yX5_order, cX5_order, 3, some .int, 5, 0, 2),
  (yX5_placeOf, cX5_placeOf, 3, some .int, 5, 0, 1),
  (yX5_comes, cX5_comes, 3, some .int, 5, 0, 2),
  (yX5_bound, cX5_bound, 3, some .int, 5, 0, 2),
  (yX5_call, cX5_call, 2, some .int, 5, 0, 1),
  (yX5_atAddress, cX5_atAddress, 6, some .int, 5, 0, 1),
  (yX5_addressOf, cX5_addressOf, 2, some .int, 5, 0, 1),
  (yX5_callName, cX5_callName, 4, some .int, 5, 0, 1),
  (yX5_make, cX5_make, 7, some .int, 5, 0, 0),
  (yX5_go, cX5_go, 4, some .int, 5, 0, 2),
  (yX5_run, cX5_run, 8, some .int, 5, 0, 2),
  (yX5_count, cX5_count, 2, some .int, 5, 0, 1),
  (yX5_said, cX5_said, 2, some .int, 5, 0, 1),
  (yX5_register, cX5_register, 2, some .int, 5, 0, 1),
  (yX5_datum, cX5_datum, 4, some .int, 5, 0, 2),
  (yX5_check, cX5_check, 1, some .int, 5, 0, 0),
  (yJ7_fill_53178, cJ7_fill_53178, 4, none, 8, 2, 2),
  (yL_law, cL_law, 4, some .boolean, 6, 2, 1)]
def xM (y : Nat) : xMt := xMs.getD y (yL_law, cL_law, 4, some .boolean, 6, 2, 1)
abbrev mX0_init : Nat := 0
abbrev mX0_become : Nat := 1
abbrev mX1_init : Nat := 2
abbrev mX1_clear : Nat := 3
abbrev mX1_arrange : Nat := 4
abbrev mX1_placeFrom : Nat := 5
abbrev mX1_append : Nat := 6
abbrev mX1_beginFrom : Nat := 7
abbrev mX1_findGivers : Nat := 8
abbrev mX1_isBetterGiver : Nat := 9
abbrev mX1_holds : Nat := 10
abbrev mX1_giverOf : Nat := 11
abbrev mX1_findFault : Nat := 12
abbrev mX1_findFaultIn : Nat := 13
abbrev mX1_lookAtUse : Nat := 14
abbrev mX1_refresh : Nat := 15
abbrev mX1_refreshSlots : Nat := 16
abbrev mX1_isTrulyBound : Nat := 17
abbrev mX1_addressOf : Nat := 18
abbrev mX2_init : Nat := 19
abbrev mX2_addNeed : Nat := 20
abbrev mX2_addDefinition : Nat := 21
abbrev mX2_addStep : Nat := 22
abbrev mX2_keepsToItself : Nat := 23
abbrev mX2_offers : Nat := 24
abbrev mX2_isWeak : Nat := 25
abbrev mX2_nameUsedAt : Nat := 26
abbrev mX2_kindWantedAt : Nat := 27
abbrev mX3_init : Nat := 28
abbrev mX3_prepare : Nat := 29
abbrev mX3_addStart : Nat := 30
abbrev mX3_go : Nat := 31
abbrev mX3_takeTurn : Nat := 32
abbrev mX3_makeStep : Nat := 33
abbrev mX3_reckon : Nat := 34
abbrev mX3_callName : Nat := 35
abbrev mX3_callAt : Nat := 36
abbrev mX3_enter : Nat := 37
abbrev mX3_goBack : Nat := 38
abbrev mX3_startNext : Nat := 39
abbrev mX3_readDatum : Nat := 40
abbrev mX3_writeDatum : Nat := 41
abbrev mX3_say : Nat := 42
abbrev mX4_init : Nat := 43
abbrev mX4_module : Nat := 44
abbrev mX4_need : Nat := 45
abbrev mX4_define : Nat := 46
abbrev mX4_optional : Nat := 47
abbrev mX4_beginner : Nat := 48
abbrev mX4_put : Nat := 49
abbrev mX4_load : Nat := 50
abbrev mX4_fault : Nat := 51
abbrev mX4_order : Nat := 52
abbrev mX4_comes : Nat := 53
abbrev mX4_bound : Nat := 54
abbrev mX4_run : Nat := 55
abbrev mX4_count : Nat := 56
abbrev mX4_said : Nat := 57
abbrev mX4_register : Nat := 58
abbrev mX4_datum : Nat := 59
abbrev mX4_check : Nat := 60
abbrev mX4_isModule : Nat := 61
abbrev mX4_takeTrial : Nat := 62
abbrev mX4_isName : Nat := 63
abbrev mX4_isStep : Nat := 64
abbrev mX4_isRegister : Nat := 65
abbrev mX4_isWellFormed : Nat := 66
abbrev mX5_init : Nat := 67
abbrev mX5_isModule : Nat := 68
abbrev mX5_isName : Nat := 69
abbrev mX5_isRegister : Nat := 70
abbrev mX5_isStep : Nat := 71
abbrev mX5_module : Nat := 72
abbrev mX5_need : Nat := 73
abbrev mX5_ofName : Nat := 74
abbrev mX5_define : Nat := 75
abbrev mX5_optional : Nat := 76
abbrev mX5_beginner : Nat := 77
abbrev mX5_isGood : Nat := 78
abbrev mX5_put : Nat := 79
abbrev mX5_find : Nat := 80
abbrev mX5_findOrder : Nat := 81
abbrev mX5_look : Nat := 82
abbrev mX5_lookAt : Nat := 83
abbrev mX5_findBegun : Nat := 84
abbrev mX5_usesCall : Nat := 85
abbrev mX5_moduleOf : Nat := 86
abbrev mX5_setAll : Nat := 87
abbrev mX5_load : Nat := 88
abbrev mX5_fault : Nat := 89
abbrev mX5_order : Nat := 90
abbrev mX5_placeOf : Nat := 91
abbrev mX5_comes : Nat := 92
abbrev mX5_bound : Nat := 93
abbrev mX5_call : Nat := 94
abbrev mX5_atAddress : Nat := 95
abbrev mX5_addressOf : Nat := 96
abbrev mX5_callName : Nat := 97
abbrev mX5_make : Nat := 98
abbrev mX5_go : Nat := 99
abbrev mX5_run : Nat := 100
abbrev mX5_count : Nat := 101
abbrev mX5_said : Nat := 102
abbrev mX5_register : Nat := 103
abbrev mX5_datum : Nat := 104
abbrev mX5_check : Nat := 105
abbrev mJ7_fill_53178 : Nat := 106
abbrev mL_law : Nat := 107
def xPos : List (Nat × Nat × Nat × Nat) := [(60, 40, 59, 0), (393, 40, 391, 392), (232, 44, 231, 0), (309, 44, 307, 308), (353, 44, 351, 352), (358, 44, 357, 1), (362, 44, 361, 2), (365, 44, 364, 0), (369, 44, 368, 3), (377, 44, 376, 4), (381, 44, 379, 380), (405, 44, 403, 404), (389, 44, 387, 388), (397, 44, 396, 5), (401, 44, 400, 6), (425, 44, 423, 424), (432, 44, 431, 8), (545, 44, 543, 544), (513, 44, 511, 512), (143, 42, 142, 0), (305, 42, 303, 304), (323, 42, 321, 322), (345, 42, 343, 344), (409, 42, 407, 408), (373, 42, 371, 372), (385, 42, 383, 384), (413, 42, 411, 412), (417, 42, 415, 416), (84, 41, 83, 0), (458, 41, 456, 457), (463, 41, 462, 9), (469, 41, 467, 468), (477, 41, 476, 11), (481, 41, 480, 12), (521, 41, 520, 20), (485, 41, 484, 13), (496, 41, 495, 15), (489, 41, 488, 14), (501, 41, 500, 16), (473, 41, 472, 10), (505, 41, 504, 17), (509, 41, 508, 18), (517, 41, 516, 19), (52, 39, 51, 0), (293, 39, 291, 292), (297, 39, 295, 296), (313, 39, 311, 312), (327, 39, 325, 326), (331, 39, 329, 330), (335, 39, 333, 334), (349, 39, 347, 348), (436, 39, 434, 435), (440, 39, 438, 439), (444, 39, 442, 443), (450, 39, 448, 449), (454, 39, 452, 453), (525, 39, 523, 524), (529, 39, 527, 528), (533, 39, 531, 532), (537, 39, 535, 536), (541, 39, 539, 540), (301, 39, 300, 0), (421, 39, 420, 7), (316, 39, 315, 0), (319, 39, 318, 0), (341, 39, 340, 0), (338, 39, 337, 0), (550, 45, 549, 0), (681, 45, 680, 21), (688, 45, 687, 0), (713, 45, 712, 0), (691, 45, 690, 0), (673, 45, 671, 672), (677, 45, 675, 676), (695, 45, 694, 22), (685, 45, 683, 684), (699, 45, 697, 698), (703, 45, 701, 702), (710, 45, 709, 0), (707, 45, 705, 706), (733, 45, 732, 26), (721, 45, 720, 23), (729, 45, 728, 25), (725, 45, 724, 24), (737, 45, 736, 27), (745, 45, 744, 29), (749, 45, 748, 30), (741, 45, 740, 28), (717, 45, 715, 716), (753, 45, 751, 752), (757, 45, 755, 756), (765, 45, 764, 31), (761, 45, 759, 760), (769, 45, 767, 768), (781, 45, 780, 33), (797, 45, 796, 37), (793, 45, 792, 36), (789, 45, 788, 35), (785, 45, 784, 34), (777, 45, 776, 32), (773, 45, 771, 772), (801, 45, 799, 800), (805, 45, 803, 804), (809, 45, 807, 808), (813, 45, 811, 812), (817, 45, 815, 816), (147, 43, 146, 0), (0, 0, 0, 0)]
def xchk (y : Nat) : Bool :=
  let M := xM y
  let P := xPos.getD y (0, 0, 0, 0)
  xok P.1 (.code M.1 M.2.1 M.2.2.1 M.2.2.2.1) && xok P.2.1 (.initialized M.1.cls) && (if M.2.2.2.2.2.1 = 2 then xok P.2.2.1 (.static M.1) else xok P.2.2.1 (.instanceMethod M.1)) && (if M.2.2.2.2.2.1 = 0 then xok P.2.2.2 (.selects M.1.cls M.1 M.1) else true)
   && (if M.2.2.2.2.2.1 = 1 then decide (M.1.name = "<init>") && decide (M.2.2.2.1 = none) else true) && decide (M.1.cls = xR M.2.2.2.2.1) && decide (M.1.cls ≠ "java/lang/invoke/MethodHandle") && decide (M.1.cls ≠ "java/lang/invoke/VarHandle") && plainName M.1.cls
   && decide ((parseMethodDescriptor M.1.desc).map (fun d => d.parameters.length) = some M.2.2.2.2.2.2) && decide (M.2.2.1 ≤ 13)
def xNM : Nat := 107
theorem xchk_0 : (List.range 12).all (fun i => xchk (0 + i)) = true := by decide +kernel
theorem xchk_12 : (List.range 12).all (fun i => xchk (12 + i)) = true := by decide +kernel
theorem xchk_24 : (List.range 12).all (fun i => xchk (24 + i)) = true := by decide +kernel
theorem xchk_36 : (List.range 12).all (fun i => xchk (36 + i)) = true := by decide +kernel
theorem xchk_48 : (List.range 12).all (fun i => xchk (48 + i)) = true := by decide +kernel
theorem xchk_60 : (List.range 12).all (fun i => xchk (60 + i)) = true := by decide +kernel
theorem xchk_72 : (List.range 12).all (fun i => xchk (72 + i)) = true := by decide +kernel
theorem xchk_84 : (List.range 12).all (fun i => xchk (84 + i)) = true := by decide +kernel
theorem xchk_96 : (List.range 11).all (fun i => xchk (96 + i)) = true := by decide +kernel
theorem xchk_all (y : Nat) (hy : y < xNM) : xchk y = true := by
  have key : ∀ (a n : Nat), (List.range n).all (fun i => xchk (a + i)) = true → a ≤ y → y < a + n → xchk y = true := fun a n h h1 h2 => by
    have := List.all_eq_true.mp h (y - a) (List.mem_range.mpr (by omega))
    rwa [show a + (y - a) = y by omega] at this
  have hy : y < 107 := hy
  by_cases h0 : y < 12
  · exact key 0 12 xchk_0 (by omega) (by omega)
  by_cases h12 : y < 24
  · exact key 12 12 xchk_12 (by omega) (by omega)
  by_cases h24 : y < 36
  · exact key 24 12 xchk_24 (by omega) (by omega)
  by_cases h36 : y < 48
  · exact key 36 12 xchk_36 (by omega) (by omega)
  by_cases h48 : y < 60
  · exact key 48 12 xchk_48 (by omega) (by omega)
  by_cases h60 : y < 72
  · exact key 60 12 xchk_60 (by omega) (by omega)
  by_cases h72 : y < 84
  · exact key 72 12 xchk_72 (by omega) (by omega)
  by_cases h84 : y < 96
  · exact key 84 12 xchk_84 (by omega) (by omega)
  by_cases h96 : y < 107
  · exact key 96 11 xchk_96 (by omega) (by omega)
  omega
def xFL : List (Nat × Nat × Nat × Nat × Nat) := [(0, 9, 0, 0, 62), (4, 96, 0, 0, 63), (1, 97, 0, 0, 64), (0, 15, 0, 1, 65), (4, 102, 0, 1, 66), (0, 18, 0, 2, 67), (4, 105, 0, 2, 68), (0, 21, 0, 3, 69), (4, 108, 0, 3, 70), (3, 9, 3, 0, 86), (4, 163, 3, 0, 87), (3, 15, 3, 1, 88), (4, 157, 3, 1, 89), (3, 18, 3, 2, 90), (4, 145, 3, 2, 91), (3, 22, 3, 3, 92), (4, 148, 3, 3, 93), (3, 25, 3, 4, 94), (4, 151, 3, 4, 95), (3, 28, 3, 5, 96), (4, 154, 3, 5, 97), (3, 31, 3, 6, 98), (3, 34, 3, 7, 99), (3, 37, 3, 8, 100), (3, 40, 3, 9, 101), (3, 43, 3, 10, 102), (3, 46, 3, 11, 103), (3, 49, 3, 12, 104), (3, 52, 3, 13, 105), (3, 55, 3, 14, 106), (2, 9, 2, 0, 148), (1, 71, 2, 0, 149), (2, 15, 2, 1, 150), (4, 56, 2, 1, 151), (1, 66, 2, 1, 152), (2, 19, 2, 2, 153), (1, 128, 2, 2, 154), (4, 131, 2, 2, 155), (2, 22, 2, 3, 156), (3, 96, 2, 3, 157), (1, 131, 2, 3, 158), (2, 25, 2, 4, 159), (2, 28, 2, 5, 160), (4, 69, 2, 5, 161), (2, 31, 2, 6, 162), (3, 164, 2, 6, 163), (2, 35, 2, 7, 164), (4, 72, 2, 7, 165), (1, 125, 2, 7, 166), (2, 38, 2, 8, 167), (3, 76, 2, 8, 168), (4, 76, 2, 8, 169), (1, 104, 2, 8, 170), (2, 41, 2, 9, 171), (3, 110, 2, 9, 172), (1, 146, 2, 9, 173), (2, 44, 2, 10, 174), (3, 113, 2, 10, 175), (1, 149, 2, 10, 176), (2, 47, 2, 11, 177), (3, 116, 2, 11, 178), (2, 50, 2, 12, 179), (3, 119, 2, 12, 180), (2, 53, 2, 13, 181), (3, 107, 2, 13, 182), (4, 85, 2, 13, 183), (1, 111, 2, 13, 184), (2, 56, 2, 14, 185), (3, 152, 2, 14, 186), (4, 128, 2, 14, 187), (1, 152, 2, 14, 188), (2, 59, 2, 15, 189), (3, 173, 2, 15, 190), (1, 134, 2, 15, 191), (4, 166, 2, 15, 192), (1, 39, 1, 0, 235), (3, 72, 1, 0, 236), (1, 9, 1, 1, 237), (3, 85, 1, 1, 238), (4, 114, 1, 1, 239), (1, 15, 1, 2, 240), (1, 18, 1, 3, 241), (3, 158, 1, 3, 242), (4, 111, 1, 3, 243), (1, 22, 1, 4, 244), (3, 69, 1, 4, 245), (4, 118, 1, 4, 246), (1, 25, 1, 5, 247), (1, 29, 1, 6, 248), (3, 64, 1, 6, 249), (1, 32, 1, 7, 250), (1, 35, 1, 8, 251), (4, 30, 4, 0, 271), (4, 7, 4, 1, 272), (4, 39, 4, 2, 273), (4, 43, 4, 3, 274), (4, 16, 4, 4, 275), (4, 23, 4, 5, 276), (5, 90, 5, 0, 552), (5, 7, 5, 1, 553), (5, 13, 5, 2, 554), (5, 16, 5, 3, 555), (5, 19, 5, 4, 556), (5, 22, 5, 5, 557), (5, 25, 5, 6, 558), (5, 28, 5, 7, 559), (5, 31, 5, 8, 560), (5, 34, 5, 9, 561), (5, 37, 5, 10, 562), (5, 41, 5, 11, 563), (5, 97, 5, 12, 564), (5, 139, 5, 13, 565), (5, 129, 5, 14, 566), (5, 132, 5, 15, 567), (5, 44, 5, 16, 568), (5, 47, 5, 17, 569), (5, 50, 5, 18, 570), (5, 53, 5, 19, 571), (5, 118, 5, 20, 572), (5, 56, 5, 21, 573), (5, 59, 5, 22, 574), (5, 62, 5, 23, 575), (5, 65, 5, 24, 576), (5, 68, 5, 25, 577), (5, 72, 5, 26, 578), (5, 75, 5, 27, 579), (5, 78, 5, 28, 580), (5, 192, 5, 29, 581), (5, 189, 5, 30, 582), (5, 174, 5, 31, 583), (5, 171, 5, 32, 584), (5, 81, 5, 33, 585), (5, 84, 5, 34, 586), (5, 87, 5, 35, 587), (5, 162, 5, 36, 588), (5, 165, 5, 37, 589), (5, 168, 5, 38, 590)]
def xfl (own idx : Nat) : Option (Nat × Nat) := (xFL.find? (fun e => e.1 == own && e.2.1 == idx)).map (fun e => (e.2.2.1, e.2.2.2.1))
theorem xFL_ok : xFL.all (fun e => xok e.2.2.2.2 (.fieldLink (xR e.1) e.2.1 (xT e.2.2.1 e.2.2.2.1).1 (xT e.2.2.1 e.2.2.2.1).2.1 (xT e.2.2.1 e.2.2.2.1).2.2.1) && decide (e.2.2.1 < 6) && decide (e.2.2.2.1 < xN e.2.2.1)) = true := by decide +kernel
theorem xfl_ok {own idx c k : Nat} (h : xfl own idx = some (c, k)) : Cond.fieldLink (xR own) idx (xT c k).1 (xT c k).2.1 (xT c k).2.2.1 ∈ xWT ∧ c < 6 ∧ k < xN c := by
  unfold xfl at h
  cases hf : xFL.find? (fun e => e.1 == own && e.2.1 == idx) with
  | none => rw [hf] at h; cases h
  | some e =>
    rw [hf] at h
    obtain ⟨e1, e2, e3, e4, e5⟩ := e
    have h1 := List.find?_some hf
    have h2 := List.all_eq_true.mp xFL_ok _ (List.mem_of_find?_eq_some hf)
    simp only [Bool.and_eq_true, beq_iff_eq, decide_eq_true_eq] at h1 h2
    simp only [Option.map_some, Option.some.injEq, Prod.mk.injEq] at h
    obtain ⟨rfl, rfl⟩ := h
    obtain ⟨rfl, rfl⟩ := h1
    exact ⟨xok_mem h2.1.1, h2.1.2, h2.2⟩
def xML : List (Nat × Nat × Nat × Nat × Nat) := [(6, 9, 43, 0, 50), (4, 15, 0, 0, 58), (4, 22, 28, 0, 82), (4, 29, 19, 0, 141), (2, 62, 106, 0, 145), (4, 36, 2, 0, 230), (1, 43, 106, 0, 234), (6, 13, 44, 0, 290), (6, 18, 45, 0, 294), (4, 46, 61, 0, 298), (4, 50, 20, 0, 302), (4, 53, 3, 0, 306), (6, 23, 46, 0, 310), (4, 59, 63, 0, 314), (4, 62, 64, 0, 317), (4, 65, 21, 0, 320), (6, 28, 47, 0, 324), (6, 32, 48, 0, 328), (6, 36, 49, 0, 332), (4, 79, 66, 0, 336), (4, 160, 65, 0, 339), (4, 82, 22, 0, 342), (6, 40, 50, 0, 346), (4, 88, 4, 0, 350), (1, 49, 3, 0, 354), (1, 52, 5, 0, 355), (1, 63, 6, 0, 359), (1, 56, 7, 0, 363), (1, 60, 8, 0, 366), (1, 74, 24, 0, 370), (1, 78, 9, 0, 374), (1, 82, 10, 0, 378), (1, 85, 25, 0, 382), (4, 92, 12, 0, 386), (1, 91, 1, 0, 390), (1, 100, 13, 0, 394), (1, 107, 14, 0, 398), (1, 121, 11, 0, 402), (1, 88, 23, 0, 406), (1, 114, 26, 0, 410), (1, 118, 27, 0, 414), (4, 99, 62, 0, 418), (4, 134, 15, 0, 422), (1, 143, 16, 0, 429), (6, 44, 51, 0, 433), (6, 49, 52, 0, 437), (6, 53, 53, 0, 441), (4, 121, 10, 0, 445), (4, 124, 11, 0, 446), (6, 57, 54, 0, 447), (6, 61, 55, 0, 451), (4, 137, 29, 0, 455), (3, 58, 106, 0, 459), (3, 81, 30, 0, 460), (3, 88, 11, 0, 464), (3, 92, 10, 0, 465), (4, 141, 31, 0, 466), (3, 99, 39, 0, 470), (3, 103, 32, 0, 474), (3, 122, 33, 0, 478), (3, 126, 35, 0, 482), (3, 155, 37, 0, 486), (3, 129, 36, 0, 493), (3, 161, 64, 1, 497), (3, 132, 38, 0, 498), (3, 135, 40, 0, 502), (3, 138, 41, 0, 506), (3, 141, 18, 0, 510), (3, 144, 42, 0, 514), (3, 148, 34, 0, 518), (6, 65, 56, 0, 522), (6, 69, 57, 0, 526), (6, 73, 58, 0, 530), (6, 77, 59, 0, 534), (6, 81, 60, 0, 538), (4, 169, 17, 0, 542), (6, 12, 67, 0, 548), (6, 17, 72, 0, 670), (6, 22, 73, 0, 674), (5, 93, 68, 0, 678), (6, 27, 75, 0, 682), (5, 101, 69, 0, 686), (5, 104, 71, 0, 689), (5, 107, 74, 0, 692), (6, 31, 76, 0, 696), (6, 35, 77, 0, 700), (6, 39, 79, 0, 704), (5, 114, 78, 0, 708), (5, 111, 70, 0, 711), (6, 43, 88, 0, 714), (5, 146, 81, 0, 718), (5, 150, 83, 0, 722), (5, 125, 82, 0, 726), (5, 121, 80, 0, 730), (5, 153, 84, 0, 734), (5, 156, 87, 0, 738), (5, 135, 85, 0, 742), (5, 142, 86, 0, 746), (6, 48, 89, 0, 750), (6, 52, 90, 0, 754), (6, 56, 92, 0, 758), (5, 159, 91, 0, 762), (6, 60, 93, 0, 766), (6, 64, 100, 0, 770), (5, 199, 99, 0, 774), (5, 177, 94, 0, 778), (5, 195, 98, 0, 782), (5, 180, 97, 0, 786), (5, 183, 96, 0, 790), (5, 186, 95, 0, 794), (6, 68, 101, 0, 798), (6, 72, 102, 0, 802), (6, 76, 103, 0, 806), (6, 80, 104, 0, 810), (6, 84, 105, 0, 814)]
/-- the method that a place of a class's pool names, and whether it is a nest mate's private one (1) -/
def xml (own idx : Nat) : Option (Nat × Nat) := (xML.find? (fun e => e.1 == own && e.2.1 == idx)).map (fun e => (e.2.2.1, e.2.2.2.1))
theorem xML_ok : xML.all (fun e => (if e.2.2.2.1 = 0 then xok e.2.2.2.2 (.methodLink (xR e.1) e.2.1 (xM e.2.2.1).1) else decide (e.1 = 3 ∧ e.2.1 = 161 ∧ e.2.2.1 = mX4_isStep)) && decide (e.2.2.1 < xNM)) = true := by decide +kernel
theorem xml_ok {own idx y b : Nat} (h : xml own idx = some (y, b)) : (b = 0 → Cond.methodLink (xR own) idx (xM y).1 ∈ xWT) ∧ (b ≠ 0 → own = 3 ∧ idx = 161 ∧ y = mX4_isStep) ∧ y < xNM := by
  unfold xml at h
  cases hf : xML.find? (fun e => e.1 == own && e.2.1 == idx) with
  | none => rw [hf] at h; cases h
  | some e =>
    rw [hf] at h
    obtain ⟨e1, e2, e3, e4, e5⟩ := e
    have h1 := List.find?_some hf
    have h2 := List.all_eq_true.mp xML_ok _ (List.mem_of_find?_eq_some hf)
    simp only [Bool.and_eq_true, beq_iff_eq, decide_eq_true_eq] at h1 h2
    simp only [Option.map_some, Option.some.injEq, Prod.mk.injEq] at h
    obtain ⟨rfl, rfl⟩ := h
    obtain ⟨rfl, rfl⟩ := h1
    refine ⟨fun hb => ?_, fun hb => ?_, h2.2⟩
    · have h3 := h2.1
      rw [if_pos hb] at h3
      exact xok_mem h3
    · have h3 := h2.1
      rw [if_neg hb, decide_eq_true_eq] at h3
      exact h3
/-- Object.<init> -/
def xOI : List (Nat × Nat × Nat) := [(4, 1, 53), (0, 3, 61), (3, 3, 85), (2, 3, 144), (1, 3, 233), (5, 1, 551)]
def xoi (own idx : Nat) : Bool := (xOI.find? (fun e => e.1 == own && e.2.1 == idx)).isSome
theorem xOI_ok : xOI.all (fun e => xok e.2.2 (.methodLink (xR e.1) e.2.1 Lib.objectInit)) = true := by decide +kernel
theorem xobj_ok : (xok 54 (.instanceMethod Lib.objectInit) && xok 55 (.code Lib.objectInit ⟨#[0xb1]⟩ 1 none)) = true := by decide +kernel
theorem xoi_ok {own idx : Nat} (h : xoi own idx = true) : Cond.methodLink (xR own) idx Lib.objectInit ∈ xWT := by
  unfold xoi at h
  cases hf : xOI.find? (fun e => e.1 == own && e.2.1 == idx) with
  | none => rw [hf] at h; cases h
  | some e =>
    obtain ⟨e1, e2, e3⟩ := e
    have h1 := List.find?_some hf
    have h2 := List.all_eq_true.mp xOI_ok _ (List.mem_of_find?_eq_some hf)
    simp only [Bool.and_eq_true, beq_iff_eq] at h1 h2
    obtain ⟨rfl, rfl⟩ := h1
    exact xok_mem h2
theorem xmx_ok : (xok 490 (.methodLink (xR 3) 168 Lib.Math.max.name) && xok 491 (.static Lib.Math.max.name) && xok 47 (.initialized "java/lang/Math") && xok 492 (.code Lib.Math.max.name Lib.Math.max.code 2 (some .int))) = true := by decide +kernel
def xmx (own idx : Nat) : Bool := own == 3 && idx == 168
theorem xac_ok : (xok 426 (.methodLink (xR 1) 137 arraycopyName) && xok 428 (.native arraycopyName) && xok 427 (.static arraycopyName) && xok 46 (.initialized "java/lang/System")) = true := by decide +kernel
def xac (own idx : Nat) : Bool := own == 1 && idx == 137
def xCL : List (Nat × Nat × Nat × Nat × Nat × Nat) := [(6, 7, 4, 48, 49, 39), (4, 13, 0, 56, 57, 40), (4, 20, 3, 80, 81, 41), (4, 27, 2, 139, 140, 42), (4, 34, 1, 228, 229, 44), (6, 10, 5, 546, 547, 45)]
def xcl (own idx : Nat) : Option Nat := (xCL.find? (fun e => e.1 == own && e.2.1 == idx)).map (fun e => e.2.2.1)
theorem xCL_ok : xCL.all (fun e => xok e.2.2.2.1 (.classLink (xR e.1) e.2.1 (xR e.2.2.1)) && xok e.2.2.2.2.1 (.instantiable (xR e.2.2.1) (xN e.2.2.1)) && xok e.2.2.2.2.2 (.initialized (xR e.2.2.1)) && decide (e.2.2.1 < 6)) = true := by decide +kernel
theorem xcl_ok {own idx c : Nat} (h : xcl own idx = some c) : Cond.classLink (xR own) idx (xR c) ∈ xWT ∧ Cond.instantiable (xR c) (xN c) ∈ xWT ∧ Cond.initialized (xR c) ∈ xWT ∧ c < 6 := by
  unfold xcl at h
  cases hf : xCL.find? (fun e => e.1 == own && e.2.1 == idx) with
  | none => rw [hf] at h; cases h
  | some e =>
    rw [hf] at h
    obtain ⟨e1, e2, e3, e4, e5, e6⟩ := e
    have h1 := List.find?_some hf
    have h2 := List.all_eq_true.mp xCL_ok _ (List.mem_of_find?_eq_some hf)
    simp only [Bool.and_eq_true, beq_iff_eq, decide_eq_true_eq] at h1 h2
    simp only [Option.map_some, Option.some.injEq] at h
    subst h
    obtain ⟨rfl, rfl⟩ := h1
    exact ⟨xok_mem h2.1.1.1, xok_mem h2.1.1.2, xok_mem h2.1.2, h2.2⟩
theorem xIa : ∀ c, c < 6 → (u_ws (xR c) (xT c) (xN c)).all (fun w => decide (w ∈ lw_tbl) && goodWord w) = true := by decide +kernel
theorem xIn {c : Nat} (hc : c < 6) : ∀ w ∈ u_ws (xR c) (xT c) (xN c), w ∈ xWT := by
  intro w hw
  have h := List.all_eq_true.mp (xIa c hc) w hw
  rw [Bool.and_eq_true, decide_eq_true_eq] at h
  exact List.mem_filter.mpr ⟨h.1, h.2⟩
theorem xinst_ok : ([(0, 57), (1, 229), (2, 140), (3, 81), (4, 49), (5, 547)] : List (Nat × Nat)).all (fun e => xok e.2 (.instantiable (xR e.1) (xN e.1))) = true := by decide +kernel
theorem xarr_ok : (decide (lw_tbl[138]? = some (.arrayClass .int)) && decide (lw_tbl[226]? = some (.arrayClass .boolean)) && decide (lw_tbl[227]? = some (.arrayOver (.object "LinkStation$LinkModule"))) && decide (lw_tbl[497]? = some (.methodLinkNest (xR 3) 161 (xM mX4_isStep).1 "LinkStation"))) = true := by decide +kernel
theorem xarrI : Cond.arrayClass .int ∈ xWT := xok_mem (p := 138) (by decide +kernel)
theorem xarrZ : Cond.arrayClass .boolean ∈ xWT := xok_mem (p := 226) (by decide +kernel)
end
section
/-! An abstract machine over the same bytecode: a heap of numbered cells as functions; calls by depth; a predicate 'the run from here ends, and Q'. -/
/-- kinds and lengths of cells (0 none; class + 1; 100 int[], 101 boolean[], 102 LinkModule[], 103 the script); ints; references; next cell; slots used -/
abbrev xH : Type := (Nat → Nat × Nat) × (Nat → Nat → Int32) × (Nat → Nat → Option Nat) × Nat × Nat
abbrev xL : Type := List (Option Value)
abbrev xCT : Type := Nat → List Value → xH → (Option Value → xH → Prop) → Prop
abbrev xXT : Type := Nat → xL → List Value → xH → Prop
def xuI (I : Nat → Nat → Int32) (a j : Nat) (x : Int32) : Nat → Nat → Int32 := fun b i => if b = a ∧ i = j then x else I b i
def xuR (I : Nat → Nat → Int32) (a : Nat) (f : Nat → Int32) : Nat → Nat → Int32 := fun b i => if b = a then f i else I b i
def xuP (P : Nat → Nat → Option Nat) (a j : Nat) (x : Option Nat) : Nat → Nat → Option Nat := fun b i => if b = a ∧ i = j then x else P b i
def xuQ (P : Nat → Nat → Option Nat) (a : Nat) (f : Nat → Option Nat) : Nat → Nat → Option Nat := fun b i => if b = a then f i else P b i
def xuK (K : Nat → Nat × Nat) (a : Nat) (v : Nat × Nat) : Nat → Nat × Nat := fun b => if b = a then v else K b
/-- a field's type: 0 int, 1 boolean, 2 a reference -/
def xft (c k : Nat) : Nat := match xty c k with
  | .int => 0
  | .boolean => 1
  | _ => 2
/-- a condition of an if against 0, or of two ints -/
def xcd (c : ClassFile.Cond) (x y : Int32) : Prop := match c with
  | .eq => x = y
  | .ne => ¬ x = y
  | .lt => x < y
  | .ge => y ≤ x
  | .gt => y < x
  | .le => x ≤ y
def xld (ls : xL) (n : Nat) (k : Value → Prop) : Prop := ∃ v, ls[n]? = some (some v) ∧ k v
def xisI (v : Value) : Prop := ∃ x, v = .int x
def xisR (v : Value) : Prop := ∃ a, v = .ref a
/-- one instruction: what must hold before it, so that X holds behind it -/
def xins (C : xCT) (d own : Nat) (ret : Option FieldType) (ini : Bool) (Q : Option Value → xH → Prop) (X : xXT) (i : Instr) (len pc : Nat) (ls : xL) (st : List Value) (h : xH) : Prop :=
  match i with
  | .iconst n => len = 1 ∧ X (pc + 1) ls (.int (Int32.ofInt n) :: st) h
  | .bipush n => len = 2 ∧ X (pc + 2) ls (.int (Int8.ofInt n).toInt32 :: st) h
  | .sipush n => len = 3 ∧ X (pc + 3) ls (.int (Int16.ofInt n).toInt32 :: st) h
  | .iload n => len = 2 ∧ ∃ x, ls[n]? = some (some (.int x)) ∧ X (pc + 2) ls (.int x :: st) h
  | .iload_n n => len = 1 ∧ ∃ x, ls[n.val]? = some (some (.int x)) ∧ X (pc + 1) ls (.int x :: st) h
  | .aload n => len = 2 ∧ ∃ x, ls[n]? = some (some (.ref x)) ∧ X (pc + 2) ls (.ref x :: st) h
  | .aload_n n => len = 1 ∧ ∃ x, ls[n.val]? = some (some (.ref x)) ∧ X (pc + 1) ls (.ref x :: st) h
  | .istore n => len = 2 ∧ ∃ x r, st = .int x :: r ∧ n < ls.length ∧ X (pc + 2) (ls.set n (some (.int x))) r h
  | .istore_n n => len = 1 ∧ ∃ x r, st = .int x :: r ∧ n.val < ls.length ∧ X (pc + 1) (ls.set n.val (some (.int x))) r h
  | .astore n => len = 2 ∧ ∃ x r, st = .ref x :: r ∧ n < ls.length ∧ X (pc + 2) (ls.set n (some (.ref x))) r h
  | .astore_n n => len = 1 ∧ ∃ x r, st = .ref x :: r ∧ n.val < ls.length ∧ X (pc + 1) (ls.set n.val (some (.ref x))) r h
  | .iinc n c => len = 3 ∧ ∃ x, ls[n]? = some (some (.int x)) ∧ X (pc + 3) (ls.set n (some (.int (x + Int32.ofInt c)))) st h
  | .iadd => len = 1 ∧ ∃ x y r, st = .int y :: .int x :: r ∧ X (pc + 1) ls (.int (x + y) :: r) h
  | .isub => len = 1 ∧ ∃ x y r, st = .int y :: .int x :: r ∧ X (pc + 1) ls (.int (x - y) :: r) h
  | .imul => len = 1 ∧ ∃ x y r, st = .int y :: .int x :: r ∧ X (pc + 1) ls (.int (x * y) :: r) h
  | .iand => len = 1 ∧ ∃ x y r, st = .int y :: .int x :: r ∧ X (pc + 1) ls (.int (x &&& y) :: r) h
  | .idiv => len = 1 ∧ ∃ x y r, st = .int y :: .int x :: r ∧ ¬ y = 0 ∧ X (pc + 1) ls (.int (x / y) :: r) h
  | .irem => len = 1 ∧ ∃ x y r, st = .int y :: .int x :: r ∧ ¬ y = 0 ∧ X (pc + 1) ls (.int (x - x / y * y) :: r) h
  | .dup => len = 1 ∧ ∃ v r, st = v :: r ∧ v.category = 1 ∧ X (pc + 1) ls (v :: v :: r) h
  | .dup2 => len = 1 ∧ ∃ v w r, st = v :: w :: r ∧ v.category = 1 ∧ w.category = 1 ∧ X (pc + 1) ls (v :: w :: v :: w :: r) h
  | .ifCond c off => len = 3 ∧ ∃ x r, ∃ t : Nat, st = .int x :: r ∧ (pc : Int) + off = (t : Int) ∧ (xcd c x 0 → X t ls r h) ∧ (¬ xcd c x 0 → X (pc + 3) ls r h)
  | .if_icmp c off => len = 3 ∧ ∃ x y r, ∃ t : Nat, st = .int y :: .int x :: r ∧ (pc : Int) + off = (t : Int) ∧ (xcd c x y → X t ls r h) ∧ (¬ xcd c x y → X (pc + 3) ls r h)
  | .goto off => len = 3 ∧ ∃ t : Nat, (pc : Int) + off = (t : Int) ∧ X t ls st h
  | .tableswitch dflt lo hi offs => ∃ x r, st = .int x :: r ∧ (x.toInt < lo ∨ hi < x.toInt → ∃ t : Nat, (pc : Int) + dflt = (t : Int) ∧ X t ls r h) ∧ (¬ x.toInt < lo → ¬ hi < x.toInt → ∃ (off : Int) (t : Nat), offs[(x.toInt - lo).toNat]? = some off ∧ (pc : Int) + off = (t : Int) ∧ X t ls r h)
  | .getfield idx => len = 3 ∧ ∃ c k a r, xfl own idx = some (c, k) ∧ st = .ref a :: r ∧ (h.1 a).1 = c + 1 ∧ X (pc + 3) ls ((if xft c k = 2 then va_rf (h.2.2.1 a k) else .int (h.2.1 a k)) :: r) h
  | .putfield idx => len = 3 ∧ ∃ c k, xfl own idx = some (c, k) ∧ ((xT c k).2.2.2 = true → ini = true ∧ own = c) ∧
      ((xft c k = 0 ∧ ∃ x a r, st = .int x :: .ref a :: r ∧ (h.1 a).1 = c + 1 ∧ X (pc + 3) ls r (h.1, xuI h.2.1 a k x, h.2.2)) ∨
       (xft c k = 1 ∧ ∃ x a r, st = .int x :: .ref a :: r ∧ (x = 0 ∨ x = 1) ∧ (h.1 a).1 = c + 1 ∧ X (pc + 3) ls r (h.1, xuI h.2.1 a k x, h.2.2)) ∨
       (xft c k = 2 ∧ ∃ b a r, st = .ref b :: .ref a :: r ∧ (h.1 a).1 = c + 1 ∧ X (pc + 3) ls r (h.1, h.2.1, xuP h.2.2.1 a k (some b), h.2.2.2)))
  | .iaload => len = 1 ∧ ∃ j a r N, st = .int j :: .ref a :: r ∧ (h.1 a = (100, N) ∨ h.1 a = (103, N)) ∧ vp_in j N ∧ X (pc + 1) ls (.int (h.2.1 a j.toNatClampNeg) :: r) h
  | .baload => len = 1 ∧ ∃ j a r N, st = .int j :: .ref a :: r ∧ h.1 a = (101, N) ∧ vp_in j N ∧ X (pc + 1) ls (.int (h.2.1 a j.toNatClampNeg) :: r) h
  | .aaload => len = 1 ∧ ∃ j a r N, st = .int j :: .ref a :: r ∧ h.1 a = (102, N) ∧ vp_in j N ∧ X (pc + 1) ls (va_rf (h.2.2.1 a j.toNatClampNeg) :: r) h
  | .iastore => len = 1 ∧ ∃ x j a r N, st = .int x :: .int j :: .ref a :: r ∧ h.1 a = (100, N) ∧ vp_in j N ∧ X (pc + 1) ls r (h.1, xuI h.2.1 a j.toNatClampNeg x, h.2.2)
  | .bastore => len = 1 ∧ ∃ x j a r N, st = .int x :: .int j :: .ref a :: r ∧ (x = 0 ∨ x = 1) ∧ h.1 a = (101, N) ∧ vp_in j N ∧ X (pc + 1) ls r (h.1, xuI h.2.1 a j.toNatClampNeg x, h.2.2)
  | .aastore => len = 1 ∧ ∃ b j a r N, st = .ref b :: .int j :: .ref a :: r ∧ h.1 a = (102, N) ∧ vp_in j N ∧ (h.1 b).1 = 3 ∧ X (pc + 1) ls r (h.1, h.2.1, xuP h.2.2.1 a j.toNatClampNeg (some b), h.2.2.2)
  | .arraylength => len = 1 ∧ ∃ a r N, st = .ref a :: r ∧ (h.1 a = (100, N) ∨ h.1 a = (103, N)) ∧ X (pc + 1) ls (.int (nI N) :: r) h
  | .new idx => len = 3 ∧ ∃ c, xcl own idx = some c ∧ X (pc + 3) ls (.ref h.2.2.2.1 :: st) (xuK h.1 h.2.2.2.1 (c + 1, 0), xuR h.2.1 h.2.2.2.1 (fun _ => 0), xuQ h.2.2.1 h.2.2.2.1 (fun _ => none), h.2.2.2.1 + 1, h.2.2.2.2 + xN c)
  | .newarray t => len = 2 ∧ ∃ n r, st = .int (nI n) :: r ∧ n ≤ 100000 ∧ ((t = .int ∧ X (pc + 2) ls (.ref h.2.2.2.1 :: r) (xuK h.1 h.2.2.2.1 (100, n), xuR h.2.1 h.2.2.2.1 (fun _ => 0), h.2.2.1, h.2.2.2.1 + 1, h.2.2.2.2 + n)) ∨ (t = .boolean ∧ X (pc + 2) ls (.ref h.2.2.2.1 :: r) (xuK h.1 h.2.2.2.1 (101, n), xuR h.2.1 h.2.2.2.1 (fun _ => 0), h.2.2.1, h.2.2.2.1 + 1, h.2.2.2.2 + n)))
  | .anewarray idx => len = 3 ∧ ∃ n r, st = .int (nI n) :: r ∧ n ≤ 100000 ∧ xcl own idx = some 2 ∧ X (pc + 3) ls (.ref h.2.2.2.1 :: r) (xuK h.1 h.2.2.2.1 (102, n), h.2.1, xuQ h.2.2.1 h.2.2.2.1 (fun _ => none), h.2.2.2.1 + 1, h.2.2.2.2 + n)
  | .invokevirtual idx => len = 3 ∧ ∃ y As b r, xml own idx = some (y, 0) ∧ (xM y).2.2.2.2.2.1 = 0 ∧ st = As.reverse ++ .ref b :: r ∧ As.length = (xM y).2.2.2.2.2.2 ∧ (h.1 b).1 = (xM y).2.2.2.2.1 + 1 ∧ (xM y).2.2.2.2.1 < 6 ∧ (r.map fun v => v.category).sum ≤ 8 ∧ C y (.ref b :: As) h (fun v h' => X (pc + 3) ls (v.toList ++ r) h')
  | .invokestatic idx => len = 3 ∧ ((∃ y b As r, xml own idx = some (y, b) ∧ (xM y).2.2.2.2.2.1 = 2 ∧ st = As.reverse ++ r ∧ As.length = (xM y).2.2.2.2.2.2 ∧ (r.map fun v => v.category).sum ≤ 8 ∧ C y As h (fun v h' => X (pc + 3) ls (v.toList ++ r) h')) ∨
      (xmx own idx = true ∧ 1 ≤ d ∧ ∃ x y r, st = .int y :: .int x :: r ∧ (r.map fun v => v.category).sum ≤ 8 ∧ X (pc + 3) ls (.int (if x < y then y else x) :: r) h) ∨
      (xac own idx = true ∧ 1 ≤ d ∧ ∃ n dp sp a b r N M, st = .int (nI n) :: .int (nI dp) :: .ref b :: .int (nI sp) :: .ref a :: r ∧ (r.map fun v => v.category).sum ≤ 8 ∧ h.1 a = (100, N) ∧ h.1 b = (100, M) ∧ a ≠ b ∧ sp + n ≤ N ∧ dp + n ≤ M ∧ N ≤ 100000 ∧ M ≤ 100000 ∧ X (pc + 3) ls r (h.1, xuR h.2.1 b (va_cpy (h.2.1 a) (h.2.1 b) sp dp n), h.2.2)))
  | .invokespecial idx => len = 3 ∧ ((∃ y As b r, xml own idx = some (y, 0) ∧ (xM y).2.2.2.2.2.1 = 1 ∧ st = As.reverse ++ .ref b :: r ∧ As.length = (xM y).2.2.2.2.2.2 ∧ (r.map fun v => v.category).sum ≤ 8 ∧ C y (.ref b :: As) h (fun v h' => v = none ∧ X (pc + 3) ls r h')) ∨
      (xoi own idx = true ∧ 1 ≤ d ∧ ∃ a r, st = .ref a :: r ∧ (r.map fun v => v.category).sum ≤ 8 ∧ X (pc + 3) ls r h))
  | .ireturn => len = 1 ∧ ∃ v, st = [.int v] ∧ (ret = some .int ∨ (ret = some .boolean ∧ (v = 0 ∨ v = 1))) ∧ Q (some (.int v)) h
  | .return_ => len = 1 ∧ st = [] ∧ ret = none ∧ Q none h
  | _ => False
def xstp (C : xCT) (d own : Nat) (cc : ByteArray) (ret : Option FieldType) (ini : Bool) (Q : Option Value → xH → Prop) (X : xXT) (pc : Nat) (ls : xL) (st : List Value) (h : xH) : Prop :=
  match decode cc pc with
  | .ok (i, len) => xins C d own ret ini Q X i len pc ls st h
  | .error _ => False
/-- the run from here ends, and Q holds of its answer and heap: the least X that is closed under the steps -/
def xw (C : xCT) (d own : Nat) (cc : ByteArray) (ret : Option FieldType) (ini : Bool) (Q : Option Value → xH → Prop) (pc : Nat) (ls : xL) (st : List Value) (h : xH) : Prop :=
  ∀ X : xXT, (∀ pc ls st h, xstp C d own cc ret ini Q X pc ls st h → X pc ls st h) → X pc ls st h
/-- a call at depth d: it ends, makes mc cells of ms slots in all, and Q -/
def xC : Nat → xCT
  | 0 => fun y A h Q => ∃ mc ms : Nat, xw (fun _ _ _ _ => False) 0 (xM y).2.2.2.2.1 (xM y).2.1 (xM y).2.2.2.1 (decide ((xM y).2.2.2.2.2.1 = 1)) (fun r h' => h'.2.2.2.1 = h.2.2.2.1 + mc ∧ h'.2.2.2.2 = h.2.2.2.2 + ms ∧ Q r h') 0 (A.map some ++ List.replicate ((xM y).2.2.1 - A.length) none) [] h
  | d + 1 => fun y A h Q => ∃ mc ms : Nat, xw (xC d) (d + 1) (xM y).2.2.2.2.1 (xM y).2.1 (xM y).2.2.2.1 (decide ((xM y).2.2.2.2.2.1 = 1)) (fun r h' => h'.2.2.2.1 = h.2.2.2.1 + mc ∧ h'.2.2.2.2 = h.2.2.2.2 + ms ∧ Q r h') 0 (A.map some ++ List.replicate ((xM y).2.2.1 - A.length) none) [] h
end
section
/-! the abstract machine: growing, folding, and one rule an instruction -/
theorem xins_mono {C : xCT} {d own : Nat} {ret : Option FieldType} {ini : Bool} {Q Q' : Option Value → xH → Prop} {X X' : xXT} (hQ : ∀ r h, Q r h → Q' r h) (hX : ∀ pc ls st h, X pc ls st h → X' pc ls st h)
    (hC : ∀ y A h (P P' : Option Value → xH → Prop), (∀ r h, P r h → P' r h) → C y A h P → C y A h P') {i : Instr} {len pc : Nat} {ls : xL} {st : List Value} {h : xH}
    (hs : xins C d own ret ini Q X i len pc ls st h) : xins C d own ret ini Q' X' i len pc ls st h := by
  cases i with
  | iconst n => obtain ⟨a0, z⟩ := hs; exact ⟨a0, hX _ _ _ _ z⟩
  | bipush n => obtain ⟨a0, z⟩ := hs; exact ⟨a0, hX _ _ _ _ z⟩
  | sipush n => obtain ⟨a0, z⟩ := hs; exact ⟨a0, hX _ _ _ _ z⟩
  | iload n => obtain ⟨a0, a1, a2, z⟩ := hs; exact ⟨a0, a1, a2, hX _ _ _ _ z⟩
  | iload_n n => obtain ⟨a0, a1, a2, z⟩ := hs; exact ⟨a0, a1, a2, hX _ _ _ _ z⟩
  | aload n => obtain ⟨a0, a1, a2, z⟩ := hs; exact ⟨a0, a1, a2, hX _ _ _ _ z⟩
  | aload_n n => obtain ⟨a0, a1, a2, z⟩ := hs; exact ⟨a0, a1, a2, hX _ _ _ _ z⟩
  | istore n => obtain ⟨a0, a1, a2, a3, a4, z⟩ := hs; exact ⟨a0, a1, a2, a3, a4, hX _ _ _ _ z⟩
  | istore_n n => obtain ⟨a0, a1, a2, a3, a4, z⟩ := hs; exact ⟨a0, a1, a2, a3, a4, hX _ _ _ _ z⟩
  | astore n => obtain ⟨a0, a1, a2, a3, a4, z⟩ := hs; exact ⟨a0, a1, a2, a3, a4, hX _ _ _ _ z⟩
  | astore_n n => obtain ⟨a0, a1, a2, a3, a4, z⟩ := hs; exact ⟨a0, a1, a2, a3, a4, hX _ _ _ _ z⟩
  | iinc n c => obtain ⟨a0, a1, a2, z⟩ := hs; exact ⟨a0, a1, a2, hX _ _ _ _ z⟩
  | iadd => obtain ⟨a0, a1, a2, a3, a4, z⟩ := hs; exact ⟨a0, a1, a2, a3, a4, hX _ _ _ _ z⟩
  | isub => obtain ⟨a0, a1, a2, a3, a4, z⟩ := hs; exact ⟨a0, a1, a2, a3, a4, hX _ _ _ _ z⟩
  | imul => obtain ⟨a0, a1, a2, a3, a4, z⟩ := hs; exact ⟨a0, a1, a2, a3, a4, hX _ _ _ _ z⟩
  | iand => obtain ⟨a0, a1, a2, a3, a4, z⟩ := hs; exact ⟨a0, a1, a2, a3, a4, hX _ _ _ _ z⟩
  | idiv => obtain ⟨a0, a1, a2, a3, a4, a5, z⟩ := hs; exact ⟨a0, a1, a2, a3, a4, a5, hX _ _ _ _ z⟩
  | irem => obtain ⟨a0, a1, a2, a3, a4, a5, z⟩ := hs; exact ⟨a0, a1, a2, a3, a4, a5, hX _ _ _ _ z⟩
  | dup => obtain ⟨a0, a1, a2, a3, a4, z⟩ := hs; exact ⟨a0, a1, a2, a3, a4, hX _ _ _ _ z⟩
  | dup2 => obtain ⟨a0, a1, a2, a3, a4, a5, a6, z⟩ := hs; exact ⟨a0, a1, a2, a3, a4, a5, a6, hX _ _ _ _ z⟩
  | goto off => obtain ⟨a0, a1, a2, z⟩ := hs; exact ⟨a0, a1, a2, hX _ _ _ _ z⟩
  | getfield idx => obtain ⟨a0, a1, a2, a3, a4, a5, a6, a7, z⟩ := hs; exact ⟨a0, a1, a2, a3, a4, a5, a6, a7, hX _ _ _ _ z⟩
  | iaload => obtain ⟨a0, a1, a2, a3, a4, a5, a6, a7, z⟩ := hs; exact ⟨a0, a1, a2, a3, a4, a5, a6, a7, hX _ _ _ _ z⟩
  | baload => obtain ⟨a0, a1, a2, a3, a4, a5, a6, a7, z⟩ := hs; exact ⟨a0, a1, a2, a3, a4, a5, a6, a7, hX _ _ _ _ z⟩
  | aaload => obtain ⟨a0, a1, a2, a3, a4, a5, a6, a7, z⟩ := hs; exact ⟨a0, a1, a2, a3, a4, a5, a6, a7, hX _ _ _ _ z⟩
  | iastore => obtain ⟨a0, a1, a2, a3, a4, a5, a6, a7, a8, z⟩ := hs; exact ⟨a0, a1, a2, a3, a4, a5, a6, a7, a8, hX _ _ _ _ z⟩
  | bastore => obtain ⟨a0, a1, a2, a3, a4, a5, a6, a7, a8, a9, z⟩ := hs; exact ⟨a0, a1, a2, a3, a4, a5, a6, a7, a8, a9, hX _ _ _ _ z⟩
  | aastore => obtain ⟨a0, a1, a2, a3, a4, a5, a6, a7, a8, a9, z⟩ := hs; exact ⟨a0, a1, a2, a3, a4, a5, a6, a7, a8, a9, hX _ _ _ _ z⟩
  | arraylength => obtain ⟨a0, a1, a2, a3, a4, a5, z⟩ := hs; exact ⟨a0, a1, a2, a3, a4, a5, hX _ _ _ _ z⟩
  | new idx => obtain ⟨a0, a1, a2, z⟩ := hs; exact ⟨a0, a1, a2, hX _ _ _ _ z⟩
  | anewarray idx => obtain ⟨a0, a1, a2, a3, a4, a5, z⟩ := hs; exact ⟨a0, a1, a2, a3, a4, a5, hX _ _ _ _ z⟩
  | ifCond c off => obtain ⟨a0, a1, a2, a3, a4, a5, a6, a7⟩ := hs; exact ⟨a0, a1, a2, a3, a4, a5, fun q => hX _ _ _ _ (a6 q), fun q => hX _ _ _ _ (a7 q)⟩
  | if_icmp c off => obtain ⟨a0, a1, a2, a3, a4, a5, a6, a7, a8⟩ := hs; exact ⟨a0, a1, a2, a3, a4, a5, a6, fun q => hX _ _ _ _ (a7 q), fun q => hX _ _ _ _ (a8 q)⟩
  | tableswitch dflt lo hi offs => obtain ⟨a0, a1, a2, a3, a4⟩ := hs; exact ⟨a0, a1, a2, fun q => (a3 q).imp fun _ z => ⟨z.1, hX _ _ _ _ z.2⟩, fun q q2 => (a4 q q2).imp fun _ z => z.imp fun _ z => ⟨z.1, z.2.1, hX _ _ _ _ z.2.2⟩⟩
  | putfield idx =>
    obtain ⟨a0, c, k, a1, a2, a3⟩ := hs
    refine ⟨a0, c, k, a1, a2, ?_⟩
    rcases a3 with ⟨b0, b1, b2, b3, b4, b5, z⟩ | ⟨b0, b1, b2, b3, b4, b5, b6, z⟩ | ⟨b0, b1, b2, b3, b4, b5, z⟩
    · exact Or.inl ⟨b0, b1, b2, b3, b4, b5, hX _ _ _ _ z⟩
    · exact Or.inr (Or.inl ⟨b0, b1, b2, b3, b4, b5, b6, hX _ _ _ _ z⟩)
    · exact Or.inr (Or.inr ⟨b0, b1, b2, b3, b4, b5, hX _ _ _ _ z⟩)
  | newarray t =>
    obtain ⟨a0, n, r, a1, a2, a3⟩ := hs
    refine ⟨a0, n, r, a1, a2, ?_⟩
    rcases a3 with ⟨b0, z⟩ | ⟨b0, z⟩
    · exact Or.inl ⟨b0, hX _ _ _ _ z⟩
    · exact Or.inr ⟨b0, hX _ _ _ _ z⟩
  | invokevirtual idx =>
    obtain ⟨a0, y, As, b, r, a1, a2, a3, a4, a5, a6, a7, z⟩ := hs
    exact ⟨a0, y, As, b, r, a1, a2, a3, a4, a5, a6, a7, hC _ _ _ _ _ (fun v h' q => hX _ _ _ _ q) z⟩
  | invokestatic idx =>
    obtain ⟨a0, a1⟩ := hs
    refine ⟨a0, ?_⟩
    rcases a1 with ⟨y, b, As, r, b1, b2, b3, b4, b5, z⟩ | ⟨b0, b1, x, y, r, b2, b3, z⟩ | ⟨b0, b1, n, dp, sp, a, b, r, N, M, c1, c2, c3, c4, c5, c6, c7, c8, c9, z⟩
    · exact Or.inl ⟨y, b, As, r, b1, b2, b3, b4, b5, hC _ _ _ _ _ (fun v h' q => hX _ _ _ _ q) z⟩
    · exact Or.inr (Or.inl ⟨b0, b1, x, y, r, b2, b3, hX _ _ _ _ z⟩)
    · exact Or.inr (Or.inr ⟨b0, b1, n, dp, sp, a, b, r, N, M, c1, c2, c3, c4, c5, c6, c7, c8, c9, hX _ _ _ _ z⟩)
  | invokespecial idx =>
    obtain ⟨a0, a1⟩ := hs
    refine ⟨a0, ?_⟩
    rcases a1 with ⟨y, As, b, r, b1, b2, b3, b4, b5, z⟩ | ⟨b0, b1, a, r, b2, b3, z⟩
    · exact Or.inl ⟨y, As, b, r, b1, b2, b3, b4, b5, hC _ _ _ _ _ (fun v h' q => ⟨q.1, hX _ _ _ _ q.2⟩) z⟩
    · exact Or.inr ⟨b0, b1, a, r, b2, b3, hX _ _ _ _ z⟩
  | ireturn => obtain ⟨a0, v, a1, a2, z⟩ := hs; exact ⟨a0, v, a1, a2, hQ _ _ z⟩
  | return_ => obtain ⟨a0, a1, a2, z⟩ := hs; exact ⟨a0, a1, a2, hQ _ _ z⟩
  | _ => exact False.elim hs
theorem xstp_mono {C : xCT} {d own : Nat} {cc : ByteArray} {ret : Option FieldType} {ini : Bool} {Q Q' : Option Value → xH → Prop} {X X' : xXT} (hQ : ∀ r h, Q r h → Q' r h) (hX : ∀ pc ls st h, X pc ls st h → X' pc ls st h)
    (hC : ∀ y A h (P P' : Option Value → xH → Prop), (∀ r h, P r h → P' r h) → C y A h P → C y A h P') {pc : Nat} {ls : xL} {st : List Value} {h : xH}
    (hs : xstp C d own cc ret ini Q X pc ls st h) : xstp C d own cc ret ini Q' X' pc ls st h := by
  unfold xstp at hs ⊢
  cases hd : decode cc pc with
  | error e => rw [hd] at hs; exact False.elim hs
  | ok r =>
    rw [hd] at hs
    obtain ⟨i, len⟩ := r
    exact xins_mono hQ hX hC hs
theorem xw_mono {C : xCT} {d own : Nat} {cc : ByteArray} {ret : Option FieldType} {ini : Bool} {Q Q' : Option Value → xH → Prop} (hQ : ∀ r h, Q r h → Q' r h)
    (hC : ∀ y A h (P P' : Option Value → xH → Prop), (∀ r h, P r h → P' r h) → C y A h P → C y A h P') {pc : Nat} {ls : xL} {st : List Value} {h : xH}
    (hs : xw C d own cc ret ini Q pc ls st h) : xw C d own cc ret ini Q' pc ls st h := fun X hX => hs X fun pc ls st h q => hX pc ls st h (xstp_mono hQ (fun _ _ _ _ z => z) hC q)
theorem xC_mono : ∀ (d y : Nat) (A : List Value) (h : xH) (P P' : Option Value → xH → Prop), (∀ r h, P r h → P' r h) → xC d y A h P → xC d y A h P'
  | 0, y, A, h, P, P', hP, ⟨mc, ms, z⟩ => ⟨mc, ms, xw_mono (fun r h' q => ⟨q.1, q.2.1, hP r h' q.2.2⟩) (fun _ _ _ _ _ _ q => q) z⟩
  | d + 1, y, A, h, P, P', hP, ⟨mc, ms, z⟩ => ⟨mc, ms, xw_mono (fun r h' q => ⟨q.1, q.2.1, hP r h' q.2.2⟩) (xC_mono d) z⟩
/-- the machine at depth d: calls of depth d - 1 -/
def xCd (d : Nat) : xCT := match d with
  | 0 => fun _ _ _ _ => False
  | d + 1 => xC d
theorem xCd_mono (d : Nat) : ∀ y A h (P P' : Option Value → xH → Prop), (∀ r h, P r h → P' r h) → xCd d y A h P → xCd d y A h P' := by
  cases d with
  | zero => intro y A h P P' _ q; exact q
  | succ d => exact xC_mono d
/-- the run of a method's body from here, at depth d -/
abbrev xB (d own : Nat) (cc : ByteArray) (ret : Option FieldType) (ini : Bool) (Q : Option Value → xH → Prop) (pc : Nat) (ls : xL) (st : List Value) (h : xH) : Prop := xw (xCd d) d own cc ret ini Q pc ls st h
theorem xC_eq (d y : Nat) (A : List Value) (h : xH) (Q : Option Value → xH → Prop) : xC d y A h Q ↔ ∃ mc ms : Nat, xB d (xM y).2.2.2.2.1 (xM y).2.1 (xM y).2.2.2.1 (decide ((xM y).2.2.2.2.2.1 = 1)) (fun r h' => h'.2.2.2.1 = h.2.2.2.1 + mc ∧ h'.2.2.2.2 = h.2.2.2.2 + ms ∧ Q r h') 0 (A.map some ++ List.replicate ((xM y).2.2.1 - A.length) none) [] h := by
  cases d <;> exact Iff.rfl
section XR
variable {d own : Nat} {cc : ByteArray} {ret : Option FieldType} {ini : Bool} {Q : Option Value → xH → Prop} {pc : Nat} {ls : xL} {st : List Value} {h : xH}
theorem x_fold (hs : xstp (xCd d) d own cc ret ini Q (xB d own cc ret ini Q) pc ls st h) : xB d own cc ret ini Q pc ls st h :=
  fun X hX => hX _ _ _ _ (xstp_mono (fun _ _ q => q) (fun _ _ _ _ z => z X hX) (xCd_mono d) hs)
theorem x_at {i : Instr} {len : Nat} (hd : decode cc pc = .ok (i, len)) (hs : xins (xCd d) d own ret ini Q (xB d own cc ret ini Q) i len pc ls st h) : xB d own cc ret ini Q pc ls st h := by
  refine x_fold ?_
  unfold xstp
  rw [hd]
  exact hs
theorem x_iconst {n : Int} (hd : decode cc pc = .ok (.iconst n, 1)) (k : xB d own cc ret ini Q (pc + 1) ls (.int (Int32.ofInt n) :: st) h) : xB d own cc ret ini Q pc ls st h := x_at hd ⟨rfl, k⟩
theorem x_bipush {n : Int} (hd : decode cc pc = .ok (.bipush n, 2)) (k : xB d own cc ret ini Q (pc + 2) ls (.int (Int8.ofInt n).toInt32 :: st) h) : xB d own cc ret ini Q pc ls st h := x_at hd ⟨rfl, k⟩
theorem x_sipush {n : Int} (hd : decode cc pc = .ok (.sipush n, 3)) (k : xB d own cc ret ini Q (pc + 3) ls (.int (Int16.ofInt n).toInt32 :: st) h) : xB d own cc ret ini Q pc ls st h := x_at hd ⟨rfl, k⟩
theorem x_iload {n : Nat} {x : Int32} (hd : decode cc pc = .ok (.iload n, 2)) (hl : ls[n]? = some (some (.int x))) (k : xB d own cc ret ini Q (pc + 2) ls (.int x :: st) h) : xB d own cc ret ini Q pc ls st h := x_at hd ⟨rfl, x, hl, k⟩
theorem x_iload_n {n : Fin 4} {x : Int32} (hd : decode cc pc = .ok (.iload_n n, 1)) (hl : ls[n.val]? = some (some (.int x))) (k : xB d own cc ret ini Q (pc + 1) ls (.int x :: st) h) : xB d own cc ret ini Q pc ls st h := x_at hd ⟨rfl, x, hl, k⟩
theorem x_istore {n : Nat} {x : Int32} (hd : decode cc pc = .ok (.istore n, 2)) (hl : n < ls.length) (k : xB d own cc ret ini Q (pc + 2) (ls.set n (some (.int x))) st h) : xB d own cc ret ini Q pc ls (.int x :: st) h := x_at hd ⟨rfl, x, _, rfl, hl, k⟩
theorem x_istore_n {n : Fin 4} {x : Int32} (hd : decode cc pc = .ok (.istore_n n, 1)) (hl : n.val < ls.length) (k : xB d own cc ret ini Q (pc + 1) (ls.set n.val (some (.int x))) st h) : xB d own cc ret ini Q pc ls (.int x :: st) h := x_at hd ⟨rfl, x, _, rfl, hl, k⟩
theorem x_aload {n : Nat} {x : Nat} (hd : decode cc pc = .ok (.aload n, 2)) (hl : ls[n]? = some (some (.ref x))) (k : xB d own cc ret ini Q (pc + 2) ls (.ref x :: st) h) : xB d own cc ret ini Q pc ls st h := x_at hd ⟨rfl, x, hl, k⟩
theorem x_aload_n {n : Fin 4} {x : Nat} (hd : decode cc pc = .ok (.aload_n n, 1)) (hl : ls[n.val]? = some (some (.ref x))) (k : xB d own cc ret ini Q (pc + 1) ls (.ref x :: st) h) : xB d own cc ret ini Q pc ls st h := x_at hd ⟨rfl, x, hl, k⟩
theorem x_astore {n : Nat} {x : Nat} (hd : decode cc pc = .ok (.astore n, 2)) (hl : n < ls.length) (k : xB d own cc ret ini Q (pc + 2) (ls.set n (some (.ref x))) st h) : xB d own cc ret ini Q pc ls (.ref x :: st) h := x_at hd ⟨rfl, x, _, rfl, hl, k⟩
theorem x_astore_n {n : Fin 4} {x : Nat} (hd : decode cc pc = .ok (.astore_n n, 1)) (hl : n.val < ls.length) (k : xB d own cc ret ini Q (pc + 1) (ls.set n.val (some (.ref x))) st h) : xB d own cc ret ini Q pc ls (.ref x :: st) h := x_at hd ⟨rfl, x, _, rfl, hl, k⟩
theorem x_iinc {n : Nat} {c : Int} {x : Int32} (hd : decode cc pc = .ok (.iinc n c, 3)) (hl : ls[n]? = some (some (.int x))) (k : xB d own cc ret ini Q (pc + 3) (ls.set n (some (.int (x + Int32.ofInt c)))) st h) : xB d own cc ret ini Q pc ls st h := x_at hd ⟨rfl, x, hl, k⟩
theorem x_iadd {x y : Int32} (hd : decode cc pc = .ok (.iadd, 1)) (k : xB d own cc ret ini Q (pc + 1) ls (.int (x + y) :: st) h) : xB d own cc ret ini Q pc ls (.int y :: .int x :: st) h := x_at hd ⟨rfl, x, y, _, rfl, k⟩
theorem x_isub {x y : Int32} (hd : decode cc pc = .ok (.isub, 1)) (k : xB d own cc ret ini Q (pc + 1) ls (.int (x - y) :: st) h) : xB d own cc ret ini Q pc ls (.int y :: .int x :: st) h := x_at hd ⟨rfl, x, y, _, rfl, k⟩
theorem x_imul {x y : Int32} (hd : decode cc pc = .ok (.imul, 1)) (k : xB d own cc ret ini Q (pc + 1) ls (.int (x * y) :: st) h) : xB d own cc ret ini Q pc ls (.int y :: .int x :: st) h := x_at hd ⟨rfl, x, y, _, rfl, k⟩
theorem x_iand {x y : Int32} (hd : decode cc pc = .ok (.iand, 1)) (k : xB d own cc ret ini Q (pc + 1) ls (.int (x &&& y) :: st) h) : xB d own cc ret ini Q pc ls (.int y :: .int x :: st) h := x_at hd ⟨rfl, x, y, _, rfl, k⟩
theorem x_idiv {x y : Int32} (hd : decode cc pc = .ok (.idiv, 1)) (hy : ¬ y = 0) (k : xB d own cc ret ini Q (pc + 1) ls (.int (x / y) :: st) h) : xB d own cc ret ini Q pc ls (.int y :: .int x :: st) h := x_at hd ⟨rfl, x, y, _, rfl, hy, k⟩
theorem x_irem {x y : Int32} (hd : decode cc pc = .ok (.irem, 1)) (hy : ¬ y = 0) (k : xB d own cc ret ini Q (pc + 1) ls (.int (x - x / y * y) :: st) h) : xB d own cc ret ini Q pc ls (.int y :: .int x :: st) h := x_at hd ⟨rfl, x, y, _, rfl, hy, k⟩
theorem x_dup {v : Value} (hd : decode cc pc = .ok (.dup, 1)) (hv : v.category = 1) (k : xB d own cc ret ini Q (pc + 1) ls (v :: v :: st) h) : xB d own cc ret ini Q pc ls (v :: st) h := x_at hd ⟨rfl, v, _, rfl, hv, k⟩
theorem x_dup2 {v w : Value} (hd : decode cc pc = .ok (.dup2, 1)) (hv : v.category = 1) (hw : w.category = 1) (k : xB d own cc ret ini Q (pc + 1) ls (v :: w :: v :: w :: st) h) : xB d own cc ret ini Q pc ls (v :: w :: st) h := x_at hd ⟨rfl, v, w, _, rfl, hv, hw, k⟩
theorem x_if_eq {x : Int32} {off : Int} (t : Nat) (hd : decode cc pc = .ok (.ifCond .eq off, 3)) (ht : (pc : Int) + off = (t : Int)) (kt : x = 0 → xB d own cc ret ini Q t ls st h) (kf : ¬ x = 0 → xB d own cc ret ini Q (pc + 3) ls st h) : xB d own cc ret ini Q pc ls (.int x :: st) h := x_at hd ⟨rfl, x, _, t, rfl, ht, kt, kf⟩
theorem x_icmp_eq {x y : Int32} {off : Int} (t : Nat) (hd : decode cc pc = .ok (.if_icmp .eq off, 3)) (ht : (pc : Int) + off = (t : Int)) (kt : x = y → xB d own cc ret ini Q t ls st h) (kf : ¬ x = y → xB d own cc ret ini Q (pc + 3) ls st h) : xB d own cc ret ini Q pc ls (.int y :: .int x :: st) h := x_at hd ⟨rfl, x, y, _, t, rfl, ht, kt, kf⟩
theorem x_if_ne {x : Int32} {off : Int} (t : Nat) (hd : decode cc pc = .ok (.ifCond .ne off, 3)) (ht : (pc : Int) + off = (t : Int)) (kt : ¬ x = 0 → xB d own cc ret ini Q t ls st h) (kf : x = 0 → xB d own cc ret ini Q (pc + 3) ls st h) : xB d own cc ret ini Q pc ls (.int x :: st) h := x_at hd ⟨rfl, x, _, t, rfl, ht, kt, fun q => kf (Classical.not_not.mp q)⟩
theorem x_icmp_ne {x y : Int32} {off : Int} (t : Nat) (hd : decode cc pc = .ok (.if_icmp .ne off, 3)) (ht : (pc : Int) + off = (t : Int)) (kt : ¬ x = y → xB d own cc ret ini Q t ls st h) (kf : x = y → xB d own cc ret ini Q (pc + 3) ls st h) : xB d own cc ret ini Q pc ls (.int y :: .int x :: st) h := x_at hd ⟨rfl, x, y, _, t, rfl, ht, kt, fun q => kf (Classical.not_not.mp q)⟩
theorem x_if_lt {x : Int32} {off : Int} (t : Nat) (hd : decode cc pc = .ok (.ifCond .lt off, 3)) (ht : (pc : Int) + off = (t : Int)) (kt : x < 0 → xB d own cc ret ini Q t ls st h) (kf : ¬ x < 0 → xB d own cc ret ini Q (pc + 3) ls st h) : xB d own cc ret ini Q pc ls (.int x :: st) h := x_at hd ⟨rfl, x, _, t, rfl, ht, kt, kf⟩
theorem x_icmp_lt {x y : Int32} {off : Int} (t : Nat) (hd : decode cc pc = .ok (.if_icmp .lt off, 3)) (ht : (pc : Int) + off = (t : Int)) (kt : x < y → xB d own cc ret ini Q t ls st h) (kf : ¬ x < y → xB d own cc ret ini Q (pc + 3) ls st h) : xB d own cc ret ini Q pc ls (.int y :: .int x :: st) h := x_at hd ⟨rfl, x, y, _, t, rfl, ht, kt, kf⟩
theorem x_if_ge {x : Int32} {off : Int} (t : Nat) (hd : decode cc pc = .ok (.ifCond .ge off, 3)) (ht : (pc : Int) + off = (t : Int)) (kt : 0 ≤ x → xB d own cc ret ini Q t ls st h) (kf : ¬ 0 ≤ x → xB d own cc ret ini Q (pc + 3) ls st h) : xB d own cc ret ini Q pc ls (.int x :: st) h := x_at hd ⟨rfl, x, _, t, rfl, ht, kt, kf⟩
theorem x_icmp_ge {x y : Int32} {off : Int} (t : Nat) (hd : decode cc pc = .ok (.if_icmp .ge off, 3)) (ht : (pc : Int) + off = (t : Int)) (kt : y ≤ x → xB d own cc ret ini Q t ls st h) (kf : ¬ y ≤ x → xB d own cc ret ini Q (pc + 3) ls st h) : xB d own cc ret ini Q pc ls (.int y :: .int x :: st) h := x_at hd ⟨rfl, x, y, _, t, rfl, ht, kt, kf⟩
theorem x_if_gt {x : Int32} {off : Int} (t : Nat) (hd : decode cc pc = .ok (.ifCond .gt off, 3)) (ht : (pc : Int) + off = (t : Int)) (kt : 0 < x → xB d own cc ret ini Q t ls st h) (kf : ¬ 0 < x → xB d own cc ret ini Q (pc + 3) ls st h) : xB d own cc ret ini Q pc ls (.int x :: st) h := x_at hd ⟨rfl, x, _, t, rfl, ht, kt, kf⟩
theorem x_icmp_gt {x y : Int32} {off : Int} (t : Nat) (hd : decode cc pc = .ok (.if_icmp .gt off, 3)) (ht : (pc : Int) + off = (t : Int)) (kt : y < x → xB d own cc ret ini Q t ls st h) (kf : ¬ y < x → xB d own cc ret ini Q (pc + 3) ls st h) : xB d own cc ret ini Q pc ls (.int y :: .int x :: st) h := x_at hd ⟨rfl, x, y, _, t, rfl, ht, kt, kf⟩
theorem x_if_le {x : Int32} {off : Int} (t : Nat) (hd : decode cc pc = .ok (.ifCond .le off, 3)) (ht : (pc : Int) + off = (t : Int)) (kt : x ≤ 0 → xB d own cc ret ini Q t ls st h) (kf : ¬ x ≤ 0 → xB d own cc ret ini Q (pc + 3) ls st h) : xB d own cc ret ini Q pc ls (.int x :: st) h := x_at hd ⟨rfl, x, _, t, rfl, ht, kt, kf⟩
theorem x_icmp_le {x y : Int32} {off : Int} (t : Nat) (hd : decode cc pc = .ok (.if_icmp .le off, 3)) (ht : (pc : Int) + off = (t : Int)) (kt : x ≤ y → xB d own cc ret ini Q t ls st h) (kf : ¬ x ≤ y → xB d own cc ret ini Q (pc + 3) ls st h) : xB d own cc ret ini Q pc ls (.int y :: .int x :: st) h := x_at hd ⟨rfl, x, y, _, t, rfl, ht, kt, kf⟩
theorem x_goto {off : Int} (t : Nat) (hd : decode cc pc = .ok (.goto off, 3)) (ht : (pc : Int) + off = (t : Int)) (k : xB d own cc ret ini Q t ls st h) : xB d own cc ret ini Q pc ls st h := x_at hd ⟨rfl, t, ht, k⟩
theorem x_tsw {x : Int32} {dflt lo hi : Int} {offs : Array Int} {len : Nat} (hd : decode cc pc = .ok (.tableswitch dflt lo hi offs, len)) (ko : x.toInt < lo ∨ hi < x.toInt → ∃ t : Nat, (pc : Int) + dflt = (t : Int) ∧ xB d own cc ret ini Q t ls st h) (ki : ¬ x.toInt < lo → ¬ hi < x.toInt → ∃ (off : Int) (t : Nat), offs[(x.toInt - lo).toNat]? = some off ∧ (pc : Int) + off = (t : Int) ∧ xB d own cc ret ini Q t ls st h) : xB d own cc ret ini Q pc ls (.int x :: st) h := x_at hd ⟨x, _, rfl, ko, ki⟩
theorem x_geti {idx a : Nat} (c f : Nat) (hd : decode cc pc = .ok (.getfield idx, 3)) (hf : xfl own idx = some (c, f)) (ht : (xft c f == 2) = false) (ha : (h.1 a).1 = c + 1) (k : xB d own cc ret ini Q (pc + 3) ls (.int (h.2.1 a f) :: st) h) : xB d own cc ret ini Q pc ls (.ref a :: st) h := x_at hd ⟨rfl, c, f, a, _, hf, rfl, ha, by rw [if_neg (by simpa using ht)]; exact k⟩
theorem x_getr {idx a b : Nat} (c f : Nat) (hd : decode cc pc = .ok (.getfield idx, 3)) (hf : xfl own idx = some (c, f)) (ht : (xft c f == 2) = true) (ha : (h.1 a).1 = c + 1) (hb : h.2.2.1 a f = some b) (k : xB d own cc ret ini Q (pc + 3) ls (.ref b :: st) h) : xB d own cc ret ini Q pc ls (.ref a :: st) h := x_at hd ⟨rfl, c, f, a, _, hf, rfl, ha, by rw [if_pos (by simpa using ht), hb]; exact k⟩
theorem x_puti {idx a : Nat} {x : Int32} (c f : Nat) (hd : decode cc pc = .ok (.putfield idx, 3)) (hf : xfl own idx = some (c, f)) (ht : (xft c f == 0) = true) (hn : ((xT c f).2.2.2 == false) = true) (ha : (h.1 a).1 = c + 1) (k : xB d own cc ret ini Q (pc + 3) ls st (h.1, xuI h.2.1 a f x, h.2.2)) : xB d own cc ret ini Q pc ls (.int x :: .ref a :: st) h := x_at hd ⟨rfl, c, f, hf, fun q => (by rw [q] at hn; cases hn), Or.inl ⟨by simpa using ht, x, a, _, rfl, ha, k⟩⟩
theorem x_putz {idx a : Nat} {x : Int32} (c f : Nat) (hd : decode cc pc = .ok (.putfield idx, 3)) (hf : xfl own idx = some (c, f)) (ht : (xft c f == 1) = true) (hn : ((xT c f).2.2.2 == false) = true) (ha : (h.1 a).1 = c + 1) (hx : x = 0 ∨ x = 1) (k : xB d own cc ret ini Q (pc + 3) ls st (h.1, xuI h.2.1 a f x, h.2.2)) : xB d own cc ret ini Q pc ls (.int x :: .ref a :: st) h := x_at hd ⟨rfl, c, f, hf, fun q => (by rw [q] at hn; cases hn), Or.inr (Or.inl ⟨by simpa using ht, x, a, _, rfl, hx, ha, k⟩)⟩
theorem x_putr {idx a b : Nat} (c f : Nat) (hd : decode cc pc = .ok (.putfield idx, 3)) (hf : xfl own idx = some (c, f)) (ht : (xft c f == 2) = true) (hn : ((xT c f).2.2.2 == false || (ini && own == c)) = true) (ha : (h.1 a).1 = c + 1) (k : xB d own cc ret ini Q (pc + 3) ls st (h.1, h.2.1, xuP h.2.2.1 a f (some b), h.2.2.2)) : xB d own cc ret ini Q pc ls (.ref b :: .ref a :: st) h := x_at hd ⟨rfl, c, f, hf, fun q => (by rw [q] at hn; simpa using hn), Or.inr (Or.inr ⟨by simpa using ht, b, a, _, rfl, ha, k⟩)⟩
theorem x_iald {j : Int32} {a N : Nat} (hd : decode cc pc = .ok (.iaload, 1)) (ha : h.1 a = (100, N)) (hj : vp_in j N) (k : xB d own cc ret ini Q (pc + 1) ls (.int (h.2.1 a j.toNatClampNeg) :: st) h) : xB d own cc ret ini Q pc ls (.int j :: .ref a :: st) h := x_at hd ⟨rfl, j, a, _, N, rfl, Or.inl ha, hj, k⟩
theorem x_sald {j : Int32} {a N : Nat} (hd : decode cc pc = .ok (.iaload, 1)) (ha : h.1 a = (103, N)) (hj : vp_in j N) (k : xB d own cc ret ini Q (pc + 1) ls (.int (h.2.1 a j.toNatClampNeg) :: st) h) : xB d own cc ret ini Q pc ls (.int j :: .ref a :: st) h := x_at hd ⟨rfl, j, a, _, N, rfl, Or.inr ha, hj, k⟩
theorem x_bald {j : Int32} {a N : Nat} (hd : decode cc pc = .ok (.baload, 1)) (ha : h.1 a = (101, N)) (hj : vp_in j N) (k : xB d own cc ret ini Q (pc + 1) ls (.int (h.2.1 a j.toNatClampNeg) :: st) h) : xB d own cc ret ini Q pc ls (.int j :: .ref a :: st) h := x_at hd ⟨rfl, j, a, _, N, rfl, ha, hj, k⟩
theorem x_aald {j : Int32} {a b N : Nat} (hd : decode cc pc = .ok (.aaload, 1)) (ha : h.1 a = (102, N)) (hj : vp_in j N) (hb : h.2.2.1 a j.toNatClampNeg = some b) (k : xB d own cc ret ini Q (pc + 1) ls (.ref b :: st) h) : xB d own cc ret ini Q pc ls (.int j :: .ref a :: st) h := x_at hd ⟨rfl, j, a, _, N, rfl, ha, hj, by rw [hb]; exact k⟩
theorem x_iast {x j : Int32} {a N : Nat} (hd : decode cc pc = .ok (.iastore, 1)) (ha : h.1 a = (100, N)) (hj : vp_in j N) (k : xB d own cc ret ini Q (pc + 1) ls st (h.1, xuI h.2.1 a j.toNatClampNeg x, h.2.2)) : xB d own cc ret ini Q pc ls (.int x :: .int j :: .ref a :: st) h := x_at hd ⟨rfl, x, j, a, _, N, rfl, ha, hj, k⟩
theorem x_bast {x j : Int32} {a N : Nat} (hd : decode cc pc = .ok (.bastore, 1)) (ha : h.1 a = (101, N)) (hj : vp_in j N) (hx : x = 0 ∨ x = 1) (k : xB d own cc ret ini Q (pc + 1) ls st (h.1, xuI h.2.1 a j.toNatClampNeg x, h.2.2)) : xB d own cc ret ini Q pc ls (.int x :: .int j :: .ref a :: st) h := x_at hd ⟨rfl, x, j, a, _, N, rfl, hx, ha, hj, k⟩
theorem x_aast {j : Int32} {a b N : Nat} (hd : decode cc pc = .ok (.aastore, 1)) (ha : h.1 a = (102, N)) (hj : vp_in j N) (hb : (h.1 b).1 = 3) (k : xB d own cc ret ini Q (pc + 1) ls st (h.1, h.2.1, xuP h.2.2.1 a j.toNatClampNeg (some b), h.2.2.2)) : xB d own cc ret ini Q pc ls (.ref b :: .int j :: .ref a :: st) h := x_at hd ⟨rfl, b, j, a, _, N, rfl, ha, hj, hb, k⟩
theorem x_alen {a N : Nat} (hd : decode cc pc = .ok (.arraylength, 1)) (ha : h.1 a = (100, N)) (k : xB d own cc ret ini Q (pc + 1) ls (.int (nI N) :: st) h) : xB d own cc ret ini Q pc ls (.ref a :: st) h := x_at hd ⟨rfl, a, _, N, rfl, Or.inl ha, k⟩
theorem x_slen {a N : Nat} (hd : decode cc pc = .ok (.arraylength, 1)) (ha : h.1 a = (103, N)) (k : xB d own cc ret ini Q (pc + 1) ls (.int (nI N) :: st) h) : xB d own cc ret ini Q pc ls (.ref a :: st) h := x_at hd ⟨rfl, a, _, N, rfl, Or.inr ha, k⟩
theorem x_new {idx : Nat} (c : Nat) (hd : decode cc pc = .ok (.new idx, 3)) (hc : xcl own idx = some c) (k : xB d own cc ret ini Q (pc + 3) ls (.ref h.2.2.2.1 :: st) (xuK h.1 h.2.2.2.1 (c + 1, 0), xuR h.2.1 h.2.2.2.1 (fun _ => 0), xuQ h.2.2.1 h.2.2.2.1 (fun _ => none), h.2.2.2.1 + 1, h.2.2.2.2 + xN c)) : xB d own cc ret ini Q pc ls st h := x_at hd ⟨rfl, c, hc, k⟩
theorem x_newi {x : Int32} (n : Nat) (hd : decode cc pc = .ok (.newarray .int, 2)) (hx : x = nI n) (hn : n ≤ 100000) (k : xB d own cc ret ini Q (pc + 2) ls (.ref h.2.2.2.1 :: st) (xuK h.1 h.2.2.2.1 (100, n), xuR h.2.1 h.2.2.2.1 (fun _ => 0), h.2.2.1, h.2.2.2.1 + 1, h.2.2.2.2 + n)) : xB d own cc ret ini Q pc ls (.int x :: st) h := x_at hd ⟨rfl, n, _, by rw [hx], hn, Or.inl ⟨rfl, k⟩⟩
theorem x_newz {x : Int32} (n : Nat) (hd : decode cc pc = .ok (.newarray .boolean, 2)) (hx : x = nI n) (hn : n ≤ 100000) (k : xB d own cc ret ini Q (pc + 2) ls (.ref h.2.2.2.1 :: st) (xuK h.1 h.2.2.2.1 (101, n), xuR h.2.1 h.2.2.2.1 (fun _ => 0), h.2.2.1, h.2.2.2.1 + 1, h.2.2.2.2 + n)) : xB d own cc ret ini Q pc ls (.int x :: st) h := x_at hd ⟨rfl, n, _, by rw [hx], hn, Or.inr ⟨rfl, k⟩⟩
theorem x_newm {x : Int32} {idx : Nat} (n : Nat) (hd : decode cc pc = .ok (.anewarray idx, 3)) (hx : x = nI n) (hn : n ≤ 100000) (hc : xcl own idx = some 2) (k : xB d own cc ret ini Q (pc + 3) ls (.ref h.2.2.2.1 :: st) (xuK h.1 h.2.2.2.1 (102, n), h.2.1, xuQ h.2.2.1 h.2.2.2.1 (fun _ => none), h.2.2.2.1 + 1, h.2.2.2.2 + n)) : xB d own cc ret ini Q pc ls (.int x :: st) h := x_at hd ⟨rfl, n, _, by rw [hx], hn, hc, k⟩
end XR
section XRC
variable {d own : Nat} {cc : ByteArray} {ret : Option FieldType} {ini : Bool} {Q : Option Value → xH → Prop} {pc : Nat} {ls : xL} {st : List Value} {h : xH}
theorem x_callV {idx b : Nat} (y : Nat) (As r : List Value) (P : Option Value → xH → Prop) (hd : decode cc pc = .ok (.invokevirtual idx, 3)) (hm : xml own idx = some (y, 0)) (hy : ((xM y).2.2.2.2.2.1 == 0 && decide ((xM y).2.2.2.2.1 < 6) && As.length == (xM y).2.2.2.2.2.2) = true) (hst : st = As.reverse ++ .ref b :: r) (hb : (h.1 b).1 = (xM y).2.2.2.2.1 + 1) (hr : (r.map fun v => v.category).sum ≤ 8) (hc : xC d y (.ref b :: As) h P) (k : ∀ v h', P v h' → xB (d + 1) own cc ret ini Q (pc + 3) ls (v.toList ++ r) h') : xB (d + 1) own cc ret ini Q pc ls st h := by
  simp only [Bool.and_eq_true, beq_iff_eq, decide_eq_true_eq] at hy
  exact x_at hd ⟨rfl, y, As, b, r, hm, hy.1.1, hst, hy.2, hb, hy.1.2, hr, xC_mono d y _ h _ _ k hc⟩
theorem x_callS {idx : Nat} (y nb : Nat) (As r : List Value) (P : Option Value → xH → Prop) (hd : decode cc pc = .ok (.invokestatic idx, 3)) (hm : xml own idx = some (y, nb)) (hy : ((xM y).2.2.2.2.2.1 == 2 && As.length == (xM y).2.2.2.2.2.2) = true) (hst : st = As.reverse ++ r) (hr : (r.map fun v => v.category).sum ≤ 8) (hc : xC d y As h P) (k : ∀ v h', P v h' → xB (d + 1) own cc ret ini Q (pc + 3) ls (v.toList ++ r) h') : xB (d + 1) own cc ret ini Q pc ls st h := by
  simp only [Bool.and_eq_true, beq_iff_eq] at hy
  exact x_at hd ⟨rfl, Or.inl ⟨y, nb, As, r, hm, hy.1, hst, hy.2, hr, xC_mono d y _ h _ _ k hc⟩⟩
theorem x_callI {idx b : Nat} (y : Nat) (As r : List Value) (P : Option Value → xH → Prop) (hd : decode cc pc = .ok (.invokespecial idx, 3)) (hm : xml own idx = some (y, 0)) (hy : ((xM y).2.2.2.2.2.1 == 1 && As.length == (xM y).2.2.2.2.2.2) = true) (hst : st = As.reverse ++ .ref b :: r) (hr : (r.map fun v => v.category).sum ≤ 8) (hc : xC d y (.ref b :: As) h P) (k : ∀ v h', P v h' → v = none ∧ xB (d + 1) own cc ret ini Q (pc + 3) ls r h') : xB (d + 1) own cc ret ini Q pc ls st h := by
  simp only [Bool.and_eq_true, beq_iff_eq] at hy
  exact x_at hd ⟨rfl, Or.inl ⟨y, As, b, r, hm, hy.1, hst, hy.2, hr, xC_mono d y _ h _ _ k hc⟩⟩
theorem x_obj {idx a : Nat} (hd : decode cc pc = .ok (.invokespecial idx, 3)) (hm : xoi own idx = true) (hr : (st.map fun v => v.category).sum ≤ 8) (k : xB (d + 1) own cc ret ini Q (pc + 3) ls st h) : xB (d + 1) own cc ret ini Q pc ls (.ref a :: st) h := x_at hd ⟨rfl, Or.inr ⟨hm, Nat.le_add_left 1 d, a, _, rfl, hr, k⟩⟩
theorem x_max {idx : Nat} {x y : Int32} (hd : decode cc pc = .ok (.invokestatic idx, 3)) (hm : xmx own idx = true) (hr : (st.map fun v => v.category).sum ≤ 8) (k : xB (d + 1) own cc ret ini Q (pc + 3) ls (.int (if x < y then y else x) :: st) h) : xB (d + 1) own cc ret ini Q pc ls (.int y :: .int x :: st) h := x_at hd ⟨rfl, Or.inr (Or.inl ⟨hm, Nat.le_add_left 1 d, x, y, _, rfl, hr, k⟩)⟩
theorem x_copy {idx a b : Nat} {xn xd xs : Int32} (n dp sp N M : Nat) (hd : decode cc pc = .ok (.invokestatic idx, 3)) (hm : xac own idx = true) (hr : (st.map fun v => v.category).sum ≤ 8) (en : xn = nI n) (ed : xd = nI dp) (es : xs = nI sp) (ha : h.1 a = (100, N)) (hb : h.1 b = (100, M)) (hne : a ≠ b) (h1 : sp + n ≤ N) (h2 : dp + n ≤ M) (h3 : N ≤ 100000) (h4 : M ≤ 100000) (k : xB (d + 1) own cc ret ini Q (pc + 3) ls st (h.1, xuR h.2.1 b (va_cpy (h.2.1 a) (h.2.1 b) sp dp n), h.2.2)) : xB (d + 1) own cc ret ini Q pc ls (.int xn :: .int xd :: .ref b :: .int xs :: .ref a :: st) h := x_at hd ⟨rfl, Or.inr (Or.inr ⟨hm, Nat.le_add_left 1 d, n, dp, sp, a, b, _, N, M, by rw [en, ed, es], hr, ha, hb, hne, h1, h2, h3, h4, k⟩)⟩
end XRC
section XRE
variable {d own : Nat} {cc : ByteArray} {ini : Bool} {Q : Option Value → xH → Prop} {pc : Nat} {ls : xL} {h : xH}
theorem x_ret {v : Int32} (hd : decode cc pc = .ok (.ireturn, 1)) (q : Q (some (.int v)) h) : xB d own cc (some .int) ini Q pc ls [.int v] h := x_at hd ⟨rfl, v, rfl, Or.inl rfl, q⟩
theorem x_retz {v : Int32} (hd : decode cc pc = .ok (.ireturn, 1)) (hv : v = 0 ∨ v = 1) (q : Q (some (.int v)) h) : xB d own cc (some .boolean) ini Q pc ls [.int v] h := x_at hd ⟨rfl, v, rfl, Or.inr ⟨rfl, hv⟩, q⟩
theorem x_retv (hd : decode cc pc = .ok (.return_, 1)) (q : Q none h) : xB d own cc none ini Q pc ls [] h := x_at hd ⟨rfl, rfl, rfl, q⟩
end XRE
end
section
/-! The abstract heap and the machine's heap: what cells hold; one cell changes; one cell comes. -/
/-- the machine's numbers of classes: objects' classes and slots, int[], boolean[], LinkModule[], the script's -/
abbrev xD : Type := (Nat → ClassId) × (Nat → Nat → Nat) × ClassId × ClassId × ClassId × ClassId
def xval (h : xH) (c a k : Nat) : Value := if xft c k = 2 then va_rf (h.2.2.1 a k) else .int (h.2.1 a k)
def xcell (D : xD) (h : xH) (H : Heap) (a : Nat) : Prop :=
  (∀ c, c < 6 → (h.1 a).1 = c + 1 → t_OB a (D.1 c) (xN c) (D.2.1 c) H (xval h c a)) ∧
  (∀ N, h.1 a = (100, N) → H[a]? = some (arrV D.2.2.1 N (fun j => .int (h.2.1 a j)))) ∧
  (∀ N, h.1 a = (101, N) → H[a]? = some (arrV D.2.2.2.1 N (fun j => .int (h.2.1 a j)))) ∧
  (∀ N, h.1 a = (102, N) → H[a]? = some (arrV D.2.2.2.2.1 N (fun j => va_rf (h.2.2.1 a j)))) ∧
  (∀ N, h.1 a = (103, N) → ∃ scr : Cell, H[a]? = some scr ∧ scr.cls = D.2.2.2.2.2 ∧ (∀ k, scr.vm ≠ .statics k) ∧ scr.vm ≠ .unknown ∧ scr.slots.size = N ∧ ∀ j : Nat, j < N → scr.slots[j]? = some (.int (h.2.1 a j)))
def xRep (D : xD) (lo : Nat) (h : xH) (H : Heap) : Prop := H.size = h.2.2.2.1 ∧ lo ≤ h.2.2.2.1 ∧ ∀ a : Nat, xcell D h H a ∧ ((h.1 a).1 ≠ 0 → a < h.2.2.2.1 ∧ ((h.1 a).1 ≠ 103 → lo ≤ a))
def xKn (D : xD) (U : State) : Prop := (∀ c, c < 6 → u_Kn U (xR c) (xT c) (xN c) (D.1 c) (D.2.1 c)) ∧ (ArrOfT U D.2.2.1 .int ∧ U.vm.findClass ("[" ++ FieldType.int.toString) = some D.2.2.1) ∧ (ArrOfT U D.2.2.2.1 .boolean ∧ U.vm.findClass ("[" ++ FieldType.boolean.toString) = some D.2.2.2.1) ∧
  (ArrOfT U D.2.2.2.2.1 (.object RX2) ∧ va_RA U D.2.2.2.2.1 (.object RX2)) ∧ va_AO RX2 U ∧ va_Nw (.methodLinkNest (xR 3) 161 (xM mX4_isStep).1 "LinkStation") U ∧ ∃ (k : Class) (comp : ClassId), U.vm.classes[D.2.2.2.2.2]? = some k ∧ k.kind = .array comp .int
theorem xKn.move {D : xD} {u U : State} (hvm : u.vm.Alike U.vm) (hN : va_Nw (.methodLinkNest (xR 3) 161 (xM mX4_isStep).1 "LinkStation") u → va_Nw (.methodLinkNest (xR 3) 161 (xM mX4_isStep).1 "LinkStation") U) (h : xKn D u) : xKn D U := by
  obtain ⟨h1, ⟨h2, h3⟩, ⟨h4, h5⟩, ⟨h6, h7⟩, h8, h9, k, comp, h10, h11⟩ := h
  refine ⟨fun c hc => u_Kn_moved hvm (h1 c hc), ⟨arrOfT_moved hvm h2, by rw [hvm.findClass]; exact h3⟩, ⟨arrOfT_moved hvm h4, by rw [hvm.findClass]; exact h5⟩, ⟨arrOfT_moved hvm h6, h7.moved hvm⟩, h8.moved hvm, hN h9, ?_⟩
  obtain ⟨k', hk', he⟩ := hvm.2.2 _ _ h10
  exact ⟨k', comp, hk', by rw [he]; exact h11⟩
theorem xKn.warm {D : xD} {s U : State} (hW : s.WarmedH U.vm) (h : xKn D s) : xKn D U := h.move hW.alike (fun z => va_Nw.warmM hW z)
theorem xKn.same {D : xD} {u U : State} (hW : u.vm = U.vm) (h : xKn D u) : xKn D U := h.move (by rw [hW]; exact Vm.Alike.refl U.vm) (fun z => va_Nw.same rfl hW z)
theorem xcell_0 {D : xD} {h : xH} {H : Heap} {a : Nat} (h0 : (h.1 a).1 = 0) : xcell D h H a :=
  ⟨fun c _ e => by omega, fun N e => (by rw [e] at h0; cases h0), fun N e => (by rw [e] at h0; cases h0), fun N e => (by rw [e] at h0; cases h0), fun N e => (by rw [e] at h0; cases h0)⟩
theorem xcell_ob {D : xD} {h : xH} {H : Heap} {a c : Nat} (hc : c < 6) (hk : (h.1 a).1 = c + 1) (ho : t_OB a (D.1 c) (xN c) (D.2.1 c) H (xval h c a)) : xcell D h H a :=
  ⟨fun c2 _ e => by have : c2 = c := by omega
                    subst this
                    exact ho, fun N e => by rw [e] at hk; simp only at hk; omega, fun N e => by rw [e] at hk; simp only at hk; omega, fun N e => by rw [e] at hk; simp only at hk; omega, fun N e => by rw [e] at hk; simp only at hk; omega⟩
theorem xcell_i {D : xD} {h : xH} {H : Heap} {a N : Nat} (hk : h.1 a = (100, N)) (ho : H[a]? = some (arrV D.2.2.1 N (fun j => .int (h.2.1 a j)))) : xcell D h H a :=
  ⟨fun c2 _ e => by rw [hk] at e; simp only at e; omega, fun M e => (by rw [hk] at e; cases e; exact ho), fun N e => (by rw [hk] at e; cases e), fun N e => (by rw [hk] at e; cases e), fun N e => (by rw [hk] at e; cases e)⟩
theorem xcell_z {D : xD} {h : xH} {H : Heap} {a N : Nat} (hk : h.1 a = (101, N)) (ho : H[a]? = some (arrV D.2.2.2.1 N (fun j => .int (h.2.1 a j)))) : xcell D h H a :=
  ⟨fun c2 _ e => by rw [hk] at e; simp only at e; omega, fun N e => (by rw [hk] at e; cases e), fun M e => (by rw [hk] at e; cases e; exact ho), fun N e => (by rw [hk] at e; cases e), fun N e => (by rw [hk] at e; cases e)⟩
theorem xcell_m {D : xD} {h : xH} {H : Heap} {a N : Nat} (hk : h.1 a = (102, N)) (ho : H[a]? = some (arrV D.2.2.2.2.1 N (fun j => va_rf (h.2.2.1 a j)))) : xcell D h H a :=
  ⟨fun c2 _ e => by rw [hk] at e; simp only at e; omega, fun N e => (by rw [hk] at e; cases e), fun N e => (by rw [hk] at e; cases e), fun M e => (by rw [hk] at e; cases e; exact ho), fun N e => (by rw [hk] at e; cases e)⟩
theorem xcell_kept {D : xD} {h h' : xH} {H H' : Heap} {a : Nat} (hc : xcell D h H a) (hk : h'.1 a = h.1 a) (hI : h'.2.1 a = h.2.1 a) (hP : h'.2.2.1 a = h.2.2.1 a) (hH : H'[a]? = H[a]?) : xcell D h' H' a := by
  obtain ⟨c1, c2, c3, c4, c5⟩ := hc
  refine ⟨fun c h1 h2 => ?_, fun N e => ?_, fun N e => ?_, fun N e => ?_, fun N e => ?_⟩
  · rw [hk] at h2
    refine ((c1 c h1 h2).kept hH).to (fun k _ => ?_)
    simp only [xval, hI, hP]
  · rw [hk] at e; rw [hH, hI]; exact c2 N e
  · rw [hk] at e; rw [hH, hI]; exact c3 N e
  · rw [hk] at e; rw [hH, hP]; exact c4 N e
  · rw [hk] at e; rw [hH, hI]; exact c5 N e
/-- one cell changes -/
theorem xRep_upd {D : xD} {lo a : Nat} {h h' : xH} {H H' : Heap} (hr : xRep D lo h H) (hk : h'.1 = h.1) (hn : h'.2.2.2.1 = h.2.2.2.1) (hI : ∀ b, b ≠ a → h'.2.1 b = h.2.1 b) (hP : ∀ b, b ≠ a → h'.2.2.1 b = h.2.2.1 b) (hz : H'.size = H.size) (ho : ∀ q : Nat, q ≠ a → H'[q]? = H[q]?) (hc : xcell D h' H' a) : xRep D lo h' H' := by
  obtain ⟨r1, r2, r3⟩ := hr
  refine ⟨by rw [hz, hn]; exact r1, by rw [hn]; exact r2, fun b => ⟨?_, by rw [hk, hn]; exact (r3 b).2⟩⟩
  by_cases hb : b = a
  · subst hb; exact hc
  · exact xcell_kept (r3 b).1 (by rw [hk]) (hI b hb) (hP b hb) (ho b hb)
/-- one cell comes -/
theorem xRep_new {D : xD} {lo : Nat} {h h' : xH} {H H' : Heap} (hr : xRep D lo h H) (hk : ∀ b, b ≠ h.2.2.2.1 → h'.1 b = h.1 b) (hn : h'.2.2.2.1 = h.2.2.2.1 + 1) (hI : ∀ b, b ≠ h.2.2.2.1 → h'.2.1 b = h.2.1 b) (hP : ∀ b, b ≠ h.2.2.2.1 → h'.2.2.1 b = h.2.2.1 b) (hz : H'.size = h.2.2.2.1 + 1) (ho : ∀ q : Nat, q < h.2.2.2.1 → H'[q]? = H[q]?) (hc : xcell D h' H' h.2.2.2.1) : xRep D lo h' H' := by
  obtain ⟨r1, r2, r3⟩ := hr
  refine ⟨by rw [hz, hn], by rw [hn]; omega, fun b => ?_⟩
  by_cases hb : b = h.2.2.2.1
  · subst hb; exact ⟨hc, fun _ => ⟨by omega, fun _ => r2⟩⟩
  · obtain ⟨q1, q2⟩ := r3 b
    by_cases h0 : (h.1 b).1 = 0
    · exact ⟨xcell_0 (by rw [hk b hb]; exact h0), fun z => absurd (by rw [hk b hb]; exact h0) z⟩
    · obtain ⟨q3, q4⟩ := q2 h0
      exact ⟨xcell_kept q1 (hk b hb) (hI b hb) (hP b hb) (ho b q3), fun _ => ⟨by omega, by rw [hk b hb]; exact q4⟩⟩
theorem xuI_ne {I : Nat → Nat → Int32} {a j b : Nat} {x : Int32} (h : b ≠ a) : xuI I a j x b = I b := by funext i; simp [xuI, h]
theorem xuI_at {I : Nat → Nat → Int32} {a j : Nat} {x : Int32} : xuI I a j x a = upd (I a) j x := by funext i; simp [xuI, upd]
theorem xuR_ne {I : Nat → Nat → Int32} {a b : Nat} {f : Nat → Int32} (h : b ≠ a) : xuR I a f b = I b := by funext i; simp [xuR, h]
theorem xuR_at {I : Nat → Nat → Int32} {a : Nat} {f : Nat → Int32} : xuR I a f a = f := by funext i; simp [xuR]
theorem xuP_ne {I : Nat → Nat → Option Nat} {a j b : Nat} {x : Option Nat} (h : b ≠ a) : xuP I a j x b = I b := by funext i; simp [xuP, h]
theorem xuP_at {I : Nat → Nat → Option Nat} {a j : Nat} {x : Option Nat} : xuP I a j x a = va_up (I a) j x := by funext i; simp [xuP, va_up]
theorem xuQ_ne {I : Nat → Nat → Option Nat} {a b : Nat} {f : Nat → Option Nat} (h : b ≠ a) : xuQ I a f b = I b := by funext i; simp [xuQ, h]
theorem xuQ_at {I : Nat → Nat → Option Nat} {a : Nat} {f : Nat → Option Nat} : xuQ I a f a = f := by funext i; simp [xuQ]
theorem xuK_ne {K : Nat → Nat × Nat} {a b : Nat} {v : Nat × Nat} (h : b ≠ a) : xuK K a v b = K b := by simp [xuK, h]
theorem xuK_at {K : Nat → Nat × Nat} {a : Nat} {v : Nat × Nat} : xuK K a v a = v := by simp [xuK]
/-- the locals -/
def xlv (la : Array Slot) (nL : Nat) (ls : xL) : Prop := la.size = nL ∧ ls.length = nL ∧ lv_wf la ∧ ∀ (i : Nat) (v : Value), ls[i]? = some (some v) → v.category = 1 ∧ la[i]? = some (.val v)
def xpairs (ls : xL) : List (Nat × Value) := (List.range ls.length).filterMap (fun i => match ls[i]? with
  | some (some v) => some (i, v)
  | _ => none)
theorem xpairs_mem {ls : xL} {i : Nat} {v : Value} : (i, v) ∈ xpairs ls ↔ ls[i]? = some (some v) := by
  unfold xpairs
  rw [List.mem_filterMap]
  constructor
  · rintro ⟨j, hj, h⟩
    split at h
    · rename_i w hw
      cases h
      exact hw
    · cases h
  · intro h
    have hi : i < ls.length := (List.getElem?_eq_some_iff.mp h).1
    exact ⟨i, List.mem_range.mpr hi, by rw [h]⟩
theorem xlv.has {la : Array Slot} {nL : Nat} {ls : xL} (h : xlv la nL ls) : lv_has la nL (xpairs ls) := ⟨h.1, h.2.2.1, fun q hq => (h.2.2.2 q.1 q.2 (xpairs_mem.mp hq)).2⟩
theorem xlv.set {la la' : Array Slot} {nL n : Nat} {ls : xL} {v : Value} (h : xlv la nL ls) (hv : v.category = 1) (hl : lv_has la' nL ((n, v) :: (xpairs ls).filter (fun q => !(q.1 == n) && !(q.1 + 1 == n && q.2.category == 2)))) : xlv la' nL (ls.set n (some v)) := by
  obtain ⟨h1, h2, h3, h4⟩ := h
  refine ⟨hl.1, by rw [List.length_set]; exact h2, hl.2.1, fun i w hw => ?_⟩
  by_cases hi : n = i
  · subst hi
    rw [List.getElem?_set_self'] at hw
    have hw2 : v = w := by
      cases hq : ls[n]? with
      | none => rw [hq] at hw; cases hw
      | some z => rw [hq] at hw; simpa using hw
    subst hw2
    exact ⟨hv, hl.2.2 (n, v) List.mem_cons_self⟩
  · rw [List.getElem?_set_ne hi] at hw
    obtain ⟨g1, g2⟩ := h4 i w hw
    refine ⟨g1, hl.2.2 (i, w) (List.mem_cons_of_mem _ (List.mem_filter.mpr ⟨xpairs_mem.mpr hw, ?_⟩))⟩
    have e1 : (i == n) = false := by simpa using fun q => hi q.symm
    have e2 : (w.category == 2) = false := by rw [g1]; rfl
    simp [e1, e2]
theorem xargs_mem : ∀ (A : List Value) (n : Nat), (∀ v ∈ A, v.category = 1) → ∀ (i : Nat) (v : Value), A[i]? = some v → (n + i, v) ∈ lv_args n A
  | [], n, _, i, v, h => by simp at h
  | w :: A, n, hc, i, v, h => by
    have hw : ¬ w.category = 2 := by rw [hc w List.mem_cons_self]; decide
    rw [lv_args, if_neg hw]
    cases i with
    | zero =>
      simp at h
      subst h
      exact List.mem_cons_self
    | succ i =>
      have := xargs_mem A (n + 1) (fun v hv => hc v (List.mem_cons_of_mem _ hv)) i v (by simpa using h)
      rw [show n + (i + 1) = n + 1 + i by omega]
      exact List.mem_cons_of_mem _ this
theorem xsl_len : ∀ (A : List Value), (∀ v ∈ A, v.category = 1) → (lg_sl A).length = A.length
  | [], _ => rfl
  | w :: A, hc => by
    have hw : ¬ w.category = 2 := by rw [hc w List.mem_cons_self]; decide
    have := xsl_len A (fun v hv => hc v (List.mem_cons_of_mem _ hv))
    unfold lg_sl at this ⊢
    rw [List.flatMap_cons, if_neg hw, List.length_append, this]
    simp
    omega
theorem xlv_entry (A : List Value) {n : Nat} (hc : ∀ v ∈ A, v.category = 1) (hn : A.length ≤ n) : xlv ((lg_sl A ++ List.replicate (n - (lg_sl A).length) Slot.unset).toArray) n (A.map some ++ List.replicate (n - A.length) none) := by
  have hs := xsl_len A hc
  have hl := lv_entry A (n := n) (by rw [hs]; exact hn)
  refine ⟨hl.1, by simp; omega, hl.2.1, fun i v hv => ?_⟩
  have hi : A[i]? = some v := by
    by_cases h : i < A.length
    · rw [List.getElem?_append_left (by simpa using h), List.getElem?_map] at hv
      cases hq : A[i]? with
      | none => rw [hq] at hv; cases hv
      | some w => rw [hq] at hv; simpa using hv
    · rw [List.getElem?_append_right (by simpa using h)] at hv
      have := List.mem_of_getElem? hv
      rw [List.mem_replicate] at this
      cases this.2
  refine ⟨hc v (List.mem_of_getElem? hi), ?_⟩
  have := xargs_mem A 0 hc i v hi
  rw [Nat.zero_add] at this
  exact hl.2.2 (i, v) this
def xst1 (st : List Value) : Prop := ∀ v ∈ st, v.category = 1
theorem xst1_c {v : Value} {st : List Value} (hv : v.category = 1) (h : xst1 st) : xst1 (v :: st) := fun w hw => by
  rcases List.mem_cons.mp hw with rfl | hw
  · exact hv
  · exact h w hw
theorem xst1_t {v : Value} {st : List Value} (h : xst1 (v :: st)) : xst1 st := fun w hw => h w (List.mem_cons_of_mem _ hw)
theorem xst1_a {A B : List Value} (h : xst1 (A ++ B)) : xst1 A ∧ xst1 B := ⟨fun v hv => h v (List.mem_append_left _ hv), fun v hv => h v (List.mem_append_right _ hv)⟩
theorem xst1_j {A B : List Value} (h : xst1 A) (h2 : xst1 B) : xst1 (A ++ B) := fun v hv => (List.mem_append.mp hv).elim (h v) (h2 v)
theorem xrf_cat (r : Option Nat) : (va_rf r).category = 1 := by cases r <;> rfl
theorem xval_cat (h : xH) (c a k : Nat) : (xval h c a k).category = 1 := by
  unfold xval
  split
  · exact xrf_cat _
  · rfl
theorem xar_ok : (List.range xNM).all (fun y => decide ((xM y).2.2.2.2.2.2 + (if (xM y).2.2.2.2.2.1 = 2 then 0 else 1) ≤ (xM y).2.2.1)) = true := by decide +kernel
end
section
/-! a run that ends has an end, and cells only come -/
def xlive (Q : Option Value → xH → Prop) (h : xH) : Prop := ∃ r h', Q r h' ∧ h.2.2.2.1 ≤ h'.2.2.2.1 ∧ h.2.2.2.2 ≤ h'.2.2.2.2
theorem xlive_g {Q : Option Value → xH → Prop} {h h1 : xH} (e : xlive Q h1) (a : h.2.2.2.1 ≤ h1.2.2.2.1) (b : h.2.2.2.2 ≤ h1.2.2.2.2) : xlive Q h := by
  obtain ⟨r, h', q, q1, q2⟩ := e
  exact ⟨r, h', q, Nat.le_trans a q1, Nat.le_trans b q2⟩
theorem xins_live {C : xCT} {d own : Nat} {ret : Option FieldType} {ini : Bool} {Q : Option Value → xH → Prop} (hC : ∀ y A h P, C y A h P → xlive P h) {i : Instr} {len pc : Nat} {ls : xL} {st : List Value} {h : xH}
    (hs : xins C d own ret ini Q (fun _ _ _ h => xlive Q h) i len pc ls st h) : xlive Q h := by
  cases i with
  | iconst n => obtain ⟨_a0, z⟩ := hs; exact z
  | bipush n => obtain ⟨_a0, z⟩ := hs; exact z
  | sipush n => obtain ⟨_a0, z⟩ := hs; exact z
  | iload n => obtain ⟨_a0, _a1, _a2, z⟩ := hs; exact z
  | iload_n n => obtain ⟨_a0, _a1, _a2, z⟩ := hs; exact z
  | aload n => obtain ⟨_a0, _a1, _a2, z⟩ := hs; exact z
  | aload_n n => obtain ⟨_a0, _a1, _a2, z⟩ := hs; exact z
  | istore n => obtain ⟨_a0, _a1, _a2, _a3, _a4, z⟩ := hs; exact z
  | istore_n n => obtain ⟨_a0, _a1, _a2, _a3, _a4, z⟩ := hs; exact z
  | astore n => obtain ⟨_a0, _a1, _a2, _a3, _a4, z⟩ := hs; exact z
  | astore_n n => obtain ⟨_a0, _a1, _a2, _a3, _a4, z⟩ := hs; exact z
  | iinc n c => obtain ⟨_a0, _a1, _a2, z⟩ := hs; exact z
  | iadd => obtain ⟨_a0, _a1, _a2, _a3, _a4, z⟩ := hs; exact z
  | isub => obtain ⟨_a0, _a1, _a2, _a3, _a4, z⟩ := hs; exact z
  | imul => obtain ⟨_a0, _a1, _a2, _a3, _a4, z⟩ := hs; exact z
  | iand => obtain ⟨_a0, _a1, _a2, _a3, _a4, z⟩ := hs; exact z
  | idiv => obtain ⟨_a0, _a1, _a2, _a3, _a4, _a5, z⟩ := hs; exact z
  | irem => obtain ⟨_a0, _a1, _a2, _a3, _a4, _a5, z⟩ := hs; exact z
  | dup => obtain ⟨_a0, _a1, _a2, _a3, _a4, z⟩ := hs; exact z
  | dup2 => obtain ⟨_a0, _a1, _a2, _a3, _a4, _a5, _a6, z⟩ := hs; exact z
  | goto off => obtain ⟨_a0, _a1, _a2, z⟩ := hs; exact z
  | getfield idx => obtain ⟨_a0, _a1, _a2, _a3, _a4, _a5, _a6, _a7, z⟩ := hs; exact z
  | iaload => obtain ⟨_a0, _a1, _a2, _a3, _a4, _a5, _a6, _a7, z⟩ := hs; exact z
  | baload => obtain ⟨_a0, _a1, _a2, _a3, _a4, _a5, _a6, _a7, z⟩ := hs; exact z
  | aaload => obtain ⟨_a0, _a1, _a2, _a3, _a4, _a5, _a6, _a7, z⟩ := hs; exact z
  | arraylength => obtain ⟨_a0, _a1, _a2, _a3, _a4, _a5, z⟩ := hs; exact z
  | iastore => obtain ⟨_a0, _a1, _a2, _a3, _a4, _a5, _a6, _a7, _a8, z⟩ := hs; exact z
  | bastore => obtain ⟨_a0, _a1, _a2, _a3, _a4, _a5, _a6, _a7, _a8, _a9, z⟩ := hs; exact z
  | aastore => obtain ⟨_a0, _a1, _a2, _a3, _a4, _a5, _a6, _a7, _a8, _a9, z⟩ := hs; exact z
  | new idx => obtain ⟨_a0, _a1, _a2, z⟩ := hs; exact xlive_g z (Nat.le_add_right _ _) (Nat.le_add_right _ _)
  | anewarray idx => obtain ⟨_a0, _a1, _a2, _a3, _a4, _a5, z⟩ := hs; exact xlive_g z (Nat.le_add_right _ _) (Nat.le_add_right _ _)
  | ifCond c off =>
    obtain ⟨a0, x, a2, a3, a4, a5, a6, a7⟩ := hs
    by_cases q : xcd c x 0
    · exact a6 q
    · exact a7 q
  | if_icmp c off =>
    obtain ⟨a0, x, y, a2, a3, a4, a5, a6, a7⟩ := hs
    by_cases q : xcd c x y
    · exact a6 q
    · exact a7 q
  | tableswitch dflt lo hi offs =>
    obtain ⟨x, a1, a2, a3, a4⟩ := hs
    by_cases q : x.toInt < lo ∨ hi < x.toInt
    · obtain ⟨t, b1, z⟩ := a3 q; exact z
    · obtain ⟨o, t, b1, b2, z⟩ := a4 (fun w => q (Or.inl w)) (fun w => q (Or.inr w)); exact z
  | putfield idx =>
    obtain ⟨a0, c, k, a1, a2, a3⟩ := hs
    rcases a3 with ⟨b0, b1, b2, b3, b4, b5, z⟩ | ⟨b0, b1, b2, b3, b4, b5, b6, z⟩ | ⟨b0, b1, b2, b3, b4, b5, z⟩ <;> exact z
  | newarray t =>
    obtain ⟨a0, n, r, a1, a2, a3⟩ := hs
    rcases a3 with ⟨b0, z⟩ | ⟨b0, z⟩ <;> exact xlive_g z (Nat.le_add_right _ _) (Nat.le_add_right _ _)
  | invokevirtual idx =>
    obtain ⟨a0, y, As, b, r, a1, a2, a3, a4, a5, a6, a7, z⟩ := hs
    obtain ⟨v, h1, z1, z2, z3⟩ := hC _ _ _ _ z
    exact xlive_g z1 z2 z3
  | invokestatic idx =>
    obtain ⟨a0, a1⟩ := hs
    rcases a1 with ⟨y, b, As, r, b1, b2, b3, b4, b5, z⟩ | ⟨b0, b1, x, y, r, b2, b3, z⟩ | ⟨b0, b1, n, dp, sp, a, b, r, N, M, c1, c2, c3, c4, c5, c6, c7, c8, c9, z⟩
    · obtain ⟨v, h1, z1, z2, z3⟩ := hC _ _ _ _ z
      exact xlive_g z1 z2 z3
    · exact z
    · exact z
  | invokespecial idx =>
    obtain ⟨a0, a1⟩ := hs
    rcases a1 with ⟨y, As, b, r, b1, b2, b3, b4, b5, z⟩ | ⟨b0, b1, a, r, b2, b3, z⟩
    · obtain ⟨v, h1, z1, z2, z3⟩ := hC _ _ _ _ z
      exact xlive_g z1.2 z2 z3
    · exact z
  | ireturn => obtain ⟨a0, v, a1, a2, z⟩ := hs; exact ⟨_, _, z, Nat.le_refl _, Nat.le_refl _⟩
  | return_ => obtain ⟨a0, a1, a2, z⟩ := hs; exact ⟨_, _, z, Nat.le_refl _, Nat.le_refl _⟩
  | _ => exact False.elim hs
theorem xw_live {C : xCT} {d own : Nat} {cc : ByteArray} {ret : Option FieldType} {ini : Bool} {Q : Option Value → xH → Prop} (hC : ∀ y A h P, C y A h P → xlive P h) {pc : Nat} {ls : xL} {st : List Value} {h : xH} (hs : xw C d own cc ret ini Q pc ls st h) : xlive Q h := by
  refine hs (fun _ _ _ h => xlive Q h) (fun pc ls st h q => ?_)
  unfold xstp at q
  cases hd : decode cc pc with
  | error e => rw [hd] at q; exact False.elim q
  | ok r =>
    rw [hd] at q
    obtain ⟨i, len⟩ := r
    exact xins_live hC q
theorem xC_live : ∀ (d y : Nat) (A : List Value) (h : xH) (P : Option Value → xH → Prop), xC d y A h P → xlive P h
  | 0, y, A, h, P, ⟨mc, ms, z⟩ => by
    obtain ⟨r, h', q, q1, q2⟩ := xw_live (fun _ _ _ _ q => False.elim q) z
    exact ⟨r, h', q.2.2, q1, q2⟩
  | d + 1, y, A, h, P, ⟨mc, ms, z⟩ => by
    obtain ⟨r, h', q, q1, q2⟩ := xw_live (xC_live d) z
    exact ⟨r, h', q.2.2, q1, q2⟩
theorem xCd_live (d : Nat) : ∀ y A h P, xCd d y A h P → xlive P h := by
  cases d with
  | zero => intro y A h P q; exact False.elim q
  | succ d => exact xC_live d
end
section
theorem xdecl_a : ((List.range 6).all fun c => (List.range (xN c)).all fun k => decide ((xT c k).1 = xR c)) = true := by decide +kernel
theorem xdecl (c : Nat) (hc : c < 6) (k : Nat) (hk : k < xN c) : (xT c k).1 = xR c := by
  have h := List.all_eq_true.mp (List.all_eq_true.mp xdecl_a c (List.mem_range.mpr hc)) k (List.mem_range.mpr hk)
  simpa only [decide_eq_true_eq] using h
theorem xft_0 {c k : Nat} (h : xft c k = 0) : xty c k = .int := by
  unfold xft at h
  split at h
  · assumption
  · cases h
  · cases h
theorem xft_1 {c k : Nat} (h : xft c k = 1) : xty c k = .boolean := by
  unfold xft at h
  split at h
  · cases h
  · assumption
  · cases h
def xisref (t : FieldType) : Bool := match t with
  | .object _ => true
  | .array _ => true
  | _ => false
theorem xft_a : ((List.range 6).all fun c => (List.range (xN c)).all fun k => xft c k != 2 || xisref (xty c k)) = true := by decide +kernel
theorem xft_b : ((List.range 6).all fun c => (List.range (xN c)).all fun k => xft c k == 2 || (xty c k == .int || xty c k == .boolean)) = true := by decide +kernel
theorem xft_2 {c k : Nat} (hc : c < 6) (hk : k < xN c) (h : xft c k = 2) (b : Nat) : narrow (xty c k) (.ref b) = .ref b ∧ fits (xty c k) (.ref b) = true := by
  have h1 := List.all_eq_true.mp (List.all_eq_true.mp xft_a c (List.mem_range.mpr hc)) k (List.mem_range.mpr hk)
  rw [h] at h1
  cases ht : xty c k <;> rw [ht] at h1 <;> first | exact ⟨rfl, rfl⟩ | (simp [xisref] at h1)
theorem xdef {c k a : Nat} {h : xH} (hc : c < 6) (hk : k < xN c) (hI : h.2.1 a k = 0) (hP : h.2.2.1 a k = none) : defaultValue (xty c k) = xval h c a k := by
  unfold xval
  by_cases h2 : xft c k = 2
  · rw [if_pos h2, hP]
    have h1 := List.all_eq_true.mp (List.all_eq_true.mp xft_a c (List.mem_range.mpr hc)) k (List.mem_range.mpr hk)
    rw [h2] at h1
    cases ht : xty c k <;> rw [ht] at h1 <;> first | rfl | (simp [xisref] at h1)
  · rw [if_neg h2, hI]
    have h1 := List.all_eq_true.mp (List.all_eq_true.mp xft_b c (List.mem_range.mpr hc)) k (List.mem_range.mpr hk)
    simp only [Bool.or_eq_true, beq_iff_eq] at h1
    rcases h1 with h1 | h1 | h1
    · exact absurd h1 h2
    · rw [h1]; rfl
    · rw [h1]; rfl
end
section
/-! the abstract machine's runs are the machine's -/
def xPc (D : xD) (lo : Nat) (h : xH) (A : List Value) : Array Value → State → Prop := fun v U => v = A.toArray ∧ xRep D lo h U.heap ∧ xKn D U
def xQc (D : xD) (lo : Nat) (Q : Option Value → xH → Prop) : Array Value → State → Outcome → State → Prop := fun _ st oc t => (∃ (r : Option Value) (h' : xH), oc = .returned r ∧ xRep D lo h' t.heap ∧ Q r h' ∧ ∀ v, r = some v → v.category = 1) ∧ ∀ q : Nat, q < lo → t.heap[q]? = st.heap[q]?
abbrev xrm (d mc ms : Nat) : Room := { frames := d, cells := mc, slots := ms, locals := 40 * d }
def xws (y : Nat) : List Cond := .code (xM y).1 (xM y).2.1 (xM y).2.2.1 (xM y).2.2.2.1 :: xWT
theorem xWT_good {w : Cond} (h : w ∈ xWT) : goodWord w = true := (List.mem_filter.mp h).2
theorem xfacts {y : Nat} (hy : y < xNM) : (Cond.code (xM y).1 (xM y).2.1 (xM y).2.2.1 (xM y).2.2.2.1 ∈ xWT ∧ Cond.initialized (xM y).1.cls ∈ xWT) ∧ ((xM y).2.2.2.2.2.1 = 2 → Cond.static (xM y).1 ∈ xWT) ∧ (¬ (xM y).2.2.2.2.2.1 = 2 → Cond.instanceMethod (xM y).1 ∈ xWT) ∧ ((xM y).2.2.2.2.2.1 = 0 → Cond.selects (xM y).1.cls (xM y).1 (xM y).1 ∈ xWT) ∧
    ((xM y).2.2.2.2.2.1 = 1 → (xM y).1.name = "<init>" ∧ (xM y).2.2.2.1 = none) ∧ (xM y).1.cls = xR (xM y).2.2.2.2.1 ∧ (xM y).1.cls ≠ "java/lang/invoke/MethodHandle" ∧ (xM y).1.cls ≠ "java/lang/invoke/VarHandle" ∧ plainName (xM y).1.cls = true ∧ (parseMethodDescriptor (xM y).1.desc).map (fun d => d.parameters.length) = some (xM y).2.2.2.2.2.2 ∧ (xM y).2.2.1 ≤ 13 := by
  have h := xchk_all y hy
  unfold xchk at h
  simp only [Bool.and_eq_true, decide_eq_true_eq] at h
  obtain ⟨⟨⟨⟨⟨⟨⟨⟨⟨⟨h1, h2⟩, h3⟩, h4⟩, h5⟩, h6⟩, h7⟩, h8⟩, h9⟩, h10⟩, h11⟩ := h
  refine ⟨⟨xok_mem h1, xok_mem h2⟩, fun q => ?_, fun q => ?_, fun q => ?_, fun q => ?_, h6, h7, h8, h9, h10, h11⟩
  · rw [if_pos q] at h3; exact xok_mem h3
  · rw [if_neg q] at h3; exact xok_mem h3
  · rw [if_pos q] at h4; exact xok_mem h4
  · rw [if_pos q] at h5; simp only [Bool.and_eq_true, decide_eq_true_eq] at h5; exact h5
theorem xws_good {y : Nat} (hy : y < xNM) : GoodIn xWT (xws y) := by
  intro w hw
  rcases List.mem_cons.mp hw with rfl | hw
  · exact ⟨(xfacts hy).1.1, good_of_word (xWT_good (xfacts hy).1.1)⟩
  · exact ⟨hw, good_of_word (xWT_good hw)⟩
theorem xlen_ok {y : Nat} (hy : y < xNM) : (xM y).2.2.2.2.2.2 + (if (xM y).2.2.2.2.2.1 = 2 then 0 else 1) ≤ (xM y).2.2.1 := by
  have := List.all_eq_true.mp xar_ok y (List.mem_range.mpr hy)
  simpa only [decide_eq_true_eq] using this
section XS
variable {p : Program} {l : Launch} {e : Env} {R : Room} {s : State} {m : MethodId} {args : Array Value} {below : List Frame} {meth : Method} {c : Code} {H : Heap} {locs : List Loc} {cells slots : Nat} {QW : State → Prop}
variable {D : xD} {lo : Nat}
/-- behind a call -/
theorem x_run {mc ms pc : Nat} {la : Array Slot} {st0 rest : List Value} {a : Array Value} {P : Option Value → xH → Prop} (hr : va_Run p l e R s m args below meth c H locs cells slots mc ms (F0 m pc la st0) rest (xQc D lo P a) (fun q => lo ≤ q)) (hF : ∀ q : Nat, q < lo → H[q]? = s.heap[q]?) (hL : ∀ q ∈ locs, lo ≤ q.base)
    (kk : ∀ (r : Option Value) (h' : xH) (H1 : Heap) (locs1 : List Loc), xRep D lo h' H1 → P r h' → (∀ q : Nat, q < lo → H1[q]? = s.heap[q]?) → (∀ q ∈ locs1, lo ≤ q.base) → xst1 r.toList → W p l e R s m args below meth c H1 locs1 (cells + mc) (slots + ms) QW (F0 m (pc + 3) la (r.toList ++ rest))) : W p l e R s m args below meth c H locs cells slots QW (F0 m pc la st0) := by
  intro T hT X
  obtain ⟨v, st₀, t, T', L, h0, X', hL', e1, e2, ⟨⟨r, h', hv, hrep, hp, hcat⟩, hk⟩, stp⟩ := hr T hT X
  cases hv
  obtain ⟨t2, a1, b1⟩ := kk v h' T'.heap (locs ++ L) (by rw [e1]; exact hrep) hp (fun q hq => by rw [e1, hk q hq, h0]; exact hF q hq) (fun q hq => by
      rcases List.mem_append.mp hq with z | z
      · exact hL q z
      · exact hL' q z) (fun w hw => hcat w (by cases v with
        | none => cases hw
        | some z => simp at hw; rw [hw])) T' rfl X'
  exact ⟨t2, stp t2 a1, b1⟩
theorem xPc_blind {h : xH} {A : List Value} : FrameBlind (xPc D lo h A) := fun a U g mk q => ⟨q.1, q.2.1, q.2.2.same (u := U) (U := U.calling g mk a) rfl⟩
theorem xPc_at {h : xH} {A : List Value} (hrep : xRep D lo h H) (hKn : xKn D s) : ∀ U : State, U.heap = H → s.WarmedH U.vm → xPc D lo h A A.toArray U := fun U hU hW => ⟨rfl, by rw [hU]; exact hrep, hKn.warm hW⟩
end XS
/-- what the simulation needs of the machine at a method's body -/
def xBody (p : Program) (s : State) (m : MethodId) (args : Array Value) (meth : Method) (c : Code) (R : Room) (D : xD) (d own : Nat) (cc : ByteArray) (nL : Nat) (ini : Bool) : Prop :=
  p.tables.exec = Jvm.exec ∧ c.code = cc ∧ c.maxLocals = nL ∧ s.vm.findClass (xR own) = some m.cls ∧ (∀ w ∈ xWT, w.before args s = true) ∧ xKn D s ∧ (ini = true → meth.name = "<init>") ∧ d ≤ R.frames ∧ 40 * d ≤ R.locals
/-- calls at depth d - 1 are met -/
def xMet (l : Launch) (D : xD) (lo d : Nat) : Prop := ∀ (y : Nat) (A : List Value) (h : xH) (P : Option Value → xH → Prop), y < xNM → xst1 A → A.length ≤ (xM y).2.2.1 → xCd d y A h P → 1 ≤ d ∧ ∃ mc ms : Nat, Met l (xM y).1 (xws y) (xrm (d - 1) mc ms) (xPc D lo h A) (xQc D lo (fun r h' => h'.2.2.2.1 = h.2.2.2.1 + mc ∧ h'.2.2.2.2 = h.2.2.2.2 + ms ∧ P r h')) mc ms (fun q => lo ≤ q) ∧ ∃ r h', h'.2.2.2.1 = h.2.2.2.1 + mc ∧ h'.2.2.2.2 = h.2.2.2.2 + ms ∧ P r h'
section XT
variable {p : Program} {l : Launch} {e : Env} {R : Room} {s : State} {m : MethodId} {args : Array Value} {below : List Frame} {meth : Method} {c : Code} {QW : State → Prop}
variable {D : xD} {lo d own nL n0 s0 mc ms : Nat} {cc : ByteArray} {ret : Option FieldType} {ini : Bool} {Q : Option Value → xH → Prop}
/-- what holds at a point of the body -/
def xSim (p : Program) (l : Launch) (e : Env) (R : Room) (s : State) (m : MethodId) (args : Array Value) (below : List Frame) (meth : Method) (c : Code) (QW : State → Prop) (D : xD) (lo nL n0 s0 : Nat) (pc : Nat) (ls : xL) (st : List Value) (h : xH) : Prop :=
  ∀ (H : Heap) (locs : List Loc) (la : Array Slot), xRep D lo h H → xlv la nL ls → xst1 st → (∀ q : Nat, q < lo → H[q]? = s.heap[q]?) → (∀ q ∈ locs, lo ≤ q.base) → n0 ≤ h.2.2.2.1 → s0 ≤ h.2.2.2.2 → W p l e R s m args below meth c H locs (h.2.2.2.1 - n0) (h.2.2.2.2 - s0) QW (F0 m pc la st)
/-- a heap of which one cell changes, by a store of the machine -/
theorem xL_one {locs : List Loc} {a i : Nat} (hL : ∀ q ∈ locs, lo ≤ q.base) (ha : lo ≤ a) : ∀ q ∈ locs ++ [(⟨a, i⟩ : Loc)], lo ≤ q.base := fun q hq => by
  rcases List.mem_append.mp hq with z | z
  · exact hL q z
  · rw [List.mem_singleton.mp z]; exact ha
theorem xF_one {H H' : Heap} {a : Nat} (hF : ∀ q : Nat, q < lo → H[q]? = s.heap[q]?) (ho : ∀ q : Nat, q ≠ a → H'[q]? = H[q]?) (ha : lo ≤ a) : ∀ q : Nat, q < lo → H'[q]? = s.heap[q]? := fun q hq => (ho q (by omega)).trans (hF q hq)
theorem xF_new {H H' : Heap} {a : Nat} (hF : ∀ q : Nat, q < lo → H[q]? = s.heap[q]?) (ho : ∀ q : Nat, q < a → H'[q]? = H[q]?) (ha : lo ≤ a) : ∀ q : Nat, q < lo → H'[q]? = s.heap[q]? := fun q hq => (ho q (by omega)).trans (hF q hq)
set_option maxHeartbeats 4000000 in
theorem xins_sim (B : xBody p s m args meth c R D d own cc nL ini) (hM : xMet l D lo d) (hRc : mc ≤ R.cells) (hRs : ms ≤ R.slots)
    (hbd : ∀ pc ls st h, xw (xCd d) d own cc ret ini Q pc ls st h → h.2.2.2.1 ≤ n0 + mc ∧ h.2.2.2.2 ≤ s0 + ms)
    (hri : ∀ (pc : Nat) (la : Array Slot) (v : Int32) (h : xH) (H : Heap) (locs : List Loc), decode cc pc = .ok (.ireturn, 1) → (ret = some .int ∨ (ret = some .boolean ∧ (v = 0 ∨ v = 1))) → Q (some (.int v)) h → xRep D lo h H → (∀ q : Nat, q < lo → H[q]? = s.heap[q]?) → (∀ q ∈ locs, lo ≤ q.base) → n0 ≤ h.2.2.2.1 → s0 ≤ h.2.2.2.2 → W p l e R s m args below meth c H locs (h.2.2.2.1 - n0) (h.2.2.2.2 - s0) QW (F0 m pc la [.int v]))
    (hrv : ∀ (pc : Nat) (la : Array Slot) (h : xH) (H : Heap) (locs : List Loc), decode cc pc = .ok (.return_, 1) → ret = none → Q none h → xRep D lo h H → (∀ q : Nat, q < lo → H[q]? = s.heap[q]?) → (∀ q ∈ locs, lo ≤ q.base) → n0 ≤ h.2.2.2.1 → s0 ≤ h.2.2.2.2 → W p l e R s m args below meth c H locs (h.2.2.2.1 - n0) (h.2.2.2.2 - s0) QW (F0 m pc la []))
    {i : Instr} {len pc : Nat} {ls : xL} {st : List Value} {h : xH} (hdg : decode cc pc = .ok (i, len))
    (hs : xins (xCd d) d own ret ini Q (fun pc ls st h => xw (xCd d) d own cc ret ini Q pc ls st h ∧ xSim p l e R s m args below meth c QW D lo nL n0 s0 pc ls st h) i len pc ls st h) : xSim p l e R s m args below meth c QW D lo nL n0 s0 pc ls st h := by
  obtain ⟨hx, hb, hml, hown, hts, hKn, hini, hfr, hlo⟩ := B
  intro H locs la hrep hlv hst1 hF hL hn0 hs0
  cases i with
  | iconst n =>
    obtain ⟨rfl, z⟩ := hs
    refine lv_iconst hx hb hdg rfl ?_
    exact z.2 H locs la hrep hlv (xst1_c rfl hst1) hF hL hn0 hs0
  | bipush n =>
    obtain ⟨rfl, z⟩ := hs
    refine lv_bipush hx hb hdg rfl ?_
    exact z.2 H locs la hrep hlv (xst1_c rfl hst1) hF hL hn0 hs0
  | sipush n =>
    obtain ⟨rfl, z⟩ := hs
    refine lv_sipush hx hb hdg rfl ?_
    exact z.2 H locs la hrep hlv (xst1_c rfl hst1) hF hL hn0 hs0
  | iload n =>
    obtain ⟨rfl, x, a1, z⟩ := hs
    refine lv_iload hx hb hdg (hlv.2.2.2 _ _ a1).2 ?_
    exact z.2 H locs la hrep hlv (xst1_c rfl hst1) hF hL hn0 hs0
  | iload_n n =>
    obtain ⟨rfl, x, a1, z⟩ := hs
    refine lv_iload_n hx hb hdg rfl (hlv.2.2.2 _ _ a1).2 ?_
    exact z.2 H locs la hrep hlv (xst1_c rfl hst1) hF hL hn0 hs0
  | istore n =>
    obtain ⟨rfl, x, r, rfl, a1, z⟩ := hs
    refine lv_istore hx hb hdg hlv.has (by rw [← hlv.2.1]; exact a1) rfl (fun la2 hl2 => ?_)
    exact z.2 H locs la2 hrep (hlv.set rfl hl2) (xst1_t hst1) hF hL hn0 hs0
  | istore_n n =>
    obtain ⟨rfl, x, r, rfl, a1, z⟩ := hs
    refine lv_istore_n hx hb hdg rfl hlv.has (by rw [← hlv.2.1]; exact a1) rfl (fun la2 hl2 => ?_)
    exact z.2 H locs la2 hrep (hlv.set rfl hl2) (xst1_t hst1) hF hL hn0 hs0
  | aload n =>
    obtain ⟨rfl, x, a1, z⟩ := hs
    refine lv_aload hx hb hdg (hlv.2.2.2 _ _ a1).2 ?_
    exact z.2 H locs la hrep hlv (xst1_c rfl hst1) hF hL hn0 hs0
  | aload_n n =>
    obtain ⟨rfl, x, a1, z⟩ := hs
    refine lv_aload_n hx hb hdg rfl (hlv.2.2.2 _ _ a1).2 ?_
    exact z.2 H locs la hrep hlv (xst1_c rfl hst1) hF hL hn0 hs0
  | astore n =>
    obtain ⟨rfl, x, r, rfl, a1, z⟩ := hs
    refine lv_astore hx hb hdg hlv.has (by rw [← hlv.2.1]; exact a1) rfl (fun la2 hl2 => ?_)
    exact z.2 H locs la2 hrep (hlv.set rfl hl2) (xst1_t hst1) hF hL hn0 hs0
  | astore_n n =>
    obtain ⟨rfl, x, r, rfl, a1, z⟩ := hs
    refine lv_astore_n hx hb hdg rfl hlv.has (by rw [← hlv.2.1]; exact a1) rfl (fun la2 hl2 => ?_)
    exact z.2 H locs la2 hrep (hlv.set rfl hl2) (xst1_t hst1) hF hL hn0 hs0
  | iinc n cst =>
    obtain ⟨rfl, x, a1, z⟩ := hs
    obtain ⟨k, hk⟩ := List.getElem?_of_mem (xpairs_mem.mpr a1)
    refine lv_iinc hx hb hdg hlv.has hk rfl (by rw [← hlv.2.1]; exact (List.getElem?_eq_some_iff.mp a1).1) rfl (fun la2 hl2 => ?_)
    exact z.2 H locs la2 hrep (hlv.set rfl hl2) hst1 hF hL hn0 hs0
  | iadd =>
    obtain ⟨rfl, x, y, r, rfl, z⟩ := hs
    refine lv_iadd hx hb hdg ?_
    exact z.2 H locs la hrep hlv (xst1_c rfl (xst1_t (xst1_t hst1))) hF hL hn0 hs0
  | isub =>
    obtain ⟨rfl, x, y, r, rfl, z⟩ := hs
    refine lv_isub hx hb hdg ?_
    exact z.2 H locs la hrep hlv (xst1_c rfl (xst1_t (xst1_t hst1))) hF hL hn0 hs0
  | imul =>
    obtain ⟨rfl, x, y, r, rfl, z⟩ := hs
    refine lv_imul hx hb hdg ?_
    exact z.2 H locs la hrep hlv (xst1_c rfl (xst1_t (xst1_t hst1))) hF hL hn0 hs0
  | iand =>
    obtain ⟨rfl, x, y, r, rfl, z⟩ := hs
    refine lv_iand hx hb hdg ?_
    exact z.2 H locs la hrep hlv (xst1_c rfl (xst1_t (xst1_t hst1))) hF hL hn0 hs0
  | idiv =>
    obtain ⟨rfl, x, y, r, rfl, a1, z⟩ := hs
    refine lv_idiv hx hb hdg a1 ?_
    exact z.2 H locs la hrep hlv (xst1_c rfl (xst1_t (xst1_t hst1))) hF hL hn0 hs0
  | irem =>
    obtain ⟨rfl, x, y, r, rfl, a1, z⟩ := hs
    refine lv_irem hx hb hdg a1 ?_
    exact z.2 H locs la hrep hlv (xst1_c rfl (xst1_t (xst1_t hst1))) hF hL hn0 hs0
  | dup =>
    obtain ⟨rfl, v, r, rfl, a1, z⟩ := hs
    refine lv_dup hx hb hdg a1 ?_
    exact z.2 H locs la hrep hlv (xst1_c a1 hst1) hF hL hn0 hs0
  | dup2 =>
    obtain ⟨rfl, v, w, r, rfl, a1, a2, z⟩ := hs
    refine lv_dup2_11 hx hb hdg a1 a2 ?_
    exact z.2 H locs la hrep hlv (xst1_c a1 (xst1_c a2 hst1)) hF hL hn0 hs0
  | ifCond cnd off =>
    obtain ⟨rfl, x, r, t, rfl, a1, kt, kf⟩ := hs
    have e1 := fun q : xcd cnd x 0 => (kt q).2 H locs la hrep hlv (xst1_t hst1) hF hL hn0 hs0
    have e2 := fun q : ¬ xcd cnd x 0 => (kf q).2 H locs la hrep hlv (xst1_t hst1) hF hL hn0 hs0
    cases cnd with
    | eq => exact lv_if_eq hx hb hdg a1 e1 e2
    | lt => exact lv_if_lt hx hb hdg a1 e1 e2
    | ge => exact lv_if_ge hx hb hdg a1 e1 e2
    | gt => exact lv_if_gt hx hb hdg a1 e1 e2
    | le => exact lv_if_le hx hb hdg a1 e1 e2
    | ne => exact lv_if_ne hx hb hdg a1 e1 (fun q => e2 (fun w => w q))
  | if_icmp cnd off =>
    obtain ⟨rfl, x, y, r, t, rfl, a1, kt, kf⟩ := hs
    have e1 := fun q : xcd cnd x y => (kt q).2 H locs la hrep hlv (xst1_t (xst1_t hst1)) hF hL hn0 hs0
    have e2 := fun q : ¬ xcd cnd x y => (kf q).2 H locs la hrep hlv (xst1_t (xst1_t hst1)) hF hL hn0 hs0
    cases cnd with
    | eq => exact lv_icmp_eq hx hb hdg a1 e1 e2
    | lt => exact lv_icmp_lt hx hb hdg a1 e1 e2
    | ge => exact lv_icmp_ge hx hb hdg a1 e1 e2
    | gt => exact lv_icmp_gt hx hb hdg a1 e1 e2
    | le => exact lv_icmp_le hx hb hdg a1 e1 e2
    | ne => exact lv_icmp_ne hx hb hdg a1 e1 (fun q => e2 (fun w => w q))
  | goto off =>
    obtain ⟨rfl, t, a1, z⟩ := hs
    exact lv_goto hx hb hdg a1 (z.2 H locs la hrep hlv hst1 hF hL hn0 hs0)
  | tableswitch dflt lw hi offs =>
    obtain ⟨x, r, rfl, ko, ki⟩ := hs
    by_cases q1 : x.toInt < lw
    · obtain ⟨t, a1, z⟩ := ko (Or.inl q1)
      exact lv_tableOut hx hb hdg (Or.inl q1) a1 (z.2 H locs la hrep hlv (xst1_t hst1) hF hL hn0 hs0)
    · by_cases q2 : hi < x.toInt
      · obtain ⟨t, a1, z⟩ := ko (Or.inr q2)
        exact lv_tableOut hx hb hdg (Or.inr q2) a1 (z.2 H locs la hrep hlv (xst1_t hst1) hF hL hn0 hs0)
      · obtain ⟨off, t, a0, a1, z⟩ := ki q1 q2
        exact lv_tableIn hx hb hdg q1 q2 a0 a1 (z.2 H locs la hrep hlv (xst1_t hst1) hF hL hn0 hs0)
  | getfield idx =>
    obtain ⟨rfl, cl, k, a, r, hf, rfl, ha, z⟩ := hs
    obtain ⟨hw, hc6, hk⟩ := xfl_ok hf
    obtain ⟨cell, q1, q2, q3, q4⟩ := (hrep.2.2 a).1.1 cl hc6 ha
    obtain ⟨hS, hfc, kC, hkC, hkind⟩ := hKn.1 cl hc6
    obtain ⟨cf, kf, fi, f, hi, hsl⟩ := hS k hk
    refine W.getf hx hb hown (hts _ hw) hi (u_facts hfc hkC (u_lays hts (xIn hc6) hk) hi).1 q1 (by rw [q3]; exact fun h => by cases h) (v := xval h cl a k) (by rw [hsl]; exact q4 k hk) rfl rfl hdg ?_
    exact z.2 H locs la hrep hlv (xst1_c (xval_cat h cl a k) (xst1_t hst1)) hF hL hn0 hs0
  | putfield idx =>
    obtain ⟨rfl, cl, k, hf, hfin, hs⟩ := hs
    obtain ⟨hw, hc6, hk⟩ := xfl_ok hf
    obtain ⟨hS, hfc, kC, hkC, hkind⟩ := hKn.1 cl hc6
    obtain ⟨cf, kf, fi, f, hi, hsl⟩ := hS k hk
    have hst := (u_facts hfc hkC (u_lays hts (xIn hc6) hk) hi).1
    have hap : ∀ x y, x < xN cl → y < xN cl → x ≠ y → D.2.1 cl x ≠ D.2.1 cl y := by
      intro x y hx' hy' hne
      obtain ⟨_, _, _, fa, hia, ea⟩ := hS x hx'
      obtain ⟨_, _, _, fb, hib, eb⟩ := hS y hy'
      rw [← ea, ← eb]
      refine u_apart (u_lays hts (xIn hc6) hx') (u_lays hts (xIn hc6) hy') hia hib ?_
      rw [(State.fieldFound?_type hia (xty_ok cl hc6 x hx')).1, (State.fieldFound?_type hib (xty_ok cl hc6 y hy')).1]
      exact xnm_ok cl hc6 x hx' y hy' hne
    have key : ∀ (v : Value) (a : Nat) (r : List Value) (h2 : xH), narrow (xty cl k) v = v → fits (xty cl k) v = true → (h.1 a).1 = cl + 1 → h2.1 = h.1 → h2.2.2.2 = h.2.2.2 → (∀ b, b ≠ a → h2.2.1 b = h.2.1 b) → (∀ b, b ≠ a → h2.2.2.1 b = h.2.2.1 b) → (∀ j, xval h2 cl a j = if j = k then v else xval h cl a j) →
        xSim p l e R s m args below meth c QW D lo nL n0 s0 (pc + 3) ls r h2 → xst1 r → W p l e R s m args below meth c H locs (h.2.2.2.1 - n0) (h.2.2.2.2 - s0) QW (F0 m pc la (v :: .ref a :: r)) := by
      intro v a r h2 hnv hfit ha e1 e2 e3 e4 e5 z hr1
      obtain ⟨cell, q1, q2, q3, q4⟩ := (hrep.2.2 a).1.1 cl hc6 ha
      have hla : lo ≤ a := ((hrep.2.2 a).2 (by rw [ha]; omega)).2 (by rw [ha]; omega)
      have fin : ∀ H' : Heap, H'[a]? = some (cell.setSlot f.slot v) → H'.size = H.size → (∀ q, q ≠ a → H'[q]? = H[q]?) → W p l e R s m args below meth c H' (locs ++ [⟨a, f.slot⟩]) (h.2.2.2.1 - n0) (h.2.2.2.2 - s0) QW (F0 m (pc + 3) la r) := by
        intro H' g1 g2 g3
        rw [← e2]
        have hob : t_OB a (D.1 cl) (xN cl) (D.2.1 cl) H' (xval h2 cl a) := by
          refine t_OB.to (V := updV (xval h cl a) k v) ⟨_, g1, q2, q3, ?_⟩ (fun j _ => by rw [e5 j]; rfl)
          rw [hsl]
          exact t_set q4 hap hk v
        refine z H' _ la (xRep_upd hrep e1 (by rw [e2]) e3 e4 g2 g3 (xcell_ob hc6 (by rw [e1]; exact ha) hob)) hlv hr1 (xF_one hF g3 hla) (xL_one hL hla) (by rw [e2]; exact hn0) (by rw [e2]; exact hs0)
      have hlay := hts _ (xIn hc6 _ (u_in_lay hk))
      have hty := xty_ok cl hc6 k hk
      by_cases hq : (xT cl k).2.2.2 = true
      · obtain ⟨hi1, rfl⟩ := hfin hq
        unfold u_lay at hlay
        rw [if_pos hq] at hlay
        have hcf : m.cls = cf := by
          obtain ⟨_, _, c', _, _, _, -, -, hf', -, -, -, hown2, -⟩ := Cond.laysFinal_spec hlay
          have e1 : c' = cf := by have := hi.symm.trans hf'; simp at this; exact this.1.symm
          have hdecl : (xT own k).1 = xR own := (xdecl own hc6 k hk)
          rw [hdecl] at hown2
          rw [← e1]; exact Option.some.inj (hown.symm.trans hown2)
        refine W.putFinK hx hb hown (hts _ hw) hi hst hcf (hini hi1) (by rw [q2]; exact u_fits hfc hkC hkind (Or.inr hlay) hi hty hnv hfit) q1 q3 (by rw [hsl]; exact k2_hasslot (q4 k hk)) rfl rfl hdg fin
      · unfold u_lay at hlay
        rw [if_neg hq] at hlay
        exact W.putK hx hb (f := f) ⟨hown, hts _ hw, ⟨_, _, _, hi⟩, hst⟩ (by rw [q2]; exact u_store hfc hkC hkind hlay hi hty hnv hfit) q1 q3 (by rw [hsl]; exact k2_hasslot (q4 k hk)) rfl rfl hdg fin
    rcases hs with ⟨b0, x, a, r, rfl, ha, z⟩ | ⟨b0, x, a, r, rfl, hx01, ha, z⟩ | ⟨b0, b, a, r, rfl, ha, z⟩
    · have ht : xty cl k = .int := xft_0 b0
      refine key (.int x) a r (h.1, xuI h.2.1 a k x, h.2.2) (by rw [ht]; rfl) (by rw [ht]; rfl) ha rfl rfl (fun b hb => xuI_ne hb) (fun _ _ => rfl) (fun j => ?_) z.2 (xst1_t (xst1_t hst1))
      by_cases hj : j = k
      · subst hj
        rw [if_pos rfl, xval, if_neg (by rw [b0]; decide)]
        simp [xuI]
      · rw [if_neg hj]
        simp only [xval, xuI, hj, and_false, if_false]
    · have ht : xty cl k = .boolean := xft_1 b0
      refine key (.int x) a r (h.1, xuI h.2.1 a k x, h.2.2) (by rw [ht]; rcases hx01 with rfl | rfl <;> rfl) (by rw [ht]; rcases hx01 with rfl | rfl <;> rfl) ha rfl rfl (fun b hb => xuI_ne hb) (fun _ _ => rfl) (fun j => ?_) z.2 (xst1_t (xst1_t hst1))
      by_cases hj : j = k
      · subst hj
        rw [if_pos rfl, xval, if_neg (by rw [b0]; decide)]
        simp [xuI]
      · rw [if_neg hj]
        simp only [xval, xuI, hj, and_false, if_false]
    · have ht : (narrow (xty cl k) (.ref b) = .ref b) ∧ fits (xty cl k) (.ref b) = true := xft_2 hc6 hk b0 b
      refine key (.ref b) a r (h.1, h.2.1, xuP h.2.2.1 a k (some b), h.2.2.2) ht.1 ht.2 ha rfl rfl (fun _ _ => rfl) (fun b hb => xuP_ne hb) (fun j => ?_) z.2 (xst1_t (xst1_t hst1))
      by_cases hj : j = k
      · subst hj
        rw [if_pos rfl, xval, if_pos b0]
        simp [xuP, va_rf]
      · rw [if_neg hj]
        simp only [xval, xuP, hj, and_false, if_false]
  | iaload =>
    obtain ⟨rfl, j, a, r, N, rfl, ha, hj, z⟩ := hs
    have hlt : j.toNatClampNeg < N := Nat.not_le.mp fun q => hj (Or.inr q)
    rcases ha with ha | ha
    · refine W.iald (v := .int (h.2.1 a j.toNatClampNeg)) hx hb ((hrep.2.2 a).1.2.1 N ha) (hKn.2.1.1 N _) (fun q => by cases q) (by rw [arrV_size]; exact hj) (by rw [arrV_read _ _ hlt]) rfl rfl hdg ?_
      exact z.2 H locs la hrep hlv (xst1_c rfl (xst1_t (xst1_t hst1))) hF hL hn0 hs0
    · obtain ⟨scr, g1, g2, g3, g4, g5, g6⟩ := (hrep.2.2 a).1.2.2.2.2 N ha
      obtain ⟨k1, cm, k2, k3⟩ := hKn.2.2.2.2.2.2
      refine W.iald (v := .int (h.2.1 a j.toNatClampNeg)) hx hb g1 ⟨g3, k1, by rw [g2]; exact k2, cm, k3⟩ g4 (by rw [g5]; exact hj) (g6 _ hlt) rfl rfl hdg ?_
      exact z.2 H locs la hrep hlv (xst1_c rfl (xst1_t (xst1_t hst1))) hF hL hn0 hs0
  | baload =>
    obtain ⟨rfl, j, a, r, N, rfl, ha, hj, z⟩ := hs
    have hlt : j.toNatClampNeg < N := Nat.not_le.mp fun q => hj (Or.inr q)
    refine W.zald (v := .int (h.2.1 a j.toNatClampNeg)) hx hb ((hrep.2.2 a).1.2.2.1 N ha) (hKn.2.2.1.1 N _) (fun q => by cases q) (by rw [arrV_size]; exact hj) (by rw [arrV_read _ _ hlt]) rfl rfl hdg ?_
    exact z.2 H locs la hrep hlv (xst1_c rfl (xst1_t (xst1_t hst1))) hF hL hn0 hs0
  | aaload =>
    obtain ⟨rfl, j, a, r, N, rfl, ha, hj, z⟩ := hs
    have hlt : j.toNatClampNeg < N := Nat.not_le.mp fun q => hj (Or.inr q)
    refine W.aald (v := va_rf (h.2.2.1 a j.toNatClampNeg)) (ty := .object RX2) hx hb ((hrep.2.2 a).1.2.2.2.1 N ha) (hKn.2.2.2.1.1 N _) rfl (fun q => by cases q) (by rw [arrV_size]; exact hj) (by rw [arrV_read _ _ hlt]) rfl rfl hdg ?_
    exact z.2 H locs la hrep hlv (xst1_c (xrf_cat _) (xst1_t (xst1_t hst1))) hF hL hn0 hs0
  | iastore =>
    obtain ⟨rfl, x, j, a, r, N, rfl, ha, hj, z⟩ := hs
    have hla : lo ≤ a := ((hrep.2.2 a).2 (by rw [ha]; simp)).2 (by rw [ha]; simp)
    refine W.iast hx hb ((hrep.2.2 a).1.2.1 N ha) (hKn.2.1.1 N _) (fun q => by cases q) (by rw [arrV_size]; exact hj) rfl rfl hdg fun H1 g1 g2 g3 => ?_
    refine z.2 H1 _ la (xRep_upd hrep rfl rfl (fun b hb => xuI_ne hb) (fun _ _ => rfl) g2 g3 (xcell_i ha ?_)) hlv (xst1_t (xst1_t (xst1_t hst1))) (xF_one hF g3 hla) (xL_one hL hla) hn0 hs0
    rw [g1, arrV_store]
    congr 2
    funext q
    by_cases hq : q = j.toNatClampNeg
    · subst hq; simp [updV, xuI]
    · simp [updV, xuI, hq]
  | bastore =>
    obtain ⟨rfl, x, j, a, r, N, rfl, hx01, ha, hj, z⟩ := hs
    have hla : lo ≤ a := ((hrep.2.2 a).2 (by rw [ha]; simp)).2 (by rw [ha]; simp)
    refine W.zast hx hb ((hrep.2.2 a).1.2.2.1 N ha) (hKn.2.2.1.1 N _) (fun q => by cases q) (by rw [arrV_size]; exact hj) rfl rfl hdg fun H1 g1 g2 g3 => ?_
    refine z.2 H1 _ la (xRep_upd hrep rfl rfl (fun b hb => xuI_ne hb) (fun _ _ => rfl) g2 g3 (xcell_z ha ?_)) hlv (xst1_t (xst1_t (xst1_t hst1))) (xF_one hF g3 hla) (xL_one hL hla) hn0 hs0
    have hnx : narrow .boolean (.int x) = .int x := by rcases hx01 with rfl | rfl <;> rfl
    rw [g1, hnx, arrV_store]
    congr 2
    funext q
    by_cases hq : q = j.toNatClampNeg
    · subst hq; simp [updV, xuI]
    · simp [updV, xuI, hq]
  | aastore =>
    obtain ⟨rfl, b, j, a, r, N, rfl, ha, hj, hb3, z⟩ := hs
    have hla : lo ≤ a := ((hrep.2.2 a).2 (by rw [ha]; simp)).2 (by rw [ha]; simp)
    have hlt : j.toNatClampNeg < N := Nat.not_le.mp fun q => hj (Or.inr q)
    have h0 : ¬ j < 0 := fun q => hj (Or.inl q)
    obtain ⟨cellV, g1, g2, g3, -⟩ := (hrep.2.2 b).1.1 2 (by decide) hb3
    have hcls := (hKn.1 2 (by decide)).2
    obtain ⟨kA, comp, k1, k2, k3, -⟩ := hKn.2.2.2.1.2
    have hcomp : comp = D.1 2 := Option.some.inj (k3.symm.trans hcls.1)
    subst hcomp
    obtain ⟨kC, hkC, -⟩ := hcls.2
    refine W.aast hx hb ((hrep.2.2 a).1.2.2.2.1 N ha) (fun q h => by cases h) (fun h => by cases h) k1 k2 rfl hkC ⟨h0, by rw [arrV_size]; exact hlt⟩ g1 (fun q h => by rw [g3] at h; cases h) (by rw [g2]; exact hkC) (by rw [g2]; exact va_assign hcls) rfl rfl hdg fun H1 f1 f2 f3 => ?_
    refine z.2 H1 _ la (xRep_upd hrep rfl rfl (fun _ _ => rfl) (fun b hb => xuP_ne hb) f2 f3 (xcell_m ha ?_)) hlv (xst1_t (xst1_t (xst1_t hst1))) (xF_one hF f3 hla) (xL_one hL hla) hn0 hs0
    rw [f1, arrV_store]
    congr 2
    funext q
    by_cases hq : q = j.toNatClampNeg
    · subst hq; simp [updV, xuP, va_rf]
    · simp [updV, xuP, hq]
  | arraylength =>
    obtain ⟨rfl, a, r, N, rfl, ha, z⟩ := hs
    rcases ha with ha | ha
    · refine W.alen (n := nI N) hx hb ((hrep.2.2 a).1.2.1 N ha) (hKn.2.1.1 N _) (by rw [arrV_size]; rfl) rfl rfl hdg ?_
      exact z.2 H locs la hrep hlv (xst1_c rfl (xst1_t hst1)) hF hL hn0 hs0
    · obtain ⟨scr, g1, g2, g3, g4, g5, g6⟩ := (hrep.2.2 a).1.2.2.2.2 N ha
      obtain ⟨k1, cm, k2, k3⟩ := hKn.2.2.2.2.2.2
      refine W.alen (n := nI N) (ty := .int) hx hb g1 ⟨g3, k1, by rw [g2]; exact k2, cm, k3⟩ (by rw [g5]; rfl) rfl rfl hdg ?_
      exact z.2 H locs la hrep hlv (xst1_c rfl (xst1_t hst1)) hF hL hn0 hs0
  | new idx =>
    obtain ⟨rfl, cl, hcl, z⟩ := hs
    obtain ⟨w1, w2, w3, hc6⟩ := xcl_ok hcl
    have hkn := hKn.1 cl hc6
    obtain ⟨b1, b2⟩ := hbd _ _ _ _ z.1
    simp only at b1 b2
    refine W.newcK hx hb hown (hts _ w1) (hts _ w2) (hts _ w3) rfl hdg (by omega) (by omega) hkn.2.1 hrep.1 fun H1 kC hkC g1 g2 g3 => ?_
    refine W.cs (cells' := h.2.2.2.1 + 1 - n0) (slots' := h.2.2.2.2 + xN cl - s0) (by omega) (by omega) ?_
    have hob := u_born (xty cl) hts (xIn hc6) hkn hkC g1 (xty_ok cl hc6)
    refine z.2 H1 locs la (xRep_new hrep (fun b hb => xuK_ne hb) rfl (fun b hb => xuR_ne hb) (fun b hb => xuQ_ne hb) g2 g3 (xcell_ob hc6 (by simp [xuK]) (hob.to (fun k hk => ?_)))) hlv (xst1_c rfl hst1) (xF_new hF g3 hrep.2.1) hL (by simp only; omega) (by simp only; omega)
    exact xdef hc6 hk (by simp [xuR]) (by simp [xuQ])
  | newarray t =>
    obtain ⟨rfl, n, r, rfl, hn, hs⟩ := hs
    have c1 : ¬ nI n < 0 := nI_pos (by omega)
    have c2 : (nI n).toNatClampNeg = n := nI_clamp (by omega)
    rcases hs with ⟨rfl, z⟩ | ⟨rfl, z⟩
    · obtain ⟨b1, b2⟩ := hbd _ _ _ _ z.1
      simp only at b1 b2
      refine va_newaK (atype := .int) hx hb (hts _ xarrI) rfl hdg rfl c1 c2 (by show n * 4 ≤ _; omega) (by omega) (by omega) hrep.1 fun H1 cA g1 g2 g3 g4 g5 => ?_
      refine W.cs (cells' := h.2.2.2.1 + 1 - n0) (slots' := h.2.2.2.2 + n - s0) (by omega) (by omega) ?_
      have hcA : cA = D.2.2.1 := Option.some.inj (g5.symm.trans hKn.2.1.2)
      subst hcA
      refine z.2 H1 locs la (xRep_new hrep (fun b hb => xuK_ne hb) rfl (fun b hb => xuR_ne hb) (fun _ _ => rfl) g2 g3 (xcell_i (N := n) (by simp [xuK]) ?_)) hlv (xst1_c rfl (xst1_t hst1)) (xF_new hF g3 hrep.2.1) hL (by simp only; omega) (by simp only; omega)
      rw [g1]
      simp [xuR]
      rfl
    · obtain ⟨b1, b2⟩ := hbd _ _ _ _ z.1
      simp only at b1 b2
      refine va_newaK (atype := .boolean) hx hb (hts _ xarrZ) rfl hdg rfl c1 c2 (by show n * 1 ≤ _; omega) (by omega) (by omega) hrep.1 fun H1 cA g1 g2 g3 g4 g5 => ?_
      refine W.cs (cells' := h.2.2.2.1 + 1 - n0) (slots' := h.2.2.2.2 + n - s0) (by omega) (by omega) ?_
      have hcA : cA = D.2.2.2.1 := Option.some.inj (g5.symm.trans hKn.2.2.1.2)
      subst hcA
      refine z.2 H1 locs la (xRep_new hrep (fun b hb => xuK_ne hb) rfl (fun b hb => xuR_ne hb) (fun _ _ => rfl) g2 g3 (xcell_z (N := n) (by simp [xuK]) ?_)) hlv (xst1_c rfl (xst1_t hst1)) (xF_new hF g3 hrep.2.1) hL (by simp only; omega) (by simp only; omega)
      rw [g1]
      simp [xuR]
      rfl
  | anewarray idx =>
    obtain ⟨rfl, n, r, rfl, hn, hcl, z⟩ := hs
    obtain ⟨w1, w2, w3, hc6⟩ := xcl_ok hcl
    have c1 : ¬ nI n < 0 := nI_pos (by omega)
    have c2 : (nI n).toNatClampNeg = n := nI_clamp (by omega)
    obtain ⟨b1, b2⟩ := hbd _ _ _ _ z.1
    simp only at b1 b2
    refine W.anew (C := RX2) hx hb hown (hts _ w1) (va_AO.use hKn.2.2.2.2.1) rfl hdg rfl c1 (by rw [c2]; omega) (by omega) (by rw [c2]; omega) fun cA kA comp f1 f2 f3 f4 => ?_
    generalize hH1 : H.push ({ cls := cA, slots := Array.replicate (nI n).toNatClampNeg .null, vm := .none } : Cell) = H1
    have z1 : H1.size = H.size + 1 := by rw [← hH1, Array.size_push]
    have e1 : H1[H.size]? = some (arrV cA n (fun _ => .null)) := by rw [← hH1, Array.getElem?_push_size, c2, ← arrV_new]
    have o1 : ∀ q : Nat, q < H.size → H1[q]? = H[q]? := fun q hq => by rw [← hH1, Array.getElem?_push, if_neg (Nat.ne_of_lt hq)]
    have hcA : cA = D.2.2.2.2.1 := by
      obtain ⟨kA', comp', j1, j2, j3, j4⟩ := hKn.2.2.2.1.2
      exact Option.some.inj (f1.symm.trans j4)
    subst hcA
    rw [hrep.1] at z1 e1 o1
    rw [c2, hrep.1]
    refine W.cs (cells' := h.2.2.2.1 + 1 - n0) (slots' := h.2.2.2.2 + n - s0) (by omega) (by omega) ?_
    refine z.2 H1 locs la (xRep_new hrep (fun b hb => xuK_ne hb) rfl (fun _ _ => rfl) (fun b hb => xuQ_ne hb) z1 o1 (xcell_m (N := n) (by simp [xuK]) ?_)) hlv (xst1_c rfl (xst1_t hst1)) (xF_new hF o1 hrep.2.1) hL (by simp only; omega) (by simp only; omega)
    rw [e1]
    simp [xuQ, va_rf]
  | invokevirtual idx =>
    obtain ⟨rfl, y, As, b, r, hm, hy0, rfl, hlen, hbk, hc6, hr8, z⟩ := hs
    obtain ⟨w1, -, hyn⟩ := xml_ok hm
    obtain ⟨⟨wc, wi⟩, -, winst, wsel, -, hcls, hn1, hn2, hpl, hdesc, h13⟩ := xfacts hyn
    obtain ⟨st1a, st1b⟩ := xst1_a hst1
    have hst1A : xst1 (.ref b :: As) := xst1_c rfl (fun v hv => st1a v (List.mem_reverse.mpr hv))
    have hl13 := xlen_ok hyn
    rw [if_neg (by rw [hy0]; decide), ← hlen] at hl13
    obtain ⟨hd1, mc', ms', hMet, rr, hh, y1, y2, y3⟩ := hM y (.ref b :: As) h _ hyn hst1A hl13 z
    obtain ⟨b1, b2⟩ := hbd _ _ _ _ y3.1
    obtain ⟨cell, q1, q2, q3, -⟩ := (hrep.2.2 b).1.1 _ hc6 hbk
    have hkn := hKn.1 _ hc6
    have hcw : CallW R s args (xR own) (xM y).1.cls idx (xM y).1 (xM y).2.1 (xM y).2.2.1 (xM y).2.2.2.1 (xws y) (xrm (d - 1) mc' ms') mc' ms' As.length := ⟨callB_of As.length hts (xws_good hyn) rfl rfl rfl (hts _ wi) (hts _ (w1 rfl)) ⟨hn1, hn2, by rw [hlen]; exact hdesc⟩ ⟨by show d - 1 + 1 ≤ R.frames; omega, by show 8 + (_ + 11) + 40 * (d - 1) ≤ R.locals; omega⟩, hts _ (winst (by rw [hy0]; decide)), hts _ (wsel hy0)⟩
    refine x_run (va_runV ⟨hx, hb, hml, hown, hts⟩ hMet hcw ⟨xPc_blind, ⟨cell, q1, by rw [q3]; rfl, by rw [q2, hcls]; exact hkn.2.1⟩, xPc_at hrep hKn⟩ rfl rfl hlv.1 rfl (lv_room hr8) hdg ⟨by omega, by omega⟩) hF hL (fun v h' H1 locs1 g1 g2 g3 g4 g5 => ?_)
    obtain ⟨e1, e2, e3⟩ := g2
    refine W.cs (cells' := h'.2.2.2.1 - n0) (slots' := h'.2.2.2.2 - s0) (by omega) (by omega) ?_
    exact e3.2 H1 locs1 la g1 hlv (xst1_j g5 (xst1_t st1b)) g3 g4 (by omega) (by omega)
  | invokestatic idx =>
    obtain ⟨rfl, hs⟩ := hs
    rcases hs with ⟨y, nb, As, r, hm, hy0, rfl, hlen, hr8, z⟩ | ⟨hm, hd1, x, y, r, rfl, hr8, z⟩ | ⟨hm, hd1, n, dp, sp, a, b, r, N, M, rfl, hr8, ha, hb2, hne, h1, h2, h3, h4, z⟩
    · obtain ⟨w1, w2, hyn⟩ := xml_ok hm
      obtain ⟨⟨wc, wi⟩, wst, -, -, -, hcls, hn1, hn2, hpl, hdesc, h13⟩ := xfacts hyn
      obtain ⟨st1a, st1b⟩ := xst1_a hst1
      have hst1A : xst1 As := fun v hv => st1a v (List.mem_reverse.mpr hv)
      have hl13 := xlen_ok hyn
      rw [if_pos hy0, ← hlen] at hl13
      obtain ⟨hd1, mc', ms', hMet, rr, hh, y1, y2, y3⟩ := hM y As h _ hyn hst1A hl13 z
      obtain ⟨b1, b2⟩ := hbd _ _ _ _ y3.1
      have fin : ∀ (hrun : va_Run p l e R s m args below meth c H locs (h.2.2.2.1 - n0) (h.2.2.2.2 - s0) mc' ms' (F0 m pc la (As.reverse ++ r)) r (xQc D lo (fun r_1 h' => h'.2.2.2.1 = h.2.2.2.1 + mc' ∧ h'.2.2.2.2 = h.2.2.2.2 + ms' ∧ (xw (xCd d) d own cc ret ini Q (pc + 3) ls (r_1.toList ++ r) h' ∧ xSim p l e R s m args below meth c QW D lo nL n0 s0 (pc + 3) ls (r_1.toList ++ r) h')) As.toArray) (fun q => lo ≤ q)), W p l e R s m args below meth c H locs (h.2.2.2.1 - n0) (h.2.2.2.2 - s0) QW (F0 m pc la (As.reverse ++ r)) := by
        intro hrun
        refine x_run hrun hF hL (fun v h' H1 locs1 g1 g2 g3 g4 g5 => ?_)
        obtain ⟨e1, e2, e3⟩ := g2
        refine W.cs (cells' := h'.2.2.2.1 - n0) (slots' := h'.2.2.2.2 - s0) (by omega) (by omega) ?_
        exact e3.2 H1 locs1 la g1 hlv (xst1_j g5 st1b) g3 g4 (by omega) (by omega)
      by_cases hnb : nb = 0
      · exact fin (va_runS ⟨hx, hb, hml, hown, hts⟩ hMet ⟨callB_of As.length hts (xws_good hyn) rfl rfl rfl (hts _ wi) (hts _ (w1 hnb)) ⟨hn1, hn2, by rw [hlen]; exact hdesc⟩ ⟨by show d - 1 + 1 ≤ R.frames; omega, by show 8 + (_ + 11) + 40 * (d - 1) ≤ R.locals; omega⟩, hts _ (wst hy0)⟩ ⟨xPc_blind, xPc_at hrep hKn⟩ rfl rfl hlv.1 rfl (lv_room hr8) hdg ⟨by omega, by omega⟩)
      · obtain ⟨rfl, rfl, rfl⟩ := w2 hnb
        exact fin (va_runSN (host := "LinkStation") ⟨hx, hb, hml, hown, hts⟩ hMet ⟨va_cnB As.length hts (xws_good hyn) rfl rfl rfl hKn.2.2.2.2.2.1 (hts _ wi) ⟨hn1, hn2, by rw [hlen]; exact hdesc⟩ ⟨by show d - 1 + 1 ≤ R.frames; omega, by show 8 + (_ + 11) + 40 * (d - 1) ≤ R.locals; omega⟩, hts _ (wst hy0), trivial⟩ ⟨xPc_blind, xPc_at hrep hKn⟩ rfl rfl hlv.1 rfl (lv_room hr8) hdg ⟨by omega, by omega⟩)
    · obtain ⟨b1, b2⟩ := hbd _ _ _ _ z.1
      have hw := xmx_ok
      simp only [Bool.and_eq_true] at hw
      unfold xmx at hm
      simp only [Bool.and_eq_true, beq_iff_eq] at hm
      obtain ⟨rfl, rfl⟩ := hm
      refine va_mmax hx hb (by rw [hml, hlv.1]) hown (hts _ (xok_mem hw.1.1.1)) (hts _ (xok_mem hw.1.1.2)) (hts _ (xok_mem hw.1.2)) (hts _ (xok_mem hw.2)) (by omega) (by omega) (by omega) (by omega) hdg ?_
      exact z.2 H locs la hrep hlv (xst1_c rfl (xst1_t (xst1_t hst1))) hF hL hn0 hs0
    · have hw := xac_ok
      simp only [Bool.and_eq_true] at hw
      unfold xac at hm
      simp only [Bool.and_eq_true, beq_iff_eq] at hm
      obtain ⟨rfl, rfl⟩ := hm
      have hlb : lo ≤ b := ((hrep.2.2 b).2 (by rw [hb2]; simp)).2 (by rw [hb2]; simp)
      have c1 : (nI sp).toNatClampNeg = sp := nI_clamp (by omega)
      have c2 : (nI dp).toNatClampNeg = dp := nI_clamp (by omega)
      have c3 : (nI n).toNatClampNeg = n := nI_clamp (by omega)
      intro T hT X
      have hc0 := (hrep.2.2 a).1.2.1 N ha
      have hc1 := (hrep.2.2 b).1.2.1 M hb2
      obtain ⟨-, k0, hk0, cm0, hkk0⟩ := hKn.2.1.1 N (fun j => .int (h.2.1 a j))
      obtain ⟨-, k1, hk1, cm1, hkk1⟩ := hKn.2.1.1 M (fun j => .int (h.2.1 b j))
      obtain ⟨vm', X', step⟩ := X.arraycopy hx hown (hts _ (xok_mem hw.1.1.1)) (hts _ (xok_mem hw.1.1.2)) (hts _ (xok_mem hw.1.2)) (hts _ (xok_mem hw.2)) (src := a) (dst := b) (cs := arrV D.2.2.1 N (fun j => .int (h.2.1 a j))) (cd := arrV D.2.2.1 M (fun j => .int (h.2.1 b j))) (srcPos := nI sp) (destPos := nI dp) (n := nI n) (by rw [hT]; exact hc0) (by rw [hT]; exact hc1)
        (fun _ h => by cases h) (fun _ h => by cases h) (fun h => by cases h) (fun h => by cases h) hk0 hk1 hkk0 hkk1 rfl (nI_pos (by omega)) (nI_pos (by omega)) (nI_pos (by omega))
        (by rw [nI_toInt (by omega), nI_toInt (by omega), arrV_size]; omega) (by rw [nI_toInt (by omega), nI_toInt (by omega), arrV_size]; omega)
        (fun vm₁ _ i hi => by
          rw [c3] at hi
          have e : (arrV D.2.2.1 N (fun j => .int (h.2.1 a j))).slots.getD ((nI sp).toNatClampNeg + i) .null = .int (h.2.1 a (sp + i)) := by
            rw [c1, Array.getD_eq_getD_getElem?, arrV_read _ _ (by omega)]
            rfl
          rw [e]
          exact ⟨rfl, trivial⟩)
        (g := F0 m pc la (.int (nI n) :: .int (nI dp) :: .ref b :: .int (nI sp) :: .ref a :: r)) rfl (by rw [hml]; exact hlv.1) (rest := r) rfl (by rw [hb]; exact hdg) (by omega) (by show 2 * 0 + _ + (7 + 11) ≤ _; omega)
      have e1 : copied (arrV D.2.2.1 N (fun j => .int (h.2.1 a j))) (arrV D.2.2.1 M (fun j => .int (h.2.1 b j))) (nI sp) (nI dp) (nI n) = arrV D.2.2.1 M (fun j => .int (va_cpy (h.2.1 a) (h.2.1 b) sp dp n j)) := by
        have := va_copied (fun z => Value.int z) D.2.2.1 D.2.2.1 (n0 := N) (n1 := M) (sp := (nI sp).toNatClampNeg) (dp := (nI dp).toNatClampNeg) (n := (nI n).toNatClampNeg) (h.2.1 a) (h.2.1 b) (by omega)
        rw [c1, c2, c3] at this
        unfold copied
        rw [c1, c2, c3]
        exact this
      rw [e1] at X' step
      have hl : b < H.size := (Array.getElem?_eq_some_iff.mp hc1).1
      have hheap : ((T.setVm vm').setCell b (arrV D.2.2.1 M (fun j => .int (va_cpy (h.2.1 a) (h.2.1 b) sp dp n j)))).heap = H.setIfInBounds b (arrV D.2.2.1 M (fun j => .int (va_cpy (h.2.1 a) (h.2.1 b) sp dp n j))) := by rw [← hT]; rfl
      have oq : ∀ q : Nat, q ≠ b → (H.setIfInBounds b (arrV D.2.2.1 M (fun j => .int (va_cpy (h.2.1 a) (h.2.1 b) sp dp n j))))[q]? = H[q]? := fun q hq => by simp [Array.getElem?_setIfInBounds, Ne.symm hq]
      obtain ⟨t, a1, b1⟩ := z.2 (H.setIfInBounds b (arrV D.2.2.1 M (fun j => .int (va_cpy (h.2.1 a) (h.2.1 b) sp dp n j)))) _ la (xRep_upd hrep rfl rfl (fun b hb => xuR_ne hb) (fun _ _ => rfl) (by simp) oq (xcell_i hb2 (by simp [Array.getElem?_setIfInBounds, hl, xuR]))) hlv (xst1_t (xst1_t (xst1_t (xst1_t (xst1_t hst1))))) (xF_one hF oq hlb) (fun q hq => by
          rcases List.mem_append.mp hq with z | z
          · exact hL q z
          · obtain ⟨w, -, hw⟩ := List.mem_map.mp z
            rw [← hw]
            exact hlb) hn0 hs0 _ hheap X'
      exact ⟨t, step t a1, b1⟩
  | invokespecial idx =>
    obtain ⟨rfl, hs⟩ := hs
    rcases hs with ⟨y, As, b, r, hm, hy0, rfl, hlen, hr8, z⟩ | ⟨hm, hd1, a, r, rfl, hr8, z⟩
    · obtain ⟨w1, -, hyn⟩ := xml_ok hm
      obtain ⟨⟨wc, wi⟩, -, winst, -, wnm, hcls, hn1, hn2, hpl, hdesc, h13⟩ := xfacts hyn
      obtain ⟨wn1, wn2⟩ := wnm hy0
      obtain ⟨st1a, st1b⟩ := xst1_a hst1
      have hst1A : xst1 (.ref b :: As) := xst1_c rfl (fun v hv => st1a v (List.mem_reverse.mpr hv))
      have hl13 := xlen_ok hyn
      rw [if_neg (by rw [hy0]; decide), ← hlen] at hl13
      obtain ⟨hd1, mc', ms', hMet, rr, hh, y1, y2, y3⟩ := hM y (.ref b :: As) h _ hyn hst1A hl13 z
      obtain ⟨b1, b2⟩ := hbd _ _ _ _ y3.2.1
      have hw' : xws y = Cond.code (xM y).1 (xM y).2.1 (xM y).2.2.1 none :: xWT := by unfold xws; rw [wn2]
      refine x_run (va_runI ⟨hx, hb, hml, hown, hts⟩ hMet ⟨callB_of As.length hts (xws_good hyn) hw' rfl rfl (hts _ wi) (hts _ (w1 rfl)) ⟨hn1, hn2, by rw [hlen]; exact hdesc⟩ ⟨by show d - 1 + 1 ≤ R.frames; omega, by show 8 + (_ + 11) + 40 * (d - 1) ≤ R.locals; omega⟩, wn1, hts _ (winst (by rw [hy0]; decide))⟩ ⟨xPc_blind, xPc_at hrep hKn⟩ rfl rfl hlv.1 rfl (lv_room hr8) hdg ⟨by omega, by omega⟩) hF hL (fun v h' H1 locs1 g1 g2 g3 g4 g5 => ?_)
      obtain ⟨e1, e2, rfl, e3⟩ := g2
      refine W.cs (cells' := h'.2.2.2.1 - n0) (slots' := h'.2.2.2.2 - s0) (by omega) (by omega) ?_
      exact e3.2 H1 locs1 la g1 hlv (xst1_t st1b) g3 g4 (by omega) (by omega)
    · have hw := xobj_ok
      simp only [Bool.and_eq_true] at hw
      refine W.objInit hx hb hown (hts _ (xoi_ok hm)) (hts _ (xok_mem hw.1)) (hts _ (xok_mem hw.2)) rfl (by rw [hml]; exact hlv.1) rfl hdg (by omega) (by show 2 * 0 + _ + 12 ≤ _; omega) ?_
      exact z.2 H locs la hrep hlv (xst1_t hst1) hF hL hn0 hs0
  | ireturn =>
    obtain ⟨rfl, v, rfl, hv, z⟩ := hs
    exact hri pc la v h H locs hdg hv z hrep hF hL hn0 hs0
  | return_ =>
    obtain ⟨rfl, rfl, hv, z⟩ := hs
    exact hrv pc la h H locs hdg hv z hrep hF hL hn0 hs0
  | _ => exact False.elim hs
end XT
end
section
/-! every call of the abstract machine is met by the machine -/
set_option maxHeartbeats 4000000 in
theorem x_sim (l : Launch) (D : xD) (lo : Nat) : ∀ d : Nat, xMet l D lo d
  | 0 => fun y A h P _ _ _ z => False.elim z
  | d + 1 => fun y A h P hy hA hlen z => by
    have ih := x_sim l D lo d
    obtain ⟨mc, ms, z⟩ := (xC_eq d y A h P).mp z
    have hlv : ∃ r h', h'.2.2.2.1 = h.2.2.2.1 + mc ∧ h'.2.2.2.2 = h.2.2.2.2 + ms ∧ P r h' := by
      obtain ⟨r, h', q, -⟩ := xw_live (xCd_live d) z
      exact ⟨r, h', q⟩
    refine ⟨by omega, mc, ms, ?_, hlv⟩
    show Met l (xM y).1 (xws y) (xrm d mc ms) (xPc D lo h A) (xQc D lo (fun r h' => h'.2.2.2.1 = h.2.2.2.1 + mc ∧ h'.2.2.2.2 = h.2.2.2.2 + ms ∧ P r h')) mc ms (fun q => lo ≤ q)
    obtain ⟨⟨wc, wi⟩, wst, winst, wsel, wnm, hcls, hn1, hn2, hpl, hdesc, h13⟩ := xfacts hy
    refine Met.ofW (cc := (xM y).2.1) (maxL := (xM y).2.2.1) (ret := (xM y).2.2.2.1) (ws' := xWT) hpl rfl ?_
    intro p e s m args below meth c s₁ B hml hv
    obtain ⟨rfl, hrep, hKn⟩ := hv
    have hx := B.exec
    have hb := B.bytes
    have hr := B.returns
    have hlocks := B.notSynchronized
    have hts0 := atoms_spec (ws := xws y) B.pre
    have hts : ∀ w ∈ xWT, w.before A.toArray s = true := fun w hw => hts0 w (List.mem_cons_of_mem _ hw)
    have hown : s.vm.findClass (xR (xM y).2.2.2.2.1) = some m.cls := by rw [← hcls]; exact findClass_of_methodNamed B.named
    have hin : decide ((xM y).2.2.2.2.2.1 = 1) = true → meth.name = "<init>" := fun q => by
      rw [decide_eq_true_eq] at q
      rw [(name_of_methodNamed B.named B.method).1]
      exact (wnm q).1
    have hBody : xBody p s m A.toArray meth c (headSpec (xws y) (xrm d mc ms)).room D d (xM y).2.2.2.2.1 (xM y).2.1 (xM y).2.2.1 (decide ((xM y).2.2.2.2.2.1 = 1)) := ⟨hx, hb, hml, hown, hts, hKn, hin, Nat.le_refl d, Nat.le_refl _⟩
    have hbd : ∀ pc ls st h1, xw (xCd d) d (xM y).2.2.2.2.1 (xM y).2.1 (xM y).2.2.2.1 (decide ((xM y).2.2.2.2.2.1 = 1)) (fun r h' => h'.2.2.2.1 = h.2.2.2.1 + mc ∧ h'.2.2.2.2 = h.2.2.2.2 + ms ∧ P r h') pc ls st h1 → h1.2.2.2.1 ≤ h.2.2.2.1 + mc ∧ h1.2.2.2.2 ≤ h.2.2.2.2 + ms := fun pc ls st h1 q => by
      obtain ⟨r, h', q1, q2, q3⟩ := xw_live (xCd_live d) q
      exact ⟨by rw [← q1.1]; exact q2, by rw [← q1.2.1]; exact q3⟩
    have key := z (fun pc ls st h1 => xw (xCd d) d (xM y).2.2.2.2.1 (xM y).2.1 (xM y).2.2.2.1 (decide ((xM y).2.2.2.2.2.1 = 1)) (fun r h' => h'.2.2.2.1 = h.2.2.2.1 + mc ∧ h'.2.2.2.2 = h.2.2.2.2 + ms ∧ P r h') pc ls st h1 ∧ xSim p l e (headSpec (xws y) (xrm d mc ms)).room s m A.toArray below meth c (MQ below (xQc D lo (fun r h' => h'.2.2.2.1 = h.2.2.2.1 + mc ∧ h'.2.2.2.2 = h.2.2.2.2 + ms ∧ P r h')) A.toArray s mc ms (fun q => lo ≤ q)) D lo (xM y).2.2.1 h.2.2.2.1 h.2.2.2.2 pc ls st h1) (fun pc ls st h1 q => by
      refine ⟨x_fold (xstp_mono (fun _ _ z => z) (fun _ _ _ _ z => z.1) (xCd_mono d) q), ?_⟩
      unfold xstp at q
      cases hd : decode (xM y).2.1 pc with
      | error e => rw [hd] at q; exact False.elim q
      | ok r =>
        rw [hd] at q
        obtain ⟨i, len⟩ := r
        refine xins_sim hBody ih (Nat.le_refl mc) (Nat.le_refl ms) hbd ?_ ?_ hd q
        · intro pc la v h2 H locs hdg hv hQ hrep hF hL hn0 hs0
          refine W.cs (cells' := mc) (slots' := ms) (by have := hQ.1; omega) (by have := hQ.2.1; omega) ?_
          have hq : ∀ t : State, t.heap = H → s.WarmedH t.vm → xQc D lo (fun r h' => h'.2.2.2.1 = h.2.2.2.1 + mc ∧ h'.2.2.2.2 = h.2.2.2.2 + ms ∧ P r h') A.toArray s (.returned (some (.int v))) t := fun t ht _ => ⟨⟨_, h2, rfl, by rw [ht]; exact hrep, hQ, fun w hw => by cases hw; rfl⟩, fun q hq => by rw [ht]; exact hF q hq⟩
          rcases hv with hv | ⟨hv, hv2⟩
          · exact W.iret hx hb (by rw [hr]; exact hv) hq hL hdg
          · exact W.zret hx hb (by rw [hr]; exact hv) (by rcases hv2 with rfl | rfl <;> rfl) hq hL hdg
        · intro pc la h2 H locs hdg hv hQ hrep hF hL hn0 hs0
          refine W.cs (cells' := mc) (slots' := ms) (by have := hQ.1; omega) (by have := hQ.2.1; omega) ?_
          exact W.vret hx hb (by rw [hr]; exact hv) (fun t ht _ => ⟨⟨_, h2, rfl, by rw [ht]; exact hrep, hQ, fun w hw => by cases hw⟩, fun q hq => by rw [ht]; exact hF q hq⟩) hL hdg)
    rw [lg_entry_eq]
    have := key.2 s.heap [] _ hrep (xlv_entry A hA hlen) (fun _ h => by cases h) (fun _ _ => rfl) (fun _ h => by cases h) (Nat.le_refl _) (Nat.le_refl _)
    rw [Nat.sub_self, Nat.sub_self] at this
    exact this
end
section
-- ===== end of PART A; then your names; then what follows =====
/-! THE CLAIM OUT OF ONE WALK OF THE LAW'S BODY. Your part is whole_start (and what it stands on); all else here is the same for every law, but numbers. -/
def R_law : String := "LinkStationLaw"
def lw_P (b : Addr) (xs : List Int32) (args : Array Value) (s : State) : Prop := args = #[.ref b] ∧ s.IntsAt b xs ∧ xs.length ≤ 3072 ∧ (Jvm.Cond.and given_1 narrow_1).before args s = true
def lw_Q (_ : Array Value) (s : State) (o : Outcome) (t : State) : Prop := o = .returned (some (.int 1)) ∧ Framed s o t [] 600000 7302250
def lw_Z (below : List Frame) (a : Array Value) (s : State) : State → Prop := fun t => ∃ o, t.status = .running ∧ Ended t below o ∧ lw_Q a s o t
/-- the law's own end, with 1 on the stack, nothing written that was there before, its room as the claim has it -/
theorem lw_ret {p : Program} {l : Launch} {e : Env} {s : State} {m : MethodId} {below : List Frame} {meth : Method} {c : Code} {b : Nat} (hx : p.tables.exec = Jvm.exec) (hb : c.code = code) (hr : meth.sig.returnType = ret) (hlocks : meth.locks = false) {pc : Nat} {H : Heap} {ls : Array Slot} (hdg : decode code pc = .ok (.ireturn, 1)) : W p l e room_1 s m #[Value.ref b] below meth c H [] 600000 7302250 (lw_Z below #[Value.ref b] s) (F0 m pc ls [.int 1]) := by
  intro T hT X
  obtain ⟨fs, hret, hrun, hended, hW, hframe⟩ := X.leave (v := some (.int 1)) (hlocks := hlocks) (fun h => by rw [hr] at h; cases h)
  have hmeth' : T.vm.method? m = some meth := X.method'
  refine ⟨T.setFrames fs, ?_, .returned (some (.int 1)), hrun, hended, rfl, ⟨_, rfl⟩, hW, hframe⟩
  jvm_step X.here [X.here.top, hx, hb, hdg, hmeth', hr, ret, narrow_b1]
  (try refine ⟨rfl, ?_⟩); (try refine ⟨rfl, ?_⟩)
  first | (intro acts; rw [hret _ acts rfl rfl rfl]) | rw [hret _ _ rfl rfl rfl]
  exact Steps.refl _
/-- what holds at the law's entry: the machine, the code, the tables' words (any of lw_tbl by 'hts w (by decide +kernel)'), the script of L ints xs at the cell b, what the Statement gives of the start (any of its parts by flat_of_before) -/
def lw_At (p : Program) (s : State) (m : MethodId) (meth : Method) (c : Code) (b L : Nat) (xs : Nat → Int32) : Prop :=
  p.tables.exec = Jvm.exec ∧ c.code = code ∧ meth.sig.returnType = ret ∧ c.maxLocals = 4 ∧ s.vm.findClass R_law = some m.cls ∧ (∀ w ∈ lw_tbl, w.before #[Value.ref b] s = true) ∧ va_X b L xs s s.heap ∧ b < s.heap.size ∧ meth.locks = false ∧ (Jvm.Cond.and given_1 narrow_1).before #[Value.ref b] s = true
/-! the law, out of its run on the abstract machine -/
def xK0 (b L : Nat) : Nat → Nat × Nat := fun a => if a = b then (103, L) else (0, 0)
def xI0 (b : Nat) (xs : Nat → Int32) : Nat → Nat → Int32 := fun a j => if a = b then xs j else 0
/-- the law's run on every script ends with 1, within the claim's room -/
def xLaw : Prop := ∃ d : Nat, d ≤ 2000 ∧ ∀ (n b L : Nat) (xs : Nat → Int32), L ≤ 3072 → b < n → xB d 6 cL_law (some .boolean) false (fun r h' => r = some (.int 1) ∧ h'.2.2.2.1 ≤ n + 600000 ∧ h'.2.2.2.2 ≤ 7302250) 0 [some (.ref b), none, none, none] [] (xK0 b L, xI0 b xs, fun _ _ => none, n, 0)
theorem xKn_start {s : State} {args : Array Value} {b L : Nat} {xs : Nat → Int32} (hts : ∀ w ∈ lw_tbl, w.before args s = true) (hX : va_X b L xs s s.heap) : ∃ D : xD, xKn D s ∧ ∃ scr : Cell, s.heap[b]? = some scr ∧ scr.cls = D.2.2.2.2.2 ∧ (∀ k, scr.vm ≠ .statics k) ∧ scr.vm ≠ .unknown ∧ scr.slots.size = L ∧ ∀ j : Nat, j < L → scr.slots[j]? = some (.int (xs j)) := by
  have hts' : ∀ w ∈ xWT, w.before args s = true := fun w hw => hts w (List.mem_filter.mp hw).1
  have hk : ∀ c, ∃ q : ClassId × (Nat → Nat), c < 6 → u_Kn s (xR c) (xT c) (xN c) q.1 q.2 := by
    intro c
    by_cases hc : c < 6
    · have hw : Cond.instantiable (xR c) (xN c) ∈ xWT := by
        have h := xinst_ok
        simp only [List.all_cons, List.all_nil, Bool.and_eq_true, Bool.and_true] at h
        obtain ⟨a0, a1, a2, a3, a4, a5⟩ := h
        match c, hc with
        | 0, _ => exact xok_mem a0
        | 1, _ => exact xok_mem a1
        | 2, _ => exact xok_mem a2
        | 3, _ => exact xok_mem a3
        | 4, _ => exact xok_mem a4
        | 5, _ => exact xok_mem a5
        | n + 6, h => exact absurd h (by omega)
      obtain ⟨cC, iS, h⟩ := u_known (C := xR c) (T := xT c) (N := xN c) (n := xN c) hts' (xIn hc) (hts' _ hw)
      exact ⟨(cC, iS), fun _ => h⟩
    · exact ⟨(0, fun _ => 0), fun h => absurd h hc⟩
  have ha := xarr_ok
  simp only [Bool.and_eq_true, decide_eq_true_eq] at ha
  obtain ⟨⟨⟨a1, a2⟩, a3⟩, a4⟩ := ha
  obtain ⟨cI, kI, compI, i1, i2, i3⟩ := Cond.arrayClass_spec (hts _ (List.mem_of_getElem? a1))
  obtain ⟨cZ, kZ, compZ, z1, z2, z3⟩ := Cond.arrayClass_spec (hts _ (List.mem_of_getElem? a2))
  have hAO : va_AO RX2 s := va_AO.of (hts _ (List.mem_of_getElem? a3))
  obtain ⟨compM, cM, kM, m1, m2, m3, m4, m5⟩ := Cond.arrayOver_spec hAO
  obtain ⟨scr, x1, ⟨x2, kS, x3, compS, x4⟩, x5, x6, x7⟩ := hX
  refine ⟨(fun c => (Classical.choose (hk c)).1, fun c => (Classical.choose (hk c)).2, cI, cZ, cM, scr.cls), ⟨fun c hc => Classical.choose_spec (hk c) hc, ⟨fun n z => ⟨fun k h => (by cases h), kI, i2, compI, i3⟩, i1⟩, ⟨fun n z => ⟨fun k h => (by cases h), kZ, z2, compZ, z3⟩, z1⟩, ⟨fun n z => ⟨fun k h => (by cases h), kM, m3, compM, m4⟩, kM, compM, m3, m4, m1, m5⟩, hAO, va_Nw.of rfl (hts _ (List.mem_of_getElem? a4)), kS, compS, x3, x4⟩, scr, x1, rfl, x2, x5, x6, x7⟩
set_option maxHeartbeats 4000000 in
/-- the law's walk out of its run on the abstract machine -/
theorem x_whole (hLaw : xLaw) {p : Program} {e : Env} {s : State} {m : MethodId} {below : List Frame} {meth : Method} {c : Code} (l : Launch) {b L : Nat} {xs : Nat → Int32} (hL : L ≤ 3072) (C0 : lw_At p s m meth c b L xs) : W p l e room_1 s m #[Value.ref b] below meth c s.heap [] 0 0 (lw_Z below #[Value.ref b] s) (entryFrame m ([Value.ref b] : List Value).toArray 4) := by
  obtain ⟨hx, hb, hr, hml, hown, hts, hX, hbl, hlocks, hgv⟩ := id C0
  obtain ⟨D, hKn, scr, x1, x2, x3, x4, x5, x6⟩ := xKn_start hts hX
  have hts' : ∀ w ∈ xWT, w.before #[Value.ref b] s = true := fun w hw => hts w (List.mem_filter.mp hw).1
  obtain ⟨d, hd0, hLaw⟩ := hLaw
  obtain ⟨QL, cc, hcc, hQ1, z⟩ : ∃ (QL : Option Value → xH → Prop) (cc : ByteArray), cc = cL_law ∧ (∀ r h', QL r h' → r = some (.int 1) ∧ h'.2.2.2.1 ≤ s.heap.size + 600000 ∧ h'.2.2.2.2 ≤ 7302250) ∧ xB d 6 cc (some .boolean) false QL 0 [some (.ref b), none, none, none] [] (xK0 b L, xI0 b xs, fun _ _ => none, s.heap.size, 0) := ⟨_, _, rfl, fun _ _ q => q, hLaw s.heap.size b L xs hL hbl⟩
  have hBody : xBody p s m #[Value.ref b] meth c room_1 D d 6 cc 4 false := ⟨hx, by rw [hcc]; exact hb, hml, hown, hts', hKn, fun q => (by cases q), by show d ≤ 2048; omega, by show 40 * d ≤ 84000; omega⟩
  have hbd : ∀ pc ls st h1, xw (xCd d) d 6 cc (some .boolean) false QL pc ls st h1 → h1.2.2.2.1 ≤ s.heap.size + 600000 ∧ h1.2.2.2.2 ≤ 0 + 7302250 := fun pc ls st h1 q => by
    obtain ⟨r, h', q0, q2, q3⟩ := xw_live (xCd_live d) q
    have q1 := hQ1 _ _ q0
    exact ⟨Nat.le_trans q2 q1.2.1, by have := Nat.le_trans q3 q1.2.2; omega⟩
  have key := z (fun pc ls st h1 => xw (xCd d) d 6 cc (some .boolean) false QL pc ls st h1 ∧ xSim p l e room_1 s m #[Value.ref b] below meth c (lw_Z below #[Value.ref b] s) D s.heap.size 4 s.heap.size 0 pc ls st h1) (fun pc ls st h1 q => by
    refine ⟨x_fold (xstp_mono (fun _ _ z => z) (fun _ _ _ _ z => z.1) (xCd_mono d) q), ?_⟩
    unfold xstp at q
    cases hd : decode cc pc with
    | error e => rw [hd] at q; exact False.elim q
    | ok r =>
      rw [hd] at q
      obtain ⟨i, len⟩ := r
      refine xins_sim (mc := 600000) (ms := 7302250) hBody (x_sim l D s.heap.size d) (Nat.le_refl _) (Nat.le_refl _) hbd ?_ ?_ hd q
      · intro pc la v h2 H locs hdg hv hQ hrep hF hL hn0 hs0
        obtain ⟨q1, q2, q3⟩ := hQ1 _ _ hQ
        cases q1
        refine va_forget (fun q hq => hL q hq) ?_
        refine W.widen (k := 600000) (n := 7302250) (by omega) (by omega) ?_
        exact lw_ret hx hb hr hlocks (by rw [hcc] at hdg; exact hdg)
      · intro pc la h2 H locs hdg hv
        cases hv)
  rw [lg_entry_eq]
  have hrep : xRep D s.heap.size (xK0 b L, xI0 b xs, fun _ _ => none, s.heap.size, 0) s.heap := by
    refine ⟨rfl, Nat.le_refl _, fun a => ?_⟩
    by_cases ha : a = b
    · subst ha
      have hk : xK0 a L a = (103, L) := if_pos rfl
      refine ⟨⟨fun c _ e => ?_, fun N e => ?_, fun N e => ?_, fun N e => ?_, fun N e => ?_⟩, fun _ => ⟨hbl, fun q => absurd (by show (xK0 a L a).1 = 103; rw [hk]) q⟩⟩
      · have e : (xK0 a L a).1 = c + 1 := e
        rw [hk] at e
        simp only at e
        omega
      · have e : xK0 a L a = (100, N) := e
        rw [hk] at e; cases e
      · have e : xK0 a L a = (101, N) := e
        rw [hk] at e; cases e
      · have e : xK0 a L a = (102, N) := e
        rw [hk] at e; cases e
      · have e : xK0 a L a = (103, N) := e
        rw [hk] at e; cases e
        exact ⟨scr, x1, x2, x3, x4, x5, fun j hj => by rw [x6 j hj]; simp [xI0]⟩
    · have hk : xK0 b L a = (0, 0) := if_neg ha
      exact ⟨xcell_0 (by show (xK0 b L a).1 = 0; rw [hk]), fun q => absurd (by show (xK0 b L a).1 = 0; rw [hk]) q⟩
  have := key.2 s.heap [] _ hrep (xlv_entry [Value.ref b] (n := 4) (fun v hv => by rw [List.mem_singleton.mp hv]; rfl) (by simp)) (fun _ h => by cases h) (fun _ _ => rfl) (fun _ h => by cases h) (Nat.le_refl _) (Nat.le_refl _)
  rw [Nat.sub_self, Nat.sub_self] at this
  exact this
end
