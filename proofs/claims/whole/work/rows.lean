section
-- ===== PART A: goes FIRST, ahead of the names: the tables' words, and 'selects' of the private methods out of them =====
/-- a private method of a class that the tables say can be made, by its rows of tables_1 -/
def lw_okq (q : MethodName × Nat) : Prop := (q.1.cls ≠ "java/lang/invoke/MethodHandle" ∧ q.1.cls ≠ "java/lang/invoke/VarHandle") ∧ Cond.instantiable q.1.cls q.2 ∈ tables_1 ∧ Cond.privateMethod q.1 ∈ tables_1 ∧ Cond.instanceMethod q.1 ∈ tables_1
theorem lw_p0 : lw_okq (⟨"LinkStation", "isModule", "(I)Z"⟩, 6) := ⟨⟨by decide +kernel, by decide +kernel⟩, List.mem_of_getElem? (i := 11) (by decide +kernel), List.mem_of_getElem? (i := 261) (by decide +kernel), List.mem_of_getElem? (i := 262) (by decide +kernel)⟩
theorem lw_p1 : lw_okq (⟨"LinkStation$Layout", "placeFrom", "(I)V"⟩, 9) := ⟨⟨by decide +kernel, by decide +kernel⟩, List.mem_of_getElem? (i := 191) (by decide +kernel), List.mem_of_getElem? (i := 318) (by decide +kernel), List.mem_of_getElem? (i := 319) (by decide +kernel)⟩
theorem lw_p2 : lw_okq (⟨"LinkStation$Layout", "append", "(I)V"⟩, 9) := ⟨⟨by decide +kernel, by decide +kernel⟩, List.mem_of_getElem? (i := 191) (by decide +kernel), List.mem_of_getElem? (i := 322) (by decide +kernel), List.mem_of_getElem? (i := 323) (by decide +kernel)⟩
theorem lw_p3 : lw_okq (⟨"LinkStation$Layout", "findGivers", "()V"⟩, 9) := ⟨⟨by decide +kernel, by decide +kernel⟩, List.mem_of_getElem? (i := 191) (by decide +kernel), List.mem_of_getElem? (i := 329) (by decide +kernel), List.mem_of_getElem? (i := 330) (by decide +kernel)⟩
theorem lw_p4 : lw_okq (⟨"LinkStation$Layout", "isBetterGiver", "(II)Z"⟩, 9) := ⟨⟨by decide +kernel, by decide +kernel⟩, List.mem_of_getElem? (i := 191) (by decide +kernel), List.mem_of_getElem? (i := 337) (by decide +kernel), List.mem_of_getElem? (i := 338) (by decide +kernel)⟩
theorem lw_p5 : lw_okq (⟨"LinkStation$Layout", "findFaultIn", "(ILLinkStation$Fault;)V"⟩, 9) := ⟨⟨by decide +kernel, by decide +kernel⟩, List.mem_of_getElem? (i := 191) (by decide +kernel), List.mem_of_getElem? (i := 357) (by decide +kernel), List.mem_of_getElem? (i := 358) (by decide +kernel)⟩
theorem lw_p6 : lw_okq (⟨"LinkStation$Layout", "lookAtUse", "(IIIILLinkStation$Fault;)V"⟩, 9) := ⟨⟨by decide +kernel, by decide +kernel⟩, List.mem_of_getElem? (i := 191) (by decide +kernel), List.mem_of_getElem? (i := 361) (by decide +kernel), List.mem_of_getElem? (i := 362) (by decide +kernel)⟩
theorem lw_p7 : lw_okq (⟨"LinkStation", "takeTrial", "()V"⟩, 6) := ⟨⟨by decide +kernel, by decide +kernel⟩, List.mem_of_getElem? (i := 11) (by decide +kernel), List.mem_of_getElem? (i := 381) (by decide +kernel), List.mem_of_getElem? (i := 382) (by decide +kernel)⟩
theorem lw_p8 : lw_okq (⟨"LinkStation$Layout", "refreshSlots", "(I)V"⟩, 9) := ⟨⟨by decide +kernel, by decide +kernel⟩, List.mem_of_getElem? (i := 191) (by decide +kernel), List.mem_of_getElem? (i := 392) (by decide +kernel), List.mem_of_getElem? (i := 393) (by decide +kernel)⟩
theorem lw_p9 : lw_okq (⟨"LinkStation$Machine", "addStart", "(LLinkStation$Layout;II)V"⟩, 15) := ⟨⟨by decide +kernel, by decide +kernel⟩, List.mem_of_getElem? (i := 43) (by decide +kernel), List.mem_of_getElem? (i := 423) (by decide +kernel), List.mem_of_getElem? (i := 424) (by decide +kernel)⟩
theorem lw_p10 : lw_okq (⟨"LinkStation$Machine", "startNext", "()I"⟩, 15) := ⟨⟨by decide +kernel, by decide +kernel⟩, List.mem_of_getElem? (i := 43) (by decide +kernel), List.mem_of_getElem? (i := 433) (by decide +kernel), List.mem_of_getElem? (i := 434) (by decide +kernel)⟩
theorem lw_p11 : lw_okq (⟨"LinkStation$Machine", "takeTurn", "(LLinkStation$Layout;I)I"⟩, 15) := ⟨⟨by decide +kernel, by decide +kernel⟩, List.mem_of_getElem? (i := 43) (by decide +kernel), List.mem_of_getElem? (i := 437) (by decide +kernel), List.mem_of_getElem? (i := 438) (by decide +kernel)⟩
theorem lw_p12 : lw_okq (⟨"LinkStation$Machine", "makeStep", "(LLinkStation$Layout;IIII)I"⟩, 15) := ⟨⟨by decide +kernel, by decide +kernel⟩, List.mem_of_getElem? (i := 43) (by decide +kernel), List.mem_of_getElem? (i := 441) (by decide +kernel), List.mem_of_getElem? (i := 442) (by decide +kernel)⟩
theorem lw_p13 : lw_okq (⟨"LinkStation$Machine", "callName", "(LLinkStation$Layout;I)I"⟩, 15) := ⟨⟨by decide +kernel, by decide +kernel⟩, List.mem_of_getElem? (i := 43) (by decide +kernel), List.mem_of_getElem? (i := 445) (by decide +kernel), List.mem_of_getElem? (i := 446) (by decide +kernel)⟩
theorem lw_p14 : lw_okq (⟨"LinkStation$Machine", "enter", "(II)I"⟩, 15) := ⟨⟨by decide +kernel, by decide +kernel⟩, List.mem_of_getElem? (i := 43) (by decide +kernel), List.mem_of_getElem? (i := 449) (by decide +kernel), List.mem_of_getElem? (i := 450) (by decide +kernel)⟩
theorem lw_p15 : lw_okq (⟨"LinkStation$Machine", "callAt", "(LLinkStation$Layout;I)I"⟩, 15) := ⟨⟨by decide +kernel, by decide +kernel⟩, List.mem_of_getElem? (i := 43) (by decide +kernel), List.mem_of_getElem? (i := 456) (by decide +kernel), List.mem_of_getElem? (i := 457) (by decide +kernel)⟩
def lw_privs_1 : List (MethodName × Nat) := [(⟨"LinkStation", "isModule", "(I)Z"⟩, 6), (⟨"LinkStation$Layout", "placeFrom", "(I)V"⟩, 9), (⟨"LinkStation$Layout", "append", "(I)V"⟩, 9), (⟨"LinkStation$Layout", "findGivers", "()V"⟩, 9), (⟨"LinkStation$Layout", "isBetterGiver", "(II)Z"⟩, 9), (⟨"LinkStation$Layout", "findFaultIn", "(ILLinkStation$Fault;)V"⟩, 9), (⟨"LinkStation$Layout", "lookAtUse", "(IIIILLinkStation$Fault;)V"⟩, 9), (⟨"LinkStation", "takeTrial", "()V"⟩, 6), (⟨"LinkStation$Layout", "refreshSlots", "(I)V"⟩, 9), (⟨"LinkStation$Machine", "addStart", "(LLinkStation$Layout;II)V"⟩, 15), (⟨"LinkStation$Machine", "startNext", "()I"⟩, 15), (⟨"LinkStation$Machine", "takeTurn", "(LLinkStation$Layout;I)I"⟩, 15), (⟨"LinkStation$Machine", "makeStep", "(LLinkStation$Layout;IIII)I"⟩, 15), (⟨"LinkStation$Machine", "callName", "(LLinkStation$Layout;I)I"⟩, 15), (⟨"LinkStation$Machine", "enter", "(II)I"⟩, 15), (⟨"LinkStation$Machine", "callAt", "(LLinkStation$Layout;I)I"⟩, 15)]
theorem lw_r1 : ∀ q ∈ lw_privs_1, lw_okq q := List.forall_mem_cons.mpr ⟨lw_p0, List.forall_mem_cons.mpr ⟨lw_p1, List.forall_mem_cons.mpr ⟨lw_p2, List.forall_mem_cons.mpr ⟨lw_p3, List.forall_mem_cons.mpr ⟨lw_p4, List.forall_mem_cons.mpr ⟨lw_p5, List.forall_mem_cons.mpr ⟨lw_p6, List.forall_mem_cons.mpr ⟨lw_p7, List.forall_mem_cons.mpr ⟨lw_p8, List.forall_mem_cons.mpr ⟨lw_p9, List.forall_mem_cons.mpr ⟨lw_p10, List.forall_mem_cons.mpr ⟨lw_p11, List.forall_mem_cons.mpr ⟨lw_p12, List.forall_mem_cons.mpr ⟨lw_p13, List.forall_mem_cons.mpr ⟨lw_p14, List.forall_mem_cons.mpr ⟨lw_p15, fun _ h => absurd h List.not_mem_nil⟩⟩⟩⟩⟩⟩⟩⟩⟩⟩⟩⟩⟩⟩⟩⟩
theorem lw_p16 : lw_okq (⟨"LinkStation$Machine", "goBack", "()I"⟩, 15) := ⟨⟨by decide +kernel, by decide +kernel⟩, List.mem_of_getElem? (i := 43) (by decide +kernel), List.mem_of_getElem? (i := 461) (by decide +kernel), List.mem_of_getElem? (i := 462) (by decide +kernel)⟩
theorem lw_p17 : lw_okq (⟨"LinkStation$Machine", "readDatum", "(LLinkStation$Layout;I)I"⟩, 15) := ⟨⟨by decide +kernel, by decide +kernel⟩, List.mem_of_getElem? (i := 43) (by decide +kernel), List.mem_of_getElem? (i := 465) (by decide +kernel), List.mem_of_getElem? (i := 466) (by decide +kernel)⟩
theorem lw_p18 : lw_okq (⟨"LinkStation$Machine", "writeDatum", "(LLinkStation$Layout;II)V"⟩, 15) := ⟨⟨by decide +kernel, by decide +kernel⟩, List.mem_of_getElem? (i := 43) (by decide +kernel), List.mem_of_getElem? (i := 469) (by decide +kernel), List.mem_of_getElem? (i := 470) (by decide +kernel)⟩
theorem lw_p19 : lw_okq (⟨"LinkStation$Machine", "say", "(I)V"⟩, 15) := ⟨⟨by decide +kernel, by decide +kernel⟩, List.mem_of_getElem? (i := 43) (by decide +kernel), List.mem_of_getElem? (i := 477) (by decide +kernel), List.mem_of_getElem? (i := 478) (by decide +kernel)⟩
theorem lw_p20 : lw_okq (⟨"LinkStation$Machine", "reckon", "(IIII)V"⟩, 15) := ⟨⟨by decide +kernel, by decide +kernel⟩, List.mem_of_getElem? (i := 43) (by decide +kernel), List.mem_of_getElem? (i := 481) (by decide +kernel), List.mem_of_getElem? (i := 482) (by decide +kernel)⟩
theorem lw_p21 : lw_okq (⟨"LinkStationModel", "isModule", "(I)Z"⟩, 39) := ⟨⟨by decide +kernel, by decide +kernel⟩, List.mem_of_getElem? (i := 509) (by decide +kernel), List.mem_of_getElem? (i := 641) (by decide +kernel), List.mem_of_getElem? (i := 642) (by decide +kernel)⟩
theorem lw_p22 : lw_okq (⟨"LinkStationModel", "ofName", "(II)I"⟩, 39) := ⟨⟨by decide +kernel, by decide +kernel⟩, List.mem_of_getElem? (i := 509) (by decide +kernel), List.mem_of_getElem? (i := 655) (by decide +kernel), List.mem_of_getElem? (i := 656) (by decide +kernel)⟩
theorem lw_p23 : lw_okq (⟨"LinkStationModel", "findOrder", "(I)V"⟩, 39) := ⟨⟨by decide +kernel, by decide +kernel⟩, List.mem_of_getElem? (i := 509) (by decide +kernel), List.mem_of_getElem? (i := 681) (by decide +kernel), List.mem_of_getElem? (i := 682) (by decide +kernel)⟩
theorem lw_p24 : lw_okq (⟨"LinkStationModel", "lookAt", "(I)I"⟩, 39) := ⟨⟨by decide +kernel, by decide +kernel⟩, List.mem_of_getElem? (i := 509) (by decide +kernel), List.mem_of_getElem? (i := 685) (by decide +kernel), List.mem_of_getElem? (i := 686) (by decide +kernel)⟩
theorem lw_p25 : lw_okq (⟨"LinkStationModel", "look", "(IIIZ)I"⟩, 39) := ⟨⟨by decide +kernel, by decide +kernel⟩, List.mem_of_getElem? (i := 509) (by decide +kernel), List.mem_of_getElem? (i := 689) (by decide +kernel), List.mem_of_getElem? (i := 690) (by decide +kernel)⟩
theorem lw_p26 : lw_okq (⟨"LinkStationModel", "find", "([IIII)I"⟩, 39) := ⟨⟨by decide +kernel, by decide +kernel⟩, List.mem_of_getElem? (i := 509) (by decide +kernel), List.mem_of_getElem? (i := 693) (by decide +kernel), List.mem_of_getElem? (i := 694) (by decide +kernel)⟩
theorem lw_p27 : lw_okq (⟨"LinkStationModel", "findBegun", "()V"⟩, 39) := ⟨⟨by decide +kernel, by decide +kernel⟩, List.mem_of_getElem? (i := 509) (by decide +kernel), List.mem_of_getElem? (i := 697) (by decide +kernel), List.mem_of_getElem? (i := 698) (by decide +kernel)⟩
theorem lw_p28 : lw_okq (⟨"LinkStationModel", "setAll", "()V"⟩, 39) := ⟨⟨by decide +kernel, by decide +kernel⟩, List.mem_of_getElem? (i := 509) (by decide +kernel), List.mem_of_getElem? (i := 701) (by decide +kernel), List.mem_of_getElem? (i := 702) (by decide +kernel)⟩
theorem lw_p29 : lw_okq (⟨"LinkStationModel", "usesCall", "(II)Z"⟩, 39) := ⟨⟨by decide +kernel, by decide +kernel⟩, List.mem_of_getElem? (i := 509) (by decide +kernel), List.mem_of_getElem? (i := 705) (by decide +kernel), List.mem_of_getElem? (i := 706) (by decide +kernel)⟩
theorem lw_p30 : lw_okq (⟨"LinkStationModel", "moduleOf", "(I)I"⟩, 39) := ⟨⟨by decide +kernel, by decide +kernel⟩, List.mem_of_getElem? (i := 509) (by decide +kernel), List.mem_of_getElem? (i := 709) (by decide +kernel), List.mem_of_getElem? (i := 710) (by decide +kernel)⟩
theorem lw_p31 : lw_okq (⟨"LinkStationModel", "placeOf", "(I)I"⟩, 39) := ⟨⟨by decide +kernel, by decide +kernel⟩, List.mem_of_getElem? (i := 509) (by decide +kernel), List.mem_of_getElem? (i := 725) (by decide +kernel), List.mem_of_getElem? (i := 726) (by decide +kernel)⟩
def lw_privs_2 : List (MethodName × Nat) := [(⟨"LinkStation$Machine", "goBack", "()I"⟩, 15), (⟨"LinkStation$Machine", "readDatum", "(LLinkStation$Layout;I)I"⟩, 15), (⟨"LinkStation$Machine", "writeDatum", "(LLinkStation$Layout;II)V"⟩, 15), (⟨"LinkStation$Machine", "say", "(I)V"⟩, 15), (⟨"LinkStation$Machine", "reckon", "(IIII)V"⟩, 15), (⟨"LinkStationModel", "isModule", "(I)Z"⟩, 39), (⟨"LinkStationModel", "ofName", "(II)I"⟩, 39), (⟨"LinkStationModel", "findOrder", "(I)V"⟩, 39), (⟨"LinkStationModel", "lookAt", "(I)I"⟩, 39), (⟨"LinkStationModel", "look", "(IIIZ)I"⟩, 39), (⟨"LinkStationModel", "find", "([IIII)I"⟩, 39), (⟨"LinkStationModel", "findBegun", "()V"⟩, 39), (⟨"LinkStationModel", "setAll", "()V"⟩, 39), (⟨"LinkStationModel", "usesCall", "(II)Z"⟩, 39), (⟨"LinkStationModel", "moduleOf", "(I)I"⟩, 39), (⟨"LinkStationModel", "placeOf", "(I)I"⟩, 39)]
theorem lw_r2 : ∀ q ∈ lw_privs_2, lw_okq q := List.forall_mem_cons.mpr ⟨lw_p16, List.forall_mem_cons.mpr ⟨lw_p17, List.forall_mem_cons.mpr ⟨lw_p18, List.forall_mem_cons.mpr ⟨lw_p19, List.forall_mem_cons.mpr ⟨lw_p20, List.forall_mem_cons.mpr ⟨lw_p21, List.forall_mem_cons.mpr ⟨lw_p22, List.forall_mem_cons.mpr ⟨lw_p23, List.forall_mem_cons.mpr ⟨lw_p24, List.forall_mem_cons.mpr ⟨lw_p25, List.forall_mem_cons.mpr ⟨lw_p26, List.forall_mem_cons.mpr ⟨lw_p27, List.forall_mem_cons.mpr ⟨lw_p28, List.forall_mem_cons.mpr ⟨lw_p29, List.forall_mem_cons.mpr ⟨lw_p30, List.forall_mem_cons.mpr ⟨lw_p31, fun _ h => absurd h List.not_mem_nil⟩⟩⟩⟩⟩⟩⟩⟩⟩⟩⟩⟩⟩⟩⟩⟩
theorem lw_p32 : lw_okq (⟨"LinkStationModel", "go", "(II)I"⟩, 39) := ⟨⟨by decide +kernel, by decide +kernel⟩, List.mem_of_getElem? (i := 509) (by decide +kernel), List.mem_of_getElem? (i := 737) (by decide +kernel), List.mem_of_getElem? (i := 738) (by decide +kernel)⟩
theorem lw_p33 : lw_okq (⟨"LinkStationModel", "call", "(I)I"⟩, 39) := ⟨⟨by decide +kernel, by decide +kernel⟩, List.mem_of_getElem? (i := 509) (by decide +kernel), List.mem_of_getElem? (i := 741) (by decide +kernel), List.mem_of_getElem? (i := 742) (by decide +kernel)⟩
theorem lw_p34 : lw_okq (⟨"LinkStationModel", "make", "()I"⟩, 39) := ⟨⟨by decide +kernel, by decide +kernel⟩, List.mem_of_getElem? (i := 509) (by decide +kernel), List.mem_of_getElem? (i := 745) (by decide +kernel), List.mem_of_getElem? (i := 746) (by decide +kernel)⟩
theorem lw_p35 : lw_okq (⟨"LinkStationModel", "callName", "(I)I"⟩, 39) := ⟨⟨by decide +kernel, by decide +kernel⟩, List.mem_of_getElem? (i := 509) (by decide +kernel), List.mem_of_getElem? (i := 749) (by decide +kernel), List.mem_of_getElem? (i := 750) (by decide +kernel)⟩
theorem lw_p36 : lw_okq (⟨"LinkStationModel", "addressOf", "(I)I"⟩, 39) := ⟨⟨by decide +kernel, by decide +kernel⟩, List.mem_of_getElem? (i := 509) (by decide +kernel), List.mem_of_getElem? (i := 753) (by decide +kernel), List.mem_of_getElem? (i := 754) (by decide +kernel)⟩
theorem lw_p37 : lw_okq (⟨"LinkStationModel", "atAddress", "(I)I"⟩, 39) := ⟨⟨by decide +kernel, by decide +kernel⟩, List.mem_of_getElem? (i := 509) (by decide +kernel), List.mem_of_getElem? (i := 757) (by decide +kernel), List.mem_of_getElem? (i := 758) (by decide +kernel)⟩
def lw_privs_3 : List (MethodName × Nat) := [(⟨"LinkStationModel", "go", "(II)I"⟩, 39), (⟨"LinkStationModel", "call", "(I)I"⟩, 39), (⟨"LinkStationModel", "make", "()I"⟩, 39), (⟨"LinkStationModel", "callName", "(I)I"⟩, 39), (⟨"LinkStationModel", "addressOf", "(I)I"⟩, 39), (⟨"LinkStationModel", "atAddress", "(I)I"⟩, 39)]
theorem lw_r3 : ∀ q ∈ lw_privs_3, lw_okq q := List.forall_mem_cons.mpr ⟨lw_p32, List.forall_mem_cons.mpr ⟨lw_p33, List.forall_mem_cons.mpr ⟨lw_p34, List.forall_mem_cons.mpr ⟨lw_p35, List.forall_mem_cons.mpr ⟨lw_p36, List.forall_mem_cons.mpr ⟨lw_p37, fun _ h => absurd h List.not_mem_nil⟩⟩⟩⟩⟩⟩
def lw_privs : List (MethodName × Nat) := lw_privs_1 ++ (lw_privs_2 ++ (lw_privs_3))
def lw_tbl : List Cond := k2_sels lw_privs ++ tables_1
theorem lw_privs_ok : ∀ q ∈ lw_privs, lw_okq q := by
  show ∀ q ∈ lw_privs_1 ++ (lw_privs_2 ++ (lw_privs_3)), lw_okq q
  exact List.forall_mem_append.mpr ⟨lw_r1, List.forall_mem_append.mpr ⟨lw_r2, lw_r3⟩⟩
end
section
def RX0 : String := "LinkStation$Fault"
def TX0 : u_T := fun k => match k with
  | 0 => ("LinkStation$Fault", "kind", "I", false)
  | 1 => ("LinkStation$Fault", "module", "I", false)
  | 2 => ("LinkStation$Fault", "step", "I", false)
  | _ => ("LinkStation$Fault", "name", "I", false)
def tyX0 : Nat → FieldType := fun k => match k with
  | 0 => .int
  | 1 => .int
  | 2 => .int
  | _ => .int
theorem nmX0 : ∀ a, a < 4 → ∀ b, b < 4 → a ≠ b → (TX0 a).2.1 ≠ (TX0 b).2.1 := by decide +kernel
theorem tyX0_ok : ∀ k, k < 4 → parseFieldDescriptor (TX0 k).2.2.1 = some (tyX0 k) := by decide +kernel
abbrev cX0_init : ByteArray := prog_2_method_1_code
def yX0_init : MethodName := ⟨RX0, "<init>", "()V"⟩
abbrev cX0_become : ByteArray := prog_2_method_2_code
def yX0_become : MethodName := ⟨RX0, "become", "(IIII)V"⟩
def RX1 : String := "LinkStation$Layout"
def TX1 : u_T := fun k => match k with
  | 0 => ("LinkStation$Layout", "modules", "[LLinkStation$LinkModule;", true)
  | 1 => ("LinkStation$Layout", "inOrder", "[I", true)
  | 2 => ("LinkStation$Layout", "places", "[I", true)
  | 3 => ("LinkStation$Layout", "size", "I", false)
  | 4 => ("LinkStation$Layout", "begun", "[I", true)
  | 5 => ("LinkStation$Layout", "met", "[Z", true)
  | 6 => ("LinkStation$Layout", "begunCount", "I", false)
  | 7 => ("LinkStation$Layout", "givers", "[I", true)
  | _ => ("LinkStation$Layout", "lazy", "Z", false)
def tyX1 : Nat → FieldType := fun k => match k with
  | 0 => .array (.object "LinkStation$LinkModule")
  | 1 => .array .int
  | 2 => .array .int
  | 3 => .int
  | 4 => .array .int
  | 5 => .array .boolean
  | 6 => .int
  | 7 => .array .int
  | _ => .boolean
theorem nmX1 : ∀ a, a < 9 → ∀ b, b < 9 → a ≠ b → (TX1 a).2.1 ≠ (TX1 b).2.1 := by decide +kernel
theorem tyX1_ok : ∀ k, k < 9 → parseFieldDescriptor (TX1 k).2.2.1 = some (tyX1 k) := by decide +kernel
abbrev cX1_init : ByteArray := prog_3_method_1_code
def yX1_init : MethodName := ⟨RX1, "<init>", "([LLinkStation$LinkModule;)V"⟩
abbrev cX1_clear : ByteArray := prog_3_method_2_code
def yX1_clear : MethodName := ⟨RX1, "clear", "()V"⟩
abbrev cX1_arrange : ByteArray := prog_3_method_3_code
def yX1_arrange : MethodName := ⟨RX1, "arrange", "(IZ)V"⟩
abbrev cX1_placeFrom : ByteArray := prog_3_method_4_code
def yX1_placeFrom : MethodName := ⟨RX1, "placeFrom", "(I)V"⟩
abbrev cX1_append : ByteArray := prog_3_method_5_code
def yX1_append : MethodName := ⟨RX1, "append", "(I)V"⟩
abbrev cX1_beginFrom : ByteArray := prog_3_method_6_code
def yX1_beginFrom : MethodName := ⟨RX1, "beginFrom", "(LLinkStation$Layout;II)V"⟩
abbrev cX1_findGivers : ByteArray := prog_3_method_7_code
def yX1_findGivers : MethodName := ⟨RX1, "findGivers", "()V"⟩
abbrev cX1_isBetterGiver : ByteArray := prog_3_method_8_code
def yX1_isBetterGiver : MethodName := ⟨RX1, "isBetterGiver", "(II)Z"⟩
abbrev cX1_holds : ByteArray := prog_3_method_9_code
def yX1_holds : MethodName := ⟨RX1, "holds", "(I)Z"⟩
abbrev cX1_giverOf : ByteArray := prog_3_method_10_code
def yX1_giverOf : MethodName := ⟨RX1, "giverOf", "(II)I"⟩
abbrev cX1_findFault : ByteArray := prog_3_method_11_code
def yX1_findFault : MethodName := ⟨RX1, "findFault", "(LLinkStation$Fault;)V"⟩
abbrev cX1_findFaultIn : ByteArray := prog_3_method_12_code
def yX1_findFaultIn : MethodName := ⟨RX1, "findFaultIn", "(ILLinkStation$Fault;)V"⟩
abbrev cX1_lookAtUse : ByteArray := prog_3_method_13_code
def yX1_lookAtUse : MethodName := ⟨RX1, "lookAtUse", "(IIIILLinkStation$Fault;)V"⟩
abbrev cX1_refresh : ByteArray := prog_3_method_14_code
def yX1_refresh : MethodName := ⟨RX1, "refresh", "()V"⟩
abbrev cX1_refreshSlots : ByteArray := prog_3_method_15_code
def yX1_refreshSlots : MethodName := ⟨RX1, "refreshSlots", "(I)V"⟩
abbrev cX1_isTrulyBound : ByteArray := prog_3_method_16_code
def yX1_isTrulyBound : MethodName := ⟨RX1, "isTrulyBound", "()Z"⟩
abbrev cX1_addressOf : ByteArray := prog_3_method_17_code
def yX1_addressOf : MethodName := ⟨RX1, "addressOf", "(II)I"⟩
def RX2 : String := "LinkStation$LinkModule"
def TX2 : u_T := fun k => match k with
  | 0 => ("LinkStation$LinkModule", "needs", "[I", true)
  | 1 => ("LinkStation$LinkModule", "needCount", "I", false)
  | 2 => ("LinkStation$LinkModule", "kinds", "[I", true)
  | 3 => ("LinkStation$LinkModule", "values", "[I", true)
  | 4 => ("LinkStation$LinkModule", "hows", "[I", true)
  | 5 => ("LinkStation$LinkModule", "definitionCount", "I", false)
  | 6 => ("LinkStation$LinkModule", "functionAt", "[Z", true)
  | 7 => ("LinkStation$LinkModule", "optionals", "[Z", true)
  | 8 => ("LinkStation$LinkModule", "beginner", "I", false)
  | 9 => ("LinkStation$LinkModule", "ops", "[I", true)
  | 10 => ("LinkStation$LinkModule", "as", "[I", true)
  | 11 => ("LinkStation$LinkModule", "bs", "[I", true)
  | 12 => ("LinkStation$LinkModule", "cs", "[I", true)
  | 13 => ("LinkStation$LinkModule", "stepCount", "I", false)
  | 14 => ("LinkStation$LinkModule", "slots", "[I", true)
  | _ => ("LinkStation$LinkModule", "data", "[I", true)
def tyX2 : Nat → FieldType := fun k => match k with
  | 0 => .array .int
  | 1 => .int
  | 2 => .array .int
  | 3 => .array .int
  | 4 => .array .int
  | 5 => .int
  | 6 => .array .boolean
  | 7 => .array .boolean
  | 8 => .int
  | 9 => .array .int
  | 10 => .array .int
  | 11 => .array .int
  | 12 => .array .int
  | 13 => .int
  | 14 => .array .int
  | _ => .array .int
theorem nmX2 : ∀ a, a < 16 → ∀ b, b < 16 → a ≠ b → (TX2 a).2.1 ≠ (TX2 b).2.1 := by decide +kernel
theorem tyX2_ok : ∀ k, k < 16 → parseFieldDescriptor (TX2 k).2.2.1 = some (tyX2 k) := by decide +kernel
abbrev cX2_init : ByteArray := prog_4_method_1_code
def yX2_init : MethodName := ⟨RX2, "<init>", "()V"⟩
abbrev cX2_addNeed : ByteArray := prog_4_method_2_code
def yX2_addNeed : MethodName := ⟨RX2, "addNeed", "(I)Z"⟩
abbrev cX2_addDefinition : ByteArray := prog_4_method_3_code
def yX2_addDefinition : MethodName := ⟨RX2, "addDefinition", "(IIII)Z"⟩
abbrev cX2_addStep : ByteArray := prog_4_method_4_code
def yX2_addStep : MethodName := ⟨RX2, "addStep", "(IIII)Z"⟩
abbrev cX2_keepsToItself : ByteArray := prog_4_method_5_code
def yX2_keepsToItself : MethodName := ⟨RX2, "keepsToItself", "(I)Z"⟩
abbrev cX2_offers : ByteArray := prog_4_method_6_code
def yX2_offers : MethodName := ⟨RX2, "offers", "(I)Z"⟩
abbrev cX2_isWeak : ByteArray := prog_4_method_7_code
def yX2_isWeak : MethodName := ⟨RX2, "isWeak", "(I)Z"⟩
abbrev cX2_nameUsedAt : ByteArray := prog_4_method_8_code
def yX2_nameUsedAt : MethodName := ⟨RX2, "nameUsedAt", "(I)I"⟩
abbrev cX2_kindWantedAt : ByteArray := prog_4_method_9_code
def yX2_kindWantedAt : MethodName := ⟨RX2, "kindWantedAt", "(I)I"⟩
def RX3 : String := "LinkStation$Machine"
def TX3 : u_T := fun k => match k with
  | 0 => ("LinkStation$Machine", "registers", "[I", true)
  | 1 => ("LinkStation$Machine", "sayings", "[I", true)
  | 2 => ("LinkStation$Machine", "made", "I", false)
  | 3 => ("LinkStation$Machine", "saidCount", "I", false)
  | 4 => ("LinkStation$Machine", "boundCount", "I", false)
  | 5 => ("LinkStation$Machine", "deepest", "I", false)
  | 6 => ("LinkStation$Machine", "startModules", "[I", true)
  | 7 => ("LinkStation$Machine", "startSteps", "[I", true)
  | 8 => ("LinkStation$Machine", "startCount", "I", false)
  | 9 => ("LinkStation$Machine", "started", "I", false)
  | 10 => ("LinkStation$Machine", "backModules", "[I", true)
  | 11 => ("LinkStation$Machine", "backSteps", "[I", true)
  | 12 => ("LinkStation$Machine", "depth", "I", false)
  | 13 => ("LinkStation$Machine", "module", "I", false)
  | _ => ("LinkStation$Machine", "step", "I", false)
def tyX3 : Nat → FieldType := fun k => match k with
  | 0 => .array .int
  | 1 => .array .int
  | 2 => .int
  | 3 => .int
  | 4 => .int
  | 5 => .int
  | 6 => .array .int
  | 7 => .array .int
  | 8 => .int
  | 9 => .int
  | 10 => .array .int
  | 11 => .array .int
  | 12 => .int
  | 13 => .int
  | _ => .int
theorem nmX3 : ∀ a, a < 15 → ∀ b, b < 15 → a ≠ b → (TX3 a).2.1 ≠ (TX3 b).2.1 := by decide +kernel
theorem tyX3_ok : ∀ k, k < 15 → parseFieldDescriptor (TX3 k).2.2.1 = some (tyX3 k) := by decide +kernel
abbrev cX3_init : ByteArray := prog_5_method_1_code
def yX3_init : MethodName := ⟨RX3, "<init>", "()V"⟩
abbrev cX3_prepare : ByteArray := prog_5_method_2_code
def yX3_prepare : MethodName := ⟨RX3, "prepare", "(LLinkStation$Layout;I)V"⟩
abbrev cX3_addStart : ByteArray := prog_5_method_3_code
def yX3_addStart : MethodName := ⟨RX3, "addStart", "(LLinkStation$Layout;II)V"⟩
abbrev cX3_go : ByteArray := prog_5_method_4_code
def yX3_go : MethodName := ⟨RX3, "go", "(LLinkStation$Layout;I)I"⟩
abbrev cX3_takeTurn : ByteArray := prog_5_method_5_code
def yX3_takeTurn : MethodName := ⟨RX3, "takeTurn", "(LLinkStation$Layout;I)I"⟩
abbrev cX3_makeStep : ByteArray := prog_5_method_6_code
def yX3_makeStep : MethodName := ⟨RX3, "makeStep", "(LLinkStation$Layout;IIII)I"⟩
abbrev cX3_reckon : ByteArray := prog_5_method_7_code
def yX3_reckon : MethodName := ⟨RX3, "reckon", "(IIII)V"⟩
abbrev cX3_callName : ByteArray := prog_5_method_8_code
def yX3_callName : MethodName := ⟨RX3, "callName", "(LLinkStation$Layout;I)I"⟩
abbrev cX3_callAt : ByteArray := prog_5_method_9_code
def yX3_callAt : MethodName := ⟨RX3, "callAt", "(LLinkStation$Layout;I)I"⟩
abbrev cX3_enter : ByteArray := prog_5_method_10_code
def yX3_enter : MethodName := ⟨RX3, "enter", "(II)I"⟩
abbrev cX3_goBack : ByteArray := prog_5_method_11_code
def yX3_goBack : MethodName := ⟨RX3, "goBack", "()I"⟩
abbrev cX3_startNext : ByteArray := prog_5_method_12_code
def yX3_startNext : MethodName := ⟨RX3, "startNext", "()I"⟩
abbrev cX3_readDatum : ByteArray := prog_5_method_13_code
def yX3_readDatum : MethodName := ⟨RX3, "readDatum", "(LLinkStation$Layout;I)I"⟩
abbrev cX3_writeDatum : ByteArray := prog_5_method_14_code
def yX3_writeDatum : MethodName := ⟨RX3, "writeDatum", "(LLinkStation$Layout;II)V"⟩
abbrev cX3_say : ByteArray := prog_5_method_15_code
def yX3_say : MethodName := ⟨RX3, "say", "(I)V"⟩
def RX4 : String := "LinkStation"
def TX4 : u_T := fun k => match k with
  | 0 => ("LinkStation", "modules", "[LLinkStation$LinkModule;", true)
  | 1 => ("LinkStation", "moduleCount", "I", false)
  | 2 => ("LinkStation", "loaded", "LLinkStation$Layout;", false)
  | 3 => ("LinkStation", "trial", "LLinkStation$Layout;", false)
  | 4 => ("LinkStation", "latestFault", "LLinkStation$Fault;", true)
  | _ => ("LinkStation", "machine", "LLinkStation$Machine;", true)
def tyX4 : Nat → FieldType := fun k => match k with
  | 0 => .array (.object "LinkStation$LinkModule")
  | 1 => .int
  | 2 => .object "LinkStation$Layout"
  | 3 => .object "LinkStation$Layout"
  | 4 => .object "LinkStation$Fault"
  | _ => .object "LinkStation$Machine"
theorem nmX4 : ∀ a, a < 6 → ∀ b, b < 6 → a ≠ b → (TX4 a).2.1 ≠ (TX4 b).2.1 := by decide +kernel
theorem tyX4_ok : ∀ k, k < 6 → parseFieldDescriptor (TX4 k).2.2.1 = some (tyX4 k) := by decide +kernel
abbrev cX4_init : ByteArray := prog_1_method_1_code
def yX4_init : MethodName := ⟨RX4, "<init>", "()V"⟩
abbrev cX4_module : ByteArray := prog_1_method_2_code
def yX4_module : MethodName := ⟨RX4, "module", "()I"⟩
abbrev cX4_need : ByteArray := prog_1_method_3_code
def yX4_need : MethodName := ⟨RX4, "need", "(II)I"⟩
abbrev cX4_define : ByteArray := prog_1_method_4_code
def yX4_define : MethodName := ⟨RX4, "define", "(IIIII)I"⟩
abbrev cX4_optional : ByteArray := prog_1_method_5_code
def yX4_optional : MethodName := ⟨RX4, "optional", "(II)I"⟩
abbrev cX4_beginner : ByteArray := prog_1_method_6_code
def yX4_beginner : MethodName := ⟨RX4, "beginner", "(II)I"⟩
abbrev cX4_put : ByteArray := prog_1_method_7_code
def yX4_put : MethodName := ⟨RX4, "put", "(IIIII)I"⟩
abbrev cX4_load : ByteArray := prog_1_method_8_code
def yX4_load : MethodName := ⟨RX4, "load", "(II)I"⟩
abbrev cX4_fault : ByteArray := prog_1_method_9_code
def yX4_fault : MethodName := ⟨RX4, "fault", "(I)I"⟩
abbrev cX4_order : ByteArray := prog_1_method_10_code
def yX4_order : MethodName := ⟨RX4, "order", "(II)I"⟩
abbrev cX4_comes : ByteArray := prog_1_method_11_code
def yX4_comes : MethodName := ⟨RX4, "comes", "(II)I"⟩
abbrev cX4_bound : ByteArray := prog_1_method_12_code
def yX4_bound : MethodName := ⟨RX4, "bound", "(II)I"⟩
abbrev cX4_run : ByteArray := prog_1_method_13_code
def yX4_run : MethodName := ⟨RX4, "run", "(II)I"⟩
abbrev cX4_count : ByteArray := prog_1_method_14_code
def yX4_count : MethodName := ⟨RX4, "count", "(I)I"⟩
abbrev cX4_said : ByteArray := prog_1_method_15_code
def yX4_said : MethodName := ⟨RX4, "said", "(I)I"⟩
abbrev cX4_register : ByteArray := prog_1_method_16_code
def yX4_register : MethodName := ⟨RX4, "register", "(I)I"⟩
abbrev cX4_datum : ByteArray := prog_1_method_17_code
def yX4_datum : MethodName := ⟨RX4, "datum", "(II)I"⟩
abbrev cX4_check : ByteArray := prog_1_method_18_code
def yX4_check : MethodName := ⟨RX4, "check", "()I"⟩
abbrev cX4_isModule : ByteArray := prog_1_method_19_code
def yX4_isModule : MethodName := ⟨RX4, "isModule", "(I)Z"⟩
abbrev cX4_takeTrial : ByteArray := prog_1_method_20_code
def yX4_takeTrial : MethodName := ⟨RX4, "takeTrial", "()V"⟩
abbrev cX4_isName : ByteArray := prog_1_method_21_code
def yX4_isName : MethodName := ⟨RX4, "isName", "(I)Z"⟩
abbrev cX4_isStep : ByteArray := prog_1_method_22_code
def yX4_isStep : MethodName := ⟨RX4, "isStep", "(I)Z"⟩
abbrev cX4_isRegister : ByteArray := prog_1_method_23_code
def yX4_isRegister : MethodName := ⟨RX4, "isRegister", "(I)Z"⟩
abbrev cX4_isWellFormed : ByteArray := prog_1_method_24_code
def yX4_isWellFormed : MethodName := ⟨RX4, "isWellFormed", "(IIII)Z"⟩
def RX5 : String := "LinkStationModel"
def TX5 : u_T := fun k => match k with
  | 0 => ("LinkStationModel", "modules", "I", false)
  | 1 => ("LinkStationModel", "needs", "[I", true)
  | 2 => ("LinkStationModel", "needCount", "[I", true)
  | 3 => ("LinkStationModel", "defName", "[I", true)
  | 4 => ("LinkStationModel", "defKind", "[I", true)
  | 5 => ("LinkStationModel", "defValue", "[I", true)
  | 6 => ("LinkStationModel", "defHow", "[I", true)
  | 7 => ("LinkStationModel", "defCount", "[I", true)
  | 8 => ("LinkStationModel", "steps", "[I", true)
  | 9 => ("LinkStationModel", "stepCount", "[I", true)
  | 10 => ("LinkStationModel", "optional", "[Z", true)
  | 11 => ("LinkStationModel", "beginners", "[I", true)
  | 12 => ("LinkStationModel", "loaded", "Z", false)
  | 13 => ("LinkStationModel", "lazy", "Z", false)
  | 14 => ("LinkStationModel", "root", "I", false)
  | 15 => ("LinkStationModel", "many", "I", false)
  | 16 => ("LinkStationModel", "order", "[I", true)
  | 17 => ("LinkStationModel", "begun", "[I", true)
  | 18 => ("LinkStationModel", "slots", "[I", true)
  | 19 => ("LinkStationModel", "data", "[I", true)
  | 20 => ("LinkStationModel", "tried", "I", false)
  | 21 => ("LinkStationModel", "trial", "[I", true)
  | 22 => ("LinkStationModel", "met", "[Z", true)
  | 23 => ("LinkStationModel", "path", "[I", true)
  | 24 => ("LinkStationModel", "pathNext", "[I", true)
  | 25 => ("LinkStationModel", "faultModule", "I", false)
  | 26 => ("LinkStationModel", "faultStep", "I", false)
  | 27 => ("LinkStationModel", "faultName", "I", false)
  | 28 => ("LinkStationModel", "registers", "[I", true)
  | 29 => ("LinkStationModel", "made", "I", false)
  | 30 => ("LinkStationModel", "saidCount", "I", false)
  | 31 => ("LinkStationModel", "boundCount", "I", false)
  | 32 => ("LinkStationModel", "deepest", "I", false)
  | 33 => ("LinkStationModel", "words", "[I", true)
  | 34 => ("LinkStationModel", "backModule", "[I", true)
  | 35 => ("LinkStationModel", "backStep", "[I", true)
  | 36 => ("LinkStationModel", "deep", "I", false)
  | 37 => ("LinkStationModel", "nowModule", "I", false)
  | _ => ("LinkStationModel", "nowStep", "I", false)
def tyX5 : Nat → FieldType := fun k => match k with
  | 0 => .int
  | 1 => .array .int
  | 2 => .array .int
  | 3 => .array .int
  | 4 => .array .int
  | 5 => .array .int
  | 6 => .array .int
  | 7 => .array .int
  | 8 => .array .int
  | 9 => .array .int
  | 10 => .array .boolean
  | 11 => .array .int
  | 12 => .boolean
  | 13 => .boolean
  | 14 => .int
  | 15 => .int
  | 16 => .array .int
  | 17 => .array .int
  | 18 => .array .int
  | 19 => .array .int
  | 20 => .int
  | 21 => .array .int
  | 22 => .array .boolean
  | 23 => .array .int
  | 24 => .array .int
  | 25 => .int
  | 26 => .int
  | 27 => .int
  | 28 => .array .int
  | 29 => .int
  | 30 => .int
  | 31 => .int
  | 32 => .int
  | 33 => .array .int
  | 34 => .array .int
  | 35 => .array .int
  | 36 => .int
  | 37 => .int
  | _ => .int
theorem nmX5 : ∀ a, a < 39 → ∀ b, b < 39 → a ≠ b → (TX5 a).2.1 ≠ (TX5 b).2.1 := by decide +kernel
theorem tyX5_ok : ∀ k, k < 39 → parseFieldDescriptor (TX5 k).2.2.1 = some (tyX5 k) := by decide +kernel
abbrev cX5_init : ByteArray := prog_7_method_1_code
def yX5_init : MethodName := ⟨RX5, "<init>", "()V"⟩
abbrev cX5_isModule : ByteArray := prog_7_method_2_code
def yX5_isModule : MethodName := ⟨RX5, "isModule", "(I)Z"⟩
abbrev cX5_isName : ByteArray := prog_7_method_3_code
def yX5_isName : MethodName := ⟨RX5, "isName", "(I)Z"⟩
abbrev cX5_isRegister : ByteArray := prog_7_method_4_code
def yX5_isRegister : MethodName := ⟨RX5, "isRegister", "(I)Z"⟩
abbrev cX5_isStep : ByteArray := prog_7_method_5_code
def yX5_isStep : MethodName := ⟨RX5, "isStep", "(I)Z"⟩
abbrev cX5_module : ByteArray := prog_7_method_6_code
def yX5_module : MethodName := ⟨RX5, "module", "()I"⟩
abbrev cX5_need : ByteArray := prog_7_method_7_code
def yX5_need : MethodName := ⟨RX5, "need", "(II)I"⟩
abbrev cX5_ofName : ByteArray := prog_7_method_8_code
def yX5_ofName : MethodName := ⟨RX5, "ofName", "(II)I"⟩
abbrev cX5_define : ByteArray := prog_7_method_9_code
def yX5_define : MethodName := ⟨RX5, "define", "(IIIII)I"⟩
abbrev cX5_optional : ByteArray := prog_7_method_10_code
def yX5_optional : MethodName := ⟨RX5, "optional", "(II)I"⟩
abbrev cX5_beginner : ByteArray := prog_7_method_11_code
def yX5_beginner : MethodName := ⟨RX5, "beginner", "(II)I"⟩
abbrev cX5_isGood : ByteArray := prog_7_method_12_code
def yX5_isGood : MethodName := ⟨RX5, "isGood", "(IIII)Z"⟩
abbrev cX5_put : ByteArray := prog_7_method_13_code
def yX5_put : MethodName := ⟨RX5, "put", "(IIIII)I"⟩
abbrev cX5_find : ByteArray := prog_7_method_14_code
def yX5_find : MethodName := ⟨RX5, "find", "([IIII)I"⟩
abbrev cX5_findOrder : ByteArray := prog_7_method_15_code
def yX5_findOrder : MethodName := ⟨RX5, "findOrder", "(I)V"⟩
abbrev cX5_look : ByteArray := prog_7_method_16_code
def yX5_look : MethodName := ⟨RX5, "look", "(IIIZ)I"⟩
abbrev cX5_lookAt : ByteArray := prog_7_method_17_code
def yX5_lookAt : MethodName := ⟨RX5, "lookAt", "(I)I"⟩
abbrev cX5_findBegun : ByteArray := prog_7_method_18_code
def yX5_findBegun : MethodName := ⟨RX5, "findBegun", "()V"⟩
abbrev cX5_usesCall : ByteArray := prog_7_method_19_code
def yX5_usesCall : MethodName := ⟨RX5, "usesCall", "(II)Z"⟩
abbrev cX5_moduleOf : ByteArray := prog_7_method_20_code
def yX5_moduleOf : MethodName := ⟨RX5, "moduleOf", "(I)I"⟩
abbrev cX5_setAll : ByteArray := prog_7_method_21_code
def yX5_setAll : MethodName := ⟨RX5, "setAll", "()V"⟩
abbrev cX5_load : ByteArray := prog_7_method_22_code
def yX5_load : MethodName := ⟨RX5, "load", "(II)I"⟩
abbrev cX5_fault : ByteArray := prog_7_method_23_code
def yX5_fault : MethodName := ⟨RX5, "fault", "(I)I"⟩
abbrev cX5_order : ByteArray := prog_7_method_24_code
def yX5_order : MethodName := ⟨RX5, "order", "(II)I"⟩
abbrev cX5_placeOf : ByteArray := prog_7_method_25_code
def yX5_placeOf : MethodName := ⟨RX5, "placeOf", "(I)I"⟩
abbrev cX5_comes : ByteArray := prog_7_method_26_code
def yX5_comes : MethodName := ⟨RX5, "comes", "(II)I"⟩
abbrev cX5_bound : ByteArray := prog_7_method_27_code
def yX5_bound : MethodName := ⟨RX5, "bound", "(II)I"⟩
abbrev cX5_call : ByteArray := prog_7_method_28_code
def yX5_call : MethodName := ⟨RX5, "call", "(I)I"⟩
abbrev cX5_atAddress : ByteArray := prog_7_method_29_code
def yX5_atAddress : MethodName := ⟨RX5, "atAddress", "(I)I"⟩
abbrev cX5_addressOf : ByteArray := prog_7_method_30_code
def yX5_addressOf : MethodName := ⟨RX5, "addressOf", "(I)I"⟩
abbrev cX5_callName : ByteArray := prog_7_method_31_code
def yX5_callName : MethodName := ⟨RX5, "callName", "(I)I"⟩
abbrev cX5_make : ByteArray := prog_7_method_32_code
def yX5_make : MethodName := ⟨RX5, "make", "()I"⟩
abbrev cX5_go : ByteArray := prog_7_method_33_code
def yX5_go : MethodName := ⟨RX5, "go", "(II)I"⟩
abbrev cX5_run : ByteArray := prog_7_method_34_code
def yX5_run : MethodName := ⟨RX5, "run", "(II)I"⟩
abbrev cX5_count : ByteArray := prog_7_method_35_code
def yX5_count : MethodName := ⟨RX5, "count", "(I)I"⟩
abbrev cX5_said : ByteArray := prog_7_method_36_code
def yX5_said : MethodName := ⟨RX5, "said", "(I)I"⟩
abbrev cX5_register : ByteArray := prog_7_method_37_code
def yX5_register : MethodName := ⟨RX5, "register", "(I)I"⟩
abbrev cX5_datum : ByteArray := prog_7_method_38_code
def yX5_datum : MethodName := ⟨RX5, "datum", "(II)I"⟩
abbrev cX5_check : ByteArray := prog_7_method_39_code
def yX5_check : MethodName := ⟨RX5, "check", "()I"⟩
def RJ9 : String := "java/lang/Math"
def TJ9 : u_T := fun k => match k with
  | _ => ("", "", "", false)
def tyJ9 : Nat → FieldType := fun k => match k with
  | _ => .int
theorem nmJ9 : ∀ a, a < 0 → ∀ b, b < 0 → a ≠ b → (TJ9 a).2.1 ≠ (TJ9 b).2.1 := by decide +kernel
theorem tyJ9_ok : ∀ k, k < 0 → parseFieldDescriptor (TJ9 k).2.2.1 = some (tyJ9 k) := by decide +kernel
abbrev cJ9_max_7cf53 : ByteArray := prog_8_method_65_code
def yJ9_max_7cf53 : MethodName := ⟨RJ9, "max", "(II)I"⟩
def RJ10 : String := "java/lang/System"
def TJ10 : u_T := fun k => match k with
  | _ => ("", "", "", false)
def tyJ10 : Nat → FieldType := fun k => match k with
  | _ => .int
theorem nmJ10 : ∀ a, a < 0 → ∀ b, b < 0 → a ≠ b → (TJ10 a).2.1 ≠ (TJ10 b).2.1 := by decide +kernel
theorem tyJ10_ok : ∀ k, k < 0 → parseFieldDescriptor (TJ10 k).2.2.1 = some (tyJ10 k) := by decide +kernel
def RJ7 : String := "java/util/Arrays"
def TJ7 : u_T := fun k => match k with
  | _ => ("", "", "", false)
def tyJ7 : Nat → FieldType := fun k => match k with
  | _ => .int
theorem nmJ7 : ∀ a, a < 0 → ∀ b, b < 0 → a ≠ b → (TJ7 a).2.1 ≠ (TJ7 b).2.1 := by decide +kernel
theorem tyJ7_ok : ∀ k, k < 0 → parseFieldDescriptor (TJ7 k).2.2.1 = some (tyJ7 k) := by decide +kernel
abbrev cJ7_fill_53178 : ByteArray := prog_10_method_103_code
def yJ7_fill_53178 : MethodName := ⟨RJ7, "fill", "([II)V"⟩
def RL : String := "LinkStationLaw"
abbrev cL_law : ByteArray := code
def yL_law : MethodName := ⟨RL, "law", "([I)Z"⟩
end
section
/-! tables of the program by numbers: classes 0 .. 5 (Fault, Layout, LinkModule, Machine, LinkStation, LinkStationModel), 6 the law, 7 Math, 8 Arrays; methods; links -/
def xWT : List Cond := lw_tbl.filter goodWord
def xok (p : Nat) (w : Cond) : Bool := decide (lw_tbl[p]? = some w) && goodWord w
theorem xok_mem {p : Nat} {w : Cond} (h : xok p w = true) : w ∈ xWT := by
  unfold xok at h
  rw [Bool.and_eq_true, decide_eq_true_eq] at h
  exact List.mem_filter.mpr ⟨List.mem_of_getElem? h.1, h.2⟩
def xR (c : Nat) : String := match c with
  | 0 => RX0
  | 1 => RX1
  | 2 => RX2
  | 3 => RX3
  | 4 => RX4
  | 5 => RX5
  | 6 => RL
  | 7 => RJ9
  | _ => RJ7
def xT (c : Nat) : u_T := match c with
  | 0 => TX0
  | 1 => TX1
  | 2 => TX2
  | 3 => TX3
  | 4 => TX4
  | _ => TX5
def xN (c : Nat) : Nat := match c with
  | 0 => 4
  | 1 => 9
  | 2 => 16
  | 3 => 15
  | 4 => 6
  | _ => 39
def xty (c : Nat) : Nat → FieldType := match c with
  | 0 => tyX0
  | 1 => tyX1
  | 2 => tyX2
  | 3 => tyX3
  | 4 => tyX4
  | _ => tyX5
theorem xty_ok : ∀ c, c < 6 → ∀ k, k < xN c → parseFieldDescriptor ((xT c k).2.2.1) = some (xty c k) := by
  intro c hc
  match c, hc with
  | 0, _ => exact tyX0_ok
  | 1, _ => exact tyX1_ok
  | 2, _ => exact tyX2_ok
  | 3, _ => exact tyX3_ok
  | 4, _ => exact tyX4_ok
  | 5, _ => exact tyX5_ok
  | n + 6, h => exact absurd h (by omega)
theorem xnm_ok : ∀ c, c < 6 → ∀ a, a < xN c → ∀ b, b < xN c → a ≠ b → (xT c a).2.1 ≠ (xT c b).2.1 := by
  intro c hc
  match c, hc with
  | 0, _ => exact nmX0
  | 1, _ => exact nmX1
  | 2, _ => exact nmX2
  | 3, _ => exact nmX3
  | 4, _ => exact nmX4
  | 5, _ => exact nmX5
  | n + 6, h => exact absurd h (by omega)
abbrev xMt : Type := MethodName × ByteArray × Nat × Option FieldType × Nat × Nat × Nat
/-- name, code, locals, answer, class, 0 virtual 1 <init> 2 static, parameters -/
def xMs : List xMt := [(yX0_init, cX0_init, 1, none, 0, 1, 0),
  (yX0_become, cX0_become, 5, none, 0, 0, 4),
  (yX1_init, cX1_init, 2, none, 1, 1, 1),
  (yX1_clear, cX1_clear, 1, none, 1, 0, 0),
  (yX1_arrange, cX1_arrange, 4, none, 1, 0, 2),
  (yX1_placeFrom, cX1_placeFrom, 5, none, 1, 0, 1),
  (yX1_append, cX1_append, 2, none, 1, 0, 1),
  (yX1_beginFrom, cX1_beginFrom, 5, none, 1, 2, 3),
  (yX1_findGivers, cX1_findGivers, 4, none, 1, 0, 0),
  (yX1_isBetterGiver, cX1_isBetterGiver, 4, some .boolean, 1, 0, 2),
  (yX1_holds, cX1_holds, 2, some .boolean, 1, 0, 1),
  (yX1_giverOf, cX1_giverOf, 3, some .int, 1, 0, 2),
  (yX1_findFault, cX1_findFault, 3, none, 1, 0, 1),
  (yX1_findFaultIn, cX1_findFaultIn, 5, none, 1, 0, 2),
  (yX1_lookAtUse, cX1_lookAtUse, 7, none, 1, 0, 5),
  (yX1_refresh, cX1_refresh, 3, none, 1, 0, 0),
  (yX1_refreshSlots, cX1_refreshSlots, 5, none, 1, 0, 1),
  (yX1_isTrulyBound, cX1_isTrulyBound, 5, some .boolean, 1, 0, 0),
  (yX1_addressOf, cX1_addressOf, 4, some .int, 1, 0, 2),
  (yX2_init, cX2_init, 1, none, 2, 1, 0),
  (yX2_addNeed, cX2_addNeed, 3, some .boolean, 2, 0, 1),
  (yX2_addDefinition, cX2_addDefinition, 5, some .boolean, 2, 0, 4),
  (yX2_addStep, cX2_addStep, 5, some .boolean, 2, 0, 4),
  (yX2_keepsToItself, cX2_keepsToItself, 2, some .boolean, 2, 0, 1),
  (yX2_offers, cX2_offers, 2, some .boolean, 2, 0, 1),
  (yX2_isWeak, cX2_isWeak, 2, some .boolean, 2, 0, 1),
  (yX2_nameUsedAt, cX2_nameUsedAt, 2, some .int, 2, 0, 1),
  (yX2_kindWantedAt, cX2_kindWantedAt, 2, some .int, 2, 0, 1),
  (yX3_init, cX3_init, 1, none, 3, 1, 0),
  (yX3_prepare, cX3_prepare, 5, none, 3, 0, 2),
  (yX3_addStart, cX3_addStart, 5, none, 3, 0, 3),
  (yX3_go, cX3_go, 5, some .int, 3, 0, 2),
  (yX3_takeTurn, cX3_takeTurn, 6, some .int, 3, 0, 2),
  (yX3_makeStep, cX3_makeStep, 6, some .int, 3, 0, 5),
  (yX3_reckon, cX3_reckon, 5, none, 3, 0, 4),
  (yX3_callName, cX3_callName, 5, some .int, 3, 0, 2),
  (yX3_callAt, cX3_callAt, 6, some .int, 3, 0, 2),
  (yX3_enter, cX3_enter, 3, some .int, 3, 0, 2),
  (yX3_goBack, cX3_goBack, 1, some .int, 3, 0, 0),
  (yX3_startNext, cX3_startNext, 1, some .int, 3, 0, 0),
  (yX3_readDatum, cX3_readDatum, 4, some .int, 3, 0, 2),
  (yX3_writeDatum, cX3_writeDatum, 5, none, 3, 0, 3),
  (yX3_say, cX3_say, 2, none, 3, 0, 1),
  (yX4_init, cX4_init, 4, none, 4, 1, 0),
  (yX4_module, cX4_module, 1, some .int, 4, 0, 0),
  (yX4_need, cX4_need, 3, some .int, 4, 0, 2),
  (yX4_define, cX4_define, 7, some .int, 4, 0, 5),
  (yX4_optional, cX4_optional, 3, some .int, 4, 0, 2),
  (yX4_beginner, cX4_beginner, 3, some .int, 4, 0, 2),
  (yX4_put, cX4_put, 6, some .int, 4, 0, 5),
  (yX4_load, cX4_load, 3, some .int, 4, 0, 2),
  (yX4_fault, cX4_fault, 2, some .int, 4, 0, 1),
  (yX4_order, cX4_order, 3, some .int, 4, 0, 2),
  (yX4_comes, cX4_comes, 3, some .int, 4, 0, 2),
  (yX4_bound, cX4_bound, 3, some .int, 4, 0, 2),
  (yX4_run, cX4_run, 4, some .int, 4, 0, 2),
  (yX4_count, cX4_count, 2, some .int, 4, 0, 1),
  (yX4_said, cX4_said, 2, some .int, 4, 0, 1),
  (yX4_register, cX4_register, 2, some .int, 4, 0, 1),
  (yX4_datum, cX4_datum, 3, some .int, 4, 0, 2),
  (yX4_check, cX4_check, 1, some .int, 4, 0, 0),
  (yX4_isModule, cX4_isModule, 2, some .boolean, 4, 0, 1),
  (yX4_takeTrial, cX4_takeTrial, 2, none, 4, 0, 0),
  (yX4_isName, cX4_isName, 1, some .boolean, 4, 2, 1),
  (yX4_isStep, cX4_isStep, 1, some .boolean, 4, 2, 1),
  (yX4_isRegister, cX4_isRegister, 1, some .boolean, 4, 2, 1),
  (yX4_isWellFormed, cX4_isWellFormed, 4, some .boolean, 4, 2, 4),
  (yX5_init, cX5_init, 1, none, 5, 1, 0),
  (yX5_isModule, cX5_isModule, 2, some .boolean, 5, 0, 1),
  (yX5_isName, cX5_isName, 1, some .boolean, 5, 2, 1),
  (yX5_isRegister, cX5_isRegister, 1, some .boolean, 5, 2, 1),
  (yX5_isStep, cX5_isStep, 1, some .boolean, 5, 2, 1),
  (yX5_module, cX5_module, 1, some .int, 5, 0, 0),
  (yX5_need, cX5_need, 4, some .int, 5, 0, 2),
  (yX5_ofName, cX5_ofName, 4, some .int, 5, 0, 2),
  (yX5_define, cX5_define, 7, some .int, 5, 0, 5),
  (yX5_optional, cX5_optional, 3, some .int, 5, 0, 2),
  (yX5_beginner, cX5_beginner, 3, some .int, 5, 0, 2),
  (yX5_isGood, cX5_isGood, 4, some .boolean, 5, 2, 4),
  (yX5_put, cX5_put, 7, some .int, 5, 0, 5),
  (yX5_find, cX5_find, 9, some .int, 5, 0, 4),
  (yX5_findOrder, cX5_findOrder, 6, none, 5, 0, 1),
  (yX5_look, cX5_look, 7, some .int, 5, 0, 4),
  (yX5_lookAt, cX5_lookAt, 6, some .int, 5, 0, 1),
  (yX5_findBegun, cX5_findBegun, 6, none, 5, 0, 0),
  (yX5_usesCall, cX5_usesCall, 6, some .boolean, 5, 0, 2),
  (yX5_moduleOf, cX5_moduleOf, 2, some .int, 5, 0, 1),
  (yX5_setAll, cX5_setAll, 4, none, 5, 0, 0),
  (yX5_load, cX5_load, 5, some .int, 5, 0, 2),
  (yX5_fault, cX5_fault, 2, some .int, 5, 0, 1),
  (yX5_order, cX5_order, 3, some .int, 5, 0, 2),
  (yX5_placeOf, cX5_placeOf, 3, some .int, 5, 0, 1),
  (yX5_comes, cX5_comes, 3, some .int, 5, 0, 2),
  (yX5_bound, cX5_bound, 3, some .int, 5, 0, 2),
  (yX5_call, cX5_call, 2, some .int, 5, 0, 1),
  (yX5_atAddress, cX5_atAddress, 6, some .int, 5, 0, 1),
  (yX5_addressOf, cX5_addressOf, 2, some .int, 5, 0, 1),
  (yX5_callName, cX5_callName, 4, some .int, 5, 0, 1),
  (yX5_make, cX5_make, 7, some .int, 5, 0, 0),
  (yX5_go, cX5_go, 4, some .int, 5, 0, 2),
  (yX5_run, cX5_run, 8, some .int, 5, 0, 2),
  (yX5_count, cX5_count, 2, some .int, 5, 0, 1),
  (yX5_said, cX5_said, 2, some .int, 5, 0, 1),
  (yX5_register, cX5_register, 2, some .int, 5, 0, 1),
  (yX5_datum, cX5_datum, 4, some .int, 5, 0, 2),
  (yX5_check, cX5_check, 1, some .int, 5, 0, 0),
  (yJ7_fill_53178, cJ7_fill_53178, 4, none, 8, 2, 2),
  (yL_law, cL_law, 4, some .boolean, 6, 2, 1)]
def xM (y : Nat) : xMt := xMs.getD y (yL_law, cL_law, 4, some .boolean, 6, 2, 1)
abbrev mX0_init : Nat := 0
abbrev mX0_become : Nat := 1
abbrev mX1_init : Nat := 2
abbrev mX1_clear : Nat := 3
abbrev mX1_arrange : Nat := 4
abbrev mX1_placeFrom : Nat := 5
abbrev mX1_append : Nat := 6
abbrev mX1_beginFrom : Nat := 7
abbrev mX1_findGivers : Nat := 8
abbrev mX1_isBetterGiver : Nat := 9
abbrev mX1_holds : Nat := 10
abbrev mX1_giverOf : Nat := 11
abbrev mX1_findFault : Nat := 12
abbrev mX1_findFaultIn : Nat := 13
abbrev mX1_lookAtUse : Nat := 14
abbrev mX1_refresh : Nat := 15
abbrev mX1_refreshSlots : Nat := 16
abbrev mX1_isTrulyBound : Nat := 17
abbrev mX1_addressOf : Nat := 18
abbrev mX2_init : Nat := 19
abbrev mX2_addNeed : Nat := 20
abbrev mX2_addDefinition : Nat := 21
abbrev mX2_addStep : Nat := 22
abbrev mX2_keepsToItself : Nat := 23
abbrev mX2_offers : Nat := 24
abbrev mX2_isWeak : Nat := 25
abbrev mX2_nameUsedAt : Nat := 26
abbrev mX2_kindWantedAt : Nat := 27
abbrev mX3_init : Nat := 28
abbrev mX3_prepare : Nat := 29
abbrev mX3_addStart : Nat := 30
abbrev mX3_go : Nat := 31
abbrev mX3_takeTurn : Nat := 32
abbrev mX3_makeStep : Nat := 33
abbrev mX3_reckon : Nat := 34
abbrev mX3_callName : Nat := 35
abbrev mX3_callAt : Nat := 36
abbrev mX3_enter : Nat := 37
abbrev mX3_goBack : Nat := 38
abbrev mX3_startNext : Nat := 39
abbrev mX3_readDatum : Nat := 40
abbrev mX3_writeDatum : Nat := 41
abbrev mX3_say : Nat := 42
abbrev mX4_init : Nat := 43
abbrev mX4_module : Nat := 44
abbrev mX4_need : Nat := 45
abbrev mX4_define : Nat := 46
abbrev mX4_optional : Nat := 47
abbrev mX4_beginner : Nat := 48
abbrev mX4_put : Nat := 49
abbrev mX4_load : Nat := 50
abbrev mX4_fault : Nat := 51
abbrev mX4_order : Nat := 52
abbrev mX4_comes : Nat := 53
abbrev mX4_bound : Nat := 54
abbrev mX4_run : Nat := 55
abbrev mX4_count : Nat := 56
abbrev mX4_said : Nat := 57
abbrev mX4_register : Nat := 58
abbrev mX4_datum : Nat := 59
abbrev mX4_check : Nat := 60
abbrev mX4_isModule : Nat := 61
abbrev mX4_takeTrial : Nat := 62
abbrev mX4_isName : Nat := 63
abbrev mX4_isStep : Nat := 64
abbrev mX4_isRegister : Nat := 65
abbrev mX4_isWellFormed : Nat := 66
abbrev mX5_init : Nat := 67
abbrev mX5_isModule : Nat := 68
abbrev mX5_isName : Nat := 69
abbrev mX5_isRegister : Nat := 70
abbrev mX5_isStep : Nat := 71
abbrev mX5_module : Nat := 72
abbrev mX5_need : Nat := 73
abbrev mX5_ofName : Nat := 74
abbrev mX5_define : Nat := 75
abbrev mX5_optional : Nat := 76
abbrev mX5_beginner : Nat := 77
abbrev mX5_isGood : Nat := 78
abbrev mX5_put : Nat := 79
abbrev mX5_find : Nat := 80
abbrev mX5_findOrder : Nat := 81
abbrev mX5_look : Nat := 82
abbrev mX5_lookAt : Nat := 83
abbrev mX5_findBegun : Nat := 84
abbrev mX5_usesCall : Nat := 85
abbrev mX5_moduleOf : Nat := 86
abbrev mX5_setAll : Nat := 87
abbrev mX5_load : Nat := 88
abbrev mX5_fault : Nat := 89
abbrev mX5_order : Nat := 90
abbrev mX5_placeOf : Nat := 91
abbrev mX5_comes : Nat := 92
abbrev mX5_bound : Nat := 93
abbrev mX5_call : Nat := 94
abbrev mX5_atAddress : Nat := 95
abbrev mX5_addressOf : Nat := 96
abbrev mX5_callName : Nat := 97
abbrev mX5_make : Nat := 98
abbrev mX5_go : Nat := 99
abbrev mX5_run : Nat := 100
abbrev mX5_count : Nat := 101
abbrev mX5_said : Nat := 102
abbrev mX5_register : Nat := 103
abbrev mX5_datum : Nat := 104
abbrev mX5_check : Nat := 105
abbrev mJ7_fill_53178 : Nat := 106
abbrev mL_law : Nat := 107
def xPos : List (Nat × Nat × Nat × Nat) := [(60, 40, 59, 0), (393, 40, 391, 392), (232, 44, 231, 0), (309, 44, 307, 308), (353, 44, 351, 352), (358, 44, 357, 1), (362, 44, 361, 2), (365, 44, 364, 0), (369, 44, 368, 3), (377, 44, 376, 4), (381, 44, 379, 380), (405, 44, 403, 404), (389, 44, 387, 388), (397, 44, 396, 5), (401, 44, 400, 6), (425, 44, 423, 424), (432, 44, 431, 8), (545, 44, 543, 544), (513, 44, 511, 512), (143, 42, 142, 0), (305, 42, 303, 304), (323, 42, 321, 322), (345, 42, 343, 344), (409, 42, 407, 408), (373, 42, 371, 372), (385, 42, 383, 384), (413, 42, 411, 412), (417, 42, 415, 416), (84, 41, 83, 0), (458, 41, 456, 457), (463, 41, 462, 9), (469, 41, 467, 468), (477, 41, 476, 11), (481, 41, 480, 12), (521, 41, 520, 20), (485, 41, 484, 13), (496, 41, 495, 15), (489, 41, 488, 14), (501, 41, 500, 16), (473, 41, 472, 10), (505, 41, 504, 17), (509, 41, 508, 18), (517, 41, 516, 19), (52, 39, 51, 0), (293, 39, 291, 292), (297, 39, 295, 296), (313, 39, 311, 312), (327, 39, 325, 326), (331, 39, 329, 330), (335, 39, 333, 334), (349, 39, 347, 348), (436, 39, 434, 435), (440, 39, 438, 439), (444, 39, 442, 443), (450, 39, 448, 449), (454, 39, 452, 453), (525, 39, 523, 524), (529, 39, 527, 528), (533, 39, 531, 532), (537, 39, 535, 536), (541, 39, 539, 540), (301, 39, 300, 0), (421, 39, 420, 7), (316, 39, 315, 0), (319, 39, 318, 0), (341, 39, 340, 0), (338, 39, 337, 0), (550, 45, 549, 0), (681, 45, 680, 21), (688, 45, 687, 0), (713, 45, 712, 0), (691, 45, 690, 0), (673, 45, 671, 672), (677, 45, 675, 676), (695, 45, 694, 22), (685, 45, 683, 684), (699, 45, 697, 698), (703, 45, 701, 702), (710, 45, 709, 0), (707, 45, 705, 706), (733, 45, 732, 26), (721, 45, 720, 23), (729, 45, 728, 25), (725, 45, 724, 24), (737, 45, 736, 27), (745, 45, 744, 29), (749, 45, 748, 30), (741, 45, 740, 28), (717, 45, 715, 716), (753, 45, 751, 752), (757, 45, 755, 756), (765, 45, 764, 31), (761, 45, 759, 760), (769, 45, 767, 768), (781, 45, 780, 33), (797, 45, 796, 37), (793, 45, 792, 36), (789, 45, 788, 35), (785, 45, 784, 34), (777, 45, 776, 32), (773, 45, 771, 772), (801, 45, 799, 800), (805, 45, 803, 804), (809, 45, 807, 808), (813, 45, 811, 812), (817, 45, 815, 816), (147, 43, 146, 0), (0, 0, 0, 0)]
def xchk (y : Nat) : Bool :=
  let M := xM y
  let P := xPos.getD y (0, 0, 0, 0)
  xok P.1 (.code M.1 M.2.1 M.2.2.1 M.2.2.2.1) && xok P.2.1 (.initialized M.1.cls) && (if M.2.2.2.2.2.1 = 2 then xok P.2.2.1 (.static M.1) else xok P.2.2.1 (.instanceMethod M.1)) && (if M.2.2.2.2.2.1 = 0 then xok P.2.2.2 (.selects M.1.cls M.1 M.1) else true)
   && (if M.2.2.2.2.2.1 = 1 then decide (M.1.name = "<init>") && decide (M.2.2.2.1 = none) else true) && decide (M.1.cls = xR M.2.2.2.2.1) && decide (M.1.cls ≠ "java/lang/invoke/MethodHandle") && decide (M.1.cls ≠ "java/lang/invoke/VarHandle") && plainName M.1.cls
   && decide ((parseMethodDescriptor M.1.desc).map (fun d => d.parameters.length) = some M.2.2.2.2.2.2) && decide (M.2.2.1 ≤ 13)
def xNM : Nat := 107
theorem xchk_0 : (List.range 12).all (fun i => xchk (0 + i)) = true := by decide +kernel
theorem xchk_12 : (List.range 12).all (fun i => xchk (12 + i)) = true := by decide +kernel
theorem xchk_24 : (List.range 12).all (fun i => xchk (24 + i)) = true := by decide +kernel
theorem xchk_36 : (List.range 12).all (fun i => xchk (36 + i)) = true := by decide +kernel
theorem xchk_48 : (List.range 12).all (fun i => xchk (48 + i)) = true := by decide +kernel
theorem xchk_60 : (List.range 12).all (fun i => xchk (60 + i)) = true := by decide +kernel
theorem xchk_72 : (List.range 12).all (fun i => xchk (72 + i)) = true := by decide +kernel
theorem xchk_84 : (List.range 12).all (fun i => xchk (84 + i)) = true := by decide +kernel
theorem xchk_96 : (List.range 11).all (fun i => xchk (96 + i)) = true := by decide +kernel
theorem xchk_all (y : Nat) (hy : y < xNM) : xchk y = true := by
  have key : ∀ (a n : Nat), (List.range n).all (fun i => xchk (a + i)) = true → a ≤ y → y < a + n → xchk y = true := fun a n h h1 h2 => by
    have := List.all_eq_true.mp h (y - a) (List.mem_range.mpr (by omega))
    rwa [show a + (y - a) = y by omega] at this
  have hy : y < 107 := hy
  by_cases h0 : y < 12
  · exact key 0 12 xchk_0 (by omega) (by omega)
  by_cases h12 : y < 24
  · exact key 12 12 xchk_12 (by omega) (by omega)
  by_cases h24 : y < 36
  · exact key 24 12 xchk_24 (by omega) (by omega)
  by_cases h36 : y < 48
  · exact key 36 12 xchk_36 (by omega) (by omega)
  by_cases h48 : y < 60
  · exact key 48 12 xchk_48 (by omega) (by omega)
  by_cases h60 : y < 72
  · exact key 60 12 xchk_60 (by omega) (by omega)
  by_cases h72 : y < 84
  · exact key 72 12 xchk_72 (by omega) (by omega)
  by_cases h84 : y < 96
  · exact key 84 12 xchk_84 (by omega) (by omega)
  by_cases h96 : y < 107
  · exact key 96 11 xchk_96 (by omega) (by omega)
  omega
def xFL : List (Nat × Nat × Nat × Nat × Nat) := [(0, 9, 0, 0, 62), (4, 96, 0, 0, 63), (1, 97, 0, 0, 64), (0, 15, 0, 1, 65), (4, 102, 0, 1, 66), (0, 18, 0, 2, 67), (4, 105, 0, 2, 68), (0, 21, 0, 3, 69), (4, 108, 0, 3, 70), (3, 9, 3, 0, 86), (4, 163, 3, 0, 87), (3, 15, 3, 1, 88), (4, 157, 3, 1, 89), (3, 18, 3, 2, 90), (4, 145, 3, 2, 91), (3, 22, 3, 3, 92), (4, 148, 3, 3, 93), (3, 25, 3, 4, 94), (4, 151, 3, 4, 95), (3, 28, 3, 5, 96), (4, 154, 3, 5, 97), (3, 31, 3, 6, 98), (3, 34, 3, 7, 99), (3, 37, 3, 8, 100), (3, 40, 3, 9, 101), (3, 43, 3, 10, 102), (3, 46, 3, 11, 103), (3, 49, 3, 12, 104), (3, 52, 3, 13, 105), (3, 55, 3, 14, 106), (2, 9, 2, 0, 148), (1, 71, 2, 0, 149), (2, 15, 2, 1, 150), (4, 56, 2, 1, 151), (1, 66, 2, 1, 152), (2, 19, 2, 2, 153), (1, 128, 2, 2, 154), (4, 131, 2, 2, 155), (2, 22, 2, 3, 156), (3, 96, 2, 3, 157), (1, 131, 2, 3, 158), (2, 25, 2, 4, 159), (2, 28, 2, 5, 160), (4, 69, 2, 5, 161), (2, 31, 2, 6, 162), (3, 164, 2, 6, 163), (2, 35, 2, 7, 164), (4, 72, 2, 7, 165), (1, 125, 2, 7, 166), (2, 38, 2, 8, 167), (3, 76, 2, 8, 168), (4, 76, 2, 8, 169), (1, 104, 2, 8, 170), (2, 41, 2, 9, 171), (3, 110, 2, 9, 172), (1, 146, 2, 9, 173), (2, 44, 2, 10, 174), (3, 113, 2, 10, 175), (1, 149, 2, 10, 176), (2, 47, 2, 11, 177), (3, 116, 2, 11, 178), (2, 50, 2, 12, 179), (3, 119, 2, 12, 180), (2, 53, 2, 13, 181), (3, 107, 2, 13, 182), (4, 85, 2, 13, 183), (1, 111, 2, 13, 184), (2, 56, 2, 14, 185), (3, 152, 2, 14, 186), (4, 128, 2, 14, 187), (1, 152, 2, 14, 188), (2, 59, 2, 15, 189), (3, 173, 2, 15, 190), (1, 134, 2, 15, 191), (4, 166, 2, 15, 192), (1, 39, 1, 0, 235), (3, 72, 1, 0, 236), (1, 9, 1, 1, 237), (3, 85, 1, 1, 238), (4, 114, 1, 1, 239), (1, 15, 1, 2, 240), (1, 18, 1, 3, 241), (3, 158, 1, 3, 242), (4, 111, 1, 3, 243), (1, 22, 1, 4, 244), (3, 69, 1, 4, 245), (4, 118, 1, 4, 246), (1, 25, 1, 5, 247), (1, 29, 1, 6, 248), (3, 64, 1, 6, 249), (1, 32, 1, 7, 250), (1, 35, 1, 8, 251), (4, 30, 4, 0, 271), (4, 7, 4, 1, 272), (4, 39, 4, 2, 273), (4, 43, 4, 3, 274), (4, 16, 4, 4, 275), (4, 23, 4, 5, 276), (5, 90, 5, 0, 552), (5, 7, 5, 1, 553), (5, 13, 5, 2, 554), (5, 16, 5, 3, 555), (5, 19, 5, 4, 556), (5, 22, 5, 5, 557), (5, 25, 5, 6, 558), (5, 28, 5, 7, 559), (5, 31, 5, 8, 560), (5, 34, 5, 9, 561), (5, 37, 5, 10, 562), (5, 41, 5, 11, 563), (5, 97, 5, 12, 564), (5, 139, 5, 13, 565), (5, 129, 5, 14, 566), (5, 132, 5, 15, 567), (5, 44, 5, 16, 568), (5, 47, 5, 17, 569), (5, 50, 5, 18, 570), (5, 53, 5, 19, 571), (5, 118, 5, 20, 572), (5, 56, 5, 21, 573), (5, 59, 5, 22, 574), (5, 62, 5, 23, 575), (5, 65, 5, 24, 576), (5, 68, 5, 25, 577), (5, 72, 5, 26, 578), (5, 75, 5, 27, 579), (5, 78, 5, 28, 580), (5, 192, 5, 29, 581), (5, 189, 5, 30, 582), (5, 174, 5, 31, 583), (5, 171, 5, 32, 584), (5, 81, 5, 33, 585), (5, 84, 5, 34, 586), (5, 87, 5, 35, 587), (5, 162, 5, 36, 588), (5, 165, 5, 37, 589), (5, 168, 5, 38, 590)]
def xfl (own idx : Nat) : Option (Nat × Nat) := (xFL.find? (fun e => e.1 == own && e.2.1 == idx)).map (fun e => (e.2.2.1, e.2.2.2.1))
theorem xFL_ok : xFL.all (fun e => xok e.2.2.2.2 (.fieldLink (xR e.1) e.2.1 (xT e.2.2.1 e.2.2.2.1).1 (xT e.2.2.1 e.2.2.2.1).2.1 (xT e.2.2.1 e.2.2.2.1).2.2.1) && decide (e.2.2.1 < 6) && decide (e.2.2.2.1 < xN e.2.2.1)) = true := by decide +kernel
theorem xfl_ok {own idx c k : Nat} (h : xfl own idx = some (c, k)) : Cond.fieldLink (xR own) idx (xT c k).1 (xT c k).2.1 (xT c k).2.2.1 ∈ xWT ∧ c < 6 ∧ k < xN c := by
  unfold xfl at h
  cases hf : xFL.find? (fun e => e.1 == own && e.2.1 == idx) with
  | none => rw [hf] at h; cases h
  | some e =>
    rw [hf] at h
    obtain ⟨e1, e2, e3, e4, e5⟩ := e
    have h1 := List.find?_some hf
    have h2 := List.all_eq_true.mp xFL_ok _ (List.mem_of_find?_eq_some hf)
    simp only [Bool.and_eq_true, beq_iff_eq, decide_eq_true_eq] at h1 h2
    simp only [Option.map_some, Option.some.injEq, Prod.mk.injEq] at h
    obtain ⟨rfl, rfl⟩ := h
    obtain ⟨rfl, rfl⟩ := h1
    exact ⟨xok_mem h2.1.1, h2.1.2, h2.2⟩
def xML : List (Nat × Nat × Nat × Nat × Nat) := [(6, 9, 43, 0, 50), (4, 15, 0, 0, 58), (4, 22, 28, 0, 82), (4, 29, 19, 0, 141), (2, 62, 106, 0, 145), (4, 36, 2, 0, 230), (1, 43, 106, 0, 234), (6, 13, 44, 0, 290), (6, 18, 45, 0, 294), (4, 46, 61, 0, 298), (4, 50, 20, 0, 302), (4, 53, 3, 0, 306), (6, 23, 46, 0, 310), (4, 59, 63, 0, 314), (4, 62, 64, 0, 317), (4, 65, 21, 0, 320), (6, 28, 47, 0, 324), (6, 32, 48, 0, 328), (6, 36, 49, 0, 332), (4, 79, 66, 0, 336), (4, 160, 65, 0, 339), (4, 82, 22, 0, 342), (6, 40, 50, 0, 346), (4, 88, 4, 0, 350), (1, 49, 3, 0, 354), (1, 52, 5, 0, 355), (1, 63, 6, 0, 359), (1, 56, 7, 0, 363), (1, 60, 8, 0, 366), (1, 74, 24, 0, 370), (1, 78, 9, 0, 374), (1, 82, 10, 0, 378), (1, 85, 25, 0, 382), (4, 92, 12, 0, 386), (1, 91, 1, 0, 390), (1, 100, 13, 0, 394), (1, 107, 14, 0, 398), (1, 121, 11, 0, 402), (1, 88, 23, 0, 406), (1, 114, 26, 0, 410), (1, 118, 27, 0, 414), (4, 99, 62, 0, 418), (4, 134, 15, 0, 422), (1, 143, 16, 0, 429), (6, 44, 51, 0, 433), (6, 49, 52, 0, 437), (6, 53, 53, 0, 441), (4, 121, 10, 0, 445), (4, 124, 11, 0, 446), (6, 57, 54, 0, 447), (6, 61, 55, 0, 451), (4, 137, 29, 0, 455), (3, 58, 106, 0, 459), (3, 81, 30, 0, 460), (3, 88, 11, 0, 464), (3, 92, 10, 0, 465), (4, 141, 31, 0, 466), (3, 99, 39, 0, 470), (3, 103, 32, 0, 474), (3, 122, 33, 0, 478), (3, 126, 35, 0, 482), (3, 155, 37, 0, 486), (3, 129, 36, 0, 493), (3, 161, 64, 1, 497), (3, 132, 38, 0, 498), (3, 135, 40, 0, 502), (3, 138, 41, 0, 506), (3, 141, 18, 0, 510), (3, 144, 42, 0, 514), (3, 148, 34, 0, 518), (6, 65, 56, 0, 522), (6, 69, 57, 0, 526), (6, 73, 58, 0, 530), (6, 77, 59, 0, 534), (6, 81, 60, 0, 538), (4, 169, 17, 0, 542), (6, 12, 67, 0, 548), (6, 17, 72, 0, 670), (6, 22, 73, 0, 674), (5, 93, 68, 0, 678), (6, 27, 75, 0, 682), (5, 101, 69, 0, 686), (5, 104, 71, 0, 689), (5, 107, 74, 0, 692), (6, 31, 76, 0, 696), (6, 35, 77, 0, 700), (6, 39, 79, 0, 704), (5, 114, 78, 0, 708), (5, 111, 70, 0, 711), (6, 43, 88, 0, 714), (5, 146, 81, 0, 718), (5, 150, 83, 0, 722), (5, 125, 82, 0, 726), (5, 121, 80, 0, 730), (5, 153, 84, 0, 734), (5, 156, 87, 0, 738), (5, 135, 85, 0, 742), (5, 142, 86, 0, 746), (6, 48, 89, 0, 750), (6, 52, 90, 0, 754), (6, 56, 92, 0, 758), (5, 159, 91, 0, 762), (6, 60, 93, 0, 766), (6, 64, 100, 0, 770), (5, 199, 99, 0, 774), (5, 177, 94, 0, 778), (5, 195, 98, 0, 782), (5, 180, 97, 0, 786), (5, 183, 96, 0, 790), (5, 186, 95, 0, 794), (6, 68, 101, 0, 798), (6, 72, 102, 0, 802), (6, 76, 103, 0, 806), (6, 80, 104, 0, 810), (6, 84, 105, 0, 814)]
/-- the method that a place of a class's pool names, and whether it is a nest mate's private one (1) -/
def xml (own idx : Nat) : Option (Nat × Nat) := (xML.find? (fun e => e.1 == own && e.2.1 == idx)).map (fun e => (e.2.2.1, e.2.2.2.1))
theorem xML_ok : xML.all (fun e => (if e.2.2.2.1 = 0 then xok e.2.2.2.2 (.methodLink (xR e.1) e.2.1 (xM e.2.2.1).1) else decide (e.1 = 3 ∧ e.2.1 = 161 ∧ e.2.2.1 = mX4_isStep)) && decide (e.2.2.1 < xNM)) = true := by decide +kernel
theorem xml_ok {own idx y b : Nat} (h : xml own idx = some (y, b)) : (b = 0 → Cond.methodLink (xR own) idx (xM y).1 ∈ xWT) ∧ (b ≠ 0 → own = 3 ∧ idx = 161 ∧ y = mX4_isStep) ∧ y < xNM := by
  unfold xml at h
  cases hf : xML.find? (fun e => e.1 == own && e.2.1 == idx) with
  | none => rw [hf] at h; cases h
  | some e =>
    rw [hf] at h
    obtain ⟨e1, e2, e3, e4, e5⟩ := e
    have h1 := List.find?_some hf
    have h2 := List.all_eq_true.mp xML_ok _ (List.mem_of_find?_eq_some hf)
    simp only [Bool.and_eq_true, beq_iff_eq, decide_eq_true_eq] at h1 h2
    simp only [Option.map_some, Option.some.injEq, Prod.mk.injEq] at h
    obtain ⟨rfl, rfl⟩ := h
    obtain ⟨rfl, rfl⟩ := h1
    refine ⟨fun hb => ?_, fun hb => ?_, h2.2⟩
    · have h3 := h2.1
      rw [if_pos hb] at h3
      exact xok_mem h3
    · have h3 := h2.1
      rw [if_neg hb, decide_eq_true_eq] at h3
      exact h3
/-- Object.<init> -/
def xOI : List (Nat × Nat × Nat) := [(4, 1, 53), (0, 3, 61), (3, 3, 85), (2, 3, 144), (1, 3, 233), (5, 1, 551)]
def xoi (own idx : Nat) : Bool := (xOI.find? (fun e => e.1 == own && e.2.1 == idx)).isSome
theorem xOI_ok : xOI.all (fun e => xok e.2.2 (.methodLink (xR e.1) e.2.1 Lib.objectInit)) = true := by decide +kernel
theorem xobj_ok : (xok 54 (.instanceMethod Lib.objectInit) && xok 55 (.code Lib.objectInit ⟨#[0xb1]⟩ 1 none)) = true := by decide +kernel
theorem xoi_ok {own idx : Nat} (h : xoi own idx = true) : Cond.methodLink (xR own) idx Lib.objectInit ∈ xWT := by
  unfold xoi at h
  cases hf : xOI.find? (fun e => e.1 == own && e.2.1 == idx) with
  | none => rw [hf] at h; cases h
  | some e =>
    obtain ⟨e1, e2, e3⟩ := e
    have h1 := List.find?_some hf
    have h2 := List.all_eq_true.mp xOI_ok _ (List.mem_of_find?_eq_some hf)
    simp only [Bool.and_eq_true, beq_iff_eq] at h1 h2
    obtain ⟨rfl, rfl⟩ := h1
    exact xok_mem h2
theorem xmx_ok : (xok 490 (.methodLink (xR 3) 168 Lib.Math.max.name) && xok 491 (.static Lib.Math.max.name) && xok 47 (.initialized "java/lang/Math") && xok 492 (.code Lib.Math.max.name Lib.Math.max.code 2 (some .int))) = true := by decide +kernel
def xmx (own idx : Nat) : Bool := own == 3 && idx == 168
theorem xac_ok : (xok 426 (.methodLink (xR 1) 137 arraycopyName) && xok 428 (.native arraycopyName) && xok 427 (.static arraycopyName) && xok 46 (.initialized "java/lang/System")) = true := by decide +kernel
def xac (own idx : Nat) : Bool := own == 1 && idx == 137
def xCL : List (Nat × Nat × Nat × Nat × Nat × Nat) := [(6, 7, 4, 48, 49, 39), (4, 13, 0, 56, 57, 40), (4, 20, 3, 80, 81, 41), (4, 27, 2, 139, 140, 42), (4, 34, 1, 228, 229, 44), (6, 10, 5, 546, 547, 45)]
def xcl (own idx : Nat) : Option Nat := (xCL.find? (fun e => e.1 == own && e.2.1 == idx)).map (fun e => e.2.2.1)
theorem xCL_ok : xCL.all (fun e => xok e.2.2.2.1 (.classLink (xR e.1) e.2.1 (xR e.2.2.1)) && xok e.2.2.2.2.1 (.instantiable (xR e.2.2.1) (xN e.2.2.1)) && xok e.2.2.2.2.2 (.initialized (xR e.2.2.1)) && decide (e.2.2.1 < 6)) = true := by decide +kernel
theorem xcl_ok {own idx c : Nat} (h : xcl own idx = some c) : Cond.classLink (xR own) idx (xR c) ∈ xWT ∧ Cond.instantiable (xR c) (xN c) ∈ xWT ∧ Cond.initialized (xR c) ∈ xWT ∧ c < 6 := by
  unfold xcl at h
  cases hf : xCL.find? (fun e => e.1 == own && e.2.1 == idx) with
  | none => rw [hf] at h; cases h
  | some e =>
    rw [hf] at h
    obtain ⟨e1, e2, e3, e4, e5, e6⟩ := e
    have h1 := List.find?_some hf
    have h2 := List.all_eq_true.mp xCL_ok _ (List.mem_of_find?_eq_some hf)
    simp only [Bool.and_eq_true, beq_iff_eq, decide_eq_true_eq] at h1 h2
    simp only [Option.map_some, Option.some.injEq] at h
    subst h
    obtain ⟨rfl, rfl⟩ := h1
    exact ⟨xok_mem h2.1.1.1, xok_mem h2.1.1.2, xok_mem h2.1.2, h2.2⟩
theorem xIa : ∀ c, c < 6 → (u_ws (xR c) (xT c) (xN c)).all (fun w => decide (w ∈ lw_tbl) && goodWord w) = true := by decide +kernel
theorem xIn {c : Nat} (hc : c < 6) : ∀ w ∈ u_ws (xR c) (xT c) (xN c), w ∈ xWT := by
  intro w hw
  have h := List.all_eq_true.mp (xIa c hc) w hw
  rw [Bool.and_eq_true, decide_eq_true_eq] at h
  exact List.mem_filter.mpr ⟨h.1, h.2⟩
theorem xinst_ok : ([(0, 57), (1, 229), (2, 140), (3, 81), (4, 49), (5, 547)] : List (Nat × Nat)).all (fun e => xok e.2 (.instantiable (xR e.1) (xN e.1))) = true := by decide +kernel
theorem xarr_ok : (decide (lw_tbl[138]? = some (.arrayClass .int)) && decide (lw_tbl[226]? = some (.arrayClass .boolean)) && decide (lw_tbl[227]? = some (.arrayOver (.object "LinkStation$LinkModule"))) && decide (lw_tbl[497]? = some (.methodLinkNest (xR 3) 161 (xM mX4_isStep).1 "LinkStation"))) = true := by decide +kernel
theorem xarrI : Cond.arrayClass .int ∈ xWT := xok_mem (p := 138) (by decide +kernel)
theorem xarrZ : Cond.arrayClass .boolean ∈ xWT := xok_mem (p := 226) (by decide +kernel)
end
section
/-! An abstract machine over the same bytecode: a heap of numbered cells as functions; calls by depth; a predicate 'the run from here ends, and Q'. -/
/-- kinds and lengths of cells (0 none; class + 1; 100 int[], 101 boolean[], 102 LinkModule[], 103 the script); ints; references; next cell; slots used -/
abbrev xH : Type := (Nat → Nat × Nat) × (Nat → Nat → Int32) × (Nat → Nat → Option Nat) × Nat × Nat
abbrev xL : Type := List (Option Value)
abbrev xCT : Type := Nat → List Value → xH → (Option Value → xH → Prop) → Prop
abbrev xXT : Type := Nat → xL → List Value → xH → Prop
def xuI (I : Nat → Nat → Int32) (a j : Nat) (x : Int32) : Nat → Nat → Int32 := fun b i => if b = a ∧ i = j then x else I b i
def xuR (I : Nat → Nat → Int32) (a : Nat) (f : Nat → Int32) : Nat → Nat → Int32 := fun b i => if b = a then f i else I b i
def xuP (P : Nat → Nat → Option Nat) (a j : Nat) (x : Option Nat) : Nat → Nat → Option Nat := fun b i => if b = a ∧ i = j then x else P b i
def xuQ (P : Nat → Nat → Option Nat) (a : Nat) (f : Nat → Option Nat) : Nat → Nat → Option Nat := fun b i => if b = a then f i else P b i
def xuK (K : Nat → Nat × Nat) (a : Nat) (v : Nat × Nat) : Nat → Nat × Nat := fun b => if b = a then v else K b
/-- a field's type: 0 int, 1 boolean, 2 a reference -/
def xft (c k : Nat) : Nat := match xty c k with
  | .int => 0
  | .boolean => 1
  | _ => 2
/-- a condition of an if against 0, or of two ints -/
def xcd (c : ClassFile.Cond) (x y : Int32) : Prop := match c with
  | .eq => x = y
  | .ne => ¬ x = y
  | .lt => x < y
  | .ge => y ≤ x
  | .gt => y < x
  | .le => x ≤ y
def xld (ls : xL) (n : Nat) (k : Value → Prop) : Prop := ∃ v, ls[n]? = some (some v) ∧ k v
def xisI (v : Value) : Prop := ∃ x, v = .int x
def xisR (v : Value) : Prop := ∃ a, v = .ref a
/-- one instruction: what must hold before it, so that X holds behind it -/
def xins (C : xCT) (d own : Nat) (ret : Option FieldType) (ini : Bool) (Q : Option Value → xH → Prop) (X : xXT) (i : Instr) (len pc : Nat) (ls : xL) (st : List Value) (h : xH) : Prop :=
  match i with
  | .iconst n => len = 1 ∧ X (pc + 1) ls (.int (Int32.ofInt n) :: st) h
  | .bipush n => len = 2 ∧ X (pc + 2) ls (.int (Int8.ofInt n).toInt32 :: st) h
  | .sipush n => len = 3 ∧ X (pc + 3) ls (.int (Int16.ofInt n).toInt32 :: st) h
  | .iload n => len = 2 ∧ ∃ x, ls[n]? = some (some (.int x)) ∧ X (pc + 2) ls (.int x :: st) h
  | .iload_n n => len = 1 ∧ ∃ x, ls[n.val]? = some (some (.int x)) ∧ X (pc + 1) ls (.int x :: st) h
  | .aload n => len = 2 ∧ ∃ x, ls[n]? = some (some (.ref x)) ∧ X (pc + 2) ls (.ref x :: st) h
  | .aload_n n => len = 1 ∧ ∃ x, ls[n.val]? = some (some (.ref x)) ∧ X (pc + 1) ls (.ref x :: st) h
  | .istore n => len = 2 ∧ ∃ x r, st = .int x :: r ∧ n < ls.length ∧ X (pc + 2) (ls.set n (some (.int x))) r h
  | .istore_n n => len = 1 ∧ ∃ x r, st = .int x :: r ∧ n.val < ls.length ∧ X (pc + 1) (ls.set n.val (some (.int x))) r h
  | .astore n => len = 2 ∧ ∃ x r, st = .ref x :: r ∧ n < ls.length ∧ X (pc + 2) (ls.set n (some (.ref x))) r h
  | .astore_n n => len = 1 ∧ ∃ x r, st = .ref x :: r ∧ n.val < ls.length ∧ X (pc + 1) (ls.set n.val (some (.ref x))) r h
  | .iinc n c => len = 3 ∧ ∃ x, ls[n]? = some (some (.int x)) ∧ X (pc + 3) (ls.set n (some (.int (x + Int32.ofInt c)))) st h
  | .iadd => len = 1 ∧ ∃ x y r, st = .int y :: .int x :: r ∧ X (pc + 1) ls (.int (x + y) :: r) h
  | .isub => len = 1 ∧ ∃ x y r, st = .int y :: .int x :: r ∧ X (pc + 1) ls (.int (x - y) :: r) h
  | .imul => len = 1 ∧ ∃ x y r, st = .int y :: .int x :: r ∧ X (pc + 1) ls (.int (x * y) :: r) h
  | .iand => len = 1 ∧ ∃ x y r, st = .int y :: .int x :: r ∧ X (pc + 1) ls (.int (x &&& y) :: r) h
  | .idiv => len = 1 ∧ ∃ x y r, st = .int y :: .int x :: r ∧ ¬ y = 0 ∧ X (pc + 1) ls (.int (x / y) :: r) h
  | .irem => len = 1 ∧ ∃ x y r, st = .int y :: .int x :: r ∧ ¬ y = 0 ∧ X (pc + 1) ls (.int (x - x / y * y) :: r) h
  | .dup => len = 1 ∧ ∃ v r, st = v :: r ∧ v.category = 1 ∧ X (pc + 1) ls (v :: v :: r) h
  | .dup2 => len = 1 ∧ ∃ v w r, st = v :: w :: r ∧ v.category = 1 ∧ w.category = 1 ∧ X (pc + 1) ls (v :: w :: v :: w :: r) h
  | .ifCond c off => len = 3 ∧ ∃ x r, ∃ t : Nat, st = .int x :: r ∧ (pc : Int) + off = (t : Int) ∧ (xcd c x 0 → X t ls r h) ∧ (¬ xcd c x 0 → X (pc + 3) ls r h)
  | .if_icmp c off => len = 3 ∧ ∃ x y r, ∃ t : Nat, st = .int y :: .int x :: r ∧ (pc : Int) + off = (t : Int) ∧ (xcd c x y → X t ls r h) ∧ (¬ xcd c x y → X (pc + 3) ls r h)
  | .goto off => len = 3 ∧ ∃ t : Nat, (pc : Int) + off = (t : Int) ∧ X t ls st h
  | .tableswitch dflt lo hi offs => ∃ x r, st = .int x :: r ∧ (x.toInt < lo ∨ hi < x.toInt → ∃ t : Nat, (pc : Int) + dflt = (t : Int) ∧ X t ls r h) ∧ (¬ x.toInt < lo → ¬ hi < x.toInt → ∃ (off : Int) (t : Nat), offs[(x.toInt - lo).toNat]? = some off ∧ (pc : Int) + off = (t : Int) ∧ X t ls r h)
  | .getfield idx => len = 3 ∧ ∃ c k a r, xfl own idx = some (c, k) ∧ st = .ref a :: r ∧ (h.1 a).1 = c + 1 ∧ X (pc + 3) ls ((if xft c k = 2 then va_rf (h.2.2.1 a k) else .int (h.2.1 a k)) :: r) h
  | .putfield idx => len = 3 ∧ ∃ c k, xfl own idx = some (c, k) ∧ ((xT c k).2.2.2 = true → ini = true ∧ own = c) ∧
      ((xft c k = 0 ∧ ∃ x a r, st = .int x :: .ref a :: r ∧ (h.1 a).1 = c + 1 ∧ X (pc + 3) ls r (h.1, xuI h.2.1 a k x, h.2.2)) ∨
       (xft c k = 1 ∧ ∃ x a r, st = .int x :: .ref a :: r ∧ (x = 0 ∨ x = 1) ∧ (h.1 a).1 = c + 1 ∧ X (pc + 3) ls r (h.1, xuI h.2.1 a k x, h.2.2)) ∨
       (xft c k = 2 ∧ ∃ b a r, st = .ref b :: .ref a :: r ∧ (h.1 a).1 = c + 1 ∧ X (pc + 3) ls r (h.1, h.2.1, xuP h.2.2.1 a k (some b), h.2.2.2)))
  | .iaload => len = 1 ∧ ∃ j a r N, st = .int j :: .ref a :: r ∧ (h.1 a = (100, N) ∨ h.1 a = (103, N)) ∧ vp_in j N ∧ X (pc + 1) ls (.int (h.2.1 a j.toNatClampNeg) :: r) h
  | .baload => len = 1 ∧ ∃ j a r N, st = .int j :: .ref a :: r ∧ h.1 a = (101, N) ∧ vp_in j N ∧ X (pc + 1) ls (.int (h.2.1 a j.toNatClampNeg) :: r) h
  | .aaload => len = 1 ∧ ∃ j a r N, st = .int j :: .ref a :: r ∧ h.1 a = (102, N) ∧ vp_in j N ∧ X (pc + 1) ls (va_rf (h.2.2.1 a j.toNatClampNeg) :: r) h
  | .iastore => len = 1 ∧ ∃ x j a r N, st = .int x :: .int j :: .ref a :: r ∧ h.1 a = (100, N) ∧ vp_in j N ∧ X (pc + 1) ls r (h.1, xuI h.2.1 a j.toNatClampNeg x, h.2.2)
  | .bastore => len = 1 ∧ ∃ x j a r N, st = .int x :: .int j :: .ref a :: r ∧ (x = 0 ∨ x = 1) ∧ h.1 a = (101, N) ∧ vp_in j N ∧ X (pc + 1) ls r (h.1, xuI h.2.1 a j.toNatClampNeg x, h.2.2)
  | .aastore => len = 1 ∧ ∃ b j a r N, st = .ref b :: .int j :: .ref a :: r ∧ h.1 a = (102, N) ∧ vp_in j N ∧ (h.1 b).1 = 3 ∧ X (pc + 1) ls r (h.1, h.2.1, xuP h.2.2.1 a j.toNatClampNeg (some b), h.2.2.2)
  | .arraylength => len = 1 ∧ ∃ a r N, st = .ref a :: r ∧ (h.1 a = (100, N) ∨ h.1 a = (103, N)) ∧ X (pc + 1) ls (.int (nI N) :: r) h
  | .new idx => len = 3 ∧ ∃ c, xcl own idx = some c ∧ X (pc + 3) ls (.ref h.2.2.2.1 :: st) (xuK h.1 h.2.2.2.1 (c + 1, 0), xuR h.2.1 h.2.2.2.1 (fun _ => 0), xuQ h.2.2.1 h.2.2.2.1 (fun _ => none), h.2.2.2.1 + 1, h.2.2.2.2 + xN c)
  | .newarray t => len = 2 ∧ ∃ n r, st = .int (nI n) :: r ∧ n ≤ 100000 ∧ ((t = .int ∧ X (pc + 2) ls (.ref h.2.2.2.1 :: r) (xuK h.1 h.2.2.2.1 (100, n), xuR h.2.1 h.2.2.2.1 (fun _ => 0), h.2.2.1, h.2.2.2.1 + 1, h.2.2.2.2 + n)) ∨ (t = .boolean ∧ X (pc + 2) ls (.ref h.2.2.2.1 :: r) (xuK h.1 h.2.2.2.1 (101, n), xuR h.2.1 h.2.2.2.1 (fun _ => 0), h.2.2.1, h.2.2.2.1 + 1, h.2.2.2.2 + n)))
  | .anewarray idx => len = 3 ∧ ∃ n r, st = .int (nI n) :: r ∧ n ≤ 100000 ∧ xcl own idx = some 2 ∧ X (pc + 3) ls (.ref h.2.2.2.1 :: r) (xuK h.1 h.2.2.2.1 (102, n), h.2.1, xuQ h.2.2.1 h.2.2.2.1 (fun _ => none), h.2.2.2.1 + 1, h.2.2.2.2 + n)
  | .invokevirtual idx => len = 3 ∧ ∃ y As b r, xml own idx = some (y, 0) ∧ (xM y).2.2.2.2.2.1 = 0 ∧ st = As.reverse ++ .ref b :: r ∧ As.length = (xM y).2.2.2.2.2.2 ∧ (h.1 b).1 = (xM y).2.2.2.2.1 + 1 ∧ (xM y).2.2.2.2.1 < 6 ∧ (r.map fun v => v.category).sum ≤ 8 ∧ C y (.ref b :: As) h (fun v h' => X (pc + 3) ls (v.toList ++ r) h')
  | .invokestatic idx => len = 3 ∧ ((∃ y b As r, xml own idx = some (y, b) ∧ (xM y).2.2.2.2.2.1 = 2 ∧ st = As.reverse ++ r ∧ As.length = (xM y).2.2.2.2.2.2 ∧ (r.map fun v => v.category).sum ≤ 8 ∧ C y As h (fun v h' => X (pc + 3) ls (v.toList ++ r) h')) ∨
      (xmx own idx = true ∧ 1 ≤ d ∧ ∃ x y r, st = .int y :: .int x :: r ∧ (r.map fun v => v.category).sum ≤ 8 ∧ X (pc + 3) ls (.int (if x < y then y else x) :: r) h) ∨
      (xac own idx = true ∧ 1 ≤ d ∧ ∃ n dp sp a b r N M, st = .int (nI n) :: .int (nI dp) :: .ref b :: .int (nI sp) :: .ref a :: r ∧ (r.map fun v => v.category).sum ≤ 8 ∧ h.1 a = (100, N) ∧ h.1 b = (100, M) ∧ a ≠ b ∧ sp + n ≤ N ∧ dp + n ≤ M ∧ N ≤ 100000 ∧ M ≤ 100000 ∧ X (pc + 3) ls r (h.1, xuR h.2.1 b (va_cpy (h.2.1 a) (h.2.1 b) sp dp n), h.2.2)))
  | .invokespecial idx => len = 3 ∧ ((∃ y As b r, xml own idx = some (y, 0) ∧ (xM y).2.2.2.2.2.1 = 1 ∧ st = As.reverse ++ .ref b :: r ∧ As.length = (xM y).2.2.2.2.2.2 ∧ (r.map fun v => v.category).sum ≤ 8 ∧ C y (.ref b :: As) h (fun v h' => v = none ∧ X (pc + 3) ls r h')) ∨
      (xoi own idx = true ∧ 1 ≤ d ∧ ∃ a r, st = .ref a :: r ∧ (r.map fun v => v.category).sum ≤ 8 ∧ X (pc + 3) ls r h))
  | .ireturn => len = 1 ∧ ∃ v, st = [.int v] ∧ (ret = some .int ∨ (ret = some .boolean ∧ (v = 0 ∨ v = 1))) ∧ Q (some (.int v)) h
  | .return_ => len = 1 ∧ st = [] ∧ ret = none ∧ Q none h
  | _ => False
def xstp (C : xCT) (d own : Nat) (cc : ByteArray) (ret : Option FieldType) (ini : Bool) (Q : Option Value → xH → Prop) (X : xXT) (pc : Nat) (ls : xL) (st : List Value) (h : xH) : Prop :=
  match decode cc pc with
  | .ok (i, len) => xins C d own ret ini Q X i len pc ls st h
  | .error _ => False
/-- the run from here ends, and Q holds of its answer and heap: the least X that is closed under the steps -/
def xw (C : xCT) (d own : Nat) (cc : ByteArray) (ret : Option FieldType) (ini : Bool) (Q : Option Value → xH → Prop) (pc : Nat) (ls : xL) (st : List Value) (h : xH) : Prop :=
  ∀ X : xXT, (∀ pc ls st h, xstp C d own cc ret ini Q X pc ls st h → X pc ls st h) → X pc ls st h
/-- a call at depth d: it ends, makes mc cells of ms slots in all, and Q -/
def xC : Nat → xCT
  | 0 => fun y A h Q => ∃ mc ms : Nat, xw (fun _ _ _ _ => False) 0 (xM y).2.2.2.2.1 (xM y).2.1 (xM y).2.2.2.1 (decide ((xM y).2.2.2.2.2.1 = 1)) (fun r h' => h'.2.2.2.1 = h.2.2.2.1 + mc ∧ h'.2.2.2.2 = h.2.2.2.2 + ms ∧ Q r h') 0 (A.map some ++ List.replicate ((xM y).2.2.1 - A.length) none) [] h
  | d + 1 => fun y A h Q => ∃ mc ms : Nat, xw (xC d) (d + 1) (xM y).2.2.2.2.1 (xM y).2.1 (xM y).2.2.2.1 (decide ((xM y).2.2.2.2.2.1 = 1)) (fun r h' => h'.2.2.2.1 = h.2.2.2.1 + mc ∧ h'.2.2.2.2 = h.2.2.2.2 + ms ∧ Q r h') 0 (A.map some ++ List.replicate ((xM y).2.2.1 - A.length) none) [] h
end
section
/-! the abstract machine: growing, folding, and one rule an instruction -/
theorem xins_mono {C : xCT} {d own : Nat} {ret : Option FieldType} {ini : Bool} {Q Q' : Option Value → xH → Prop} {X X' : xXT} (hQ : ∀ r h, Q r h → Q' r h) (hX : ∀ pc ls st h, X pc ls st h → X' pc ls st h)
    (hC : ∀ y A h (P P' : Option Value → xH → Prop), (∀ r h, P r h → P' r h) → C y A h P → C y A h P') {i : Instr} {len pc : Nat} {ls : xL} {st : List Value} {h : xH}
    (hs : xins C d own ret ini Q X i len pc ls st h) : xins C d own ret ini Q' X' i len pc ls st h := by
  cases i with
  | iconst n => obtain ⟨a0, z⟩ := hs; exact ⟨a0, hX _ _ _ _ z⟩
  | bipush n => obtain ⟨a0, z⟩ := hs; exact ⟨a0, hX _ _ _ _ z⟩
  | sipush n => obtain ⟨a0, z⟩ := hs; exact ⟨a0, hX _ _ _ _ z⟩
  | iload n => obtain ⟨a0, a1, a2, z⟩ := hs; exact ⟨a0, a1, a2, hX _ _ _ _ z⟩
  | iload_n n => obtain ⟨a0, a1, a2, z⟩ := hs; exact ⟨a0, a1, a2, hX _ _ _ _ z⟩
  | aload n => obtain ⟨a0, a1, a2, z⟩ := hs; exact ⟨a0, a1, a2, hX _ _ _ _ z⟩
  | aload_n n => obtain ⟨a0, a1, a2, z⟩ := hs; exact ⟨a0, a1, a2, hX _ _ _ _ z⟩
  | istore n => obtain ⟨a0, a1, a2, a3, a4, z⟩ := hs; exact ⟨a0, a1, a2, a3, a4, hX _ _ _ _ z⟩
  | istore_n n => obtain ⟨a0, a1, a2, a3, a4, z⟩ := hs; exact ⟨a0, a1, a2, a3, a4, hX _ _ _ _ z⟩
  | astore n => obtain ⟨a0, a1, a2, a3, a4, z⟩ := hs; exact ⟨a0, a1, a2, a3, a4, hX _ _ _ _ z⟩
  | astore_n n => obtain ⟨a0, a1, a2, a3, a4, z⟩ := hs; exact ⟨a0, a1, a2, a3, a4, hX _ _ _ _ z⟩
  | iinc n c => obtain ⟨a0, a1, a2, z⟩ := hs; exact ⟨a0, a1, a2, hX _ _ _ _ z⟩
  | iadd => obtain ⟨a0, a1, a2, a3, a4, z⟩ := hs; exact ⟨a0, a1, a2, a3, a4, hX _ _ _ _ z⟩
  | isub => obtain ⟨a0, a1, a2, a3, a4, z⟩ := hs; exact ⟨a0, a1, a2, a3, a4, hX _ _ _ _ z⟩
  | imul => obtain ⟨a0, a1, a2, a3, a4, z⟩ := hs; exact ⟨a0, a1, a2, a3, a4, hX _ _ _ _ z⟩
  | iand => obtain ⟨a0, a1, a2, a3, a4, z⟩ := hs; exact ⟨a0, a1, a2, a3, a4, hX _ _ _ _ z⟩
  | idiv => obtain ⟨a0, a1, a2, a3, a4, a5, z⟩ := hs; exact ⟨a0, a1, a2, a3, a4, a5, hX _ _ _ _ z⟩
  | irem => obtain ⟨a0, a1, a2, a3, a4, a5, z⟩ := hs; exact ⟨a0, a1, a2, a3, a4, a5, hX _ _ _ _ z⟩
  | dup => obtain ⟨a0, a1, a2, a3, a4, z⟩ := hs; exact ⟨a0, a1, a2, a3, a4, hX _ _ _ _ z⟩
  | dup2 => obtain ⟨a0, a1, a2, a3, a4, a5, a6, z⟩ := hs; exact ⟨a0, a1, a2, a3, a4, a5, a6, hX _ _ _ _ z⟩
  | goto off => obtain ⟨a0, a1, a2, z⟩ := hs; exact ⟨a0, a1, a2, hX _ _ _ _ z⟩
  | getfield idx => obtain ⟨a0, a1, a2, a3, a4, a5, a6, a7, z⟩ := hs; exact ⟨a0, a1, a2, a3, a4, a5, a6, a7, hX _ _ _ _ z⟩
  | iaload => obtain ⟨a0, a1, a2, a3, a4, a5, a6, a7, z⟩ := hs; exact ⟨a0, a1, a2, a3, a4, a5, a6, a7, hX _ _ _ _ z⟩
  | baload => obtain ⟨a0, a1, a2, a3, a4, a5, a6, a7, z⟩ := hs; exact ⟨a0, a1, a2, a3, a4, a5, a6, a7, hX _ _ _ _ z⟩
  | aaload => obtain ⟨a0, a1, a2, a3, a4, a5, a6, a7, z⟩ := hs; exact ⟨a0, a1, a2, a3, a4, a5, a6, a7, hX _ _ _ _ z⟩
  | iastore => obtain ⟨a0, a1, a2, a3, a4, a5, a6, a7, a8, z⟩ := hs; exact ⟨a0, a1, a2, a3, a4, a5, a6, a7, a8, hX _ _ _ _ z⟩
  | bastore => obtain ⟨a0, a1, a2, a3, a4, a5, a6, a7, a8, a9, z⟩ := hs; exact ⟨a0, a1, a2, a3, a4, a5, a6, a7, a8, a9, hX _ _ _ _ z⟩
  | aastore => obtain ⟨a0, a1, a2, a3, a4, a5, a6, a7, a8, a9, z⟩ := hs; exact ⟨a0, a1, a2, a3, a4, a5, a6, a7, a8, a9, hX _ _ _ _ z⟩
  | arraylength => obtain ⟨a0, a1, a2, a3, a4, a5, z⟩ := hs; exact ⟨a0, a1, a2, a3, a4, a5, hX _ _ _ _ z⟩
  | new idx => obtain ⟨a0, a1, a2, z⟩ := hs; exact ⟨a0, a1, a2, hX _ _ _ _ z⟩
  | anewarray idx => obtain ⟨a0, a1, a2, a3, a4, a5, z⟩ := hs; exact ⟨a0, a1, a2, a3, a4, a5, hX _ _ _ _ z⟩
  | ifCond c off => obtain ⟨a0, a1, a2, a3, a4, a5, a6, a7⟩ := hs; exact ⟨a0, a1, a2, a3, a4, a5, fun q => hX _ _ _ _ (a6 q), fun q => hX _ _ _ _ (a7 q)⟩
  | if_icmp c off => obtain ⟨a0, a1, a2, a3, a4, a5, a6, a7, a8⟩ := hs; exact ⟨a0, a1, a2, a3, a4, a5, a6, fun q => hX _ _ _ _ (a7 q), fun q => hX _ _ _ _ (a8 q)⟩
  | tableswitch dflt lo hi offs => obtain ⟨a0, a1, a2, a3, a4⟩ := hs; exact ⟨a0, a1, a2, fun q => (a3 q).imp fun _ z => ⟨z.1, hX _ _ _ _ z.2⟩, fun q q2 => (a4 q q2).imp fun _ z => z.imp fun _ z => ⟨z.1, z.2.1, hX _ _ _ _ z.2.2⟩⟩
  | putfield idx =>
    obtain ⟨a0, c, k, a1, a2, a3⟩ := hs
    refine ⟨a0, c, k, a1, a2, ?_⟩
    rcases a3 with ⟨b0, b1, b2, b3, b4, b5, z⟩ | ⟨b0, b1, b2, b3, b4, b5, b6, z⟩ | ⟨b0, b1, b2, b3, b4, b5, z⟩
    · exact Or.inl ⟨b0, b1, b2, b3, b4, b5, hX _ _ _ _ z⟩
    · exact Or.inr (Or.inl ⟨b0, b1, b2, b3, b4, b5, b6, hX _ _ _ _ z⟩)
    · exact Or.inr (Or.inr ⟨b0, b1, b2, b3, b4, b5, hX _ _ _ _ z⟩)
  | newarray t =>
    obtain ⟨a0, n, r, a1, a2, a3⟩ := hs
    refine ⟨a0, n, r, a1, a2, ?_⟩
    rcases a3 with ⟨b0, z⟩ | ⟨b0, z⟩
    · exact Or.inl ⟨b0, hX _ _ _ _ z⟩
    · exact Or.inr ⟨b0, hX _ _ _ _ z⟩
  | invokevirtual idx =>
    obtain ⟨a0, y, As, b, r, a1, a2, a3, a4, a5, a6, a7, z⟩ := hs
    exact ⟨a0, y, As, b, r, a1, a2, a3, a4, a5, a6, a7, hC _ _ _ _ _ (fun v h' q => hX _ _ _ _ q) z⟩
  | invokestatic idx =>
    obtain ⟨a0, a1⟩ := hs
    refine ⟨a0, ?_⟩
    rcases a1 with ⟨y, b, As, r, b1, b2, b3, b4, b5, z⟩ | ⟨b0, b1, x, y, r, b2, b3, z⟩ | ⟨b0, b1, n, dp, sp, a, b, r, N, M, c1, c2, c3, c4, c5, c6, c7, c8, c9, z⟩
    · exact Or.inl ⟨y, b, As, r, b1, b2, b3, b4, b5, hC _ _ _ _ _ (fun v h' q => hX _ _ _ _ q) z⟩
    · exact Or.inr (Or.inl ⟨b0, b1, x, y, r, b2, b3, hX _ _ _ _ z⟩)
    · exact Or.inr (Or.inr ⟨b0, b1, n, dp, sp, a, b, r, N, M, c1, c2, c3, c4, c5, c6, c7, c8, c9, hX _ _ _ _ z⟩)
  | invokespecial idx =>
    obtain ⟨a0, a1⟩ := hs
    refine ⟨a0, ?_⟩
    rcases a1 with ⟨y, As, b, r, b1, b2, b3, b4, b5, z⟩ | ⟨b0, b1, a, r, b2, b3, z⟩
    · exact Or.inl ⟨y, As, b, r, b1, b2, b3, b4, b5, hC _ _ _ _ _ (fun v h' q => ⟨q.1, hX _ _ _ _ q.2⟩) z⟩
    · exact Or.inr ⟨b0, b1, a, r, b2, b3, hX _ _ _ _ z⟩
  | ireturn => obtain ⟨a0, v, a1, a2, z⟩ := hs; exact ⟨a0, v, a1, a2, hQ _ _ z⟩
  | return_ => obtain ⟨a0, a1, a2, z⟩ := hs; exact ⟨a0, a1, a2, hQ _ _ z⟩
  | _ => exact False.elim hs
theorem xstp_mono {C : xCT} {d own : Nat} {cc : ByteArray} {ret : Option FieldType} {ini : Bool} {Q Q' : Option Value → xH → Prop} {X X' : xXT} (hQ : ∀ r h, Q r h → Q' r h) (hX : ∀ pc ls st h, X pc ls st h → X' pc ls st h)
    (hC : ∀ y A h (P P' : Option Value → xH → Prop), (∀ r h, P r h → P' r h) → C y A h P → C y A h P') {pc : Nat} {ls : xL} {st : List Value} {h : xH}
    (hs : xstp C d own cc ret ini Q X pc ls st h) : xstp C d own cc ret ini Q' X' pc ls st h := by
  unfold xstp at hs ⊢
  cases hd : decode cc pc with
  | error e => rw [hd] at hs; exact False.elim hs
  | ok r =>
    rw [hd] at hs
    obtain ⟨i, len⟩ := r
    exact xins_mono hQ hX hC hs
theorem xw_mono {C : xCT} {d own : Nat} {cc : ByteArray} {ret : Option FieldType} {ini : Bool} {Q Q' : Option Value → xH → Prop} (hQ : ∀ r h, Q r h → Q' r h)
    (hC : ∀ y A h (P P' : Option Value → xH → Prop), (∀ r h, P r h → P' r h) → C y A h P → C y A h P') {pc : Nat} {ls : xL} {st : List Value} {h : xH}
    (hs : xw C d own cc ret ini Q pc ls st h) : xw C d own cc ret ini Q' pc ls st h := fun X hX => hs X fun pc ls st h q => hX pc ls st h (xstp_mono hQ (fun _ _ _ _ z => z) hC q)
theorem xC_mono : ∀ (d y : Nat) (A : List Value) (h : xH) (P P' : Option Value → xH → Prop), (∀ r h, P r h → P' r h) → xC d y A h P → xC d y A h P'
  | 0, y, A, h, P, P', hP, ⟨mc, ms, z⟩ => ⟨mc, ms, xw_mono (fun r h' q => ⟨q.1, q.2.1, hP r h' q.2.2⟩) (fun _ _ _ _ _ _ q => q) z⟩
  | d + 1, y, A, h, P, P', hP, ⟨mc, ms, z⟩ => ⟨mc, ms, xw_mono (fun r h' q => ⟨q.1, q.2.1, hP r h' q.2.2⟩) (xC_mono d) z⟩
/-- the machine at depth d: calls of depth d - 1 -/
def xCd (d : Nat) : xCT := match d with
  | 0 => fun _ _ _ _ => False
  | d + 1 => xC d
theorem xCd_mono (d : Nat) : ∀ y A h (P P' : Option Value → xH → Prop), (∀ r h, P r h → P' r h) → xCd d y A h P → xCd d y A h P' := by
  cases d with
  | zero => intro y A h P P' _ q; exact q
  | succ d => exact xC_mono d
/-- the run of a method's body from here, at depth d -/
abbrev xB (d own : Nat) (cc : ByteArray) (ret : Option FieldType) (ini : Bool) (Q : Option Value → xH → Prop) (pc : Nat) (ls : xL) (st : List Value) (h : xH) : Prop := xw (xCd d) d own cc ret ini Q pc ls st h
theorem xC_eq (d y : Nat) (A : List Value) (h : xH) (Q : Option Value → xH → Prop) : xC d y A h Q ↔ ∃ mc ms : Nat, xB d (xM y).2.2.2.2.1 (xM y).2.1 (xM y).2.2.2.1 (decide ((xM y).2.2.2.2.2.1 = 1)) (fun r h' => h'.2.2.2.1 = h.2.2.2.1 + mc ∧ h'.2.2.2.2 = h.2.2.2.2 + ms ∧ Q r h') 0 (A.map some ++ List.replicate ((xM y).2.2.1 - A.length) none) [] h := by
  cases d <;> exact Iff.rfl
section XR
variable {d own : Nat} {cc : ByteArray} {ret : Option FieldType} {ini : Bool} {Q : Option Value → xH → Prop} {pc : Nat} {ls : xL} {st : List Value} {h : xH}
theorem x_fold (hs : xstp (xCd d) d own cc ret ini Q (xB d own cc ret ini Q) pc ls st h) : xB d own cc ret ini Q pc ls st h :=
  fun X hX => hX _ _ _ _ (xstp_mono (fun _ _ q => q) (fun _ _ _ _ z => z X hX) (xCd_mono d) hs)
theorem x_at {i : Instr} {len : Nat} (hd : decode cc pc = .ok (i, len)) (hs : xins (xCd d) d own ret ini Q (xB d own cc ret ini Q) i len pc ls st h) : xB d own cc ret ini Q pc ls st h := by
  refine x_fold ?_
  unfold xstp
  rw [hd]
  exact hs
theorem x_iconst {n : Int} (hd : decode cc pc = .ok (.iconst n, 1)) (k : xB d own cc ret ini Q (pc + 1) ls (.int (Int32.ofInt n) :: st) h) : xB d own cc ret ini Q pc ls st h := x_at hd ⟨rfl, k⟩
theorem x_bipush {n : Int} (hd : decode cc pc = .ok (.bipush n, 2)) (k : xB d own cc ret ini Q (pc + 2) ls (.int (Int8.ofInt n).toInt32 :: st) h) : xB d own cc ret ini Q pc ls st h := x_at hd ⟨rfl, k⟩
theorem x_sipush {n : Int} (hd : decode cc pc = .ok (.sipush n, 3)) (k : xB d own cc ret ini Q (pc + 3) ls (.int (Int16.ofInt n).toInt32 :: st) h) : xB d own cc ret ini Q pc ls st h := x_at hd ⟨rfl, k⟩
theorem x_iload {n : Nat} {x : Int32} (hd : decode cc pc = .ok (.iload n, 2)) (hl : ls[n]? = some (some (.int x))) (k : xB d own cc ret ini Q (pc + 2) ls (.int x :: st) h) : xB d own cc ret ini Q pc ls st h := x_at hd ⟨rfl, x, hl, k⟩
theorem x_iload_n {n : Fin 4} {x : Int32} (hd : decode cc pc = .ok (.iload_n n, 1)) (hl : ls[n.val]? = some (some (.int x))) (k : xB d own cc ret ini Q (pc + 1) ls (.int x :: st) h) : xB d own cc ret ini Q pc ls st h := x_at hd ⟨rfl, x, hl, k⟩
theorem x_istore {n : Nat} {x : Int32} (hd : decode cc pc = .ok (.istore n, 2)) (hl : n < ls.length) (k : xB d own cc ret ini Q (pc + 2) (ls.set n (some (.int x))) st h) : xB d own cc ret ini Q pc ls (.int x :: st) h := x_at hd ⟨rfl, x, _, rfl, hl, k⟩
theorem x_istore_n {n : Fin 4} {x : Int32} (hd : decode cc pc = .ok (.istore_n n, 1)) (hl : n.val < ls.length) (k : xB d own cc ret ini Q (pc + 1) (ls.set n.val (some (.int x))) st h) : xB d own cc ret ini Q pc ls (.int x :: st) h := x_at hd ⟨rfl, x, _, rfl, hl, k⟩
theorem x_aload {n : Nat} {x : Nat} (hd : decode cc pc = .ok (.aload n, 2)) (hl : ls[n]? = some (some (.ref x))) (k : xB d own cc ret ini Q (pc + 2) ls (.ref x :: st) h) : xB d own cc ret ini Q pc ls st h := x_at hd ⟨rfl, x, hl, k⟩
theorem x_aload_n {n : Fin 4} {x : Nat} (hd : decode cc pc = .ok (.aload_n n, 1)) (hl : ls[n.val]? = some (some (.ref x))) (k : xB d own cc ret ini Q (pc + 1) ls (.ref x :: st) h) : xB d own cc ret ini Q pc ls st h := x_at hd ⟨rfl, x, hl, k⟩
theorem x_astore {n : Nat} {x : Nat} (hd : decode cc pc = .ok (.astore n, 2)) (hl : n < ls.length) (k : xB d own cc ret ini Q (pc + 2) (ls.set n (some (.ref x))) st h) : xB d own cc ret ini Q pc ls (.ref x :: st) h := x_at hd ⟨rfl, x, _, rfl, hl, k⟩
theorem x_astore_n {n : Fin 4} {x : Nat} (hd : decode cc pc = .ok (.astore_n n, 1)) (hl : n.val < ls.length) (k : xB d own cc ret ini Q (pc + 1) (ls.set n.val (some (.ref x))) st h) : xB d own cc ret ini Q pc ls (.ref x :: st) h := x_at hd ⟨rfl, x, _, rfl, hl, k⟩
theorem x_iinc {n : Nat} {c : Int} {x : Int32} (hd : decode cc pc = .ok (.iinc n c, 3)) (hl : ls[n]? = some (some (.int x))) (k : xB d own cc ret ini Q (pc + 3) (ls.set n (some (.int (x + Int32.ofInt c)))) st h) : xB d own cc ret ini Q pc ls st h := x_at hd ⟨rfl, x, hl, k⟩
theorem x_iadd {x y : Int32} (hd : decode cc pc = .ok (.iadd, 1)) (k : xB d own cc ret ini Q (pc + 1) ls (.int (x + y) :: st) h) : xB d own cc ret ini Q pc ls (.int y :: .int x :: st) h := x_at hd ⟨rfl, x, y, _, rfl, k⟩
theorem x_isub {x y : Int32} (hd : decode cc pc = .ok (.isub, 1)) (k : xB d own cc ret ini Q (pc + 1) ls (.int (x - y) :: st) h) : xB d own cc ret ini Q pc ls (.int y :: .int x :: st) h := x_at hd ⟨rfl, x, y, _, rfl, k⟩
theorem x_imul {x y : Int32} (hd : decode cc pc = .ok (.imul, 1)) (k : xB d own cc ret ini Q (pc + 1) ls (.int (x * y) :: st) h) : xB d own cc ret ini Q pc ls (.int y :: .int x :: st) h := x_at hd ⟨rfl, x, y, _, rfl, k⟩
theorem x_iand {x y : Int32} (hd : decode cc pc = .ok (.iand, 1)) (k : xB d own cc ret ini Q (pc + 1) ls (.int (x &&& y) :: st) h) : xB d own cc ret ini Q pc ls (.int y :: .int x :: st) h := x_at hd ⟨rfl, x, y, _, rfl, k⟩
theorem x_idiv {x y : Int32} (hd : decode cc pc = .ok (.idiv, 1)) (hy : ¬ y = 0) (k : xB d own cc ret ini Q (pc + 1) ls (.int (x / y) :: st) h) : xB d own cc ret ini Q pc ls (.int y :: .int x :: st) h := x_at hd ⟨rfl, x, y, _, rfl, hy, k⟩
theorem x_irem {x y : Int32} (hd : decode cc pc = .ok (.irem, 1)) (hy : ¬ y = 0) (k : xB d own cc ret ini Q (pc + 1) ls (.int (x - x / y * y) :: st) h) : xB d own cc ret ini Q pc ls (.int y :: .int x :: st) h := x_at hd ⟨rfl, x, y, _, rfl, hy, k⟩
theorem x_dup {v : Value} (hd : decode cc pc = .ok (.dup, 1)) (hv : v.category = 1) (k : xB d own cc ret ini Q (pc + 1) ls (v :: v :: st) h) : xB d own cc ret ini Q pc ls (v :: st) h := x_at hd ⟨rfl, v, _, rfl, hv, k⟩
theorem x_dup2 {v w : Value} (hd : decode cc pc = .ok (.dup2, 1)) (hv : v.category = 1) (hw : w.category = 1) (k : xB d own cc ret ini Q (pc + 1) ls (v :: w :: v :: w :: st) h) : xB d own cc ret ini Q pc ls (v :: w :: st) h := x_at hd ⟨rfl, v, w, _, rfl, hv, hw, k⟩
theorem x_if_eq {x : Int32} {off : Int} (t : Nat) (hd : decode cc pc = .ok (.ifCond .eq off, 3)) (ht : (pc : Int) + off = (t : Int)) (kt : x = 0 → xB d own cc ret ini Q t ls st h) (kf : ¬ x = 0 → xB d own cc ret ini Q (pc + 3) ls st h) : xB d own cc ret ini Q pc ls (.int x :: st) h := x_at hd ⟨rfl, x, _, t, rfl, ht, kt, kf⟩
theorem x_icmp_eq {x y : Int32} {off : Int} (t : Nat) (hd : decode cc pc = .ok (.if_icmp .eq off, 3)) (ht : (pc : Int) + off = (t : Int)) (kt : x = y → xB d own cc ret ini Q t ls st h) (kf : ¬ x = y → xB d own cc ret ini Q (pc + 3) ls st h) : xB d own cc ret ini Q pc ls (.int y :: .int x :: st) h := x_at hd ⟨rfl, x, y, _, t, rfl, ht, kt, kf⟩
theorem x_if_ne {x : Int32} {off : Int} (t : Nat) (hd : decode cc pc = .ok (.ifCond .ne off, 3)) (ht : (pc : Int) + off = (t : Int)) (kt : ¬ x = 0 → xB d own cc ret ini Q t ls st h) (kf : x = 0 → xB d own cc ret ini Q (pc + 3) ls st h) : xB d own cc ret ini Q pc ls (.int x :: st) h := x_at hd ⟨rfl, x, _, t, rfl, ht, kt, fun q => kf (Classical.not_not.mp q)⟩
theorem x_icmp_ne {x y : Int32} {off : Int} (t : Nat) (hd : decode cc pc = .ok (.if_icmp .ne off, 3)) (ht : (pc : Int) + off = (t : Int)) (kt : ¬ x = y → xB d own cc ret ini Q t ls st h) (kf : x = y → xB d own cc ret ini Q (pc + 3) ls st h) : xB d own cc ret ini Q pc ls (.int y :: .int x :: st) h := x_at hd ⟨rfl, x, y, _, t, rfl, ht, kt, fun q => kf (Classical.not_not.mp q)⟩
theorem x_if_lt {x : Int32} {off : Int} (t : Nat) (hd : decode cc pc = .ok (.ifCond .lt off, 3)) (ht : (pc : Int) + off = (t : Int)) (kt : x < 0 → xB d own cc ret ini Q t ls st h) (kf : ¬ x < 0 → xB d own cc ret ini Q (pc + 3) ls st h) : xB d own cc ret ini Q pc ls (.int x :: st) h := x_at hd ⟨rfl, x, _, t, rfl, ht, kt, kf⟩
theorem x_icmp_lt {x y : Int32} {off : Int} (t : Nat) (hd : decode cc pc = .ok (.if_icmp .lt off, 3)) (ht : (pc : Int) + off = (t : Int)) (kt : x < y → xB d own cc ret ini Q t ls st h) (kf : ¬ x < y → xB d own cc ret ini Q (pc + 3) ls st h) : xB d own cc ret ini Q pc ls (.int y :: .int x :: st) h := x_at hd ⟨rfl, x, y, _, t, rfl, ht, kt, kf⟩
theorem x_if_ge {x : Int32} {off : Int} (t : Nat) (hd : decode cc pc = .ok (.ifCond .ge off, 3)) (ht : (pc : Int) + off = (t : Int)) (kt : 0 ≤ x → xB d own cc ret ini Q t ls st h) (kf : ¬ 0 ≤ x → xB d own cc ret ini Q (pc + 3) ls st h) : xB d own cc ret ini Q pc ls (.int x :: st) h := x_at hd ⟨rfl, x, _, t, rfl, ht, kt, kf⟩
theorem x_icmp_ge {x y : Int32} {off : Int} (t : Nat) (hd : decode cc pc = .ok (.if_icmp .ge off, 3)) (ht : (pc : Int) + off = (t : Int)) (kt : y ≤ x → xB d own cc ret ini Q t ls st h) (kf : ¬ y ≤ x → xB d own cc ret ini Q (pc + 3) ls st h) : xB d own cc ret ini Q pc ls (.int y :: .int x :: st) h := x_at hd ⟨rfl, x, y, _, t, rfl, ht, kt, kf⟩
theorem x_if_gt {x : Int32} {off : Int} (t : Nat) (hd : decode cc pc = .ok (.ifCond .gt off, 3)) (ht : (pc : Int) + off = (t : Int)) (kt : 0 < x → xB d own cc ret ini Q t ls st h) (kf : ¬ 0 < x → xB d own cc ret ini Q (pc + 3) ls st h) : xB d own cc ret ini Q pc ls (.int x :: st) h := x_at hd ⟨rfl, x, _, t, rfl, ht, kt, kf⟩
theorem x_icmp_gt {x y : Int32} {off : Int} (t : Nat) (hd : decode cc pc = .ok (.if_icmp .gt off, 3)) (ht : (pc : Int) + off = (t : Int)) (kt : y < x → xB d own cc ret ini Q t ls st h) (kf : ¬ y < x → xB d own cc ret ini Q (pc + 3) ls st h) : xB d own cc ret ini Q pc ls (.int y :: .int x :: st) h := x_at hd ⟨rfl, x, y, _, t, rfl, ht, kt, kf⟩
theorem x_if_le {x : Int32} {off : Int} (t : Nat) (hd : decode cc pc = .ok (.ifCond .le off, 3)) (ht : (pc : Int) + off = (t : Int)) (kt : x ≤ 0 → xB d own cc ret ini Q t ls st h) (kf : ¬ x ≤ 0 → xB d own cc ret ini Q (pc + 3) ls st h) : xB d own cc ret ini Q pc ls (.int x :: st) h := x_at hd ⟨rfl, x, _, t, rfl, ht, kt, kf⟩
theorem x_icmp_le {x y : Int32} {off : Int} (t : Nat) (hd : decode cc pc = .ok (.if_icmp .le off, 3)) (ht : (pc : Int) + off = (t : Int)) (kt : x ≤ y → xB d own cc ret ini Q t ls st h) (kf : ¬ x ≤ y → xB d own cc ret ini Q (pc + 3) ls st h) : xB d own cc ret ini Q pc ls (.int y :: .int x :: st) h := x_at hd ⟨rfl, x, y, _, t, rfl, ht, kt, kf⟩
theorem x_goto {off : Int} (t : Nat) (hd : decode cc pc = .ok (.goto off, 3)) (ht : (pc : Int) + off = (t : Int)) (k : xB d own cc ret ini Q t ls st h) : xB d own cc ret ini Q pc ls st h := x_at hd ⟨rfl, t, ht, k⟩
theorem x_tsw {x : Int32} {dflt lo hi : Int} {offs : Array Int} {len : Nat} (hd : decode cc pc = .ok (.tableswitch dflt lo hi offs, len)) (ko : x.toInt < lo ∨ hi < x.toInt → ∃ t : Nat, (pc : Int) + dflt = (t : Int) ∧ xB d own cc ret ini Q t ls st h) (ki : ¬ x.toInt < lo → ¬ hi < x.toInt → ∃ (off : Int) (t : Nat), offs[(x.toInt - lo).toNat]? = some off ∧ (pc : Int) + off = (t : Int) ∧ xB d own cc ret ini Q t ls st h) : xB d own cc ret ini Q pc ls (.int x :: st) h := x_at hd ⟨x, _, rfl, ko, ki⟩
theorem x_geti {idx a : Nat} (c f : Nat) (hd : decode cc pc = .ok (.getfield idx, 3)) (hf : xfl own idx = some (c, f)) (ht : (xft c f == 2) = false) (ha : (h.1 a).1 = c + 1) (k : xB d own cc ret ini Q (pc + 3) ls (.int (h.2.1 a f) :: st) h) : xB d own cc ret ini Q pc ls (.ref a :: st) h := x_at hd ⟨rfl, c, f, a, _, hf, rfl, ha, by rw [if_neg (by simpa using ht)]; exact k⟩
theorem x_getr {idx a b : Nat} (c f : Nat) (hd : decode cc pc = .ok (.getfield idx, 3)) (hf : xfl own idx = some (c, f)) (ht : (xft c f == 2) = true) (ha : (h.1 a).1 = c + 1) (hb : h.2.2.1 a f = some b) (k : xB d own cc ret ini Q (pc + 3) ls (.ref b :: st) h) : xB d own cc ret ini Q pc ls (.ref a :: st) h := x_at hd ⟨rfl, c, f, a, _, hf, rfl, ha, by rw [if_pos (by simpa using ht), hb]; exact k⟩
theorem x_puti {idx a : Nat} {x : Int32} (c f : Nat) (hd : decode cc pc = .ok (.putfield idx, 3)) (hf : xfl own idx = some (c, f)) (ht : (xft c f == 0) = true) (hn : ((xT c f).2.2.2 == false) = true) (ha : (h.1 a).1 = c + 1) (k : xB d own cc ret ini Q (pc + 3) ls st (h.1, xuI h.2.1 a f x, h.2.2)) : xB d own cc ret ini Q pc ls (.int x :: .ref a :: st) h := x_at hd ⟨rfl, c, f, hf, fun q => (by rw [q] at hn; cases hn), Or.inl ⟨by simpa using ht, x, a, _, rfl, ha, k⟩⟩
theorem x_putz {idx a : Nat} {x : Int32} (c f : Nat) (hd : decode cc pc = .ok (.putfield idx, 3)) (hf : xfl own idx = some (c, f)) (ht : (xft c f == 1) = true) (hn : ((xT c f).2.2.2 == false) = true) (ha : (h.1 a).1 = c + 1) (hx : x = 0 ∨ x = 1) (k : xB d own cc ret ini Q (pc + 3) ls st (h.1, xuI h.2.1 a f x, h.2.2)) : xB d own cc ret ini Q pc ls (.int x :: .ref a :: st) h := x_at hd ⟨rfl, c, f, hf, fun q => (by rw [q] at hn; cases hn), Or.inr (Or.inl ⟨by simpa using ht, x, a, _, rfl, hx, ha, k⟩)⟩
theorem x_putr {idx a b : Nat} (c f : Nat) (hd : decode cc pc = .ok (.putfield idx, 3)) (hf : xfl own idx = some (c, f)) (ht : (xft c f == 2) = true) (hn : ((xT c f).2.2.2 == false || (ini && own == c)) = true) (ha : (h.1 a).1 = c + 1) (k : xB d own cc ret ini Q (pc + 3) ls st (h.1, h.2.1, xuP h.2.2.1 a f (some b), h.2.2.2)) : xB d own cc ret ini Q pc ls (.ref b :: .ref a :: st) h := x_at hd ⟨rfl, c, f, hf, fun q => (by rw [q] at hn; simpa using hn), Or.inr (Or.inr ⟨by simpa using ht, b, a, _, rfl, ha, k⟩)⟩
theorem x_iald {j : Int32} {a N : Nat} (hd : decode cc pc = .ok (.iaload, 1)) (ha : h.1 a = (100, N)) (hj : vp_in j N) (k : xB d own cc ret ini Q (pc + 1) ls (.int (h.2.1 a j.toNatClampNeg) :: st) h) : xB d own cc ret ini Q pc ls (.int j :: .ref a :: st) h := x_at hd ⟨rfl, j, a, _, N, rfl, Or.inl ha, hj, k⟩
theorem x_sald {j : Int32} {a N : Nat} (hd : decode cc pc = .ok (.iaload, 1)) (ha : h.1 a = (103, N)) (hj : vp_in j N) (k : xB d own cc ret ini Q (pc + 1) ls (.int (h.2.1 a j.toNatClampNeg) :: st) h) : xB d own cc ret ini Q pc ls (.int j :: .ref a :: st) h := x_at hd ⟨rfl, j, a, _, N, rfl, Or.inr ha, hj, k⟩
theorem x_bald {j : Int32} {a N : Nat} (hd : decode cc pc = .ok (.baload, 1)) (ha : h.1 a = (101, N)) (hj : vp_in j N) (k : xB d own cc ret ini Q (pc + 1) ls (.int (h.2.1 a j.toNatClampNeg) :: st) h) : xB d own cc ret ini Q pc ls (.int j :: .ref a :: st) h := x_at hd ⟨rfl, j, a, _, N, rfl, ha, hj, k⟩
theorem x_aald {j : Int32} {a b N : Nat} (hd : decode cc pc = .ok (.aaload, 1)) (ha : h.1 a = (102, N)) (hj : vp_in j N) (hb : h.2.2.1 a j.toNatClampNeg = some b) (k : xB d own cc ret ini Q (pc + 1) ls (.ref b :: st) h) : xB d own cc ret ini Q pc ls (.int j :: .ref a :: st) h := x_at hd ⟨rfl, j, a, _, N, rfl, ha, hj, by rw [hb]; exact k⟩
theorem x_iast {x j : Int32} {a N : Nat} (hd : decode cc pc = .ok (.iastore, 1)) (ha : h.1 a = (100, N)) (hj : vp_in j N) (k : xB d own cc ret ini Q (pc + 1) ls st (h.1, xuI h.2.1 a j.toNatClampNeg x, h.2.2)) : xB d own cc ret ini Q pc ls (.int x :: .int j :: .ref a :: st) h := x_at hd ⟨rfl, x, j, a, _, N, rfl, ha, hj, k⟩
theorem x_bast {x j : Int32} {a N : Nat} (hd : decode cc pc = .ok (.bastore, 1)) (ha : h.1 a = (101, N)) (hj : vp_in j N) (hx : x = 0 ∨ x = 1) (k : xB d own cc ret ini Q (pc + 1) ls st (h.1, xuI h.2.1 a j.toNatClampNeg x, h.2.2)) : xB d own cc ret ini Q pc ls (.int x :: .int j :: .ref a :: st) h := x_at hd ⟨rfl, x, j, a, _, N, rfl, hx, ha, hj, k⟩
theorem x_aast {j : Int32} {a b N : Nat} (hd : decode cc pc = .ok (.aastore, 1)) (ha : h.1 a = (102, N)) (hj : vp_in j N) (hb : (h.1 b).1 = 3) (k : xB d own cc ret ini Q (pc + 1) ls st (h.1, h.2.1, xuP h.2.2.1 a j.toNatClampNeg (some b), h.2.2.2)) : xB d own cc ret ini Q pc ls (.ref b :: .int j :: .ref a :: st) h := x_at hd ⟨rfl, b, j, a, _, N, rfl, ha, hj, hb, k⟩
theorem x_alen {a N : Nat} (hd : decode cc pc = .ok (.arraylength, 1)) (ha : h.1 a = (100, N)) (k : xB d own cc ret ini Q (pc + 1) ls (.int (nI N) :: st) h) : xB d own cc ret ini Q pc ls (.ref a :: st) h := x_at hd ⟨rfl, a, _, N, rfl, Or.inl ha, k⟩
theorem x_slen {a N : Nat} (hd : decode cc pc = .ok (.arraylength, 1)) (ha : h.1 a = (103, N)) (k : xB d own cc ret ini Q (pc + 1) ls (.int (nI N) :: st) h) : xB d own cc ret ini Q pc ls (.ref a :: st) h := x_at hd ⟨rfl, a, _, N, rfl, Or.inr ha, k⟩
theorem x_new {idx : Nat} (c : Nat) (hd : decode cc pc = .ok (.new idx, 3)) (hc : xcl own idx = some c) (k : xB d own cc ret ini Q (pc + 3) ls (.ref h.2.2.2.1 :: st) (xuK h.1 h.2.2.2.1 (c + 1, 0), xuR h.2.1 h.2.2.2.1 (fun _ => 0), xuQ h.2.2.1 h.2.2.2.1 (fun _ => none), h.2.2.2.1 + 1, h.2.2.2.2 + xN c)) : xB d own cc ret ini Q pc ls st h := x_at hd ⟨rfl, c, hc, k⟩
theorem x_newi {x : Int32} (n : Nat) (hd : decode cc pc = .ok (.newarray .int, 2)) (hx : x = nI n) (hn : n ≤ 100000) (k : xB d own cc ret ini Q (pc + 2) ls (.ref h.2.2.2.1 :: st) (xuK h.1 h.2.2.2.1 (100, n), xuR h.2.1 h.2.2.2.1 (fun _ => 0), h.2.2.1, h.2.2.2.1 + 1, h.2.2.2.2 + n)) : xB d own cc ret ini Q pc ls (.int x :: st) h := x_at hd ⟨rfl, n, _, by rw [hx], hn, Or.inl ⟨rfl, k⟩⟩
theorem x_newz {x : Int32} (n : Nat) (hd : decode cc pc = .ok (.newarray .boolean, 2)) (hx : x = nI n) (hn : n ≤ 100000) (k : xB d own cc ret ini Q (pc + 2) ls (.ref h.2.2.2.1 :: st) (xuK h.1 h.2.2.2.1 (101, n), xuR h.2.1 h.2.2.2.1 (fun _ => 0), h.2.2.1, h.2.2.2.1 + 1, h.2.2.2.2 + n)) : xB d own cc ret ini Q pc ls (.int x :: st) h := x_at hd ⟨rfl, n, _, by rw [hx], hn, Or.inr ⟨rfl, k⟩⟩
theorem x_newm {x : Int32} {idx : Nat} (n : Nat) (hd : decode cc pc = .ok (.anewarray idx, 3)) (hx : x = nI n) (hn : n ≤ 100000) (hc : xcl own idx = some 2) (k : xB d own cc ret ini Q (pc + 3) ls (.ref h.2.2.2.1 :: st) (xuK h.1 h.2.2.2.1 (102, n), h.2.1, xuQ h.2.2.1 h.2.2.2.1 (fun _ => none), h.2.2.2.1 + 1, h.2.2.2.2 + n)) : xB d own cc ret ini Q pc ls (.int x :: st) h := x_at hd ⟨rfl, n, _, by rw [hx], hn, hc, k⟩
end XR
section XRC
variable {d own : Nat} {cc : ByteArray} {ret : Option FieldType} {ini : Bool} {Q : Option Value → xH → Prop} {pc : Nat} {ls : xL} {st : List Value} {h : xH}
theorem x_callV {idx b : Nat} (y : Nat) (As r : List Value) (P : Option Value → xH → Prop) (hd : decode cc pc = .ok (.invokevirtual idx, 3)) (hm : xml own idx = some (y, 0)) (hy : ((xM y).2.2.2.2.2.1 == 0 && decide ((xM y).2.2.2.2.1 < 6) && As.length == (xM y).2.2.2.2.2.2) = true) (hst : st = As.reverse ++ .ref b :: r) (hb : (h.1 b).1 = (xM y).2.2.2.2.1 + 1) (hr : (r.map fun v => v.category).sum ≤ 8) (hc : xC d y (.ref b :: As) h P) (k : ∀ v h', P v h' → xB (d + 1) own cc ret ini Q (pc + 3) ls (v.toList ++ r) h') : xB (d + 1) own cc ret ini Q pc ls st h := by
  simp only [Bool.and_eq_true, beq_iff_eq, decide_eq_true_eq] at hy
  exact x_at hd ⟨rfl, y, As, b, r, hm, hy.1.1, hst, hy.2, hb, hy.1.2, hr, xC_mono d y _ h _ _ k hc⟩
theorem x_callS {idx : Nat} (y nb : Nat) (As r : List Value) (P : Option Value → xH → Prop) (hd : decode cc pc = .ok (.invokestatic idx, 3)) (hm : xml own idx = some (y, nb)) (hy : ((xM y).2.2.2.2.2.1 == 2 && As.length == (xM y).2.2.2.2.2.2) = true) (hst : st = As.reverse ++ r) (hr : (r.map fun v => v.category).sum ≤ 8) (hc : xC d y As h P) (k : ∀ v h', P v h' → xB (d + 1) own cc ret ini Q (pc + 3) ls (v.toList ++ r) h') : xB (d + 1) own cc ret ini Q pc ls st h := by
  simp only [Bool.and_eq_true, beq_iff_eq] at hy
  exact x_at hd ⟨rfl, Or.inl ⟨y, nb, As, r, hm, hy.1, hst, hy.2, hr, xC_mono d y _ h _ _ k hc⟩⟩
theorem x_callI {idx b : Nat} (y : Nat) (As r : List Value) (P : Option Value → xH → Prop) (hd : decode cc pc = .ok (.invokespecial idx, 3)) (hm : xml own idx = some (y, 0)) (hy : ((xM y).2.2.2.2.2.1 == 1 && As.length == (xM y).2.2.2.2.2.2) = true) (hst : st = As.reverse ++ .ref b :: r) (hr : (r.map fun v => v.category).sum ≤ 8) (hc : xC d y (.ref b :: As) h P) (k : ∀ v h', P v h' → v = none ∧ xB (d + 1) own cc ret ini Q (pc + 3) ls r h') : xB (d + 1) own cc ret ini Q pc ls st h := by
  simp only [Bool.and_eq_true, beq_iff_eq] at hy
  exact x_at hd ⟨rfl, Or.inl ⟨y, As, b, r, hm, hy.1, hst, hy.2, hr, xC_mono d y _ h _ _ k hc⟩⟩
theorem x_obj {idx a : Nat} (hd : decode cc pc = .ok (.invokespecial idx, 3)) (hm : xoi own idx = true) (hr : (st.map fun v => v.category).sum ≤ 8) (k : xB (d + 1) own cc ret ini Q (pc + 3) ls st h) : xB (d + 1) own cc ret ini Q pc ls (.ref a :: st) h := x_at hd ⟨rfl, Or.inr ⟨hm, Nat.le_add_left 1 d, a, _, rfl, hr, k⟩⟩
theorem x_max {idx : Nat} {x y : Int32} (hd : decode cc pc = .ok (.invokestatic idx, 3)) (hm : xmx own idx = true) (hr : (st.map fun v => v.category).sum ≤ 8) (k : xB (d + 1) own cc ret ini Q (pc + 3) ls (.int (if x < y then y else x) :: st) h) : xB (d + 1) own cc ret ini Q pc ls (.int y :: .int x :: st) h := x_at hd ⟨rfl, Or.inr (Or.inl ⟨hm, Nat.le_add_left 1 d, x, y, _, rfl, hr, k⟩)⟩
theorem x_copy {idx a b : Nat} {xn xd xs : Int32} (n dp sp N M : Nat) (hd : decode cc pc = .ok (.invokestatic idx, 3)) (hm : xac own idx = true) (hr : (st.map fun v => v.category).sum ≤ 8) (en : xn = nI n) (ed : xd = nI dp) (es : xs = nI sp) (ha : h.1 a = (100, N)) (hb : h.1 b = (100, M)) (hne : a ≠ b) (h1 : sp + n ≤ N) (h2 : dp + n ≤ M) (h3 : N ≤ 100000) (h4 : M ≤ 100000) (k : xB (d + 1) own cc ret ini Q (pc + 3) ls st (h.1, xuR h.2.1 b (va_cpy (h.2.1 a) (h.2.1 b) sp dp n), h.2.2)) : xB (d + 1) own cc ret ini Q pc ls (.int xn :: .int xd :: .ref b :: .int xs :: .ref a :: st) h := x_at hd ⟨rfl, Or.inr (Or.inr ⟨hm, Nat.le_add_left 1 d, n, dp, sp, a, b, _, N, M, by rw [en, ed, es], hr, ha, hb, hne, h1, h2, h3, h4, k⟩)⟩
end XRC
section XRE
variable {d own : Nat} {cc : ByteArray} {ini : Bool} {Q : Option Value → xH → Prop} {pc : Nat} {ls : xL} {h : xH}
theorem x_ret {v : Int32} (hd : decode cc pc = .ok (.ireturn, 1)) (q : Q (some (.int v)) h) : xB d own cc (some .int) ini Q pc ls [.int v] h := x_at hd ⟨rfl, v, rfl, Or.inl rfl, q⟩
theorem x_retz {v : Int32} (hd : decode cc pc = .ok (.ireturn, 1)) (hv : v = 0 ∨ v = 1) (q : Q (some (.int v)) h) : xB d own cc (some .boolean) ini Q pc ls [.int v] h := x_at hd ⟨rfl, v, rfl, Or.inr ⟨rfl, hv⟩, q⟩
theorem x_retv (hd : decode cc pc = .ok (.return_, 1)) (q : Q none h) : xB d own cc none ini Q pc ls [] h := x_at hd ⟨rfl, rfl, rfl, q⟩
end XRE
end
section
/-! The abstract heap and the machine's heap: what cells hold; one cell changes; one cell comes. -/
/-- the machine's numbers of classes: objects' classes and slots, int[], boolean[], LinkModule[], the script's -/
abbrev xD : Type := (Nat → ClassId) × (Nat → Nat → Nat) × ClassId × ClassId × ClassId × ClassId
def xval (h : xH) (c a k : Nat) : Value := if xft c k = 2 then va_rf (h.2.2.1 a k) else .int (h.2.1 a k)
def xcell (D : xD) (h : xH) (H : Heap) (a : Nat) : Prop :=
  (∀ c, c < 6 → (h.1 a).1 = c + 1 → t_OB a (D.1 c) (xN c) (D.2.1 c) H (xval h c a)) ∧
  (∀ N, h.1 a = (100, N) → H[a]? = some (arrV D.2.2.1 N (fun j => .int (h.2.1 a j)))) ∧
  (∀ N, h.1 a = (101, N) → H[a]? = some (arrV D.2.2.2.1 N (fun j => .int (h.2.1 a j)))) ∧
  (∀ N, h.1 a = (102, N) → H[a]? = some (arrV D.2.2.2.2.1 N (fun j => va_rf (h.2.2.1 a j)))) ∧
  (∀ N, h.1 a = (103, N) → ∃ scr : Cell, H[a]? = some scr ∧ scr.cls = D.2.2.2.2.2 ∧ (∀ k, scr.vm ≠ .statics k) ∧ scr.vm ≠ .unknown ∧ scr.slots.size = N ∧ ∀ j : Nat, j < N → scr.slots[j]? = some (.int (h.2.1 a j)))
def xRep (D : xD) (lo : Nat) (h : xH) (H : Heap) : Prop := H.size = h.2.2.2.1 ∧ lo ≤ h.2.2.2.1 ∧ ∀ a : Nat, xcell D h H a ∧ ((h.1 a).1 ≠ 0 → a < h.2.2.2.1 ∧ ((h.1 a).1 ≠ 103 → lo ≤ a))
def xKn (D : xD) (U : State) : Prop := (∀ c, c < 6 → u_Kn U (xR c) (xT c) (xN c) (D.1 c) (D.2.1 c)) ∧ (ArrOfT U D.2.2.1 .int ∧ U.vm.findClass ("[" ++ FieldType.int.toString) = some D.2.2.1) ∧ (ArrOfT U D.2.2.2.1 .boolean ∧ U.vm.findClass ("[" ++ FieldType.boolean.toString) = some D.2.2.2.1) ∧
  (ArrOfT U D.2.2.2.2.1 (.object RX2) ∧ va_RA U D.2.2.2.2.1 (.object RX2)) ∧ va_AO RX2 U ∧ va_Nw (.methodLinkNest (xR 3) 161 (xM mX4_isStep).1 "LinkStation") U ∧ ∃ (k : Class) (comp : ClassId), U.vm.classes[D.2.2.2.2.2]? = some k ∧ k.kind = .array comp .int
theorem xKn.move {D : xD} {u U : State} (hvm : u.vm.Alike U.vm) (hN : va_Nw (.methodLinkNest (xR 3) 161 (xM mX4_isStep).1 "LinkStation") u → va_Nw (.methodLinkNest (xR 3) 161 (xM mX4_isStep).1 "LinkStation") U) (h : xKn D u) : xKn D U := by
  obtain ⟨h1, ⟨h2, h3⟩, ⟨h4, h5⟩, ⟨h6, h7⟩, h8, h9, k, comp, h10, h11⟩ := h
  refine ⟨fun c hc => u_Kn_moved hvm (h1 c hc), ⟨arrOfT_moved hvm h2, by rw [hvm.findClass]; exact h3⟩, ⟨arrOfT_moved hvm h4, by rw [hvm.findClass]; exact h5⟩, ⟨arrOfT_moved hvm h6, h7.moved hvm⟩, h8.moved hvm, hN h9, ?_⟩
  obtain ⟨k', hk', he⟩ := hvm.2.2 _ _ h10
  exact ⟨k', comp, hk', by rw [he]; exact h11⟩
theorem xKn.warm {D : xD} {s U : State} (hW : s.WarmedH U.vm) (h : xKn D s) : xKn D U := h.move hW.alike (fun z => va_Nw.warmM hW z)
theorem xKn.same {D : xD} {u U : State} (hW : u.vm = U.vm) (h : xKn D u) : xKn D U := h.move (by rw [hW]; exact Vm.Alike.refl U.vm) (fun z => va_Nw.same rfl hW z)
theorem xcell_0 {D : xD} {h : xH} {H : Heap} {a : Nat} (h0 : (h.1 a).1 = 0) : xcell D h H a :=
  ⟨fun c _ e => by omega, fun N e => (by rw [e] at h0; cases h0), fun N e => (by rw [e] at h0; cases h0), fun N e => (by rw [e] at h0; cases h0), fun N e => (by rw [e] at h0; cases h0)⟩
theorem xcell_ob {D : xD} {h : xH} {H : Heap} {a c : Nat} (hc : c < 6) (hk : (h.1 a).1 = c + 1) (ho : t_OB a (D.1 c) (xN c) (D.2.1 c) H (xval h c a)) : xcell D h H a :=
  ⟨fun c2 _ e => by have : c2 = c := by omega
                    subst this
                    exact ho, fun N e => by rw [e] at hk; simp only at hk; omega, fun N e => by rw [e] at hk; simp only at hk; omega, fun N e => by rw [e] at hk; simp only at hk; omega, fun N e => by rw [e] at hk; simp only at hk; omega⟩
theorem xcell_i {D : xD} {h : xH} {H : Heap} {a N : Nat} (hk : h.1 a = (100, N)) (ho : H[a]? = some (arrV D.2.2.1 N (fun j => .int (h.2.1 a j)))) : xcell D h H a :=
  ⟨fun c2 _ e => by rw [hk] at e; simp only at e; omega, fun M e => (by rw [hk] at e; cases e; exact ho), fun N e => (by rw [hk] at e; cases e), fun N e => (by rw [hk] at e; cases e), fun N e => (by rw [hk] at e; cases e)⟩
theorem xcell_z {D : xD} {h : xH} {H : Heap} {a N : Nat} (hk : h.1 a = (101, N)) (ho : H[a]? = some (arrV D.2.2.2.1 N (fun j => .int (h.2.1 a j)))) : xcell D h H a :=
  ⟨fun c2 _ e => by rw [hk] at e; simp only at e; omega, fun N e => (by rw [hk] at e; cases e), fun M e => (by rw [hk] at e; cases e; exact ho), fun N e => (by rw [hk] at e; cases e), fun N e => (by rw [hk] at e; cases e)⟩
theorem xcell_m {D : xD} {h : xH} {H : Heap} {a N : Nat} (hk : h.1 a = (102, N)) (ho : H[a]? = some (arrV D.2.2.2.2.1 N (fun j => va_rf (h.2.2.1 a j)))) : xcell D h H a :=
  ⟨fun c2 _ e => by rw [hk] at e; simp only at e; omega, fun N e => (by rw [hk] at e; cases e), fun N e => (by rw [hk] at e; cases e), fun M e => (by rw [hk] at e; cases e; exact ho), fun N e => (by rw [hk] at e; cases e)⟩
theorem xcell_kept {D : xD} {h h' : xH} {H H' : Heap} {a : Nat} (hc : xcell D h H a) (hk : h'.1 a = h.1 a) (hI : h'.2.1 a = h.2.1 a) (hP : h'.2.2.1 a = h.2.2.1 a) (hH : H'[a]? = H[a]?) : xcell D h' H' a := by
  obtain ⟨c1, c2, c3, c4, c5⟩ := hc
  refine ⟨fun c h1 h2 => ?_, fun N e => ?_, fun N e => ?_, fun N e => ?_, fun N e => ?_⟩
  · rw [hk] at h2
    refine ((c1 c h1 h2).kept hH).to (fun k _ => ?_)
    simp only [xval, hI, hP]
  · rw [hk] at e; rw [hH, hI]; exact c2 N e
  · rw [hk] at e; rw [hH, hI]; exact c3 N e
  · rw [hk] at e; rw [hH, hP]; exact c4 N e
  · rw [hk] at e; rw [hH, hI]; exact c5 N e
/-- one cell changes -/
theorem xRep_upd {D : xD} {lo a : Nat} {h h' : xH} {H H' : Heap} (hr : xRep D lo h H) (hk : h'.1 = h.1) (hn : h'.2.2.2.1 = h.2.2.2.1) (hI : ∀ b, b ≠ a → h'.2.1 b = h.2.1 b) (hP : ∀ b, b ≠ a → h'.2.2.1 b = h.2.2.1 b) (hz : H'.size = H.size) (ho : ∀ q : Nat, q ≠ a → H'[q]? = H[q]?) (hc : xcell D h' H' a) : xRep D lo h' H' := by
  obtain ⟨r1, r2, r3⟩ := hr
  refine ⟨by rw [hz, hn]; exact r1, by rw [hn]; exact r2, fun b => ⟨?_, by rw [hk, hn]; exact (r3 b).2⟩⟩
  by_cases hb : b = a
  · subst hb; exact hc
  · exact xcell_kept (r3 b).1 (by rw [hk]) (hI b hb) (hP b hb) (ho b hb)
/-- one cell comes -/
theorem xRep_new {D : xD} {lo : Nat} {h h' : xH} {H H' : Heap} (hr : xRep D lo h H) (hk : ∀ b, b ≠ h.2.2.2.1 → h'.1 b = h.1 b) (hn : h'.2.2.2.1 = h.2.2.2.1 + 1) (hI : ∀ b, b ≠ h.2.2.2.1 → h'.2.1 b = h.2.1 b) (hP : ∀ b, b ≠ h.2.2.2.1 → h'.2.2.1 b = h.2.2.1 b) (hz : H'.size = h.2.2.2.1 + 1) (ho : ∀ q : Nat, q < h.2.2.2.1 → H'[q]? = H[q]?) (hc : xcell D h' H' h.2.2.2.1) : xRep D lo h' H' := by
  obtain ⟨r1, r2, r3⟩ := hr
  refine ⟨by rw [hz, hn], by rw [hn]; omega, fun b => ?_⟩
  by_cases hb : b = h.2.2.2.1
  · subst hb; exact ⟨hc, fun _ => ⟨by omega, fun _ => r2⟩⟩
  · obtain ⟨q1, q2⟩ := r3 b
    by_cases h0 : (h.1 b).1 = 0
    · exact ⟨xcell_0 (by rw [hk b hb]; exact h0), fun z => absurd (by rw [hk b hb]; exact h0) z⟩
    · obtain ⟨q3, q4⟩ := q2 h0
      exact ⟨xcell_kept q1 (hk b hb) (hI b hb) (hP b hb) (ho b q3), fun _ => ⟨by omega, by rw [hk b hb]; exact q4⟩⟩
theorem xuI_ne {I : Nat → Nat → Int32} {a j b : Nat} {x : Int32} (h : b ≠ a) : xuI I a j x b = I b := by funext i; simp [xuI, h]
theorem xuI_at {I : Nat → Nat → Int32} {a j : Nat} {x : Int32} : xuI I a j x a = upd (I a) j x := by funext i; simp [xuI, upd]
theorem xuR_ne {I : Nat → Nat → Int32} {a b : Nat} {f : Nat → Int32} (h : b ≠ a) : xuR I a f b = I b := by funext i; simp [xuR, h]
theorem xuR_at {I : Nat → Nat → Int32} {a : Nat} {f : Nat → Int32} : xuR I a f a = f := by funext i; simp [xuR]
theorem xuP_ne {I : Nat → Nat → Option Nat} {a j b : Nat} {x : Option Nat} (h : b ≠ a) : xuP I a j x b = I b := by funext i; simp [xuP, h]
theorem xuP_at {I : Nat → Nat → Option Nat} {a j : Nat} {x : Option Nat} : xuP I a j x a = va_up (I a) j x := by funext i; simp [xuP, va_up]
theorem xuQ_ne {I : Nat → Nat → Option Nat} {a b : Nat} {f : Nat → Option Nat} (h : b ≠ a) : xuQ I a f b = I b := by funext i; simp [xuQ, h]
theorem xuQ_at {I : Nat → Nat → Option Nat} {a : Nat} {f : Nat → Option Nat} : xuQ I a f a = f := by funext i; simp [xuQ]
theorem xuK_ne {K : Nat → Nat × Nat} {a b : Nat} {v : Nat × Nat} (h : b ≠ a) : xuK K a v b = K b := by simp [xuK, h]
theorem xuK_at {K : Nat → Nat × Nat} {a : Nat} {v : Nat × Nat} : xuK K a v a = v := by simp [xuK]
/-- the locals -/
def xlv (la : Array Slot) (nL : Nat) (ls : xL) : Prop := la.size = nL ∧ ls.length = nL ∧ lv_wf la ∧ ∀ (i : Nat) (v : Value), ls[i]? = some (some v) → v.category = 1 ∧ la[i]? = some (.val v)
def xpairs (ls : xL) : List (Nat × Value) := (List.range ls.length).filterMap (fun i => match ls[i]? with
  | some (some v) => some (i, v)
  | _ => none)
theorem xpairs_mem {ls : xL} {i : Nat} {v : Value} : (i, v) ∈ xpairs ls ↔ ls[i]? = some (some v) := by
  unfold xpairs
  rw [List.mem_filterMap]
  constructor
  · rintro ⟨j, hj, h⟩
    split at h
    · rename_i w hw
      cases h
      exact hw
    · cases h
  · intro h
    have hi : i < ls.length := (List.getElem?_eq_some_iff.mp h).1
    exact ⟨i, List.mem_range.mpr hi, by rw [h]⟩
theorem xlv.has {la : Array Slot} {nL : Nat} {ls : xL} (h : xlv la nL ls) : lv_has la nL (xpairs ls) := ⟨h.1, h.2.2.1, fun q hq => (h.2.2.2 q.1 q.2 (xpairs_mem.mp hq)).2⟩
theorem xlv.set {la la' : Array Slot} {nL n : Nat} {ls : xL} {v : Value} (h : xlv la nL ls) (hv : v.category = 1) (hl : lv_has la' nL ((n, v) :: (xpairs ls).filter (fun q => !(q.1 == n) && !(q.1 + 1 == n && q.2.category == 2)))) : xlv la' nL (ls.set n (some v)) := by
  obtain ⟨h1, h2, h3, h4⟩ := h
  refine ⟨hl.1, by rw [List.length_set]; exact h2, hl.2.1, fun i w hw => ?_⟩
  by_cases hi : n = i
  · subst hi
    rw [List.getElem?_set_self'] at hw
    have hw2 : v = w := by
      cases hq : ls[n]? with
      | none => rw [hq] at hw; cases hw
      | some z => rw [hq] at hw; simpa using hw
    subst hw2
    exact ⟨hv, hl.2.2 (n, v) List.mem_cons_self⟩
  · rw [List.getElem?_set_ne hi] at hw
    obtain ⟨g1, g2⟩ := h4 i w hw
    refine ⟨g1, hl.2.2 (i, w) (List.mem_cons_of_mem _ (List.mem_filter.mpr ⟨xpairs_mem.mpr hw, ?_⟩))⟩
    have e1 : (i == n) = false := by simpa using fun q => hi q.symm
    have e2 : (w.category == 2) = false := by rw [g1]; rfl
    simp [e1, e2]
theorem xargs_mem : ∀ (A : List Value) (n : Nat), (∀ v ∈ A, v.category = 1) → ∀ (i : Nat) (v : Value), A[i]? = some v → (n + i, v) ∈ lv_args n A
  | [], n, _, i, v, h => by simp at h
  | w :: A, n, hc, i, v, h => by
    have hw : ¬ w.category = 2 := by rw [hc w List.mem_cons_self]; decide
    rw [lv_args, if_neg hw]
    cases i with
    | zero =>
      simp at h
      subst h
      exact List.mem_cons_self
    | succ i =>
      have := xargs_mem A (n + 1) (fun v hv => hc v (List.mem_cons_of_mem _ hv)) i v (by simpa using h)
      rw [show n + (i + 1) = n + 1 + i by omega]
      exact List.mem_cons_of_mem _ this
theorem xsl_len : ∀ (A : List Value), (∀ v ∈ A, v.category = 1) → (lg_sl A).length = A.length
  | [], _ => rfl
  | w :: A, hc => by
    have hw : ¬ w.category = 2 := by rw [hc w List.mem_cons_self]; decide
    have := xsl_len A (fun v hv => hc v (List.mem_cons_of_mem _ hv))
    unfold lg_sl at this ⊢
    rw [List.flatMap_cons, if_neg hw, List.length_append, this]
    simp
    omega
theorem xlv_entry (A : List Value) {n : Nat} (hc : ∀ v ∈ A, v.category = 1) (hn : A.length ≤ n) : xlv ((lg_sl A ++ List.replicate (n - (lg_sl A).length) Slot.unset).toArray) n (A.map some ++ List.replicate (n - A.length) none) := by
  have hs := xsl_len A hc
  have hl := lv_entry A (n := n) (by rw [hs]; exact hn)
  refine ⟨hl.1, by simp; omega, hl.2.1, fun i v hv => ?_⟩
  have hi : A[i]? = some v := by
    by_cases h : i < A.length
    · rw [List.getElem?_append_left (by simpa using h), List.getElem?_map] at hv
      cases hq : A[i]? with
      | none => rw [hq] at hv; cases hv
      | some w => rw [hq] at hv; simpa using hv
    · rw [List.getElem?_append_right (by simpa using h)] at hv
      have := List.mem_of_getElem? hv
      rw [List.mem_replicate] at this
      cases this.2
  refine ⟨hc v (List.mem_of_getElem? hi), ?_⟩
  have := xargs_mem A 0 hc i v hi
  rw [Nat.zero_add] at this
  exact hl.2.2 (i, v) this
def xst1 (st : List Value) : Prop := ∀ v ∈ st, v.category = 1
theorem xst1_c {v : Value} {st : List Value} (hv : v.category = 1) (h : xst1 st) : xst1 (v :: st) := fun w hw => by
  rcases List.mem_cons.mp hw with rfl | hw
  · exact hv
  · exact h w hw
theorem xst1_t {v : Value} {st : List Value} (h : xst1 (v :: st)) : xst1 st := fun w hw => h w (List.mem_cons_of_mem _ hw)
theorem xst1_a {A B : List Value} (h : xst1 (A ++ B)) : xst1 A ∧ xst1 B := ⟨fun v hv => h v (List.mem_append_left _ hv), fun v hv => h v (List.mem_append_right _ hv)⟩
theorem xst1_j {A B : List Value} (h : xst1 A) (h2 : xst1 B) : xst1 (A ++ B) := fun v hv => (List.mem_append.mp hv).elim (h v) (h2 v)
theorem xrf_cat (r : Option Nat) : (va_rf r).category = 1 := by cases r <;> rfl
theorem xval_cat (h : xH) (c a k : Nat) : (xval h c a k).category = 1 := by
  unfold xval
  split
  · exact xrf_cat _
  · rfl
theorem xar_ok : (List.range xNM).all (fun y => decide ((xM y).2.2.2.2.2.2 + (if (xM y).2.2.2.2.2.1 = 2 then 0 else 1) ≤ (xM y).2.2.1)) = true := by decide +kernel
end
section
/-! a run that ends has an end, and cells only come -/
def xlive (Q : Option Value → xH → Prop) (h : xH) : Prop := ∃ r h', Q r h' ∧ h.2.2.2.1 ≤ h'.2.2.2.1 ∧ h.2.2.2.2 ≤ h'.2.2.2.2
theorem xlive_g {Q : Option Value → xH → Prop} {h h1 : xH} (e : xlive Q h1) (a : h.2.2.2.1 ≤ h1.2.2.2.1) (b : h.2.2.2.2 ≤ h1.2.2.2.2) : xlive Q h := by
  obtain ⟨r, h', q, q1, q2⟩ := e
  exact ⟨r, h', q, Nat.le_trans a q1, Nat.le_trans b q2⟩
theorem xins_live {C : xCT} {d own : Nat} {ret : Option FieldType} {ini : Bool} {Q : Option Value → xH → Prop} (hC : ∀ y A h P, C y A h P → xlive P h) {i : Instr} {len pc : Nat} {ls : xL} {st : List Value} {h : xH}
    (hs : xins C d own ret ini Q (fun _ _ _ h => xlive Q h) i len pc ls st h) : xlive Q h := by
  cases i with
  | iconst n => obtain ⟨_a0, z⟩ := hs; exact z
  | bipush n => obtain ⟨_a0, z⟩ := hs; exact z
  | sipush n => obtain ⟨_a0, z⟩ := hs; exact z
  | iload n => obtain ⟨_a0, _a1, _a2, z⟩ := hs; exact z
  | iload_n n => obtain ⟨_a0, _a1, _a2, z⟩ := hs; exact z
  | aload n => obtain ⟨_a0, _a1, _a2, z⟩ := hs; exact z
  | aload_n n => obtain ⟨_a0, _a1, _a2, z⟩ := hs; exact z
  | istore n => obtain ⟨_a0, _a1, _a2, _a3, _a4, z⟩ := hs; exact z
  | istore_n n => obtain ⟨_a0, _a1, _a2, _a3, _a4, z⟩ := hs; exact z
  | astore n => obtain ⟨_a0, _a1, _a2, _a3, _a4, z⟩ := hs; exact z
  | astore_n n => obtain ⟨_a0, _a1, _a2, _a3, _a4, z⟩ := hs; exact z
  | iinc n c => obtain ⟨_a0, _a1, _a2, z⟩ := hs; exact z
  | iadd => obtain ⟨_a0, _a1, _a2, _a3, _a4, z⟩ := hs; exact z
  | isub => obtain ⟨_a0, _a1, _a2, _a3, _a4, z⟩ := hs; exact z
  | imul => obtain ⟨_a0, _a1, _a2, _a3, _a4, z⟩ := hs; exact z
  | iand => obtain ⟨_a0, _a1, _a2, _a3, _a4, z⟩ := hs; exact z
  | idiv => obtain ⟨_a0, _a1, _a2, _a3, _a4, _a5, z⟩ := hs; exact z
  | irem => obtain ⟨_a0, _a1, _a2, _a3, _a4, _a5, z⟩ := hs; exact z
  | dup => obtain ⟨_a0, _a1, _a2, _a3, _a4, z⟩ := hs; exact z
  | dup2 => obtain ⟨_a0, _a1, _a2, _a3, _a4, _a5, _a6, z⟩ := hs; exact z
  | goto off => obtain ⟨_a0, _a1, _a2, z⟩ := hs; exact z
  | getfield idx => obtain ⟨_a0, _a1, _a2, _a3, _a4, _a5, _a6, _a7, z⟩ := hs; exact z
  | iaload => obtain ⟨_a0, _a1, _a2, _a3, _a4, _a5, _a6, _a7, z⟩ := hs; exact z
  | baload => obtain ⟨_a0, _a1, _a2, _a3, _a4, _a5, _a6, _a7, z⟩ := hs; exact z
  | aaload => obtain ⟨_a0, _a1, _a2, _a3, _a4, _a5, _a6, _a7, z⟩ := hs; exact z
  | arraylength => obtain ⟨_a0, _a1, _a2, _a3, _a4, _a5, z⟩ := hs; exact z
  | iastore => obtain ⟨_a0, _a1, _a2, _a3, _a4, _a5, _a6, _a7, _a8, z⟩ := hs; exact z
  | bastore => obtain ⟨_a0, _a1, _a2, _a3, _a4, _a5, _a6, _a7, _a8, _a9, z⟩ := hs; exact z
  | aastore => obtain ⟨_a0, _a1, _a2, _a3, _a4, _a5, _a6, _a7, _a8, _a9, z⟩ := hs; exact z
  | new idx => obtain ⟨_a0, _a1, _a2, z⟩ := hs; exact xlive_g z (Nat.le_add_right _ _) (Nat.le_add_right _ _)
  | anewarray idx => obtain ⟨_a0, _a1, _a2, _a3, _a4, _a5, z⟩ := hs; exact xlive_g z (Nat.le_add_right _ _) (Nat.le_add_right _ _)
  | ifCond c off =>
    obtain ⟨a0, x, a2, a3, a4, a5, a6, a7⟩ := hs
    by_cases q : xcd c x 0
    · exact a6 q
    · exact a7 q
  | if_icmp c off =>
    obtain ⟨a0, x, y, a2, a3, a4, a5, a6, a7⟩ := hs
    by_cases q : xcd c x y
    · exact a6 q
    · exact a7 q
  | tableswitch dflt lo hi offs =>
    obtain ⟨x, a1, a2, a3, a4⟩ := hs
    by_cases q : x.toInt < lo ∨ hi < x.toInt
    · obtain ⟨t, b1, z⟩ := a3 q; exact z
    · obtain ⟨o, t, b1, b2, z⟩ := a4 (fun w => q (Or.inl w)) (fun w => q (Or.inr w)); exact z
  | putfield idx =>
    obtain ⟨a0, c, k, a1, a2, a3⟩ := hs
    rcases a3 with ⟨b0, b1, b2, b3, b4, b5, z⟩ | ⟨b0, b1, b2, b3, b4, b5, b6, z⟩ | ⟨b0, b1, b2, b3, b4, b5, z⟩ <;> exact z
  | newarray t =>
    obtain ⟨a0, n, r, a1, a2, a3⟩ := hs
    rcases a3 with ⟨b0, z⟩ | ⟨b0, z⟩ <;> exact xlive_g z (Nat.le_add_right _ _) (Nat.le_add_right _ _)
  | invokevirtual idx =>
    obtain ⟨a0, y, As, b, r, a1, a2, a3, a4, a5, a6, a7, z⟩ := hs
    obtain ⟨v, h1, z1, z2, z3⟩ := hC _ _ _ _ z
    exact xlive_g z1 z2 z3
  | invokestatic idx =>
    obtain ⟨a0, a1⟩ := hs
    rcases a1 with ⟨y, b, As, r, b1, b2, b3, b4, b5, z⟩ | ⟨b0, b1, x, y, r, b2, b3, z⟩ | ⟨b0, b1, n, dp, sp, a, b, r, N, M, c1, c2, c3, c4, c5, c6, c7, c8, c9, z⟩
    · obtain ⟨v, h1, z1, z2, z3⟩ := hC _ _ _ _ z
      exact xlive_g z1 z2 z3
    · exact z
    · exact z
  | invokespecial idx =>
    obtain ⟨a0, a1⟩ := hs
    rcases a1 with ⟨y, As, b, r, b1, b2, b3, b4, b5, z⟩ | ⟨b0, b1, a, r, b2, b3, z⟩
    · obtain ⟨v, h1, z1, z2, z3⟩ := hC _ _ _ _ z
      exact xlive_g z1.2 z2 z3
    · exact z
  | ireturn => obtain ⟨a0, v, a1, a2, z⟩ := hs; exact ⟨_, _, z, Nat.le_refl _, Nat.le_refl _⟩
  | return_ => obtain ⟨a0, a1, a2, z⟩ := hs; exact ⟨_, _, z, Nat.le_refl _, Nat.le_refl _⟩
  | _ => exact False.elim hs
theorem xw_live {C : xCT} {d own : Nat} {cc : ByteArray} {ret : Option FieldType} {ini : Bool} {Q : Option Value → xH → Prop} (hC : ∀ y A h P, C y A h P → xlive P h) {pc : Nat} {ls : xL} {st : List Value} {h : xH} (hs : xw C d own cc ret ini Q pc ls st h) : xlive Q h := by
  refine hs (fun _ _ _ h => xlive Q h) (fun pc ls st h q => ?_)
  unfold xstp at q
  cases hd : decode cc pc with
  | error e => rw [hd] at q; exact False.elim q
  | ok r =>
    rw [hd] at q
    obtain ⟨i, len⟩ := r
    exact xins_live hC q
theorem xC_live : ∀ (d y : Nat) (A : List Value) (h : xH) (P : Option Value → xH → Prop), xC d y A h P → xlive P h
  | 0, y, A, h, P, ⟨mc, ms, z⟩ => by
    obtain ⟨r, h', q, q1, q2⟩ := xw_live (fun _ _ _ _ q => False.elim q) z
    exact ⟨r, h', q.2.2, q1, q2⟩
  | d + 1, y, A, h, P, ⟨mc, ms, z⟩ => by
    obtain ⟨r, h', q, q1, q2⟩ := xw_live (xC_live d) z
    exact ⟨r, h', q.2.2, q1, q2⟩
theorem xCd_live (d : Nat) : ∀ y A h P, xCd d y A h P → xlive P h := by
  cases d with
  | zero => intro y A h P q; exact False.elim q
  | succ d => exact xC_live d
end
section
theorem xdecl_a : ((List.range 6).all fun c => (List.range (xN c)).all fun k => decide ((xT c k).1 = xR c)) = true := by decide +kernel
theorem xdecl (c : Nat) (hc : c < 6) (k : Nat) (hk : k < xN c) : (xT c k).1 = xR c := by
  have h := List.all_eq_true.mp (List.all_eq_true.mp xdecl_a c (List.mem_range.mpr hc)) k (List.mem_range.mpr hk)
  simpa only [decide_eq_true_eq] using h
theorem xft_0 {c k : Nat} (h : xft c k = 0) : xty c k = .int := by
  unfold xft at h
  split at h
  · assumption
  · cases h
  · cases h
theorem xft_1 {c k : Nat} (h : xft c k = 1) : xty c k = .boolean := by
  unfold xft at h
  split at h
  · cases h
  · assumption
  · cases h
def xisref (t : FieldType) : Bool := match t with
  | .object _ => true
  | .array _ => true
  | _ => false
theorem xft_a : ((List.range 6).all fun c => (List.range (xN c)).all fun k => xft c k != 2 || xisref (xty c k)) = true := by decide +kernel
theorem xft_b : ((List.range 6).all fun c => (List.range (xN c)).all fun k => xft c k == 2 || (xty c k == .int || xty c k == .boolean)) = true := by decide +kernel
theorem xft_2 {c k : Nat} (hc : c < 6) (hk : k < xN c) (h : xft c k = 2) (b : Nat) : narrow (xty c k) (.ref b) = .ref b ∧ fits (xty c k) (.ref b) = true := by
  have h1 := List.all_eq_true.mp (List.all_eq_true.mp xft_a c (List.mem_range.mpr hc)) k (List.mem_range.mpr hk)
  rw [h] at h1
  cases ht : xty c k <;> rw [ht] at h1 <;> first | exact ⟨rfl, rfl⟩ | (simp [xisref] at h1)
theorem xdef {c k a : Nat} {h : xH} (hc : c < 6) (hk : k < xN c) (hI : h.2.1 a k = 0) (hP : h.2.2.1 a k = none) : defaultValue (xty c k) = xval h c a k := by
  unfold xval
  by_cases h2 : xft c k = 2
  · rw [if_pos h2, hP]
    have h1 := List.all_eq_true.mp (List.all_eq_true.mp xft_a c (List.mem_range.mpr hc)) k (List.mem_range.mpr hk)
    rw [h2] at h1
    cases ht : xty c k <;> rw [ht] at h1 <;> first | rfl | (simp [xisref] at h1)
  · rw [if_neg h2, hI]
    have h1 := List.all_eq_true.mp (List.all_eq_true.mp xft_b c (List.mem_range.mpr hc)) k (List.mem_range.mpr hk)
    simp only [Bool.or_eq_true, beq_iff_eq] at h1
    rcases h1 with h1 | h1 | h1
    · exact absurd h1 h2
    · rw [h1]; rfl
    · rw [h1]; rfl
end
section
/-! the abstract machine's runs are the machine's -/
def xPc (D : xD) (lo : Nat) (h : xH) (A : List Value) : Array Value → State → Prop := fun v U => v = A.toArray ∧ xRep D lo h U.heap ∧ xKn D U
def xQc (D : xD) (lo : Nat) (Q : Option Value → xH → Prop) : Array Value → State → Outcome → State → Prop := fun _ st oc t => (∃ (r : Option Value) (h' : xH), oc = .returned r ∧ xRep D lo h' t.heap ∧ Q r h' ∧ ∀ v, r = some v → v.category = 1) ∧ ∀ q : Nat, q < lo → t.heap[q]? = st.heap[q]?
abbrev xrm (d mc ms : Nat) : Room := { frames := d, cells := mc, slots := ms, locals := 40 * d }
def xws (y : Nat) : List Cond := .code (xM y).1 (xM y).2.1 (xM y).2.2.1 (xM y).2.2.2.1 :: xWT
theorem xWT_good {w : Cond} (h : w ∈ xWT) : goodWord w = true := (List.mem_filter.mp h).2
theorem xfacts {y : Nat} (hy : y < xNM) : (Cond.code (xM y).1 (xM y).2.1 (xM y).2.2.1 (xM y).2.2.2.1 ∈ xWT ∧ Cond.initialized (xM y).1.cls ∈ xWT) ∧ ((xM y).2.2.2.2.2.1 = 2 → Cond.static (xM y).1 ∈ xWT) ∧ (¬ (xM y).2.2.2.2.2.1 = 2 → Cond.instanceMethod (xM y).1 ∈ xWT) ∧ ((xM y).2.2.2.2.2.1 = 0 → Cond.selects (xM y).1.cls (xM y).1 (xM y).1 ∈ xWT) ∧
    ((xM y).2.2.2.2.2.1 = 1 → (xM y).1.name = "<init>" ∧ (xM y).2.2.2.1 = none) ∧ (xM y).1.cls = xR (xM y).2.2.2.2.1 ∧ (xM y).1.cls ≠ "java/lang/invoke/MethodHandle" ∧ (xM y).1.cls ≠ "java/lang/invoke/VarHandle" ∧ plainName (xM y).1.cls = true ∧ (parseMethodDescriptor (xM y).1.desc).map (fun d => d.parameters.length) = some (xM y).2.2.2.2.2.2 ∧ (xM y).2.2.1 ≤ 13 := by
  have h := xchk_all y hy
  unfold xchk at h
  simp only [Bool.and_eq_true, decide_eq_true_eq] at h
  obtain ⟨⟨⟨⟨⟨⟨⟨⟨⟨⟨h1, h2⟩, h3⟩, h4⟩, h5⟩, h6⟩, h7⟩, h8⟩, h9⟩, h10⟩, h11⟩ := h
  refine ⟨⟨xok_mem h1, xok_mem h2⟩, fun q => ?_, fun q => ?_, fun q => ?_, fun q => ?_, h6, h7, h8, h9, h10, h11⟩
  · rw [if_pos q] at h3; exact xok_mem h3
  · rw [if_neg q] at h3; exact xok_mem h3
  · rw [if_pos q] at h4; exact xok_mem h4
  · rw [if_pos q] at h5; simp only [Bool.and_eq_true, decide_eq_true_eq] at h5; exact h5
theorem xws_good {y : Nat} (hy : y < xNM) : GoodIn xWT (xws y) := by
  intro w hw
  rcases List.mem_cons.mp hw with rfl | hw
  · exact ⟨(xfacts hy).1.1, good_of_word (xWT_good (xfacts hy).1.1)⟩
  · exact ⟨hw, good_of_word (xWT_good hw)⟩
theorem xlen_ok {y : Nat} (hy : y < xNM) : (xM y).2.2.2.2.2.2 + (if (xM y).2.2.2.2.2.1 = 2 then 0 else 1) ≤ (xM y).2.2.1 := by
  have := List.all_eq_true.mp xar_ok y (List.mem_range.mpr hy)
  simpa only [decide_eq_true_eq] using this
section XS
variable {p : Program} {l : Launch} {e : Env} {R : Room} {s : State} {m : MethodId} {args : Array Value} {below : List Frame} {meth : Method} {c : Code} {H : Heap} {locs : List Loc} {cells slots : Nat} {QW : State → Prop}
variable {D : xD} {lo : Nat}
/-- behind a call -/
theorem x_run {mc ms pc : Nat} {la : Array Slot} {st0 rest : List Value} {a : Array Value} {P : Option Value → xH → Prop} (hr : va_Run p l e R s m args below meth c H locs cells slots mc ms (F0 m pc la st0) rest (xQc D lo P a) (fun q => lo ≤ q)) (hF : ∀ q : Nat, q < lo → H[q]? = s.heap[q]?) (hL : ∀ q ∈ locs, lo ≤ q.base)
    (kk : ∀ (r : Option Value) (h' : xH) (H1 : Heap) (locs1 : List Loc), xRep D lo h' H1 → P r h' → (∀ q : Nat, q < lo → H1[q]? = s.heap[q]?) → (∀ q ∈ locs1, lo ≤ q.base) → xst1 r.toList → W p l e R s m args below meth c H1 locs1 (cells + mc) (slots + ms) QW (F0 m (pc + 3) la (r.toList ++ rest))) : W p l e R s m args below meth c H locs cells slots QW (F0 m pc la st0) := by
  intro T hT X
  obtain ⟨v, st₀, t, T', L, h0, X', hL', e1, e2, ⟨⟨r, h', hv, hrep, hp, hcat⟩, hk⟩, stp⟩ := hr T hT X
  cases hv
  obtain ⟨t2, a1, b1⟩ := kk v h' T'.heap (locs ++ L) (by rw [e1]; exact hrep) hp (fun q hq => by rw [e1, hk q hq, h0]; exact hF q hq) (fun q hq => by
      rcases List.mem_append.mp hq with z | z
      · exact hL q z
      · exact hL' q z) (fun w hw => hcat w (by cases v with
        | none => cases hw
        | some z => simp at hw; rw [hw])) T' rfl X'
  exact ⟨t2, stp t2 a1, b1⟩
theorem xPc_blind {h : xH} {A : List Value} : FrameBlind (xPc D lo h A) := fun a U g mk q => ⟨q.1, q.2.1, q.2.2.same (u := U) (U := U.calling g mk a) rfl⟩
theorem xPc_at {h : xH} {A : List Value} (hrep : xRep D lo h H) (hKn : xKn D s) : ∀ U : State, U.heap = H → s.WarmedH U.vm → xPc D lo h A A.toArray U := fun U hU hW => ⟨rfl, by rw [hU]; exact hrep, hKn.warm hW⟩
end XS
/-- what the simulation needs of the machine at a method's body -/
def xBody (p : Program) (s : State) (m : MethodId) (args : Array Value) (meth : Method) (c : Code) (R : Room) (D : xD) (d own : Nat) (cc : ByteArray) (nL : Nat) (ini : Bool) : Prop :=
  p.tables.exec = Jvm.exec ∧ c.code = cc ∧ c.maxLocals = nL ∧ s.vm.findClass (xR own) = some m.cls ∧ (∀ w ∈ xWT, w.before args s = true) ∧ xKn D s ∧ (ini = true → meth.name = "<init>") ∧ d ≤ R.frames ∧ 40 * d ≤ R.locals
/-- calls at depth d - 1 are met -/
def xMet (l : Launch) (D : xD) (lo d : Nat) : Prop := ∀ (y : Nat) (A : List Value) (h : xH) (P : Option Value → xH → Prop), y < xNM → xst1 A → A.length ≤ (xM y).2.2.1 → xCd d y A h P → 1 ≤ d ∧ ∃ mc ms : Nat, Met l (xM y).1 (xws y) (xrm (d - 1) mc ms) (xPc D lo h A) (xQc D lo (fun r h' => h'.2.2.2.1 = h.2.2.2.1 + mc ∧ h'.2.2.2.2 = h.2.2.2.2 + ms ∧ P r h')) mc ms (fun q => lo ≤ q) ∧ ∃ r h', h'.2.2.2.1 = h.2.2.2.1 + mc ∧ h'.2.2.2.2 = h.2.2.2.2 + ms ∧ P r h'
section XT
variable {p : Program} {l : Launch} {e : Env} {R : Room} {s : State} {m : MethodId} {args : Array Value} {below : List Frame} {meth : Method} {c : Code} {QW : State → Prop}
variable {D : xD} {lo d own nL n0 s0 mc ms : Nat} {cc : ByteArray} {ret : Option FieldType} {ini : Bool} {Q : Option Value → xH → Prop}
/-- what holds at a point of the body -/
def xSim (p : Program) (l : Launch) (e : Env) (R : Room) (s : State) (m : MethodId) (args : Array Value) (below : List Frame) (meth : Method) (c : Code) (QW : State → Prop) (D : xD) (lo nL n0 s0 : Nat) (pc : Nat) (ls : xL) (st : List Value) (h : xH) : Prop :=
  ∀ (H : Heap) (locs : List Loc) (la : Array Slot), xRep D lo h H → xlv la nL ls → xst1 st → (∀ q : Nat, q < lo → H[q]? = s.heap[q]?) → (∀ q ∈ locs, lo ≤ q.base) → n0 ≤ h.2.2.2.1 → s0 ≤ h.2.2.2.2 → W p l e R s m args below meth c H locs (h.2.2.2.1 - n0) (h.2.2.2.2 - s0) QW (F0 m pc la st)
/-- a heap of which one cell changes, by a store of the machine -/
theorem xL_one {locs : List Loc} {a i : Nat} (hL : ∀ q ∈ locs, lo ≤ q.base) (ha : lo ≤ a) : ∀ q ∈ locs ++ [(⟨a, i⟩ : Loc)], lo ≤ q.base := fun q hq => by
  rcases List.mem_append.mp hq with z | z
  · exact hL q z
  · rw [List.mem_singleton.mp z]; exact ha
theorem xF_one {H H' : Heap} {a : Nat} (hF : ∀ q : Nat, q < lo → H[q]? = s.heap[q]?) (ho : ∀ q : Nat, q ≠ a → H'[q]? = H[q]?) (ha : lo ≤ a) : ∀ q : Nat, q < lo → H'[q]? = s.heap[q]? := fun q hq => (ho q (by omega)).trans (hF q hq)
theorem xF_new {H H' : Heap} {a : Nat} (hF : ∀ q : Nat, q < lo → H[q]? = s.heap[q]?) (ho : ∀ q : Nat, q < a → H'[q]? = H[q]?) (ha : lo ≤ a) : ∀ q : Nat, q < lo → H'[q]? = s.heap[q]? := fun q hq => (ho q (by omega)).trans (hF q hq)
set_option maxHeartbeats 4000000 in
theorem xins_sim (B : xBody p s m args meth c R D d own cc nL ini) (hM : xMet l D lo d) (hRc : mc ≤ R.cells) (hRs : ms ≤ R.slots)
    (hbd : ∀ pc ls st h, xw (xCd d) d own cc ret ini Q pc ls st h → h.2.2.2.1 ≤ n0 + mc ∧ h.2.2.2.2 ≤ s0 + ms)
    (hri : ∀ (pc : Nat) (la : Array Slot) (v : Int32) (h : xH) (H : Heap) (locs : List Loc), decode cc pc = .ok (.ireturn, 1) → (ret = some .int ∨ (ret = some .boolean ∧ (v = 0 ∨ v = 1))) → Q (some (.int v)) h → xRep D lo h H → (∀ q : Nat, q < lo → H[q]? = s.heap[q]?) → (∀ q ∈ locs, lo ≤ q.base) → n0 ≤ h.2.2.2.1 → s0 ≤ h.2.2.2.2 → W p l e R s m args below meth c H locs (h.2.2.2.1 - n0) (h.2.2.2.2 - s0) QW (F0 m pc la [.int v]))
    (hrv : ∀ (pc : Nat) (la : Array Slot) (h : xH) (H : Heap) (locs : List Loc), decode cc pc = .ok (.return_, 1) → ret = none → Q none h → xRep D lo h H → (∀ q : Nat, q < lo → H[q]? = s.heap[q]?) → (∀ q ∈ locs, lo ≤ q.base) → n0 ≤ h.2.2.2.1 → s0 ≤ h.2.2.2.2 → W p l e R s m args below meth c H locs (h.2.2.2.1 - n0) (h.2.2.2.2 - s0) QW (F0 m pc la []))
    {i : Instr} {len pc : Nat} {ls : xL} {st : List Value} {h : xH} (hdg : decode cc pc = .ok (i, len))
    (hs : xins (xCd d) d own ret ini Q (fun pc ls st h => xw (xCd d) d own cc ret ini Q pc ls st h ∧ xSim p l e R s m args below meth c QW D lo nL n0 s0 pc ls st h) i len pc ls st h) : xSim p l e R s m args below meth c QW D lo nL n0 s0 pc ls st h := by
  obtain ⟨hx, hb, hml, hown, hts, hKn, hini, hfr, hlo⟩ := B
  intro H locs la hrep hlv hst1 hF hL hn0 hs0
  cases i with
  | iconst n =>
    obtain ⟨rfl, z⟩ := hs
    refine lv_iconst hx hb hdg rfl ?_
    exact z.2 H locs la hrep hlv (xst1_c rfl hst1) hF hL hn0 hs0
  | bipush n =>
    obtain ⟨rfl, z⟩ := hs
    refine lv_bipush hx hb hdg rfl ?_
    exact z.2 H locs la hrep hlv (xst1_c rfl hst1) hF hL hn0 hs0
  | sipush n =>
    obtain ⟨rfl, z⟩ := hs
    refine lv_sipush hx hb hdg rfl ?_
    exact z.2 H locs la hrep hlv (xst1_c rfl hst1) hF hL hn0 hs0
  | iload n =>
    obtain ⟨rfl, x, a1, z⟩ := hs
    refine lv_iload hx hb hdg (hlv.2.2.2 _ _ a1).2 ?_
    exact z.2 H locs la hrep hlv (xst1_c rfl hst1) hF hL hn0 hs0
  | iload_n n =>
    obtain ⟨rfl, x, a1, z⟩ := hs
    refine lv_iload_n hx hb hdg rfl (hlv.2.2.2 _ _ a1).2 ?_
    exact z.2 H locs la hrep hlv (xst1_c rfl hst1) hF hL hn0 hs0
  | istore n =>
    obtain ⟨rfl, x, r, rfl, a1, z⟩ := hs
    refine lv_istore hx hb hdg hlv.has (by rw [← hlv.2.1]; exact a1) rfl (fun la2 hl2 => ?_)
    exact z.2 H locs la2 hrep (hlv.set rfl hl2) (xst1_t hst1) hF hL hn0 hs0
  | istore_n n =>
    obtain ⟨rfl, x, r, rfl, a1, z⟩ := hs
    refine lv_istore_n hx hb hdg rfl hlv.has (by rw [← hlv.2.1]; exact a1) rfl (fun la2 hl2 => ?_)
    exact z.2 H locs la2 hrep (hlv.set rfl hl2) (xst1_t hst1) hF hL hn0 hs0
  | aload n =>
    obtain ⟨rfl, x, a1, z⟩ := hs
    refine lv_aload hx hb hdg (hlv.2.2.2 _ _ a1).2 ?_
    exact z.2 H locs la hrep hlv (xst1_c rfl hst1) hF hL hn0 hs0
  | aload_n n =>
    obtain ⟨rfl, x, a1, z⟩ := hs
    refine lv_aload_n hx hb hdg rfl (hlv.2.2.2 _ _ a1).2 ?_
    exact z.2 H locs la hrep hlv (xst1_c rfl hst1) hF hL hn0 hs0
  | astore n =>
    obtain ⟨rfl, x, r, rfl, a1, z⟩ := hs
    refine lv_astore hx hb hdg hlv.has (by rw [← hlv.2.1]; exact a1) rfl (fun la2 hl2 => ?_)
    exact z.2 H locs la2 hrep (hlv.set rfl hl2) (xst1_t hst1) hF hL hn0 hs0
  | astore_n n =>
    obtain ⟨rfl, x, r, rfl, a1, z⟩ := hs
    refine lv_astore_n hx hb hdg rfl hlv.has (by rw [← hlv.2.1]; exact a1) rfl (fun la2 hl2 => ?_)
    exact z.2 H locs la2 hrep (hlv.set rfl hl2) (xst1_t hst1) hF hL hn0 hs0
  | iinc n cst =>
    obtain ⟨rfl, x, a1, z⟩ := hs
    obtain ⟨k, hk⟩ := List.getElem?_of_mem (xpairs_mem.mpr a1)
    refine lv_iinc hx hb hdg hlv.has hk rfl (by rw [← hlv.2.1]; exact (List.getElem?_eq_some_iff.mp a1).1) rfl (fun la2 hl2 => ?_)
    exact z.2 H locs la2 hrep (hlv.set rfl hl2) hst1 hF hL hn0 hs0
  | iadd =>
    obtain ⟨rfl, x, y, r, rfl, z⟩ := hs
    refine lv_iadd hx hb hdg ?_
    exact z.2 H locs la hrep hlv (xst1_c rfl (xst1_t (xst1_t hst1))) hF hL hn0 hs0
  | isub =>
    obtain ⟨rfl, x, y, r, rfl, z⟩ := hs
    refine lv_isub hx hb hdg ?_
    exact z.2 H locs la hrep hlv (xst1_c rfl (xst1_t (xst1_t hst1))) hF hL hn0 hs0
  | imul =>
    obtain ⟨rfl, x, y, r, rfl, z⟩ := hs
    refine lv_imul hx hb hdg ?_
    exact z.2 H locs la hrep hlv (xst1_c rfl (xst1_t (xst1_t hst1))) hF hL hn0 hs0
  | iand =>
    obtain ⟨rfl, x, y, r, rfl, z⟩ := hs
    refine lv_iand hx hb hdg ?_
    exact z.2 H locs la hrep hlv (xst1_c rfl (xst1_t (xst1_t hst1))) hF hL hn0 hs0
  | idiv =>
    obtain ⟨rfl, x, y, r, rfl, a1, z⟩ := hs
    refine lv_idiv hx hb hdg a1 ?_
    exact z.2 H locs la hrep hlv (xst1_c rfl (xst1_t (xst1_t hst1))) hF hL hn0 hs0
  | irem =>
    obtain ⟨rfl, x, y, r, rfl, a1, z⟩ := hs
    refine lv_irem hx hb hdg a1 ?_
    exact z.2 H locs la hrep hlv (xst1_c rfl (xst1_t (xst1_t hst1))) hF hL hn0 hs0
  | dup =>
    obtain ⟨rfl, v, r, rfl, a1, z⟩ := hs
    refine lv_dup hx hb hdg a1 ?_
    exact z.2 H locs la hrep hlv (xst1_c a1 hst1) hF hL hn0 hs0
  | dup2 =>
    obtain ⟨rfl, v, w, r, rfl, a1, a2, z⟩ := hs
    refine lv_dup2_11 hx hb hdg a1 a2 ?_
    exact z.2 H locs la hrep hlv (xst1_c a1 (xst1_c a2 hst1)) hF hL hn0 hs0
  | ifCond cnd off =>
    obtain ⟨rfl, x, r, t, rfl, a1, kt, kf⟩ := hs
    have e1 := fun q : xcd cnd x 0 => (kt q).2 H locs la hrep hlv (xst1_t hst1) hF hL hn0 hs0
    have e2 := fun q : ¬ xcd cnd x 0 => (kf q).2 H locs la hrep hlv (xst1_t hst1) hF hL hn0 hs0
    cases cnd with
    | eq => exact lv_if_eq hx hb hdg a1 e1 e2
    | lt => exact lv_if_lt hx hb hdg a1 e1 e2
    | ge => exact lv_if_ge hx hb hdg a1 e1 e2
    | gt => exact lv_if_gt hx hb hdg a1 e1 e2
    | le => exact lv_if_le hx hb hdg a1 e1 e2
    | ne => exact lv_if_ne hx hb hdg a1 e1 (fun q => e2 (fun w => w q))
  | if_icmp cnd off =>
    obtain ⟨rfl, x, y, r, t, rfl, a1, kt, kf⟩ := hs
    have e1 := fun q : xcd cnd x y => (kt q).2 H locs la hrep hlv (xst1_t (xst1_t hst1)) hF hL hn0 hs0
    have e2 := fun q : ¬ xcd cnd x y => (kf q).2 H locs la hrep hlv (xst1_t (xst1_t hst1)) hF hL hn0 hs0
    cases cnd with
    | eq => exact lv_icmp_eq hx hb hdg a1 e1 e2
    | lt => exact lv_icmp_lt hx hb hdg a1 e1 e2
    | ge => exact lv_icmp_ge hx hb hdg a1 e1 e2
    | gt => exact lv_icmp_gt hx hb hdg a1 e1 e2
    | le => exact lv_icmp_le hx hb hdg a1 e1 e2
    | ne => exact lv_icmp_ne hx hb hdg a1 e1 (fun q => e2 (fun w => w q))
  | goto off =>
    obtain ⟨rfl, t, a1, z⟩ := hs
    exact lv_goto hx hb hdg a1 (z.2 H locs la hrep hlv hst1 hF hL hn0 hs0)
  | tableswitch dflt lw hi offs =>
    obtain ⟨x, r, rfl, ko, ki⟩ := hs
    by_cases q1 : x.toInt < lw
    · obtain ⟨t, a1, z⟩ := ko (Or.inl q1)
      exact lv_tableOut hx hb hdg (Or.inl q1) a1 (z.2 H locs la hrep hlv (xst1_t hst1) hF hL hn0 hs0)
    · by_cases q2 : hi < x.toInt
      · obtain ⟨t, a1, z⟩ := ko (Or.inr q2)
        exact lv_tableOut hx hb hdg (Or.inr q2) a1 (z.2 H locs la hrep hlv (xst1_t hst1) hF hL hn0 hs0)
      · obtain ⟨off, t, a0, a1, z⟩ := ki q1 q2
        exact lv_tableIn hx hb hdg q1 q2 a0 a1 (z.2 H locs la hrep hlv (xst1_t hst1) hF hL hn0 hs0)
  | getfield idx =>
    obtain ⟨rfl, cl, k, a, r, hf, rfl, ha, z⟩ := hs
    obtain ⟨hw, hc6, hk⟩ := xfl_ok hf
    obtain ⟨cell, q1, q2, q3, q4⟩ := (hrep.2.2 a).1.1 cl hc6 ha
    obtain ⟨hS, hfc, kC, hkC, hkind⟩ := hKn.1 cl hc6
    obtain ⟨cf, kf, fi, f, hi, hsl⟩ := hS k hk
    refine W.getf hx hb hown (hts _ hw) hi (u_facts hfc hkC (u_lays hts (xIn hc6) hk) hi).1 q1 (by rw [q3]; exact fun h => by cases h) (v := xval h cl a k) (by rw [hsl]; exact q4 k hk) rfl rfl hdg ?_
    exact z.2 H locs la hrep hlv (xst1_c (xval_cat h cl a k) (xst1_t hst1)) hF hL hn0 hs0
  | putfield idx =>
    obtain ⟨rfl, cl, k, hf, hfin, hs⟩ := hs
    obtain ⟨hw, hc6, hk⟩ := xfl_ok hf
    obtain ⟨hS, hfc, kC, hkC, hkind⟩ := hKn.1 cl hc6
    obtain ⟨cf, kf, fi, f, hi, hsl⟩ := hS k hk
    have hst := (u_facts hfc hkC (u_lays hts (xIn hc6) hk) hi).1
    have hap : ∀ x y, x < xN cl → y < xN cl → x ≠ y → D.2.1 cl x ≠ D.2.1 cl y := by
      intro x y hx' hy' hne
      obtain ⟨_, _, _, fa, hia, ea⟩ := hS x hx'
      obtain ⟨_, _, _, fb, hib, eb⟩ := hS y hy'
      rw [← ea, ← eb]
      refine u_apart (u_lays hts (xIn hc6) hx') (u_lays hts (xIn hc6) hy') hia hib ?_
      rw [(State.fieldFound?_type hia (xty_ok cl hc6 x hx')).1, (State.fieldFound?_type hib (xty_ok cl hc6 y hy')).1]
      exact xnm_ok cl hc6 x hx' y hy' hne
    have key : ∀ (v : Value) (a : Nat) (r : List Value) (h2 : xH), narrow (xty cl k) v = v → fits (xty cl k) v = true → (h.1 a).1 = cl + 1 → h2.1 = h.1 → h2.2.2.2 = h.2.2.2 → (∀ b, b ≠ a → h2.2.1 b = h.2.1 b) → (∀ b, b ≠ a → h2.2.2.1 b = h.2.2.1 b) → (∀ j, xval h2 cl a j = if j = k then v else xval h cl a j) →
        xSim p l e R s m args below meth c QW D lo nL n0 s0 (pc + 3) ls r h2 → xst1 r → W p l e R s m args below meth c H locs (h.2.2.2.1 - n0) (h.2.2.2.2 - s0) QW (F0 m pc la (v :: .ref a :: r)) := by
      intro v a r h2 hnv hfit ha e1 e2 e3 e4 e5 z hr1
      obtain ⟨cell, q1, q2, q3, q4⟩ := (hrep.2.2 a).1.1 cl hc6 ha
      have hla : lo ≤ a := ((hrep.2.2 a).2 (by rw [ha]; omega)).2 (by rw [ha]; omega)
      have fin : ∀ H' : Heap, H'[a]? = some (cell.setSlot f.slot v) → H'.size = H.size → (∀ q, q ≠ a → H'[q]? = H[q]?) → W p l e R s m args below meth c H' (locs ++ [⟨a, f.slot⟩]) (h.2.2.2.1 - n0) (h.2.2.2.2 - s0) QW (F0 m (pc + 3) la r) := by
        intro H' g1 g2 g3
        rw [← e2]
        have hob : t_OB a (D.1 cl) (xN cl) (D.2.1 cl) H' (xval h2 cl a) := by
          refine t_OB.to (V := updV (xval h cl a) k v) ⟨_, g1, q2, q3, ?_⟩ (fun j _ => by rw [e5 j]; rfl)
          rw [hsl]
          exact t_set q4 hap hk v
        refine z H' _ la (xRep_upd hrep e1 (by rw [e2]) e3 e4 g2 g3 (xcell_ob hc6 (by rw [e1]; exact ha) hob)) hlv hr1 (xF_one hF g3 hla) (xL_one hL hla) (by rw [e2]; exact hn0) (by rw [e2]; exact hs0)
      have hlay := hts _ (xIn hc6 _ (u_in_lay hk))
      have hty := xty_ok cl hc6 k hk
      by_cases hq : (xT cl k).2.2.2 = true
      · obtain ⟨hi1, rfl⟩ := hfin hq
        unfold u_lay at hlay
        rw [if_pos hq] at hlay
        have hcf : m.cls = cf := by
          obtain ⟨_, _, c', _, _, _, -, -, hf', -, -, -, hown2, -⟩ := Cond.laysFinal_spec hlay
          have e1 : c' = cf := by have := hi.symm.trans hf'; simp at this; exact this.1.symm
          have hdecl : (xT own k).1 = xR own := (xdecl own hc6 k hk)
          rw [hdecl] at hown2
          rw [← e1]; exact Option.some.inj (hown.symm.trans hown2)
        refine W.putFinK hx hb hown (hts _ hw) hi hst hcf (hini hi1) (by rw [q2]; exact u_fits hfc hkC hkind (Or.inr hlay) hi hty hnv hfit) q1 q3 (by rw [hsl]; exact k2_hasslot (q4 k hk)) rfl rfl hdg fin
      · unfold u_lay at hlay
        rw [if_neg hq] at hlay
        exact W.putK hx hb (f := f) ⟨hown, hts _ hw, ⟨_, _, _, hi⟩, hst⟩ (by rw [q2]; exact u_store hfc hkC hkind hlay hi hty hnv hfit) q1 q3 (by rw [hsl]; exact k2_hasslot (q4 k hk)) rfl rfl hdg fin
    rcases hs with ⟨b0, x, a, r, rfl, ha, z⟩ | ⟨b0, x, a, r, rfl, hx01, ha, z⟩ | ⟨b0, b, a, r, rfl, ha, z⟩
    · have ht : xty cl k = .int := xft_0 b0
      refine key (.int x) a r (h.1, xuI h.2.1 a k x, h.2.2) (by rw [ht]; rfl) (by rw [ht]; rfl) ha rfl rfl (fun b hb => xuI_ne hb) (fun _ _ => rfl) (fun j => ?_) z.2 (xst1_t (xst1_t hst1))
      by_cases hj : j = k
      · subst hj
        rw [if_pos rfl, xval, if_neg (by rw [b0]; decide)]
        simp [xuI]
      · rw [if_neg hj]
        simp only [xval, xuI, hj, and_false, if_false]
    · have ht : xty cl k = .boolean := xft_1 b0
      refine key (.int x) a r (h.1, xuI h.2.1 a k x, h.2.2) (by rw [ht]; rcases hx01 with rfl | rfl <;> rfl) (by rw [ht]; rcases hx01 with rfl | rfl <;> rfl) ha rfl rfl (fun b hb => xuI_ne hb) (fun _ _ => rfl) (fun j => ?_) z.2 (xst1_t (xst1_t hst1))
      by_cases hj : j = k
      · subst hj
        rw [if_pos rfl, xval, if_neg (by rw [b0]; decide)]
        simp [xuI]
      · rw [if_neg hj]
        simp only [xval, xuI, hj, and_false, if_false]
    · have ht : (narrow (xty cl k) (.ref b) = .ref b) ∧ fits (xty cl k) (.ref b) = true := xft_2 hc6 hk b0 b
      refine key (.ref b) a r (h.1, h.2.1, xuP h.2.2.1 a k (some b), h.2.2.2) ht.1 ht.2 ha rfl rfl (fun _ _ => rfl) (fun b hb => xuP_ne hb) (fun j => ?_) z.2 (xst1_t (xst1_t hst1))
      by_cases hj : j = k
      · subst hj
        rw [if_pos rfl, xval, if_pos b0]
        simp [xuP, va_rf]
      · rw [if_neg hj]
        simp only [xval, xuP, hj, and_false, if_false]
  | iaload =>
    obtain ⟨rfl, j, a, r, N, rfl, ha, hj, z⟩ := hs
    have hlt : j.toNatClampNeg < N := Nat.not_le.mp fun q => hj (Or.inr q)
    rcases ha with ha | ha
    · refine W.iald (v := .int (h.2.1 a j.toNatClampNeg)) hx hb ((hrep.2.2 a).1.2.1 N ha) (hKn.2.1.1 N _) (fun q => by cases q) (by rw [arrV_size]; exact hj) (by rw [arrV_read _ _ hlt]) rfl rfl hdg ?_
      exact z.2 H locs la hrep hlv (xst1_c rfl (xst1_t (xst1_t hst1))) hF hL hn0 hs0
    · obtain ⟨scr, g1, g2, g3, g4, g5, g6⟩ := (hrep.2.2 a).1.2.2.2.2 N ha
      obtain ⟨k1, cm, k2, k3⟩ := hKn.2.2.2.2.2.2
      refine W.iald (v := .int (h.2.1 a j.toNatClampNeg)) hx hb g1 ⟨g3, k1, by rw [g2]; exact k2, cm, k3⟩ g4 (by rw [g5]; exact hj) (g6 _ hlt) rfl rfl hdg ?_
      exact z.2 H locs la hrep hlv (xst1_c rfl (xst1_t (xst1_t hst1))) hF hL hn0 hs0
  | baload =>
    obtain ⟨rfl, j, a, r, N, rfl, ha, hj, z⟩ := hs
    have hlt : j.toNatClampNeg < N := Nat.not_le.mp fun q => hj (Or.inr q)
    refine W.zald (v := .int (h.2.1 a j.toNatClampNeg)) hx hb ((hrep.2.2 a).1.2.2.1 N ha) (hKn.2.2.1.1 N _) (fun q => by cases q) (by rw [arrV_size]; exact hj) (by rw [arrV_read _ _ hlt]) rfl rfl hdg ?_
    exact z.2 H locs la hrep hlv (xst1_c rfl (xst1_t (xst1_t hst1))) hF hL hn0 hs0
  | aaload =>
    obtain ⟨rfl, j, a, r, N, rfl, ha, hj, z⟩ := hs
    have hlt : j.toNatClampNeg < N := Nat.not_le.mp fun q => hj (Or.inr q)
    refine W.aald (v := va_rf (h.2.2.1 a j.toNatClampNeg)) (ty := .object RX2) hx hb ((hrep.2.2 a).1.2.2.2.1 N ha) (hKn.2.2.2.1.1 N _) rfl (fun q => by cases q) (by rw [arrV_size]; exact hj) (by rw [arrV_read _ _ hlt]) rfl rfl hdg ?_
    exact z.2 H locs la hrep hlv (xst1_c (xrf_cat _) (xst1_t (xst1_t hst1))) hF hL hn0 hs0
  | iastore =>
    obtain ⟨rfl, x, j, a, r, N, rfl, ha, hj, z⟩ := hs
    have hla : lo ≤ a := ((hrep.2.2 a).2 (by rw [ha]; simp)).2 (by rw [ha]; simp)
    refine W.iast hx hb ((hrep.2.2 a).1.2.1 N ha) (hKn.2.1.1 N _) (fun q => by cases q) (by rw [arrV_size]; exact hj) rfl rfl hdg fun H1 g1 g2 g3 => ?_
    refine z.2 H1 _ la (xRep_upd hrep rfl rfl (fun b hb => xuI_ne hb) (fun _ _ => rfl) g2 g3 (xcell_i ha ?_)) hlv (xst1_t (xst1_t (xst1_t hst1))) (xF_one hF g3 hla) (xL_one hL hla) hn0 hs0
    rw [g1, arrV_store]
    congr 2
    funext q
    by_cases hq : q = j.toNatClampNeg
    · subst hq; simp [updV, xuI]
    · simp [updV, xuI, hq]
  | bastore =>
    obtain ⟨rfl, x, j, a, r, N, rfl, hx01, ha, hj, z⟩ := hs
    have hla : lo ≤ a := ((hrep.2.2 a).2 (by rw [ha]; simp)).2 (by rw [ha]; simp)
    refine W.zast hx hb ((hrep.2.2 a).1.2.2.1 N ha) (hKn.2.2.1.1 N _) (fun q => by cases q) (by rw [arrV_size]; exact hj) rfl rfl hdg fun H1 g1 g2 g3 => ?_
    refine z.2 H1 _ la (xRep_upd hrep rfl rfl (fun b hb => xuI_ne hb) (fun _ _ => rfl) g2 g3 (xcell_z ha ?_)) hlv (xst1_t (xst1_t (xst1_t hst1))) (xF_one hF g3 hla) (xL_one hL hla) hn0 hs0
    have hnx : narrow .boolean (.int x) = .int x := by rcases hx01 with rfl | rfl <;> rfl
    rw [g1, hnx, arrV_store]
    congr 2
    funext q
    by_cases hq : q = j.toNatClampNeg
    · subst hq; simp [updV, xuI]
    · simp [updV, xuI, hq]
  | aastore =>
    obtain ⟨rfl, b, j, a, r, N, rfl, ha, hj, hb3, z⟩ := hs
    have hla : lo ≤ a := ((hrep.2.2 a).2 (by rw [ha]; simp)).2 (by rw [ha]; simp)
    have hlt : j.toNatClampNeg < N := Nat.not_le.mp fun q => hj (Or.inr q)
    have h0 : ¬ j < 0 := fun q => hj (Or.inl q)
    obtain ⟨cellV, g1, g2, g3, -⟩ := (hrep.2.2 b).1.1 2 (by decide) hb3
    have hcls := (hKn.1 2 (by decide)).2
    obtain ⟨kA, comp, k1, k2, k3, -⟩ := hKn.2.2.2.1.2
    have hcomp : comp = D.1 2 := Option.some.inj (k3.symm.trans hcls.1)
    subst hcomp
    obtain ⟨kC, hkC, -⟩ := hcls.2
    refine W.aast hx hb ((hrep.2.2 a).1.2.2.2.1 N ha) (fun q h => by cases h) (fun h => by cases h) k1 k2 rfl hkC ⟨h0, by rw [arrV_size]; exact hlt⟩ g1 (fun q h => by rw [g3] at h; cases h) (by rw [g2]; exact hkC) (by rw [g2]; exact va_assign hcls) rfl rfl hdg fun H1 f1 f2 f3 => ?_
    refine z.2 H1 _ la (xRep_upd hrep rfl rfl (fun _ _ => rfl) (fun b hb => xuP_ne hb) f2 f3 (xcell_m ha ?_)) hlv (xst1_t (xst1_t (xst1_t hst1))) (xF_one hF f3 hla) (xL_one hL hla) hn0 hs0
    rw [f1, arrV_store]
    congr 2
    funext q
    by_cases hq : q = j.toNatClampNeg
    · subst hq; simp [updV, xuP, va_rf]
    · simp [updV, xuP, hq]
  | arraylength =>
    obtain ⟨rfl, a, r, N, rfl, ha, z⟩ := hs
    rcases ha with ha | ha
    · refine W.alen (n := nI N) hx hb ((hrep.2.2 a).1.2.1 N ha) (hKn.2.1.1 N _) (by rw [arrV_size]; rfl) rfl rfl hdg ?_
      exact z.2 H locs la hrep hlv (xst1_c rfl (xst1_t hst1)) hF hL hn0 hs0
    · obtain ⟨scr, g1, g2, g3, g4, g5, g6⟩ := (hrep.2.2 a).1.2.2.2.2 N ha
      obtain ⟨k1, cm, k2, k3⟩ := hKn.2.2.2.2.2.2
      refine W.alen (n := nI N) (ty := .int) hx hb g1 ⟨g3, k1, by rw [g2]; exact k2, cm, k3⟩ (by rw [g5]; rfl) rfl rfl hdg ?_
      exact z.2 H locs la hrep hlv (xst1_c rfl (xst1_t hst1)) hF hL hn0 hs0
  | new idx =>
    obtain ⟨rfl, cl, hcl, z⟩ := hs
    obtain ⟨w1, w2, w3, hc6⟩ := xcl_ok hcl
    have hkn := hKn.1 cl hc6
    obtain ⟨b1, b2⟩ := hbd _ _ _ _ z.1
    simp only at b1 b2
    refine W.newcK hx hb hown (hts _ w1) (hts _ w2) (hts _ w3) rfl hdg (by omega) (by omega) hkn.2.1 hrep.1 fun H1 kC hkC g1 g2 g3 => ?_
    refine W.cs (cells' := h.2.2.2.1 + 1 - n0) (slots' := h.2.2.2.2 + xN cl - s0) (by omega) (by omega) ?_
    have hob := u_born (xty cl) hts (xIn hc6) hkn hkC g1 (xty_ok cl hc6)
    refine z.2 H1 locs la (xRep_new hrep (fun b hb => xuK_ne hb) rfl (fun b hb => xuR_ne hb) (fun b hb => xuQ_ne hb) g2 g3 (xcell_ob hc6 (by simp [xuK]) (hob.to (fun k hk => ?_)))) hlv (xst1_c rfl hst1) (xF_new hF g3 hrep.2.1) hL (by simp only; omega) (by simp only; omega)
    exact xdef hc6 hk (by simp [xuR]) (by simp [xuQ])
  | newarray t =>
    obtain ⟨rfl, n, r, rfl, hn, hs⟩ := hs
    have c1 : ¬ nI n < 0 := nI_pos (by omega)
    have c2 : (nI n).toNatClampNeg = n := nI_clamp (by omega)
    rcases hs with ⟨rfl, z⟩ | ⟨rfl, z⟩
    · obtain ⟨b1, b2⟩ := hbd _ _ _ _ z.1
      simp only at b1 b2
      refine va_newaK (atype := .int) hx hb (hts _ xarrI) rfl hdg rfl c1 c2 (by show n * 4 ≤ _; omega) (by omega) (by omega) hrep.1 fun H1 cA g1 g2 g3 g4 g5 => ?_
      refine W.cs (cells' := h.2.2.2.1 + 1 - n0) (slots' := h.2.2.2.2 + n - s0) (by omega) (by omega) ?_
      have hcA : cA = D.2.2.1 := Option.some.inj (g5.symm.trans hKn.2.1.2)
      subst hcA
      refine z.2 H1 locs la (xRep_new hrep (fun b hb => xuK_ne hb) rfl (fun b hb => xuR_ne hb) (fun _ _ => rfl) g2 g3 (xcell_i (N := n) (by simp [xuK]) ?_)) hlv (xst1_c rfl (xst1_t hst1)) (xF_new hF g3 hrep.2.1) hL (by simp only; omega) (by simp only; omega)
      rw [g1]
      simp [xuR]
      rfl
    · obtain ⟨b1, b2⟩ := hbd _ _ _ _ z.1
      simp only at b1 b2
      refine va_newaK (atype := .boolean) hx hb (hts _ xarrZ) rfl hdg rfl c1 c2 (by show n * 1 ≤ _; omega) (by omega) (by omega) hrep.1 fun H1 cA g1 g2 g3 g4 g5 => ?_
      refine W.cs (cells' := h.2.2.2.1 + 1 - n0) (slots' := h.2.2.2.2 + n - s0) (by omega) (by omega) ?_
      have hcA : cA = D.2.2.2.1 := Option.some.inj (g5.symm.trans hKn.2.2.1.2)
      subst hcA
      refine z.2 H1 locs la (xRep_new hrep (fun b hb => xuK_ne hb) rfl (fun b hb => xuR_ne hb) (fun _ _ => rfl) g2 g3 (xcell_z (N := n) (by simp [xuK]) ?_)) hlv (xst1_c rfl (xst1_t hst1)) (xF_new hF g3 hrep.2.1) hL (by simp only; omega) (by simp only; omega)
      rw [g1]
      simp [xuR]
      rfl
  | anewarray idx =>
    obtain ⟨rfl, n, r, rfl, hn, hcl, z⟩ := hs
    obtain ⟨w1, w2, w3, hc6⟩ := xcl_ok hcl
    have c1 : ¬ nI n < 0 := nI_pos (by omega)
    have c2 : (nI n).toNatClampNeg = n := nI_clamp (by omega)
    obtain ⟨b1, b2⟩ := hbd _ _ _ _ z.1
    simp only at b1 b2
    refine W.anew (C := RX2) hx hb hown (hts _ w1) (va_AO.use hKn.2.2.2.2.1) rfl hdg rfl c1 (by rw [c2]; omega) (by omega) (by rw [c2]; omega) fun cA kA comp f1 f2 f3 f4 => ?_
    generalize hH1 : H.push ({ cls := cA, slots := Array.replicate (nI n).toNatClampNeg .null, vm := .none } : Cell) = H1
    have z1 : H1.size = H.size + 1 := by rw [← hH1, Array.size_push]
    have e1 : H1[H.size]? = some (arrV cA n (fun _ => .null)) := by rw [← hH1, Array.getElem?_push_size, c2, ← arrV_new]
    have o1 : ∀ q : Nat, q < H.size → H1[q]? = H[q]? := fun q hq => by rw [← hH1, Array.getElem?_push, if_neg (Nat.ne_of_lt hq)]
    have hcA : cA = D.2.2.2.2.1 := by
      obtain ⟨kA', comp', j1, j2, j3, j4⟩ := hKn.2.2.2.1.2
      exact Option.some.inj (f1.symm.trans j4)
    subst hcA
    rw [hrep.1] at z1 e1 o1
    rw [c2, hrep.1]
    refine W.cs (cells' := h.2.2.2.1 + 1 - n0) (slots' := h.2.2.2.2 + n - s0) (by omega) (by omega) ?_
    refine z.2 H1 locs la (xRep_new hrep (fun b hb => xuK_ne hb) rfl (fun _ _ => rfl) (fun b hb => xuQ_ne hb) z1 o1 (xcell_m (N := n) (by simp [xuK]) ?_)) hlv (xst1_c rfl (xst1_t hst1)) (xF_new hF o1 hrep.2.1) hL (by simp only; omega) (by simp only; omega)
    rw [e1]
    simp [xuQ, va_rf]
  | invokevirtual idx =>
    obtain ⟨rfl, y, As, b, r, hm, hy0, rfl, hlen, hbk, hc6, hr8, z⟩ := hs
    obtain ⟨w1, -, hyn⟩ := xml_ok hm
    obtain ⟨⟨wc, wi⟩, -, winst, wsel, -, hcls, hn1, hn2, hpl, hdesc, h13⟩ := xfacts hyn
    obtain ⟨st1a, st1b⟩ := xst1_a hst1
    have hst1A : xst1 (.ref b :: As) := xst1_c rfl (fun v hv => st1a v (List.mem_reverse.mpr hv))
    have hl13 := xlen_ok hyn
    rw [if_neg (by rw [hy0]; decide), ← hlen] at hl13
    obtain ⟨hd1, mc', ms', hMet, rr, hh, y1, y2, y3⟩ := hM y (.ref b :: As) h _ hyn hst1A hl13 z
    obtain ⟨b1, b2⟩ := hbd _ _ _ _ y3.1
    obtain ⟨cell, q1, q2, q3, -⟩ := (hrep.2.2 b).1.1 _ hc6 hbk
    have hkn := hKn.1 _ hc6
    have hcw : CallW R s args (xR own) (xM y).1.cls idx (xM y).1 (xM y).2.1 (xM y).2.2.1 (xM y).2.2.2.1 (xws y) (xrm (d - 1) mc' ms') mc' ms' As.length := ⟨callB_of As.length hts (xws_good hyn) rfl rfl rfl (hts _ wi) (hts _ (w1 rfl)) ⟨hn1, hn2, by rw [hlen]; exact hdesc⟩ ⟨by show d - 1 + 1 ≤ R.frames; omega, by show 8 + (_ + 11) + 40 * (d - 1) ≤ R.locals; omega⟩, hts _ (winst (by rw [hy0]; decide)), hts _ (wsel hy0)⟩
    refine x_run (va_runV ⟨hx, hb, hml, hown, hts⟩ hMet hcw ⟨xPc_blind, ⟨cell, q1, by rw [q3]; rfl, by rw [q2, hcls]; exact hkn.2.1⟩, xPc_at hrep hKn⟩ rfl rfl hlv.1 rfl (lv_room hr8) hdg ⟨by omega, by omega⟩) hF hL (fun v h' H1 locs1 g1 g2 g3 g4 g5 => ?_)
    obtain ⟨e1, e2, e3⟩ := g2
    refine W.cs (cells' := h'.2.2.2.1 - n0) (slots' := h'.2.2.2.2 - s0) (by omega) (by omega) ?_
    exact e3.2 H1 locs1 la g1 hlv (xst1_j g5 (xst1_t st1b)) g3 g4 (by omega) (by omega)
  | invokestatic idx =>
    obtain ⟨rfl, hs⟩ := hs
    rcases hs with ⟨y, nb, As, r, hm, hy0, rfl, hlen, hr8, z⟩ | ⟨hm, hd1, x, y, r, rfl, hr8, z⟩ | ⟨hm, hd1, n, dp, sp, a, b, r, N, M, rfl, hr8, ha, hb2, hne, h1, h2, h3, h4, z⟩
    · obtain ⟨w1, w2, hyn⟩ := xml_ok hm
      obtain ⟨⟨wc, wi⟩, wst, -, -, -, hcls, hn1, hn2, hpl, hdesc, h13⟩ := xfacts hyn
      obtain ⟨st1a, st1b⟩ := xst1_a hst1
      have hst1A : xst1 As := fun v hv => st1a v (List.mem_reverse.mpr hv)
      have hl13 := xlen_ok hyn
      rw [if_pos hy0, ← hlen] at hl13
      obtain ⟨hd1, mc', ms', hMet, rr, hh, y1, y2, y3⟩ := hM y As h _ hyn hst1A hl13 z
      obtain ⟨b1, b2⟩ := hbd _ _ _ _ y3.1
      have fin : ∀ (hrun : va_Run p l e R s m args below meth c H locs (h.2.2.2.1 - n0) (h.2.2.2.2 - s0) mc' ms' (F0 m pc la (As.reverse ++ r)) r (xQc D lo (fun r_1 h' => h'.2.2.2.1 = h.2.2.2.1 + mc' ∧ h'.2.2.2.2 = h.2.2.2.2 + ms' ∧ (xw (xCd d) d own cc ret ini Q (pc + 3) ls (r_1.toList ++ r) h' ∧ xSim p l e R s m args below meth c QW D lo nL n0 s0 (pc + 3) ls (r_1.toList ++ r) h')) As.toArray) (fun q => lo ≤ q)), W p l e R s m args below meth c H locs (h.2.2.2.1 - n0) (h.2.2.2.2 - s0) QW (F0 m pc la (As.reverse ++ r)) := by
        intro hrun
        refine x_run hrun hF hL (fun v h' H1 locs1 g1 g2 g3 g4 g5 => ?_)
        obtain ⟨e1, e2, e3⟩ := g2
        refine W.cs (cells' := h'.2.2.2.1 - n0) (slots' := h'.2.2.2.2 - s0) (by omega) (by omega) ?_
        exact e3.2 H1 locs1 la g1 hlv (xst1_j g5 st1b) g3 g4 (by omega) (by omega)
      by_cases hnb : nb = 0
      · exact fin (va_runS ⟨hx, hb, hml, hown, hts⟩ hMet ⟨callB_of As.length hts (xws_good hyn) rfl rfl rfl (hts _ wi) (hts _ (w1 hnb)) ⟨hn1, hn2, by rw [hlen]; exact hdesc⟩ ⟨by show d - 1 + 1 ≤ R.frames; omega, by show 8 + (_ + 11) + 40 * (d - 1) ≤ R.locals; omega⟩, hts _ (wst hy0)⟩ ⟨xPc_blind, xPc_at hrep hKn⟩ rfl rfl hlv.1 rfl (lv_room hr8) hdg ⟨by omega, by omega⟩)
      · obtain ⟨rfl, rfl, rfl⟩ := w2 hnb
        exact fin (va_runSN (host := "LinkStation") ⟨hx, hb, hml, hown, hts⟩ hMet ⟨va_cnB As.length hts (xws_good hyn) rfl rfl rfl hKn.2.2.2.2.2.1 (hts _ wi) ⟨hn1, hn2, by rw [hlen]; exact hdesc⟩ ⟨by show d - 1 + 1 ≤ R.frames; omega, by show 8 + (_ + 11) + 40 * (d - 1) ≤ R.locals; omega⟩, hts _ (wst hy0), trivial⟩ ⟨xPc_blind, xPc_at hrep hKn⟩ rfl rfl hlv.1 rfl (lv_room hr8) hdg ⟨by omega, by omega⟩)
    · obtain ⟨b1, b2⟩ := hbd _ _ _ _ z.1
      have hw := xmx_ok
      simp only [Bool.and_eq_true] at hw
      unfold xmx at hm
      simp only [Bool.and_eq_true, beq_iff_eq] at hm
      obtain ⟨rfl, rfl⟩ := hm
      refine va_mmax hx hb (by rw [hml, hlv.1]) hown (hts _ (xok_mem hw.1.1.1)) (hts _ (xok_mem hw.1.1.2)) (hts _ (xok_mem hw.1.2)) (hts _ (xok_mem hw.2)) (by omega) (by omega) (by omega) (by omega) hdg ?_
      exact z.2 H locs la hrep hlv (xst1_c rfl (xst1_t (xst1_t hst1))) hF hL hn0 hs0
    · have hw := xac_ok
      simp only [Bool.and_eq_true] at hw
      unfold xac at hm
      simp only [Bool.and_eq_true, beq_iff_eq] at hm
      obtain ⟨rfl, rfl⟩ := hm
      have hlb : lo ≤ b := ((hrep.2.2 b).2 (by rw [hb2]; simp)).2 (by rw [hb2]; simp)
      have c1 : (nI sp).toNatClampNeg = sp := nI_clamp (by omega)
      have c2 : (nI dp).toNatClampNeg = dp := nI_clamp (by omega)
      have c3 : (nI n).toNatClampNeg = n := nI_clamp (by omega)
      intro T hT X
      have hc0 := (hrep.2.2 a).1.2.1 N ha
      have hc1 := (hrep.2.2 b).1.2.1 M hb2
      obtain ⟨-, k0, hk0, cm0, hkk0⟩ := hKn.2.1.1 N (fun j => .int (h.2.1 a j))
      obtain ⟨-, k1, hk1, cm1, hkk1⟩ := hKn.2.1.1 M (fun j => .int (h.2.1 b j))
      obtain ⟨vm', X', step⟩ := X.arraycopy hx hown (hts _ (xok_mem hw.1.1.1)) (hts _ (xok_mem hw.1.1.2)) (hts _ (xok_mem hw.1.2)) (hts _ (xok_mem hw.2)) (src := a) (dst := b) (cs := arrV D.2.2.1 N (fun j => .int (h.2.1 a j))) (cd := arrV D.2.2.1 M (fun j => .int (h.2.1 b j))) (srcPos := nI sp) (destPos := nI dp) (n := nI n) (by rw [hT]; exact hc0) (by rw [hT]; exact hc1)
        (fun _ h => by cases h) (fun _ h => by cases h) (fun h => by cases h) (fun h => by cases h) hk0 hk1 hkk0 hkk1 rfl (nI_pos (by omega)) (nI_pos (by omega)) (nI_pos (by omega))
        (by rw [nI_toInt (by omega), nI_toInt (by omega), arrV_size]; omega) (by rw [nI_toInt (by omega), nI_toInt (by omega), arrV_size]; omega)
        (fun vm₁ _ i hi => by
          rw [c3] at hi
          have e : (arrV D.2.2.1 N (fun j => .int (h.2.1 a j))).slots.getD ((nI sp).toNatClampNeg + i) .null = .int (h.2.1 a (sp + i)) := by
            rw [c1, Array.getD_eq_getD_getElem?, arrV_read _ _ (by omega)]
            rfl
          rw [e]
          exact ⟨rfl, trivial⟩)
        (g := F0 m pc la (.int (nI n) :: .int (nI dp) :: .ref b :: .int (nI sp) :: .ref a :: r)) rfl (by rw [hml]; exact hlv.1) (rest := r) rfl (by rw [hb]; exact hdg) (by omega) (by show 2 * 0 + _ + (7 + 11) ≤ _; omega)
      have e1 : copied (arrV D.2.2.1 N (fun j => .int (h.2.1 a j))) (arrV D.2.2.1 M (fun j => .int (h.2.1 b j))) (nI sp) (nI dp) (nI n) = arrV D.2.2.1 M (fun j => .int (va_cpy (h.2.1 a) (h.2.1 b) sp dp n j)) := by
        have := va_copied (fun z => Value.int z) D.2.2.1 D.2.2.1 (n0 := N) (n1 := M) (sp := (nI sp).toNatClampNeg) (dp := (nI dp).toNatClampNeg) (n := (nI n).toNatClampNeg) (h.2.1 a) (h.2.1 b) (by omega)
        rw [c1, c2, c3] at this
        unfold copied
        rw [c1, c2, c3]
        exact this
      rw [e1] at X' step
      have hl : b < H.size := (Array.getElem?_eq_some_iff.mp hc1).1
      have hheap : ((T.setVm vm').setCell b (arrV D.2.2.1 M (fun j => .int (va_cpy (h.2.1 a) (h.2.1 b) sp dp n j)))).heap = H.setIfInBounds b (arrV D.2.2.1 M (fun j => .int (va_cpy (h.2.1 a) (h.2.1 b) sp dp n j))) := by rw [← hT]; rfl
      have oq : ∀ q : Nat, q ≠ b → (H.setIfInBounds b (arrV D.2.2.1 M (fun j => .int (va_cpy (h.2.1 a) (h.2.1 b) sp dp n j))))[q]? = H[q]? := fun q hq => by simp [Array.getElem?_setIfInBounds, Ne.symm hq]
      obtain ⟨t, a1, b1⟩ := z.2 (H.setIfInBounds b (arrV D.2.2.1 M (fun j => .int (va_cpy (h.2.1 a) (h.2.1 b) sp dp n j)))) _ la (xRep_upd hrep rfl rfl (fun b hb => xuR_ne hb) (fun _ _ => rfl) (by simp) oq (xcell_i hb2 (by simp [Array.getElem?_setIfInBounds, hl, xuR]))) hlv (xst1_t (xst1_t (xst1_t (xst1_t (xst1_t hst1))))) (xF_one hF oq hlb) (fun q hq => by
          rcases List.mem_append.mp hq with z | z
          · exact hL q z
          · obtain ⟨w, -, hw⟩ := List.mem_map.mp z
            rw [← hw]
            exact hlb) hn0 hs0 _ hheap X'
      exact ⟨t, step t a1, b1⟩
  | invokespecial idx =>
    obtain ⟨rfl, hs⟩ := hs
    rcases hs with ⟨y, As, b, r, hm, hy0, rfl, hlen, hr8, z⟩ | ⟨hm, hd1, a, r, rfl, hr8, z⟩
    · obtain ⟨w1, -, hyn⟩ := xml_ok hm
      obtain ⟨⟨wc, wi⟩, -, winst, -, wnm, hcls, hn1, hn2, hpl, hdesc, h13⟩ := xfacts hyn
      obtain ⟨wn1, wn2⟩ := wnm hy0
      obtain ⟨st1a, st1b⟩ := xst1_a hst1
      have hst1A : xst1 (.ref b :: As) := xst1_c rfl (fun v hv => st1a v (List.mem_reverse.mpr hv))
      have hl13 := xlen_ok hyn
      rw [if_neg (by rw [hy0]; decide), ← hlen] at hl13
      obtain ⟨hd1, mc', ms', hMet, rr, hh, y1, y2, y3⟩ := hM y (.ref b :: As) h _ hyn hst1A hl13 z
      obtain ⟨b1, b2⟩ := hbd _ _ _ _ y3.2.1
      have hw' : xws y = Cond.code (xM y).1 (xM y).2.1 (xM y).2.2.1 none :: xWT := by unfold xws; rw [wn2]
      refine x_run (va_runI ⟨hx, hb, hml, hown, hts⟩ hMet ⟨callB_of As.length hts (xws_good hyn) hw' rfl rfl (hts _ wi) (hts _ (w1 rfl)) ⟨hn1, hn2, by rw [hlen]; exact hdesc⟩ ⟨by show d - 1 + 1 ≤ R.frames; omega, by show 8 + (_ + 11) + 40 * (d - 1) ≤ R.locals; omega⟩, wn1, hts _ (winst (by rw [hy0]; decide))⟩ ⟨xPc_blind, xPc_at hrep hKn⟩ rfl rfl hlv.1 rfl (lv_room hr8) hdg ⟨by omega, by omega⟩) hF hL (fun v h' H1 locs1 g1 g2 g3 g4 g5 => ?_)
      obtain ⟨e1, e2, rfl, e3⟩ := g2
      refine W.cs (cells' := h'.2.2.2.1 - n0) (slots' := h'.2.2.2.2 - s0) (by omega) (by omega) ?_
      exact e3.2 H1 locs1 la g1 hlv (xst1_t st1b) g3 g4 (by omega) (by omega)
    · have hw := xobj_ok
      simp only [Bool.and_eq_true] at hw
      refine W.objInit hx hb hown (hts _ (xoi_ok hm)) (hts _ (xok_mem hw.1)) (hts _ (xok_mem hw.2)) rfl (by rw [hml]; exact hlv.1) rfl hdg (by omega) (by show 2 * 0 + _ + 12 ≤ _; omega) ?_
      exact z.2 H locs la hrep hlv (xst1_t hst1) hF hL hn0 hs0
  | ireturn =>
    obtain ⟨rfl, v, rfl, hv, z⟩ := hs
    exact hri pc la v h H locs hdg hv z hrep hF hL hn0 hs0
  | return_ =>
    obtain ⟨rfl, rfl, hv, z⟩ := hs
    exact hrv pc la h H locs hdg hv z hrep hF hL hn0 hs0
  | _ => exact False.elim hs
end XT
end
section
/-! every call of the abstract machine is met by the machine -/
set_option maxHeartbeats 4000000 in
theorem x_sim (l : Launch) (D : xD) (lo : Nat) : ∀ d : Nat, xMet l D lo d
  | 0 => fun y A h P _ _ _ z => False.elim z
  | d + 1 => fun y A h P hy hA hlen z => by
    have ih := x_sim l D lo d
    obtain ⟨mc, ms, z⟩ := (xC_eq d y A h P).mp z
    have hlv : ∃ r h', h'.2.2.2.1 = h.2.2.2.1 + mc ∧ h'.2.2.2.2 = h.2.2.2.2 + ms ∧ P r h' := by
      obtain ⟨r, h', q, -⟩ := xw_live (xCd_live d) z
      exact ⟨r, h', q⟩
    refine ⟨by omega, mc, ms, ?_, hlv⟩
    show Met l (xM y).1 (xws y) (xrm d mc ms) (xPc D lo h A) (xQc D lo (fun r h' => h'.2.2.2.1 = h.2.2.2.1 + mc ∧ h'.2.2.2.2 = h.2.2.2.2 + ms ∧ P r h')) mc ms (fun q => lo ≤ q)
    obtain ⟨⟨wc, wi⟩, wst, winst, wsel, wnm, hcls, hn1, hn2, hpl, hdesc, h13⟩ := xfacts hy
    refine Met.ofW (cc := (xM y).2.1) (maxL := (xM y).2.2.1) (ret := (xM y).2.2.2.1) (ws' := xWT) hpl rfl ?_
    intro p e s m args below meth c s₁ B hml hv
    obtain ⟨rfl, hrep, hKn⟩ := hv
    have hx := B.exec
    have hb := B.bytes
    have hr := B.returns
    have hlocks := B.notSynchronized
    have hts0 := atoms_spec (ws := xws y) B.pre
    have hts : ∀ w ∈ xWT, w.before A.toArray s = true := fun w hw => hts0 w (List.mem_cons_of_mem _ hw)
    have hown : s.vm.findClass (xR (xM y).2.2.2.2.1) = some m.cls := by rw [← hcls]; exact findClass_of_methodNamed B.named
    have hin : decide ((xM y).2.2.2.2.2.1 = 1) = true → meth.name = "<init>" := fun q => by
      rw [decide_eq_true_eq] at q
      rw [(name_of_methodNamed B.named B.method).1]
      exact (wnm q).1
    have hBody : xBody p s m A.toArray meth c (headSpec (xws y) (xrm d mc ms)).room D d (xM y).2.2.2.2.1 (xM y).2.1 (xM y).2.2.1 (decide ((xM y).2.2.2.2.2.1 = 1)) := ⟨hx, hb, hml, hown, hts, hKn, hin, Nat.le_refl d, Nat.le_refl _⟩
    have hbd : ∀ pc ls st h1, xw (xCd d) d (xM y).2.2.2.2.1 (xM y).2.1 (xM y).2.2.2.1 (decide ((xM y).2.2.2.2.2.1 = 1)) (fun r h' => h'.2.2.2.1 = h.2.2.2.1 + mc ∧ h'.2.2.2.2 = h.2.2.2.2 + ms ∧ P r h') pc ls st h1 → h1.2.2.2.1 ≤ h.2.2.2.1 + mc ∧ h1.2.2.2.2 ≤ h.2.2.2.2 + ms := fun pc ls st h1 q => by
      obtain ⟨r, h', q1, q2, q3⟩ := xw_live (xCd_live d) q
      exact ⟨by rw [← q1.1]; exact q2, by rw [← q1.2.1]; exact q3⟩
    have key := z (fun pc ls st h1 => xw (xCd d) d (xM y).2.2.2.2.1 (xM y).2.1 (xM y).2.2.2.1 (decide ((xM y).2.2.2.2.2.1 = 1)) (fun r h' => h'.2.2.2.1 = h.2.2.2.1 + mc ∧ h'.2.2.2.2 = h.2.2.2.2 + ms ∧ P r h') pc ls st h1 ∧ xSim p l e (headSpec (xws y) (xrm d mc ms)).room s m A.toArray below meth c (MQ below (xQc D lo (fun r h' => h'.2.2.2.1 = h.2.2.2.1 + mc ∧ h'.2.2.2.2 = h.2.2.2.2 + ms ∧ P r h')) A.toArray s mc ms (fun q => lo ≤ q)) D lo (xM y).2.2.1 h.2.2.2.1 h.2.2.2.2 pc ls st h1) (fun pc ls st h1 q => by
      refine ⟨x_fold (xstp_mono (fun _ _ z => z) (fun _ _ _ _ z => z.1) (xCd_mono d) q), ?_⟩
      unfold xstp at q
      cases hd : decode (xM y).2.1 pc with
      | error e => rw [hd] at q; exact False.elim q
      | ok r =>
        rw [hd] at q
        obtain ⟨i, len⟩ := r
        refine xins_sim hBody ih (Nat.le_refl mc) (Nat.le_refl ms) hbd ?_ ?_ hd q
        · intro pc la v h2 H locs hdg hv hQ hrep hF hL hn0 hs0
          refine W.cs (cells' := mc) (slots' := ms) (by have := hQ.1; omega) (by have := hQ.2.1; omega) ?_
          have hq : ∀ t : State, t.heap = H → s.WarmedH t.vm → xQc D lo (fun r h' => h'.2.2.2.1 = h.2.2.2.1 + mc ∧ h'.2.2.2.2 = h.2.2.2.2 + ms ∧ P r h') A.toArray s (.returned (some (.int v))) t := fun t ht _ => ⟨⟨_, h2, rfl, by rw [ht]; exact hrep, hQ, fun w hw => by cases hw; rfl⟩, fun q hq => by rw [ht]; exact hF q hq⟩
          rcases hv with hv | ⟨hv, hv2⟩
          · exact W.iret hx hb (by rw [hr]; exact hv) hq hL hdg
          · exact W.zret hx hb (by rw [hr]; exact hv) (by rcases hv2 with rfl | rfl <;> rfl) hq hL hdg
        · intro pc la h2 H locs hdg hv hQ hrep hF hL hn0 hs0
          refine W.cs (cells' := mc) (slots' := ms) (by have := hQ.1; omega) (by have := hQ.2.1; omega) ?_
          exact W.vret hx hb (by rw [hr]; exact hv) (fun t ht _ => ⟨⟨_, h2, rfl, by rw [ht]; exact hrep, hQ, fun w hw => by cases hw⟩, fun q hq => by rw [ht]; exact hF q hq⟩) hL hdg)
    rw [lg_entry_eq]
    have := key.2 s.heap [] _ hrep (xlv_entry A hA hlen) (fun _ h => by cases h) (fun _ _ => rfl) (fun _ h => by cases h) (Nat.le_refl _) (Nat.le_refl _)
    rw [Nat.sub_self, Nat.sub_self] at this
    exact this
end
section
-- ===== end of PART A; then your names; then what follows =====
/-! THE CLAIM OUT OF ONE WALK OF THE LAW'S BODY. Your part is whole_start (and what it stands on); all else here is the same for every law, but numbers. -/
def R_law : String := "LinkStationLaw"
def lw_P (b : Addr) (xs : List Int32) (args : Array Value) (s : State) : Prop := args = #[.ref b] ∧ s.IntsAt b xs ∧ xs.length ≤ 3072 ∧ (Jvm.Cond.and given_1 narrow_1).before args s = true
def lw_Q (_ : Array Value) (s : State) (o : Outcome) (t : State) : Prop := o = .returned (some (.int 1)) ∧ Framed s o t [] 600000 7302250
def lw_Z (below : List Frame) (a : Array Value) (s : State) : State → Prop := fun t => ∃ o, t.status = .running ∧ Ended t below o ∧ lw_Q a s o t
/-- the law's own end, with 1 on the stack, nothing written that was there before, its room as the claim has it -/
theorem lw_ret {p : Program} {l : Launch} {e : Env} {s : State} {m : MethodId} {below : List Frame} {meth : Method} {c : Code} {b : Nat} (hx : p.tables.exec = Jvm.exec) (hb : c.code = code) (hr : meth.sig.returnType = ret) (hlocks : meth.locks = false) {pc : Nat} {H : Heap} {ls : Array Slot} (hdg : decode code pc = .ok (.ireturn, 1)) : W p l e room_1 s m #[Value.ref b] below meth c H [] 600000 7302250 (lw_Z below #[Value.ref b] s) (F0 m pc ls [.int 1]) := by
  intro T hT X
  obtain ⟨fs, hret, hrun, hended, hW, hframe⟩ := X.leave (v := some (.int 1)) (hlocks := hlocks) (fun h => by rw [hr] at h; cases h)
  have hmeth' : T.vm.method? m = some meth := X.method'
  refine ⟨T.setFrames fs, ?_, .returned (some (.int 1)), hrun, hended, rfl, ⟨_, rfl⟩, hW, hframe⟩
  jvm_step X.here [X.here.top, hx, hb, hdg, hmeth', hr, ret, narrow_b1]
  (try refine ⟨rfl, ?_⟩); (try refine ⟨rfl, ?_⟩)
  first | (intro acts; rw [hret _ acts rfl rfl rfl]) | rw [hret _ _ rfl rfl rfl]
  exact Steps.refl _
/-- what holds at the law's entry: the machine, the code, the tables' words (any of lw_tbl by 'hts w (by decide +kernel)'), the script of L ints xs at the cell b, what the Statement gives of the start (any of its parts by flat_of_before) -/
def lw_At (p : Program) (s : State) (m : MethodId) (meth : Method) (c : Code) (b L : Nat) (xs : Nat → Int32) : Prop :=
  p.tables.exec = Jvm.exec ∧ c.code = code ∧ meth.sig.returnType = ret ∧ c.maxLocals = 4 ∧ s.vm.findClass R_law = some m.cls ∧ (∀ w ∈ lw_tbl, w.before #[Value.ref b] s = true) ∧ va_X b L xs s s.heap ∧ b < s.heap.size ∧ meth.locks = false ∧ (Jvm.Cond.and given_1 narrow_1).before #[Value.ref b] s = true
/-! the law, out of its run on the abstract machine -/
def xK0 (b L : Nat) : Nat → Nat × Nat := fun a => if a = b then (103, L) else (0, 0)
def xI0 (b : Nat) (xs : Nat → Int32) : Nat → Nat → Int32 := fun a j => if a = b then xs j else 0
/-- the law's run on every script ends with 1, within the claim's room -/
def xLaw : Prop := ∃ d : Nat, d ≤ 2000 ∧ ∀ (n b L : Nat) (xs : Nat → Int32), L ≤ 3072 → b < n → xB d 6 cL_law (some .boolean) false (fun r h' => r = some (.int 1) ∧ h'.2.2.2.1 ≤ n + 600000 ∧ h'.2.2.2.2 ≤ 7302250) 0 [some (.ref b), none, none, none] [] (xK0 b L, xI0 b xs, fun _ _ => none, n, 0)
theorem xKn_start {s : State} {args : Array Value} {b L : Nat} {xs : Nat → Int32} (hts : ∀ w ∈ lw_tbl, w.before args s = true) (hX : va_X b L xs s s.heap) : ∃ D : xD, xKn D s ∧ ∃ scr : Cell, s.heap[b]? = some scr ∧ scr.cls = D.2.2.2.2.2 ∧ (∀ k, scr.vm ≠ .statics k) ∧ scr.vm ≠ .unknown ∧ scr.slots.size = L ∧ ∀ j : Nat, j < L → scr.slots[j]? = some (.int (xs j)) := by
  have hts' : ∀ w ∈ xWT, w.before args s = true := fun w hw => hts w (List.mem_filter.mp hw).1
  have hk : ∀ c, ∃ q : ClassId × (Nat → Nat), c < 6 → u_Kn s (xR c) (xT c) (xN c) q.1 q.2 := by
    intro c
    by_cases hc : c < 6
    · have hw : Cond.instantiable (xR c) (xN c) ∈ xWT := by
        have h := xinst_ok
        simp only [List.all_cons, List.all_nil, Bool.and_eq_true, Bool.and_true] at h
        obtain ⟨a0, a1, a2, a3, a4, a5⟩ := h
        match c, hc with
        | 0, _ => exact xok_mem a0
        | 1, _ => exact xok_mem a1
        | 2, _ => exact xok_mem a2
        | 3, _ => exact xok_mem a3
        | 4, _ => exact xok_mem a4
        | 5, _ => exact xok_mem a5
        | n + 6, h => exact absurd h (by omega)
      obtain ⟨cC, iS, h⟩ := u_known (C := xR c) (T := xT c) (N := xN c) (n := xN c) hts' (xIn hc) (hts' _ hw)
      exact ⟨(cC, iS), fun _ => h⟩
    · exact ⟨(0, fun _ => 0), fun h => absurd h hc⟩
  have ha := xarr_ok
  simp only [Bool.and_eq_true, decide_eq_true_eq] at ha
  obtain ⟨⟨⟨a1, a2⟩, a3⟩, a4⟩ := ha
  obtain ⟨cI, kI, compI, i1, i2, i3⟩ := Cond.arrayClass_spec (hts _ (List.mem_of_getElem? a1))
  obtain ⟨cZ, kZ, compZ, z1, z2, z3⟩ := Cond.arrayClass_spec (hts _ (List.mem_of_getElem? a2))
  have hAO : va_AO RX2 s := va_AO.of (hts _ (List.mem_of_getElem? a3))
  obtain ⟨compM, cM, kM, m1, m2, m3, m4, m5⟩ := Cond.arrayOver_spec hAO
  obtain ⟨scr, x1, ⟨x2, kS, x3, compS, x4⟩, x5, x6, x7⟩ := hX
  refine ⟨(fun c => (Classical.choose (hk c)).1, fun c => (Classical.choose (hk c)).2, cI, cZ, cM, scr.cls), ⟨fun c hc => Classical.choose_spec (hk c) hc, ⟨fun n z => ⟨fun k h => (by cases h), kI, i2, compI, i3⟩, i1⟩, ⟨fun n z => ⟨fun k h => (by cases h), kZ, z2, compZ, z3⟩, z1⟩, ⟨fun n z => ⟨fun k h => (by cases h), kM, m3, compM, m4⟩, kM, compM, m3, m4, m1, m5⟩, hAO, va_Nw.of rfl (hts _ (List.mem_of_getElem? a4)), kS, compS, x3, x4⟩, scr, x1, rfl, x2, x5, x6, x7⟩
set_option maxHeartbeats 4000000 in
/-- the law's walk out of its run on the abstract machine -/
theorem x_whole (hLaw : xLaw) {p : Program} {e : Env} {s : State} {m : MethodId} {below : List Frame} {meth : Method} {c : Code} (l : Launch) {b L : Nat} {xs : Nat → Int32} (hL : L ≤ 3072) (C0 : lw_At p s m meth c b L xs) : W p l e room_1 s m #[Value.ref b] below meth c s.heap [] 0 0 (lw_Z below #[Value.ref b] s) (entryFrame m ([Value.ref b] : List Value).toArray 4) := by
  obtain ⟨hx, hb, hr, hml, hown, hts, hX, hbl, hlocks, hgv⟩ := id C0
  obtain ⟨D, hKn, scr, x1, x2, x3, x4, x5, x6⟩ := xKn_start hts hX
  have hts' : ∀ w ∈ xWT, w.before #[Value.ref b] s = true := fun w hw => hts w (List.mem_filter.mp hw).1
  obtain ⟨d, hd0, hLaw⟩ := hLaw
  obtain ⟨QL, cc, hcc, hQ1, z⟩ : ∃ (QL : Option Value → xH → Prop) (cc : ByteArray), cc = cL_law ∧ (∀ r h', QL r h' → r = some (.int 1) ∧ h'.2.2.2.1 ≤ s.heap.size + 600000 ∧ h'.2.2.2.2 ≤ 7302250) ∧ xB d 6 cc (some .boolean) false QL 0 [some (.ref b), none, none, none] [] (xK0 b L, xI0 b xs, fun _ _ => none, s.heap.size, 0) := ⟨_, _, rfl, fun _ _ q => q, hLaw s.heap.size b L xs hL hbl⟩
  have hBody : xBody p s m #[Value.ref b] meth c room_1 D d 6 cc 4 false := ⟨hx, by rw [hcc]; exact hb, hml, hown, hts', hKn, fun q => (by cases q), by show d ≤ 2048; omega, by show 40 * d ≤ 84000; omega⟩
  have hbd : ∀ pc ls st h1, xw (xCd d) d 6 cc (some .boolean) false QL pc ls st h1 → h1.2.2.2.1 ≤ s.heap.size + 600000 ∧ h1.2.2.2.2 ≤ 0 + 7302250 := fun pc ls st h1 q => by
    obtain ⟨r, h', q0, q2, q3⟩ := xw_live (xCd_live d) q
    have q1 := hQ1 _ _ q0
    exact ⟨Nat.le_trans q2 q1.2.1, by have := Nat.le_trans q3 q1.2.2; omega⟩
  have key := z (fun pc ls st h1 => xw (xCd d) d 6 cc (some .boolean) false QL pc ls st h1 ∧ xSim p l e room_1 s m #[Value.ref b] below meth c (lw_Z below #[Value.ref b] s) D s.heap.size 4 s.heap.size 0 pc ls st h1) (fun pc ls st h1 q => by
    refine ⟨x_fold (xstp_mono (fun _ _ z => z) (fun _ _ _ _ z => z.1) (xCd_mono d) q), ?_⟩
    unfold xstp at q
    cases hd : decode cc pc with
    | error e => rw [hd] at q; exact False.elim q
    | ok r =>
      rw [hd] at q
      obtain ⟨i, len⟩ := r
      refine xins_sim (mc := 600000) (ms := 7302250) hBody (x_sim l D s.heap.size d) (Nat.le_refl _) (Nat.le_refl _) hbd ?_ ?_ hd q
      · intro pc la v h2 H locs hdg hv hQ hrep hF hL hn0 hs0
        obtain ⟨q1, q2, q3⟩ := hQ1 _ _ hQ
        cases q1
        refine va_forget (fun q hq => hL q hq) ?_
        refine W.widen (k := 600000) (n := 7302250) (by omega) (by omega) ?_
        exact lw_ret hx hb hr hlocks (by rw [hcc] at hdg; exact hdg)
      · intro pc la h2 H locs hdg hv
        cases hv)
  rw [lg_entry_eq]
  have hrep : xRep D s.heap.size (xK0 b L, xI0 b xs, fun _ _ => none, s.heap.size, 0) s.heap := by
    refine ⟨rfl, Nat.le_refl _, fun a => ?_⟩
    by_cases ha : a = b
    · subst ha
      have hk : xK0 a L a = (103, L) := if_pos rfl
      refine ⟨⟨fun c _ e => ?_, fun N e => ?_, fun N e => ?_, fun N e => ?_, fun N e => ?_⟩, fun _ => ⟨hbl, fun q => absurd (by show (xK0 a L a).1 = 103; rw [hk]) q⟩⟩
      · have e : (xK0 a L a).1 = c + 1 := e
        rw [hk] at e
        simp only at e
        omega
      · have e : xK0 a L a = (100, N) := e
        rw [hk] at e; cases e
      · have e : xK0 a L a = (101, N) := e
        rw [hk] at e; cases e
      · have e : xK0 a L a = (102, N) := e
        rw [hk] at e; cases e
      · have e : xK0 a L a = (103, N) := e
        rw [hk] at e; cases e
        exact ⟨scr, x1, x2, x3, x4, x5, fun j hj => by rw [x6 j hj]; simp [xI0]⟩
    · have hk : xK0 b L a = (0, 0) := if_neg ha
      exact ⟨xcell_0 (by show (xK0 b L a).1 = 0; rw [hk]), fun q => absurd (by show (xK0 b L a).1 = 0; rw [hk]) q⟩
  have := key.2 s.heap [] _ hrep (xlv_entry [Value.ref b] (n := 4) (fun v hv => by rw [List.mem_singleton.mp hv]; rfl) (by simp)) (fun _ h => by cases h) (fun _ _ => rfl) (fun _ h => by cases h) (Nat.le_refl _) (Nat.le_refl _)
  rw [Nat.sub_self, Nat.sub_self] at this
  exact this
end
section
theorem dX0_init_0 : decode cX0_init 0 = .ok (.aload_n 0, 1) := by decide +kernel
theorem dX0_init_1 : decode cX0_init 1 = .ok (.invokespecial 3, 3) := by decide +kernel
theorem dX0_init_4 : decode cX0_init 4 = .ok (.aload_n 0, 1) := by decide +kernel
theorem dX0_init_5 : decode cX0_init 5 = .ok (.iconst 0, 1) := by decide +kernel
theorem dX0_init_6 : decode cX0_init 6 = .ok (.putfield 9, 3) := by decide +kernel
theorem dX0_init_9 : decode cX0_init 9 = .ok (.aload_n 0, 1) := by decide +kernel
theorem dX0_init_10 : decode cX0_init 10 = .ok (.iconst (-1), 1) := by decide +kernel
theorem dX0_init_11 : decode cX0_init 11 = .ok (.putfield 15, 3) := by decide +kernel
theorem dX0_init_14 : decode cX0_init 14 = .ok (.aload_n 0, 1) := by decide +kernel
theorem dX0_init_15 : decode cX0_init 15 = .ok (.iconst (-1), 1) := by decide +kernel
theorem dX0_init_16 : decode cX0_init 16 = .ok (.putfield 18, 3) := by decide +kernel
theorem dX0_init_19 : decode cX0_init 19 = .ok (.aload_n 0, 1) := by decide +kernel
theorem dX0_init_20 : decode cX0_init 20 = .ok (.iconst (-1), 1) := by decide +kernel
theorem dX0_init_21 : decode cX0_init 21 = .ok (.putfield 21, 3) := by decide +kernel
theorem dX0_init_24 : decode cX0_init 24 = .ok (.return_, 1) := by decide +kernel
theorem dX0_become_0 : decode cX0_become 0 = .ok (.aload_n 0, 1) := by decide +kernel
theorem dX0_become_1 : decode cX0_become 1 = .ok (.iload_n 1, 1) := by decide +kernel
theorem dX0_become_2 : decode cX0_become 2 = .ok (.putfield 9, 3) := by decide +kernel
theorem dX0_become_5 : decode cX0_become 5 = .ok (.aload_n 0, 1) := by decide +kernel
theorem dX0_become_6 : decode cX0_become 6 = .ok (.iload_n 2, 1) := by decide +kernel
theorem dX0_become_7 : decode cX0_become 7 = .ok (.putfield 15, 3) := by decide +kernel
theorem dX0_become_10 : decode cX0_become 10 = .ok (.aload_n 0, 1) := by decide +kernel
theorem dX0_become_11 : decode cX0_become 11 = .ok (.iload_n 3, 1) := by decide +kernel
theorem dX0_become_12 : decode cX0_become 12 = .ok (.putfield 18, 3) := by decide +kernel
theorem dX0_become_15 : decode cX0_become 15 = .ok (.aload_n 0, 1) := by decide +kernel
theorem dX0_become_16 : decode cX0_become 16 = .ok (.iload 4, 2) := by decide +kernel
theorem dX0_become_18 : decode cX0_become 18 = .ok (.putfield 21, 3) := by decide +kernel
theorem dX0_become_21 : decode cX0_become 21 = .ok (.return_, 1) := by decide +kernel
end
section
theorem dX2_init_0 : decode cX2_init 0 = .ok (.aload_n 0, 1) := by decide +kernel
theorem dX2_init_1 : decode cX2_init 1 = .ok (.invokespecial 3, 3) := by decide +kernel
theorem dX2_init_4 : decode cX2_init 4 = .ok (.aload_n 0, 1) := by decide +kernel
theorem dX2_init_5 : decode cX2_init 5 = .ok (.bipush 6, 2) := by decide +kernel
theorem dX2_init_7 : decode cX2_init 7 = .ok (.newarray .int, 2) := by decide +kernel
theorem dX2_init_9 : decode cX2_init 9 = .ok (.putfield 9, 3) := by decide +kernel
theorem dX2_init_12 : decode cX2_init 12 = .ok (.aload_n 0, 1) := by decide +kernel
theorem dX2_init_13 : decode cX2_init 13 = .ok (.iconst 0, 1) := by decide +kernel
theorem dX2_init_14 : decode cX2_init 14 = .ok (.putfield 15, 3) := by decide +kernel
theorem dX2_init_17 : decode cX2_init 17 = .ok (.aload_n 0, 1) := by decide +kernel
theorem dX2_init_18 : decode cX2_init 18 = .ok (.bipush 64, 2) := by decide +kernel
theorem dX2_init_20 : decode cX2_init 20 = .ok (.newarray .int, 2) := by decide +kernel
theorem dX2_init_22 : decode cX2_init 22 = .ok (.putfield 19, 3) := by decide +kernel
theorem dX2_init_25 : decode cX2_init 25 = .ok (.aload_n 0, 1) := by decide +kernel
theorem dX2_init_26 : decode cX2_init 26 = .ok (.bipush 64, 2) := by decide +kernel
theorem dX2_init_28 : decode cX2_init 28 = .ok (.newarray .int, 2) := by decide +kernel
theorem dX2_init_30 : decode cX2_init 30 = .ok (.putfield 22, 3) := by decide +kernel
theorem dX2_init_33 : decode cX2_init 33 = .ok (.aload_n 0, 1) := by decide +kernel
theorem dX2_init_34 : decode cX2_init 34 = .ok (.bipush 64, 2) := by decide +kernel
theorem dX2_init_36 : decode cX2_init 36 = .ok (.newarray .int, 2) := by decide +kernel
theorem dX2_init_38 : decode cX2_init 38 = .ok (.putfield 25, 3) := by decide +kernel
theorem dX2_init_41 : decode cX2_init 41 = .ok (.aload_n 0, 1) := by decide +kernel
theorem dX2_init_42 : decode cX2_init 42 = .ok (.iconst 0, 1) := by decide +kernel
theorem dX2_init_43 : decode cX2_init 43 = .ok (.putfield 28, 3) := by decide +kernel
theorem dX2_init_46 : decode cX2_init 46 = .ok (.aload_n 0, 1) := by decide +kernel
theorem dX2_init_47 : decode cX2_init 47 = .ok (.bipush 100, 2) := by decide +kernel
theorem dX2_init_49 : decode cX2_init 49 = .ok (.newarray .boolean, 2) := by decide +kernel
theorem dX2_init_51 : decode cX2_init 51 = .ok (.putfield 31, 3) := by decide +kernel
theorem dX2_init_54 : decode cX2_init 54 = .ok (.aload_n 0, 1) := by decide +kernel
theorem dX2_init_55 : decode cX2_init 55 = .ok (.bipush 64, 2) := by decide +kernel
theorem dX2_init_57 : decode cX2_init 57 = .ok (.newarray .boolean, 2) := by decide +kernel
theorem dX2_init_59 : decode cX2_init 59 = .ok (.putfield 35, 3) := by decide +kernel
theorem dX2_init_62 : decode cX2_init 62 = .ok (.aload_n 0, 1) := by decide +kernel
theorem dX2_init_63 : decode cX2_init 63 = .ok (.iconst (-1), 1) := by decide +kernel
theorem dX2_init_64 : decode cX2_init 64 = .ok (.putfield 38, 3) := by decide +kernel
theorem dX2_init_67 : decode cX2_init 67 = .ok (.aload_n 0, 1) := by decide +kernel
theorem dX2_init_68 : decode cX2_init 68 = .ok (.bipush 100, 2) := by decide +kernel
theorem dX2_init_70 : decode cX2_init 70 = .ok (.newarray .int, 2) := by decide +kernel
theorem dX2_init_72 : decode cX2_init 72 = .ok (.putfield 41, 3) := by decide +kernel
theorem dX2_init_75 : decode cX2_init 75 = .ok (.aload_n 0, 1) := by decide +kernel
theorem dX2_init_76 : decode cX2_init 76 = .ok (.bipush 100, 2) := by decide +kernel
theorem dX2_init_78 : decode cX2_init 78 = .ok (.newarray .int, 2) := by decide +kernel
theorem dX2_init_80 : decode cX2_init 80 = .ok (.putfield 44, 3) := by decide +kernel
theorem dX2_init_83 : decode cX2_init 83 = .ok (.aload_n 0, 1) := by decide +kernel
theorem dX2_init_84 : decode cX2_init 84 = .ok (.bipush 100, 2) := by decide +kernel
theorem dX2_init_86 : decode cX2_init 86 = .ok (.newarray .int, 2) := by decide +kernel
theorem dX2_init_88 : decode cX2_init 88 = .ok (.putfield 47, 3) := by decide +kernel
theorem dX2_init_91 : decode cX2_init 91 = .ok (.aload_n 0, 1) := by decide +kernel
theorem dX2_init_92 : decode cX2_init 92 = .ok (.bipush 100, 2) := by decide +kernel
theorem dX2_init_94 : decode cX2_init 94 = .ok (.newarray .int, 2) := by decide +kernel
theorem dX2_init_96 : decode cX2_init 96 = .ok (.putfield 50, 3) := by decide +kernel
theorem dX2_init_99 : decode cX2_init 99 = .ok (.aload_n 0, 1) := by decide +kernel
theorem dX2_init_100 : decode cX2_init 100 = .ok (.iconst 0, 1) := by decide +kernel
theorem dX2_init_101 : decode cX2_init 101 = .ok (.putfield 53, 3) := by decide +kernel
theorem dX2_init_104 : decode cX2_init 104 = .ok (.aload_n 0, 1) := by decide +kernel
theorem dX2_init_105 : decode cX2_init 105 = .ok (.bipush 64, 2) := by decide +kernel
theorem dX2_init_107 : decode cX2_init 107 = .ok (.newarray .int, 2) := by decide +kernel
theorem dX2_init_109 : decode cX2_init 109 = .ok (.putfield 56, 3) := by decide +kernel
theorem dX2_init_112 : decode cX2_init 112 = .ok (.aload_n 0, 1) := by decide +kernel
theorem dX2_init_113 : decode cX2_init 113 = .ok (.bipush 64, 2) := by decide +kernel
theorem dX2_init_115 : decode cX2_init 115 = .ok (.newarray .int, 2) := by decide +kernel
theorem dX2_init_117 : decode cX2_init 117 = .ok (.putfield 59, 3) := by decide +kernel
theorem dX2_init_120 : decode cX2_init 120 = .ok (.aload_n 0, 1) := by decide +kernel
theorem dX2_init_121 : decode cX2_init 121 = .ok (.getfield 19, 3) := by decide +kernel
theorem dX2_init_124 : decode cX2_init 124 = .ok (.iconst (-1), 1) := by decide +kernel
theorem dX2_init_125 : decode cX2_init 125 = .ok (.invokestatic 62, 3) := by decide +kernel
theorem dX2_init_128 : decode cX2_init 128 = .ok (.aload_n 0, 1) := by decide +kernel
theorem dX2_init_129 : decode cX2_init 129 = .ok (.getfield 56, 3) := by decide +kernel
theorem dX2_init_132 : decode cX2_init 132 = .ok (.iconst (-1), 1) := by decide +kernel
theorem dX2_init_133 : decode cX2_init 133 = .ok (.invokestatic 62, 3) := by decide +kernel
theorem dX2_init_136 : decode cX2_init 136 = .ok (.return_, 1) := by decide +kernel
theorem dX2_addNeed_0 : decode cX2_addNeed 0 = .ok (.aload_n 0, 1) := by decide +kernel
theorem dX2_addNeed_1 : decode cX2_addNeed 1 = .ok (.getfield 15, 3) := by decide +kernel
theorem dX2_addNeed_4 : decode cX2_addNeed 4 = .ok (.bipush 6, 2) := by decide +kernel
theorem dX2_addNeed_6 : decode cX2_addNeed 6 = .ok (.if_icmp .lt 5, 3) := by decide +kernel
theorem dX2_addNeed_9 : decode cX2_addNeed 9 = .ok (.iconst 0, 1) := by decide +kernel
theorem dX2_addNeed_10 : decode cX2_addNeed 10 = .ok (.ireturn, 1) := by decide +kernel
theorem dX2_addNeed_11 : decode cX2_addNeed 11 = .ok (.iconst 0, 1) := by decide +kernel
theorem dX2_addNeed_12 : decode cX2_addNeed 12 = .ok (.istore_n 2, 1) := by decide +kernel
theorem dX2_addNeed_13 : decode cX2_addNeed 13 = .ok (.iload_n 2, 1) := by decide +kernel
theorem dX2_addNeed_14 : decode cX2_addNeed 14 = .ok (.aload_n 0, 1) := by decide +kernel
theorem dX2_addNeed_15 : decode cX2_addNeed 15 = .ok (.getfield 15, 3) := by decide +kernel
theorem dX2_addNeed_18 : decode cX2_addNeed 18 = .ok (.if_icmp .ge 21, 3) := by decide +kernel
theorem dX2_addNeed_21 : decode cX2_addNeed 21 = .ok (.aload_n 0, 1) := by decide +kernel
theorem dX2_addNeed_22 : decode cX2_addNeed 22 = .ok (.getfield 9, 3) := by decide +kernel
theorem dX2_addNeed_25 : decode cX2_addNeed 25 = .ok (.iload_n 2, 1) := by decide +kernel
theorem dX2_addNeed_26 : decode cX2_addNeed 26 = .ok (.iaload, 1) := by decide +kernel
theorem dX2_addNeed_27 : decode cX2_addNeed 27 = .ok (.iload_n 1, 1) := by decide +kernel
theorem dX2_addNeed_28 : decode cX2_addNeed 28 = .ok (.if_icmp .ne 5, 3) := by decide +kernel
theorem dX2_addNeed_31 : decode cX2_addNeed 31 = .ok (.iconst 0, 1) := by decide +kernel
theorem dX2_addNeed_32 : decode cX2_addNeed 32 = .ok (.ireturn, 1) := by decide +kernel
theorem dX2_addNeed_33 : decode cX2_addNeed 33 = .ok (.iinc 2 1, 3) := by decide +kernel
theorem dX2_addNeed_36 : decode cX2_addNeed 36 = .ok (.goto (-23), 3) := by decide +kernel
theorem dX2_addNeed_39 : decode cX2_addNeed 39 = .ok (.aload_n 0, 1) := by decide +kernel
theorem dX2_addNeed_40 : decode cX2_addNeed 40 = .ok (.getfield 9, 3) := by decide +kernel
theorem dX2_addNeed_43 : decode cX2_addNeed 43 = .ok (.aload_n 0, 1) := by decide +kernel
theorem dX2_addNeed_44 : decode cX2_addNeed 44 = .ok (.getfield 15, 3) := by decide +kernel
theorem dX2_addNeed_47 : decode cX2_addNeed 47 = .ok (.iload_n 1, 1) := by decide +kernel
theorem dX2_addNeed_48 : decode cX2_addNeed 48 = .ok (.iastore, 1) := by decide +kernel
theorem dX2_addNeed_49 : decode cX2_addNeed 49 = .ok (.aload_n 0, 1) := by decide +kernel
theorem dX2_addNeed_50 : decode cX2_addNeed 50 = .ok (.dup, 1) := by decide +kernel
theorem dX2_addNeed_51 : decode cX2_addNeed 51 = .ok (.getfield 15, 3) := by decide +kernel
theorem dX2_addNeed_54 : decode cX2_addNeed 54 = .ok (.iconst 1, 1) := by decide +kernel
theorem dX2_addNeed_55 : decode cX2_addNeed 55 = .ok (.iadd, 1) := by decide +kernel
theorem dX2_addNeed_56 : decode cX2_addNeed 56 = .ok (.putfield 15, 3) := by decide +kernel
theorem dX2_addNeed_59 : decode cX2_addNeed 59 = .ok (.iconst 1, 1) := by decide +kernel
theorem dX2_addNeed_60 : decode cX2_addNeed 60 = .ok (.ireturn, 1) := by decide +kernel
theorem dX2_addDefinition_0 : decode cX2_addDefinition 0 = .ok (.aload_n 0, 1) := by decide +kernel
theorem dX2_addDefinition_1 : decode cX2_addDefinition 1 = .ok (.getfield 19, 3) := by decide +kernel
theorem dX2_addDefinition_4 : decode cX2_addDefinition 4 = .ok (.iload_n 1, 1) := by decide +kernel
theorem dX2_addDefinition_5 : decode cX2_addDefinition 5 = .ok (.iaload, 1) := by decide +kernel
theorem dX2_addDefinition_6 : decode cX2_addDefinition 6 = .ok (.iconst (-1), 1) := by decide +kernel
theorem dX2_addDefinition_7 : decode cX2_addDefinition 7 = .ok (.if_icmp .ne 12, 3) := by decide +kernel
theorem dX2_addDefinition_10 : decode cX2_addDefinition 10 = .ok (.aload_n 0, 1) := by decide +kernel
theorem dX2_addDefinition_11 : decode cX2_addDefinition 11 = .ok (.getfield 28, 3) := by decide +kernel
theorem dX2_addDefinition_14 : decode cX2_addDefinition 14 = .ok (.bipush 20, 2) := by decide +kernel
theorem dX2_addDefinition_16 : decode cX2_addDefinition 16 = .ok (.if_icmp .lt 5, 3) := by decide +kernel
theorem dX2_addDefinition_19 : decode cX2_addDefinition 19 = .ok (.iconst 0, 1) := by decide +kernel
theorem dX2_addDefinition_20 : decode cX2_addDefinition 20 = .ok (.ireturn, 1) := by decide +kernel
theorem dX2_addDefinition_21 : decode cX2_addDefinition 21 = .ok (.aload_n 0, 1) := by decide +kernel
theorem dX2_addDefinition_22 : decode cX2_addDefinition 22 = .ok (.getfield 19, 3) := by decide +kernel
theorem dX2_addDefinition_25 : decode cX2_addDefinition 25 = .ok (.iload_n 1, 1) := by decide +kernel
theorem dX2_addDefinition_26 : decode cX2_addDefinition 26 = .ok (.iload_n 2, 1) := by decide +kernel
theorem dX2_addDefinition_27 : decode cX2_addDefinition 27 = .ok (.iastore, 1) := by decide +kernel
theorem dX2_addDefinition_28 : decode cX2_addDefinition 28 = .ok (.aload_n 0, 1) := by decide +kernel
theorem dX2_addDefinition_29 : decode cX2_addDefinition 29 = .ok (.getfield 22, 3) := by decide +kernel
theorem dX2_addDefinition_32 : decode cX2_addDefinition 32 = .ok (.iload_n 1, 1) := by decide +kernel
theorem dX2_addDefinition_33 : decode cX2_addDefinition 33 = .ok (.iload_n 3, 1) := by decide +kernel
theorem dX2_addDefinition_34 : decode cX2_addDefinition 34 = .ok (.iastore, 1) := by decide +kernel
theorem dX2_addDefinition_35 : decode cX2_addDefinition 35 = .ok (.aload_n 0, 1) := by decide +kernel
theorem dX2_addDefinition_36 : decode cX2_addDefinition 36 = .ok (.getfield 25, 3) := by decide +kernel
theorem dX2_addDefinition_39 : decode cX2_addDefinition 39 = .ok (.iload_n 1, 1) := by decide +kernel
theorem dX2_addDefinition_40 : decode cX2_addDefinition 40 = .ok (.iload 4, 2) := by decide +kernel
theorem dX2_addDefinition_42 : decode cX2_addDefinition 42 = .ok (.iastore, 1) := by decide +kernel
theorem dX2_addDefinition_43 : decode cX2_addDefinition 43 = .ok (.iload_n 2, 1) := by decide +kernel
theorem dX2_addDefinition_44 : decode cX2_addDefinition 44 = .ok (.ifCond .ne 10, 3) := by decide +kernel
theorem dX2_addDefinition_47 : decode cX2_addDefinition 47 = .ok (.aload_n 0, 1) := by decide +kernel
theorem dX2_addDefinition_48 : decode cX2_addDefinition 48 = .ok (.getfield 31, 3) := by decide +kernel
theorem dX2_addDefinition_51 : decode cX2_addDefinition 51 = .ok (.iload_n 3, 1) := by decide +kernel
theorem dX2_addDefinition_52 : decode cX2_addDefinition 52 = .ok (.iconst 1, 1) := by decide +kernel
theorem dX2_addDefinition_53 : decode cX2_addDefinition 53 = .ok (.bastore, 1) := by decide +kernel
theorem dX2_addDefinition_54 : decode cX2_addDefinition 54 = .ok (.aload_n 0, 1) := by decide +kernel
theorem dX2_addDefinition_55 : decode cX2_addDefinition 55 = .ok (.dup, 1) := by decide +kernel
theorem dX2_addDefinition_56 : decode cX2_addDefinition 56 = .ok (.getfield 28, 3) := by decide +kernel
theorem dX2_addDefinition_59 : decode cX2_addDefinition 59 = .ok (.iconst 1, 1) := by decide +kernel
theorem dX2_addDefinition_60 : decode cX2_addDefinition 60 = .ok (.iadd, 1) := by decide +kernel
theorem dX2_addDefinition_61 : decode cX2_addDefinition 61 = .ok (.putfield 28, 3) := by decide +kernel
theorem dX2_addDefinition_64 : decode cX2_addDefinition 64 = .ok (.iconst 1, 1) := by decide +kernel
theorem dX2_addDefinition_65 : decode cX2_addDefinition 65 = .ok (.ireturn, 1) := by decide +kernel
theorem dX2_addStep_0 : decode cX2_addStep 0 = .ok (.aload_n 0, 1) := by decide +kernel
theorem dX2_addStep_1 : decode cX2_addStep 1 = .ok (.getfield 53, 3) := by decide +kernel
theorem dX2_addStep_4 : decode cX2_addStep 4 = .ok (.bipush 100, 2) := by decide +kernel
theorem dX2_addStep_6 : decode cX2_addStep 6 = .ok (.if_icmp .lt 5, 3) := by decide +kernel
theorem dX2_addStep_9 : decode cX2_addStep 9 = .ok (.iconst 0, 1) := by decide +kernel
theorem dX2_addStep_10 : decode cX2_addStep 10 = .ok (.ireturn, 1) := by decide +kernel
theorem dX2_addStep_11 : decode cX2_addStep 11 = .ok (.aload_n 0, 1) := by decide +kernel
theorem dX2_addStep_12 : decode cX2_addStep 12 = .ok (.getfield 41, 3) := by decide +kernel
theorem dX2_addStep_15 : decode cX2_addStep 15 = .ok (.aload_n 0, 1) := by decide +kernel
theorem dX2_addStep_16 : decode cX2_addStep 16 = .ok (.getfield 53, 3) := by decide +kernel
theorem dX2_addStep_19 : decode cX2_addStep 19 = .ok (.iload_n 1, 1) := by decide +kernel
theorem dX2_addStep_20 : decode cX2_addStep 20 = .ok (.iastore, 1) := by decide +kernel
theorem dX2_addStep_21 : decode cX2_addStep 21 = .ok (.aload_n 0, 1) := by decide +kernel
theorem dX2_addStep_22 : decode cX2_addStep 22 = .ok (.getfield 44, 3) := by decide +kernel
theorem dX2_addStep_25 : decode cX2_addStep 25 = .ok (.aload_n 0, 1) := by decide +kernel
theorem dX2_addStep_26 : decode cX2_addStep 26 = .ok (.getfield 53, 3) := by decide +kernel
theorem dX2_addStep_29 : decode cX2_addStep 29 = .ok (.iload_n 2, 1) := by decide +kernel
theorem dX2_addStep_30 : decode cX2_addStep 30 = .ok (.iastore, 1) := by decide +kernel
theorem dX2_addStep_31 : decode cX2_addStep 31 = .ok (.aload_n 0, 1) := by decide +kernel
theorem dX2_addStep_32 : decode cX2_addStep 32 = .ok (.getfield 47, 3) := by decide +kernel
theorem dX2_addStep_35 : decode cX2_addStep 35 = .ok (.aload_n 0, 1) := by decide +kernel
theorem dX2_addStep_36 : decode cX2_addStep 36 = .ok (.getfield 53, 3) := by decide +kernel
theorem dX2_addStep_39 : decode cX2_addStep 39 = .ok (.iload_n 3, 1) := by decide +kernel
theorem dX2_addStep_40 : decode cX2_addStep 40 = .ok (.iastore, 1) := by decide +kernel
theorem dX2_addStep_41 : decode cX2_addStep 41 = .ok (.aload_n 0, 1) := by decide +kernel
theorem dX2_addStep_42 : decode cX2_addStep 42 = .ok (.getfield 50, 3) := by decide +kernel
theorem dX2_addStep_45 : decode cX2_addStep 45 = .ok (.aload_n 0, 1) := by decide +kernel
theorem dX2_addStep_46 : decode cX2_addStep 46 = .ok (.getfield 53, 3) := by decide +kernel
theorem dX2_addStep_49 : decode cX2_addStep 49 = .ok (.iload 4, 2) := by decide +kernel
theorem dX2_addStep_51 : decode cX2_addStep 51 = .ok (.iastore, 1) := by decide +kernel
theorem dX2_addStep_52 : decode cX2_addStep 52 = .ok (.aload_n 0, 1) := by decide +kernel
theorem dX2_addStep_53 : decode cX2_addStep 53 = .ok (.dup, 1) := by decide +kernel
theorem dX2_addStep_54 : decode cX2_addStep 54 = .ok (.getfield 53, 3) := by decide +kernel
theorem dX2_addStep_57 : decode cX2_addStep 57 = .ok (.iconst 1, 1) := by decide +kernel
theorem dX2_addStep_58 : decode cX2_addStep 58 = .ok (.iadd, 1) := by decide +kernel
theorem dX2_addStep_59 : decode cX2_addStep 59 = .ok (.putfield 53, 3) := by decide +kernel
theorem dX2_addStep_62 : decode cX2_addStep 62 = .ok (.iconst 1, 1) := by decide +kernel
theorem dX2_addStep_63 : decode cX2_addStep 63 = .ok (.ireturn, 1) := by decide +kernel
theorem dX2_keepsToItself_0 : decode cX2_keepsToItself 0 = .ok (.aload_n 0, 1) := by decide +kernel
theorem dX2_keepsToItself_1 : decode cX2_keepsToItself 1 = .ok (.getfield 19, 3) := by decide +kernel
theorem dX2_keepsToItself_4 : decode cX2_keepsToItself 4 = .ok (.iload_n 1, 1) := by decide +kernel
theorem dX2_keepsToItself_5 : decode cX2_keepsToItself 5 = .ok (.iaload, 1) := by decide +kernel
theorem dX2_keepsToItself_6 : decode cX2_keepsToItself 6 = .ok (.iconst (-1), 1) := by decide +kernel
theorem dX2_keepsToItself_7 : decode cX2_keepsToItself 7 = .ok (.if_icmp .eq 19, 3) := by decide +kernel
theorem dX2_keepsToItself_10 : decode cX2_keepsToItself 10 = .ok (.aload_n 0, 1) := by decide +kernel
theorem dX2_keepsToItself_11 : decode cX2_keepsToItself 11 = .ok (.getfield 25, 3) := by decide +kernel
theorem dX2_keepsToItself_14 : decode cX2_keepsToItself 14 = .ok (.iload_n 1, 1) := by decide +kernel
theorem dX2_keepsToItself_15 : decode cX2_keepsToItself 15 = .ok (.iaload, 1) := by decide +kernel
theorem dX2_keepsToItself_16 : decode cX2_keepsToItself 16 = .ok (.bipush 6, 2) := by decide +kernel
theorem dX2_keepsToItself_18 : decode cX2_keepsToItself 18 = .ok (.iand, 1) := by decide +kernel
theorem dX2_keepsToItself_19 : decode cX2_keepsToItself 19 = .ok (.ifCond .eq 7, 3) := by decide +kernel
theorem dX2_keepsToItself_22 : decode cX2_keepsToItself 22 = .ok (.iconst 1, 1) := by decide +kernel
theorem dX2_keepsToItself_23 : decode cX2_keepsToItself 23 = .ok (.goto 4, 3) := by decide +kernel
theorem dX2_keepsToItself_26 : decode cX2_keepsToItself 26 = .ok (.iconst 0, 1) := by decide +kernel
theorem dX2_keepsToItself_27 : decode cX2_keepsToItself 27 = .ok (.ireturn, 1) := by decide +kernel
theorem dX2_offers_0 : decode cX2_offers 0 = .ok (.aload_n 0, 1) := by decide +kernel
theorem dX2_offers_1 : decode cX2_offers 1 = .ok (.getfield 19, 3) := by decide +kernel
theorem dX2_offers_4 : decode cX2_offers 4 = .ok (.iload_n 1, 1) := by decide +kernel
theorem dX2_offers_5 : decode cX2_offers 5 = .ok (.iaload, 1) := by decide +kernel
theorem dX2_offers_6 : decode cX2_offers 6 = .ok (.iconst (-1), 1) := by decide +kernel
theorem dX2_offers_7 : decode cX2_offers 7 = .ok (.if_icmp .eq 18, 3) := by decide +kernel
theorem dX2_offers_10 : decode cX2_offers 10 = .ok (.aload_n 0, 1) := by decide +kernel
theorem dX2_offers_11 : decode cX2_offers 11 = .ok (.getfield 25, 3) := by decide +kernel
theorem dX2_offers_14 : decode cX2_offers 14 = .ok (.iload_n 1, 1) := by decide +kernel
theorem dX2_offers_15 : decode cX2_offers 15 = .ok (.iaload, 1) := by decide +kernel
theorem dX2_offers_16 : decode cX2_offers 16 = .ok (.iconst 4, 1) := by decide +kernel
theorem dX2_offers_17 : decode cX2_offers 17 = .ok (.iand, 1) := by decide +kernel
theorem dX2_offers_18 : decode cX2_offers 18 = .ok (.ifCond .ne 7, 3) := by decide +kernel
theorem dX2_offers_21 : decode cX2_offers 21 = .ok (.iconst 1, 1) := by decide +kernel
theorem dX2_offers_22 : decode cX2_offers 22 = .ok (.goto 4, 3) := by decide +kernel
theorem dX2_offers_25 : decode cX2_offers 25 = .ok (.iconst 0, 1) := by decide +kernel
theorem dX2_offers_26 : decode cX2_offers 26 = .ok (.ireturn, 1) := by decide +kernel
theorem dX2_isWeak_0 : decode cX2_isWeak 0 = .ok (.aload_n 0, 1) := by decide +kernel
theorem dX2_isWeak_1 : decode cX2_isWeak 1 = .ok (.getfield 25, 3) := by decide +kernel
theorem dX2_isWeak_4 : decode cX2_isWeak 4 = .ok (.iload_n 1, 1) := by decide +kernel
theorem dX2_isWeak_5 : decode cX2_isWeak 5 = .ok (.iaload, 1) := by decide +kernel
theorem dX2_isWeak_6 : decode cX2_isWeak 6 = .ok (.iconst 1, 1) := by decide +kernel
theorem dX2_isWeak_7 : decode cX2_isWeak 7 = .ok (.iand, 1) := by decide +kernel
theorem dX2_isWeak_8 : decode cX2_isWeak 8 = .ok (.ifCond .eq 7, 3) := by decide +kernel
theorem dX2_isWeak_11 : decode cX2_isWeak 11 = .ok (.iconst 1, 1) := by decide +kernel
theorem dX2_isWeak_12 : decode cX2_isWeak 12 = .ok (.goto 4, 3) := by decide +kernel
theorem dX2_isWeak_15 : decode cX2_isWeak 15 = .ok (.iconst 0, 1) := by decide +kernel
theorem dX2_isWeak_16 : decode cX2_isWeak 16 = .ok (.ireturn, 1) := by decide +kernel
theorem dX2_nameUsedAt_0 : decode cX2_nameUsedAt 0 = .ok (.aload_n 0, 1) := by decide +kernel
theorem dX2_nameUsedAt_1 : decode cX2_nameUsedAt 1 = .ok (.getfield 41, 3) := by decide +kernel
theorem dX2_nameUsedAt_4 : decode cX2_nameUsedAt 4 = .ok (.iload_n 1, 1) := by decide +kernel
theorem dX2_nameUsedAt_5 : decode cX2_nameUsedAt 5 = .ok (.iaload, 1) := by decide +kernel
theorem dX2_nameUsedAt_6 : decode cX2_nameUsedAt 6 = .ok (.tableswitch 44 7 10 #[30, 37, 30, 37], 30) := by decide +kernel
theorem dX2_nameUsedAt_36 : decode cX2_nameUsedAt 36 = .ok (.aload_n 0, 1) := by decide +kernel
theorem dX2_nameUsedAt_37 : decode cX2_nameUsedAt 37 = .ok (.getfield 44, 3) := by decide +kernel
theorem dX2_nameUsedAt_40 : decode cX2_nameUsedAt 40 = .ok (.iload_n 1, 1) := by decide +kernel
theorem dX2_nameUsedAt_41 : decode cX2_nameUsedAt 41 = .ok (.iaload, 1) := by decide +kernel
theorem dX2_nameUsedAt_42 : decode cX2_nameUsedAt 42 = .ok (.ireturn, 1) := by decide +kernel
theorem dX2_nameUsedAt_43 : decode cX2_nameUsedAt 43 = .ok (.aload_n 0, 1) := by decide +kernel
theorem dX2_nameUsedAt_44 : decode cX2_nameUsedAt 44 = .ok (.getfield 47, 3) := by decide +kernel
theorem dX2_nameUsedAt_47 : decode cX2_nameUsedAt 47 = .ok (.iload_n 1, 1) := by decide +kernel
theorem dX2_nameUsedAt_48 : decode cX2_nameUsedAt 48 = .ok (.iaload, 1) := by decide +kernel
theorem dX2_nameUsedAt_49 : decode cX2_nameUsedAt 49 = .ok (.ireturn, 1) := by decide +kernel
theorem dX2_nameUsedAt_50 : decode cX2_nameUsedAt 50 = .ok (.iconst (-1), 1) := by decide +kernel
theorem dX2_nameUsedAt_51 : decode cX2_nameUsedAt 51 = .ok (.ireturn, 1) := by decide +kernel
theorem dX2_kindWantedAt_0 : decode cX2_kindWantedAt 0 = .ok (.aload_n 0, 1) := by decide +kernel
theorem dX2_kindWantedAt_1 : decode cX2_kindWantedAt 1 = .ok (.getfield 41, 3) := by decide +kernel
theorem dX2_kindWantedAt_4 : decode cX2_kindWantedAt 4 = .ok (.iload_n 1, 1) := by decide +kernel
theorem dX2_kindWantedAt_5 : decode cX2_kindWantedAt 5 = .ok (.iaload, 1) := by decide +kernel
theorem dX2_kindWantedAt_6 : decode cX2_kindWantedAt 6 = .ok (.bipush 8, 2) := by decide +kernel
theorem dX2_kindWantedAt_8 : decode cX2_kindWantedAt 8 = .ok (.if_icmp .eq 14, 3) := by decide +kernel
theorem dX2_kindWantedAt_11 : decode cX2_kindWantedAt 11 = .ok (.aload_n 0, 1) := by decide +kernel
theorem dX2_kindWantedAt_12 : decode cX2_kindWantedAt 12 = .ok (.getfield 41, 3) := by decide +kernel
theorem dX2_kindWantedAt_15 : decode cX2_kindWantedAt 15 = .ok (.iload_n 1, 1) := by decide +kernel
theorem dX2_kindWantedAt_16 : decode cX2_kindWantedAt 16 = .ok (.iaload, 1) := by decide +kernel
theorem dX2_kindWantedAt_17 : decode cX2_kindWantedAt 17 = .ok (.bipush 9, 2) := by decide +kernel
theorem dX2_kindWantedAt_19 : decode cX2_kindWantedAt 19 = .ok (.if_icmp .ne 7, 3) := by decide +kernel
theorem dX2_kindWantedAt_22 : decode cX2_kindWantedAt 22 = .ok (.iconst 1, 1) := by decide +kernel
theorem dX2_kindWantedAt_23 : decode cX2_kindWantedAt 23 = .ok (.goto 4, 3) := by decide +kernel
theorem dX2_kindWantedAt_26 : decode cX2_kindWantedAt 26 = .ok (.iconst 0, 1) := by decide +kernel
theorem dX2_kindWantedAt_27 : decode cX2_kindWantedAt 27 = .ok (.ireturn, 1) := by decide +kernel
end
section
theorem dX1_init_0 : decode cX1_init 0 = .ok (.aload_n 0, 1) := by decide +kernel
theorem dX1_init_1 : decode cX1_init 1 = .ok (.invokespecial 3, 3) := by decide +kernel
theorem dX1_init_4 : decode cX1_init 4 = .ok (.aload_n 0, 1) := by decide +kernel
theorem dX1_init_5 : decode cX1_init 5 = .ok (.bipush 12, 2) := by decide +kernel
theorem dX1_init_7 : decode cX1_init 7 = .ok (.newarray .int, 2) := by decide +kernel
theorem dX1_init_9 : decode cX1_init 9 = .ok (.putfield 9, 3) := by decide +kernel
theorem dX1_init_12 : decode cX1_init 12 = .ok (.aload_n 0, 1) := by decide +kernel
theorem dX1_init_13 : decode cX1_init 13 = .ok (.bipush 12, 2) := by decide +kernel
theorem dX1_init_15 : decode cX1_init 15 = .ok (.newarray .int, 2) := by decide +kernel
theorem dX1_init_17 : decode cX1_init 17 = .ok (.putfield 15, 3) := by decide +kernel
theorem dX1_init_20 : decode cX1_init 20 = .ok (.aload_n 0, 1) := by decide +kernel
theorem dX1_init_21 : decode cX1_init 21 = .ok (.iconst 0, 1) := by decide +kernel
theorem dX1_init_22 : decode cX1_init 22 = .ok (.putfield 18, 3) := by decide +kernel
theorem dX1_init_25 : decode cX1_init 25 = .ok (.aload_n 0, 1) := by decide +kernel
theorem dX1_init_26 : decode cX1_init 26 = .ok (.bipush 12, 2) := by decide +kernel
theorem dX1_init_28 : decode cX1_init 28 = .ok (.newarray .int, 2) := by decide +kernel
theorem dX1_init_30 : decode cX1_init 30 = .ok (.putfield 22, 3) := by decide +kernel
theorem dX1_init_33 : decode cX1_init 33 = .ok (.aload_n 0, 1) := by decide +kernel
theorem dX1_init_34 : decode cX1_init 34 = .ok (.bipush 12, 2) := by decide +kernel
theorem dX1_init_36 : decode cX1_init 36 = .ok (.newarray .boolean, 2) := by decide +kernel
theorem dX1_init_38 : decode cX1_init 38 = .ok (.putfield 25, 3) := by decide +kernel
theorem dX1_init_41 : decode cX1_init 41 = .ok (.aload_n 0, 1) := by decide +kernel
theorem dX1_init_42 : decode cX1_init 42 = .ok (.iconst 0, 1) := by decide +kernel
theorem dX1_init_43 : decode cX1_init 43 = .ok (.putfield 29, 3) := by decide +kernel
theorem dX1_init_46 : decode cX1_init 46 = .ok (.aload_n 0, 1) := by decide +kernel
theorem dX1_init_47 : decode cX1_init 47 = .ok (.bipush 64, 2) := by decide +kernel
theorem dX1_init_49 : decode cX1_init 49 = .ok (.newarray .int, 2) := by decide +kernel
theorem dX1_init_51 : decode cX1_init 51 = .ok (.putfield 32, 3) := by decide +kernel
theorem dX1_init_54 : decode cX1_init 54 = .ok (.aload_n 0, 1) := by decide +kernel
theorem dX1_init_55 : decode cX1_init 55 = .ok (.iconst 0, 1) := by decide +kernel
theorem dX1_init_56 : decode cX1_init 56 = .ok (.putfield 35, 3) := by decide +kernel
theorem dX1_init_59 : decode cX1_init 59 = .ok (.aload_n 0, 1) := by decide +kernel
theorem dX1_init_60 : decode cX1_init 60 = .ok (.aload_n 1, 1) := by decide +kernel
theorem dX1_init_61 : decode cX1_init 61 = .ok (.putfield 39, 3) := by decide +kernel
theorem dX1_init_64 : decode cX1_init 64 = .ok (.aload_n 0, 1) := by decide +kernel
theorem dX1_init_65 : decode cX1_init 65 = .ok (.getfield 15, 3) := by decide +kernel
theorem dX1_init_68 : decode cX1_init 68 = .ok (.iconst (-1), 1) := by decide +kernel
theorem dX1_init_69 : decode cX1_init 69 = .ok (.invokestatic 43, 3) := by decide +kernel
theorem dX1_init_72 : decode cX1_init 72 = .ok (.return_, 1) := by decide +kernel
theorem dX1_clear_0 : decode cX1_clear 0 = .ok (.aload_n 0, 1) := by decide +kernel
theorem dX1_clear_1 : decode cX1_clear 1 = .ok (.iconst 0, 1) := by decide +kernel
theorem dX1_clear_2 : decode cX1_clear 2 = .ok (.putfield 18, 3) := by decide +kernel
theorem dX1_clear_5 : decode cX1_clear 5 = .ok (.aload_n 0, 1) := by decide +kernel
theorem dX1_clear_6 : decode cX1_clear 6 = .ok (.iconst 0, 1) := by decide +kernel
theorem dX1_clear_7 : decode cX1_clear 7 = .ok (.putfield 29, 3) := by decide +kernel
theorem dX1_clear_10 : decode cX1_clear 10 = .ok (.aload_n 0, 1) := by decide +kernel
theorem dX1_clear_11 : decode cX1_clear 11 = .ok (.getfield 15, 3) := by decide +kernel
theorem dX1_clear_14 : decode cX1_clear 14 = .ok (.iconst (-1), 1) := by decide +kernel
theorem dX1_clear_15 : decode cX1_clear 15 = .ok (.invokestatic 43, 3) := by decide +kernel
theorem dX1_clear_18 : decode cX1_clear 18 = .ok (.return_, 1) := by decide +kernel
theorem dX1_arrange_0 : decode cX1_arrange 0 = .ok (.aload_n 0, 1) := by decide +kernel
theorem dX1_arrange_1 : decode cX1_arrange 1 = .ok (.invokevirtual 49, 3) := by decide +kernel
theorem dX1_arrange_4 : decode cX1_arrange 4 = .ok (.aload_n 0, 1) := by decide +kernel
theorem dX1_arrange_5 : decode cX1_arrange 5 = .ok (.iload_n 2, 1) := by decide +kernel
theorem dX1_arrange_6 : decode cX1_arrange 6 = .ok (.putfield 35, 3) := by decide +kernel
theorem dX1_arrange_9 : decode cX1_arrange 9 = .ok (.aload_n 0, 1) := by decide +kernel
theorem dX1_arrange_10 : decode cX1_arrange 10 = .ok (.iload_n 1, 1) := by decide +kernel
theorem dX1_arrange_11 : decode cX1_arrange 11 = .ok (.invokevirtual 52, 3) := by decide +kernel
theorem dX1_arrange_14 : decode cX1_arrange 14 = .ok (.iconst 0, 1) := by decide +kernel
theorem dX1_arrange_15 : decode cX1_arrange 15 = .ok (.istore_n 3, 1) := by decide +kernel
theorem dX1_arrange_16 : decode cX1_arrange 16 = .ok (.iload_n 3, 1) := by decide +kernel
theorem dX1_arrange_17 : decode cX1_arrange 17 = .ok (.bipush 12, 2) := by decide +kernel
theorem dX1_arrange_19 : decode cX1_arrange 19 = .ok (.if_icmp .ge 16, 3) := by decide +kernel
theorem dX1_arrange_22 : decode cX1_arrange 22 = .ok (.aload_n 0, 1) := by decide +kernel
theorem dX1_arrange_23 : decode cX1_arrange 23 = .ok (.getfield 25, 3) := by decide +kernel
theorem dX1_arrange_26 : decode cX1_arrange 26 = .ok (.iload_n 3, 1) := by decide +kernel
theorem dX1_arrange_27 : decode cX1_arrange 27 = .ok (.iconst 0, 1) := by decide +kernel
theorem dX1_arrange_28 : decode cX1_arrange 28 = .ok (.bastore, 1) := by decide +kernel
theorem dX1_arrange_29 : decode cX1_arrange 29 = .ok (.iinc 3 1, 3) := by decide +kernel
theorem dX1_arrange_32 : decode cX1_arrange 32 = .ok (.goto (-16), 3) := by decide +kernel
theorem dX1_arrange_35 : decode cX1_arrange 35 = .ok (.aload_n 0, 1) := by decide +kernel
theorem dX1_arrange_36 : decode cX1_arrange 36 = .ok (.iload_n 1, 1) := by decide +kernel
theorem dX1_arrange_37 : decode cX1_arrange 37 = .ok (.iconst 0, 1) := by decide +kernel
theorem dX1_arrange_38 : decode cX1_arrange 38 = .ok (.invokestatic 56, 3) := by decide +kernel
theorem dX1_arrange_41 : decode cX1_arrange 41 = .ok (.aload_n 0, 1) := by decide +kernel
theorem dX1_arrange_42 : decode cX1_arrange 42 = .ok (.invokevirtual 60, 3) := by decide +kernel
theorem dX1_arrange_45 : decode cX1_arrange 45 = .ok (.return_, 1) := by decide +kernel
theorem dX1_placeFrom_0 : decode cX1_placeFrom 0 = .ok (.aload_n 0, 1) := by decide +kernel
theorem dX1_placeFrom_1 : decode cX1_placeFrom 1 = .ok (.iload_n 1, 1) := by decide +kernel
theorem dX1_placeFrom_2 : decode cX1_placeFrom 2 = .ok (.invokevirtual 63, 3) := by decide +kernel
theorem dX1_placeFrom_5 : decode cX1_placeFrom 5 = .ok (.iconst 0, 1) := by decide +kernel
theorem dX1_placeFrom_6 : decode cX1_placeFrom 6 = .ok (.istore_n 2, 1) := by decide +kernel
theorem dX1_placeFrom_7 : decode cX1_placeFrom 7 = .ok (.iload_n 2, 1) := by decide +kernel
theorem dX1_placeFrom_8 : decode cX1_placeFrom 8 = .ok (.bipush 12, 2) := by decide +kernel
theorem dX1_placeFrom_10 : decode cX1_placeFrom 10 = .ok (.if_icmp .ge 58, 3) := by decide +kernel
theorem dX1_placeFrom_13 : decode cX1_placeFrom 13 = .ok (.iload_n 2, 1) := by decide +kernel
theorem dX1_placeFrom_14 : decode cX1_placeFrom 14 = .ok (.aload_n 0, 1) := by decide +kernel
theorem dX1_placeFrom_15 : decode cX1_placeFrom 15 = .ok (.getfield 18, 3) := by decide +kernel
theorem dX1_placeFrom_18 : decode cX1_placeFrom 18 = .ok (.if_icmp .ge 50, 3) := by decide +kernel
theorem dX1_placeFrom_21 : decode cX1_placeFrom 21 = .ok (.aload_n 0, 1) := by decide +kernel
theorem dX1_placeFrom_22 : decode cX1_placeFrom 22 = .ok (.getfield 39, 3) := by decide +kernel
theorem dX1_placeFrom_25 : decode cX1_placeFrom 25 = .ok (.aload_n 0, 1) := by decide +kernel
theorem dX1_placeFrom_26 : decode cX1_placeFrom 26 = .ok (.getfield 9, 3) := by decide +kernel
theorem dX1_placeFrom_29 : decode cX1_placeFrom 29 = .ok (.iload_n 2, 1) := by decide +kernel
theorem dX1_placeFrom_30 : decode cX1_placeFrom 30 = .ok (.iaload, 1) := by decide +kernel
theorem dX1_placeFrom_31 : decode cX1_placeFrom 31 = .ok (.aaload, 1) := by decide +kernel
theorem dX1_placeFrom_32 : decode cX1_placeFrom 32 = .ok (.astore_n 3, 1) := by decide +kernel
theorem dX1_placeFrom_33 : decode cX1_placeFrom 33 = .ok (.iconst 0, 1) := by decide +kernel
theorem dX1_placeFrom_34 : decode cX1_placeFrom 34 = .ok (.istore 4, 2) := by decide +kernel
theorem dX1_placeFrom_36 : decode cX1_placeFrom 36 = .ok (.iload 4, 2) := by decide +kernel
theorem dX1_placeFrom_38 : decode cX1_placeFrom 38 = .ok (.aload_n 3, 1) := by decide +kernel
theorem dX1_placeFrom_39 : decode cX1_placeFrom 39 = .ok (.getfield 66, 3) := by decide +kernel
theorem dX1_placeFrom_42 : decode cX1_placeFrom 42 = .ok (.if_icmp .ge 20, 3) := by decide +kernel
theorem dX1_placeFrom_45 : decode cX1_placeFrom 45 = .ok (.aload_n 0, 1) := by decide +kernel
theorem dX1_placeFrom_46 : decode cX1_placeFrom 46 = .ok (.aload_n 3, 1) := by decide +kernel
theorem dX1_placeFrom_47 : decode cX1_placeFrom 47 = .ok (.getfield 71, 3) := by decide +kernel
theorem dX1_placeFrom_50 : decode cX1_placeFrom 50 = .ok (.iload 4, 2) := by decide +kernel
theorem dX1_placeFrom_52 : decode cX1_placeFrom 52 = .ok (.iaload, 1) := by decide +kernel
theorem dX1_placeFrom_53 : decode cX1_placeFrom 53 = .ok (.invokevirtual 63, 3) := by decide +kernel
theorem dX1_placeFrom_56 : decode cX1_placeFrom 56 = .ok (.iinc 4 1, 3) := by decide +kernel
theorem dX1_placeFrom_59 : decode cX1_placeFrom 59 = .ok (.goto (-23), 3) := by decide +kernel
theorem dX1_placeFrom_62 : decode cX1_placeFrom 62 = .ok (.iinc 2 1, 3) := by decide +kernel
theorem dX1_placeFrom_65 : decode cX1_placeFrom 65 = .ok (.goto (-58), 3) := by decide +kernel
theorem dX1_placeFrom_68 : decode cX1_placeFrom 68 = .ok (.return_, 1) := by decide +kernel
theorem dX1_append_0 : decode cX1_append 0 = .ok (.aload_n 0, 1) := by decide +kernel
theorem dX1_append_1 : decode cX1_append 1 = .ok (.getfield 15, 3) := by decide +kernel
theorem dX1_append_4 : decode cX1_append 4 = .ok (.iload_n 1, 1) := by decide +kernel
theorem dX1_append_5 : decode cX1_append 5 = .ok (.iaload, 1) := by decide +kernel
theorem dX1_append_6 : decode cX1_append 6 = .ok (.iconst (-1), 1) := by decide +kernel
theorem dX1_append_7 : decode cX1_append 7 = .ok (.if_icmp .ne 42, 3) := by decide +kernel
theorem dX1_append_10 : decode cX1_append 10 = .ok (.aload_n 0, 1) := by decide +kernel
theorem dX1_append_11 : decode cX1_append 11 = .ok (.getfield 18, 3) := by decide +kernel
theorem dX1_append_14 : decode cX1_append 14 = .ok (.bipush 12, 2) := by decide +kernel
theorem dX1_append_16 : decode cX1_append 16 = .ok (.if_icmp .ge 33, 3) := by decide +kernel
theorem dX1_append_19 : decode cX1_append 19 = .ok (.aload_n 0, 1) := by decide +kernel
theorem dX1_append_20 : decode cX1_append 20 = .ok (.getfield 15, 3) := by decide +kernel
theorem dX1_append_23 : decode cX1_append 23 = .ok (.iload_n 1, 1) := by decide +kernel
theorem dX1_append_24 : decode cX1_append 24 = .ok (.aload_n 0, 1) := by decide +kernel
theorem dX1_append_25 : decode cX1_append 25 = .ok (.getfield 18, 3) := by decide +kernel
theorem dX1_append_28 : decode cX1_append 28 = .ok (.iastore, 1) := by decide +kernel
theorem dX1_append_29 : decode cX1_append 29 = .ok (.aload_n 0, 1) := by decide +kernel
theorem dX1_append_30 : decode cX1_append 30 = .ok (.getfield 9, 3) := by decide +kernel
theorem dX1_append_33 : decode cX1_append 33 = .ok (.aload_n 0, 1) := by decide +kernel
theorem dX1_append_34 : decode cX1_append 34 = .ok (.getfield 18, 3) := by decide +kernel
theorem dX1_append_37 : decode cX1_append 37 = .ok (.iload_n 1, 1) := by decide +kernel
theorem dX1_append_38 : decode cX1_append 38 = .ok (.iastore, 1) := by decide +kernel
theorem dX1_append_39 : decode cX1_append 39 = .ok (.aload_n 0, 1) := by decide +kernel
theorem dX1_append_40 : decode cX1_append 40 = .ok (.dup, 1) := by decide +kernel
theorem dX1_append_41 : decode cX1_append 41 = .ok (.getfield 18, 3) := by decide +kernel
theorem dX1_append_44 : decode cX1_append 44 = .ok (.iconst 1, 1) := by decide +kernel
theorem dX1_append_45 : decode cX1_append 45 = .ok (.iadd, 1) := by decide +kernel
theorem dX1_append_46 : decode cX1_append 46 = .ok (.putfield 18, 3) := by decide +kernel
theorem dX1_append_49 : decode cX1_append 49 = .ok (.return_, 1) := by decide +kernel
theorem dX1_beginFrom_0 : decode cX1_beginFrom 0 = .ok (.aload_n 0, 1) := by decide +kernel
theorem dX1_beginFrom_1 : decode cX1_beginFrom 1 = .ok (.getfield 25, 3) := by decide +kernel
theorem dX1_beginFrom_4 : decode cX1_beginFrom 4 = .ok (.iload_n 1, 1) := by decide +kernel
theorem dX1_beginFrom_5 : decode cX1_beginFrom 5 = .ok (.baload, 1) := by decide +kernel
theorem dX1_beginFrom_6 : decode cX1_beginFrom 6 = .ok (.ifCond .ne 9, 3) := by decide +kernel
theorem dX1_beginFrom_9 : decode cX1_beginFrom 9 = .ok (.iload_n 2, 1) := by decide +kernel
theorem dX1_beginFrom_10 : decode cX1_beginFrom 10 = .ok (.bipush 12, 2) := by decide +kernel
theorem dX1_beginFrom_12 : decode cX1_beginFrom 12 = .ok (.if_icmp .lt 4, 3) := by decide +kernel
theorem dX1_beginFrom_15 : decode cX1_beginFrom 15 = .ok (.return_, 1) := by decide +kernel
theorem dX1_beginFrom_16 : decode cX1_beginFrom 16 = .ok (.aload_n 0, 1) := by decide +kernel
theorem dX1_beginFrom_17 : decode cX1_beginFrom 17 = .ok (.getfield 25, 3) := by decide +kernel
theorem dX1_beginFrom_20 : decode cX1_beginFrom 20 = .ok (.iload_n 1, 1) := by decide +kernel
theorem dX1_beginFrom_21 : decode cX1_beginFrom 21 = .ok (.iconst 1, 1) := by decide +kernel
theorem dX1_beginFrom_22 : decode cX1_beginFrom 22 = .ok (.bastore, 1) := by decide +kernel
theorem dX1_beginFrom_23 : decode cX1_beginFrom 23 = .ok (.aload_n 0, 1) := by decide +kernel
theorem dX1_beginFrom_24 : decode cX1_beginFrom 24 = .ok (.getfield 39, 3) := by decide +kernel
theorem dX1_beginFrom_27 : decode cX1_beginFrom 27 = .ok (.iload_n 1, 1) := by decide +kernel
theorem dX1_beginFrom_28 : decode cX1_beginFrom 28 = .ok (.aaload, 1) := by decide +kernel
theorem dX1_beginFrom_29 : decode cX1_beginFrom 29 = .ok (.astore_n 3, 1) := by decide +kernel
theorem dX1_beginFrom_30 : decode cX1_beginFrom 30 = .ok (.iconst 0, 1) := by decide +kernel
theorem dX1_beginFrom_31 : decode cX1_beginFrom 31 = .ok (.istore 4, 2) := by decide +kernel
theorem dX1_beginFrom_33 : decode cX1_beginFrom 33 = .ok (.iload 4, 2) := by decide +kernel
theorem dX1_beginFrom_35 : decode cX1_beginFrom 35 = .ok (.aload_n 3, 1) := by decide +kernel
theorem dX1_beginFrom_36 : decode cX1_beginFrom 36 = .ok (.getfield 66, 3) := by decide +kernel
theorem dX1_beginFrom_39 : decode cX1_beginFrom 39 = .ok (.if_icmp .ge 23, 3) := by decide +kernel
theorem dX1_beginFrom_42 : decode cX1_beginFrom 42 = .ok (.aload_n 0, 1) := by decide +kernel
theorem dX1_beginFrom_43 : decode cX1_beginFrom 43 = .ok (.aload_n 3, 1) := by decide +kernel
theorem dX1_beginFrom_44 : decode cX1_beginFrom 44 = .ok (.getfield 71, 3) := by decide +kernel
theorem dX1_beginFrom_47 : decode cX1_beginFrom 47 = .ok (.iload 4, 2) := by decide +kernel
theorem dX1_beginFrom_49 : decode cX1_beginFrom 49 = .ok (.iaload, 1) := by decide +kernel
theorem dX1_beginFrom_50 : decode cX1_beginFrom 50 = .ok (.iload_n 2, 1) := by decide +kernel
theorem dX1_beginFrom_51 : decode cX1_beginFrom 51 = .ok (.iconst 1, 1) := by decide +kernel
theorem dX1_beginFrom_52 : decode cX1_beginFrom 52 = .ok (.iadd, 1) := by decide +kernel
theorem dX1_beginFrom_53 : decode cX1_beginFrom 53 = .ok (.invokestatic 56, 3) := by decide +kernel
theorem dX1_beginFrom_56 : decode cX1_beginFrom 56 = .ok (.iinc 4 1, 3) := by decide +kernel
theorem dX1_beginFrom_59 : decode cX1_beginFrom 59 = .ok (.goto (-26), 3) := by decide +kernel
theorem dX1_beginFrom_62 : decode cX1_beginFrom 62 = .ok (.aload_n 0, 1) := by decide +kernel
theorem dX1_beginFrom_63 : decode cX1_beginFrom 63 = .ok (.getfield 29, 3) := by decide +kernel
theorem dX1_beginFrom_66 : decode cX1_beginFrom 66 = .ok (.bipush 12, 2) := by decide +kernel
theorem dX1_beginFrom_68 : decode cX1_beginFrom 68 = .ok (.if_icmp .ge 23, 3) := by decide +kernel
theorem dX1_beginFrom_71 : decode cX1_beginFrom 71 = .ok (.aload_n 0, 1) := by decide +kernel
theorem dX1_beginFrom_72 : decode cX1_beginFrom 72 = .ok (.getfield 22, 3) := by decide +kernel
theorem dX1_beginFrom_75 : decode cX1_beginFrom 75 = .ok (.aload_n 0, 1) := by decide +kernel
theorem dX1_beginFrom_76 : decode cX1_beginFrom 76 = .ok (.getfield 29, 3) := by decide +kernel
theorem dX1_beginFrom_79 : decode cX1_beginFrom 79 = .ok (.iload_n 1, 1) := by decide +kernel
theorem dX1_beginFrom_80 : decode cX1_beginFrom 80 = .ok (.iastore, 1) := by decide +kernel
theorem dX1_beginFrom_81 : decode cX1_beginFrom 81 = .ok (.aload_n 0, 1) := by decide +kernel
theorem dX1_beginFrom_82 : decode cX1_beginFrom 82 = .ok (.dup, 1) := by decide +kernel
theorem dX1_beginFrom_83 : decode cX1_beginFrom 83 = .ok (.getfield 29, 3) := by decide +kernel
theorem dX1_beginFrom_86 : decode cX1_beginFrom 86 = .ok (.iconst 1, 1) := by decide +kernel
theorem dX1_beginFrom_87 : decode cX1_beginFrom 87 = .ok (.iadd, 1) := by decide +kernel
theorem dX1_beginFrom_88 : decode cX1_beginFrom 88 = .ok (.putfield 29, 3) := by decide +kernel
theorem dX1_beginFrom_91 : decode cX1_beginFrom 91 = .ok (.return_, 1) := by decide +kernel
theorem dX1_findGivers_0 : decode cX1_findGivers 0 = .ok (.aload_n 0, 1) := by decide +kernel
theorem dX1_findGivers_1 : decode cX1_findGivers 1 = .ok (.getfield 32, 3) := by decide +kernel
theorem dX1_findGivers_4 : decode cX1_findGivers 4 = .ok (.bipush 20, 2) := by decide +kernel
theorem dX1_findGivers_6 : decode cX1_findGivers 6 = .ok (.invokestatic 43, 3) := by decide +kernel
theorem dX1_findGivers_9 : decode cX1_findGivers 9 = .ok (.iconst 0, 1) := by decide +kernel
theorem dX1_findGivers_10 : decode cX1_findGivers 10 = .ok (.istore_n 1, 1) := by decide +kernel
theorem dX1_findGivers_11 : decode cX1_findGivers 11 = .ok (.iload_n 1, 1) := by decide +kernel
theorem dX1_findGivers_12 : decode cX1_findGivers 12 = .ok (.aload_n 0, 1) := by decide +kernel
theorem dX1_findGivers_13 : decode cX1_findGivers 13 = .ok (.getfield 18, 3) := by decide +kernel
theorem dX1_findGivers_16 : decode cX1_findGivers 16 = .ok (.if_icmp .ge 59, 3) := by decide +kernel
theorem dX1_findGivers_19 : decode cX1_findGivers 19 = .ok (.aload_n 0, 1) := by decide +kernel
theorem dX1_findGivers_20 : decode cX1_findGivers 20 = .ok (.getfield 9, 3) := by decide +kernel
theorem dX1_findGivers_23 : decode cX1_findGivers 23 = .ok (.iload_n 1, 1) := by decide +kernel
theorem dX1_findGivers_24 : decode cX1_findGivers 24 = .ok (.iaload, 1) := by decide +kernel
theorem dX1_findGivers_25 : decode cX1_findGivers 25 = .ok (.istore_n 2, 1) := by decide +kernel
theorem dX1_findGivers_26 : decode cX1_findGivers 26 = .ok (.iconst 0, 1) := by decide +kernel
theorem dX1_findGivers_27 : decode cX1_findGivers 27 = .ok (.istore_n 3, 1) := by decide +kernel
theorem dX1_findGivers_28 : decode cX1_findGivers 28 = .ok (.iload_n 3, 1) := by decide +kernel
theorem dX1_findGivers_29 : decode cX1_findGivers 29 = .ok (.bipush 64, 2) := by decide +kernel
theorem dX1_findGivers_31 : decode cX1_findGivers 31 = .ok (.if_icmp .ge 38, 3) := by decide +kernel
theorem dX1_findGivers_34 : decode cX1_findGivers 34 = .ok (.aload_n 0, 1) := by decide +kernel
theorem dX1_findGivers_35 : decode cX1_findGivers 35 = .ok (.getfield 39, 3) := by decide +kernel
theorem dX1_findGivers_38 : decode cX1_findGivers 38 = .ok (.iload_n 2, 1) := by decide +kernel
theorem dX1_findGivers_39 : decode cX1_findGivers 39 = .ok (.aaload, 1) := by decide +kernel
theorem dX1_findGivers_40 : decode cX1_findGivers 40 = .ok (.iload_n 3, 1) := by decide +kernel
theorem dX1_findGivers_41 : decode cX1_findGivers 41 = .ok (.invokevirtual 74, 3) := by decide +kernel
theorem dX1_findGivers_44 : decode cX1_findGivers 44 = .ok (.ifCond .eq 19, 3) := by decide +kernel
theorem dX1_findGivers_47 : decode cX1_findGivers 47 = .ok (.aload_n 0, 1) := by decide +kernel
theorem dX1_findGivers_48 : decode cX1_findGivers 48 = .ok (.iload_n 2, 1) := by decide +kernel
theorem dX1_findGivers_49 : decode cX1_findGivers 49 = .ok (.iload_n 3, 1) := by decide +kernel
theorem dX1_findGivers_50 : decode cX1_findGivers 50 = .ok (.invokevirtual 78, 3) := by decide +kernel
theorem dX1_findGivers_53 : decode cX1_findGivers 53 = .ok (.ifCond .eq 10, 3) := by decide +kernel
theorem dX1_findGivers_56 : decode cX1_findGivers 56 = .ok (.aload_n 0, 1) := by decide +kernel
theorem dX1_findGivers_57 : decode cX1_findGivers 57 = .ok (.getfield 32, 3) := by decide +kernel
theorem dX1_findGivers_60 : decode cX1_findGivers 60 = .ok (.iload_n 3, 1) := by decide +kernel
theorem dX1_findGivers_61 : decode cX1_findGivers 61 = .ok (.iload_n 2, 1) := by decide +kernel
theorem dX1_findGivers_62 : decode cX1_findGivers 62 = .ok (.iastore, 1) := by decide +kernel
theorem dX1_findGivers_63 : decode cX1_findGivers 63 = .ok (.iinc 3 1, 3) := by decide +kernel
theorem dX1_findGivers_66 : decode cX1_findGivers 66 = .ok (.goto (-38), 3) := by decide +kernel
theorem dX1_findGivers_69 : decode cX1_findGivers 69 = .ok (.iinc 1 1, 3) := by decide +kernel
theorem dX1_findGivers_72 : decode cX1_findGivers 72 = .ok (.goto (-61), 3) := by decide +kernel
theorem dX1_findGivers_75 : decode cX1_findGivers 75 = .ok (.return_, 1) := by decide +kernel
theorem dX1_isBetterGiver_0 : decode cX1_isBetterGiver 0 = .ok (.aload_n 0, 1) := by decide +kernel
theorem dX1_isBetterGiver_1 : decode cX1_isBetterGiver 1 = .ok (.getfield 32, 3) := by decide +kernel
theorem dX1_isBetterGiver_4 : decode cX1_isBetterGiver 4 = .ok (.iload_n 2, 1) := by decide +kernel
theorem dX1_isBetterGiver_5 : decode cX1_isBetterGiver 5 = .ok (.iaload, 1) := by decide +kernel
theorem dX1_isBetterGiver_6 : decode cX1_isBetterGiver 6 = .ok (.istore_n 3, 1) := by decide +kernel
theorem dX1_isBetterGiver_7 : decode cX1_isBetterGiver 7 = .ok (.aload_n 0, 1) := by decide +kernel
theorem dX1_isBetterGiver_8 : decode cX1_isBetterGiver 8 = .ok (.iload_n 3, 1) := by decide +kernel
theorem dX1_isBetterGiver_9 : decode cX1_isBetterGiver 9 = .ok (.invokevirtual 82, 3) := by decide +kernel
theorem dX1_isBetterGiver_12 : decode cX1_isBetterGiver 12 = .ok (.ifCond .eq 29, 3) := by decide +kernel
theorem dX1_isBetterGiver_15 : decode cX1_isBetterGiver 15 = .ok (.aload_n 0, 1) := by decide +kernel
theorem dX1_isBetterGiver_16 : decode cX1_isBetterGiver 16 = .ok (.getfield 39, 3) := by decide +kernel
theorem dX1_isBetterGiver_19 : decode cX1_isBetterGiver 19 = .ok (.iload_n 3, 1) := by decide +kernel
theorem dX1_isBetterGiver_20 : decode cX1_isBetterGiver 20 = .ok (.aaload, 1) := by decide +kernel
theorem dX1_isBetterGiver_21 : decode cX1_isBetterGiver 21 = .ok (.iload_n 2, 1) := by decide +kernel
theorem dX1_isBetterGiver_22 : decode cX1_isBetterGiver 22 = .ok (.invokevirtual 85, 3) := by decide +kernel
theorem dX1_isBetterGiver_25 : decode cX1_isBetterGiver 25 = .ok (.ifCond .eq 20, 3) := by decide +kernel
theorem dX1_isBetterGiver_28 : decode cX1_isBetterGiver 28 = .ok (.aload_n 0, 1) := by decide +kernel
theorem dX1_isBetterGiver_29 : decode cX1_isBetterGiver 29 = .ok (.getfield 39, 3) := by decide +kernel
theorem dX1_isBetterGiver_32 : decode cX1_isBetterGiver 32 = .ok (.iload_n 1, 1) := by decide +kernel
theorem dX1_isBetterGiver_33 : decode cX1_isBetterGiver 33 = .ok (.aaload, 1) := by decide +kernel
theorem dX1_isBetterGiver_34 : decode cX1_isBetterGiver 34 = .ok (.iload_n 2, 1) := by decide +kernel
theorem dX1_isBetterGiver_35 : decode cX1_isBetterGiver 35 = .ok (.invokevirtual 85, 3) := by decide +kernel
theorem dX1_isBetterGiver_38 : decode cX1_isBetterGiver 38 = .ok (.ifCond .ne 7, 3) := by decide +kernel
theorem dX1_isBetterGiver_41 : decode cX1_isBetterGiver 41 = .ok (.iconst 1, 1) := by decide +kernel
theorem dX1_isBetterGiver_42 : decode cX1_isBetterGiver 42 = .ok (.goto 4, 3) := by decide +kernel
theorem dX1_isBetterGiver_45 : decode cX1_isBetterGiver 45 = .ok (.iconst 0, 1) := by decide +kernel
theorem dX1_isBetterGiver_46 : decode cX1_isBetterGiver 46 = .ok (.ireturn, 1) := by decide +kernel
theorem dX1_holds_0 : decode cX1_holds 0 = .ok (.iload_n 1, 1) := by decide +kernel
theorem dX1_holds_1 : decode cX1_holds 1 = .ok (.ifCond .lt 23, 3) := by decide +kernel
theorem dX1_holds_4 : decode cX1_holds 4 = .ok (.iload_n 1, 1) := by decide +kernel
theorem dX1_holds_5 : decode cX1_holds 5 = .ok (.bipush 12, 2) := by decide +kernel
theorem dX1_holds_7 : decode cX1_holds 7 = .ok (.if_icmp .ge 17, 3) := by decide +kernel
theorem dX1_holds_10 : decode cX1_holds 10 = .ok (.aload_n 0, 1) := by decide +kernel
theorem dX1_holds_11 : decode cX1_holds 11 = .ok (.getfield 15, 3) := by decide +kernel
theorem dX1_holds_14 : decode cX1_holds 14 = .ok (.iload_n 1, 1) := by decide +kernel
theorem dX1_holds_15 : decode cX1_holds 15 = .ok (.iaload, 1) := by decide +kernel
theorem dX1_holds_16 : decode cX1_holds 16 = .ok (.iconst (-1), 1) := by decide +kernel
theorem dX1_holds_17 : decode cX1_holds 17 = .ok (.if_icmp .eq 7, 3) := by decide +kernel
theorem dX1_holds_20 : decode cX1_holds 20 = .ok (.iconst 1, 1) := by decide +kernel
theorem dX1_holds_21 : decode cX1_holds 21 = .ok (.goto 4, 3) := by decide +kernel
theorem dX1_holds_24 : decode cX1_holds 24 = .ok (.iconst 0, 1) := by decide +kernel
theorem dX1_holds_25 : decode cX1_holds 25 = .ok (.ireturn, 1) := by decide +kernel
theorem dX1_giverOf_0 : decode cX1_giverOf 0 = .ok (.aload_n 0, 1) := by decide +kernel
theorem dX1_giverOf_1 : decode cX1_giverOf 1 = .ok (.getfield 39, 3) := by decide +kernel
theorem dX1_giverOf_4 : decode cX1_giverOf 4 = .ok (.iload_n 1, 1) := by decide +kernel
theorem dX1_giverOf_5 : decode cX1_giverOf 5 = .ok (.aaload, 1) := by decide +kernel
theorem dX1_giverOf_6 : decode cX1_giverOf 6 = .ok (.iload_n 2, 1) := by decide +kernel
theorem dX1_giverOf_7 : decode cX1_giverOf 7 = .ok (.invokevirtual 88, 3) := by decide +kernel
theorem dX1_giverOf_10 : decode cX1_giverOf 10 = .ok (.ifCond .eq 7, 3) := by decide +kernel
theorem dX1_giverOf_13 : decode cX1_giverOf 13 = .ok (.iload_n 1, 1) := by decide +kernel
theorem dX1_giverOf_14 : decode cX1_giverOf 14 = .ok (.goto 9, 3) := by decide +kernel
theorem dX1_giverOf_17 : decode cX1_giverOf 17 = .ok (.aload_n 0, 1) := by decide +kernel
theorem dX1_giverOf_18 : decode cX1_giverOf 18 = .ok (.getfield 32, 3) := by decide +kernel
theorem dX1_giverOf_21 : decode cX1_giverOf 21 = .ok (.iload_n 2, 1) := by decide +kernel
theorem dX1_giverOf_22 : decode cX1_giverOf 22 = .ok (.iaload, 1) := by decide +kernel
theorem dX1_giverOf_23 : decode cX1_giverOf 23 = .ok (.ireturn, 1) := by decide +kernel
theorem dX1_findFault_0 : decode cX1_findFault 0 = .ok (.aload_n 1, 1) := by decide +kernel
theorem dX1_findFault_1 : decode cX1_findFault 1 = .ok (.iconst 0, 1) := by decide +kernel
theorem dX1_findFault_2 : decode cX1_findFault 2 = .ok (.iconst (-1), 1) := by decide +kernel
theorem dX1_findFault_3 : decode cX1_findFault 3 = .ok (.iconst (-1), 1) := by decide +kernel
theorem dX1_findFault_4 : decode cX1_findFault 4 = .ok (.iconst (-1), 1) := by decide +kernel
theorem dX1_findFault_5 : decode cX1_findFault 5 = .ok (.invokevirtual 91, 3) := by decide +kernel
theorem dX1_findFault_8 : decode cX1_findFault 8 = .ok (.iconst 0, 1) := by decide +kernel
theorem dX1_findFault_9 : decode cX1_findFault 9 = .ok (.istore_n 2, 1) := by decide +kernel
theorem dX1_findFault_10 : decode cX1_findFault 10 = .ok (.iload_n 2, 1) := by decide +kernel
theorem dX1_findFault_11 : decode cX1_findFault 11 = .ok (.aload_n 0, 1) := by decide +kernel
theorem dX1_findFault_12 : decode cX1_findFault 12 = .ok (.getfield 18, 3) := by decide +kernel
theorem dX1_findFault_15 : decode cX1_findFault 15 = .ok (.if_icmp .ge 27, 3) := by decide +kernel
theorem dX1_findFault_18 : decode cX1_findFault 18 = .ok (.aload_n 1, 1) := by decide +kernel
theorem dX1_findFault_19 : decode cX1_findFault 19 = .ok (.getfield 97, 3) := by decide +kernel
theorem dX1_findFault_22 : decode cX1_findFault 22 = .ok (.ifCond .ne 20, 3) := by decide +kernel
theorem dX1_findFault_25 : decode cX1_findFault 25 = .ok (.aload_n 0, 1) := by decide +kernel
theorem dX1_findFault_26 : decode cX1_findFault 26 = .ok (.aload_n 0, 1) := by decide +kernel
theorem dX1_findFault_27 : decode cX1_findFault 27 = .ok (.getfield 9, 3) := by decide +kernel
theorem dX1_findFault_30 : decode cX1_findFault 30 = .ok (.iload_n 2, 1) := by decide +kernel
theorem dX1_findFault_31 : decode cX1_findFault 31 = .ok (.iaload, 1) := by decide +kernel
theorem dX1_findFault_32 : decode cX1_findFault 32 = .ok (.aload_n 1, 1) := by decide +kernel
theorem dX1_findFault_33 : decode cX1_findFault 33 = .ok (.invokevirtual 100, 3) := by decide +kernel
theorem dX1_findFault_36 : decode cX1_findFault 36 = .ok (.iinc 2 1, 3) := by decide +kernel
theorem dX1_findFault_39 : decode cX1_findFault 39 = .ok (.goto (-29), 3) := by decide +kernel
theorem dX1_findFault_42 : decode cX1_findFault 42 = .ok (.return_, 1) := by decide +kernel
theorem dX1_findFaultIn_0 : decode cX1_findFaultIn 0 = .ok (.aload_n 0, 1) := by decide +kernel
theorem dX1_findFaultIn_1 : decode cX1_findFaultIn 1 = .ok (.getfield 39, 3) := by decide +kernel
theorem dX1_findFaultIn_4 : decode cX1_findFaultIn 4 = .ok (.iload_n 1, 1) := by decide +kernel
theorem dX1_findFaultIn_5 : decode cX1_findFaultIn 5 = .ok (.aaload, 1) := by decide +kernel
theorem dX1_findFaultIn_6 : decode cX1_findFaultIn 6 = .ok (.astore_n 3, 1) := by decide +kernel
theorem dX1_findFaultIn_7 : decode cX1_findFaultIn 7 = .ok (.aload_n 0, 1) := by decide +kernel
theorem dX1_findFaultIn_8 : decode cX1_findFaultIn 8 = .ok (.iload_n 1, 1) := by decide +kernel
theorem dX1_findFaultIn_9 : decode cX1_findFaultIn 9 = .ok (.iconst (-1), 1) := by decide +kernel
theorem dX1_findFaultIn_10 : decode cX1_findFaultIn 10 = .ok (.aload_n 3, 1) := by decide +kernel
theorem dX1_findFaultIn_11 : decode cX1_findFaultIn 11 = .ok (.getfield 104, 3) := by decide +kernel
theorem dX1_findFaultIn_14 : decode cX1_findFaultIn 14 = .ok (.iconst 0, 1) := by decide +kernel
theorem dX1_findFaultIn_15 : decode cX1_findFaultIn 15 = .ok (.aload_n 2, 1) := by decide +kernel
theorem dX1_findFaultIn_16 : decode cX1_findFaultIn 16 = .ok (.invokevirtual 107, 3) := by decide +kernel
theorem dX1_findFaultIn_19 : decode cX1_findFaultIn 19 = .ok (.iconst 0, 1) := by decide +kernel
theorem dX1_findFaultIn_20 : decode cX1_findFaultIn 20 = .ok (.istore 4, 2) := by decide +kernel
theorem dX1_findFaultIn_22 : decode cX1_findFaultIn 22 = .ok (.iload 4, 2) := by decide +kernel
theorem dX1_findFaultIn_24 : decode cX1_findFaultIn 24 = .ok (.aload_n 3, 1) := by decide +kernel
theorem dX1_findFaultIn_25 : decode cX1_findFaultIn 25 = .ok (.getfield 111, 3) := by decide +kernel
theorem dX1_findFaultIn_28 : decode cX1_findFaultIn 28 = .ok (.if_icmp .ge 36, 3) := by decide +kernel
theorem dX1_findFaultIn_31 : decode cX1_findFaultIn 31 = .ok (.aload_n 2, 1) := by decide +kernel
theorem dX1_findFaultIn_32 : decode cX1_findFaultIn 32 = .ok (.getfield 97, 3) := by decide +kernel
theorem dX1_findFaultIn_35 : decode cX1_findFaultIn 35 = .ok (.ifCond .ne 29, 3) := by decide +kernel
theorem dX1_findFaultIn_38 : decode cX1_findFaultIn 38 = .ok (.aload_n 0, 1) := by decide +kernel
theorem dX1_findFaultIn_39 : decode cX1_findFaultIn 39 = .ok (.iload_n 1, 1) := by decide +kernel
theorem dX1_findFaultIn_40 : decode cX1_findFaultIn 40 = .ok (.iload 4, 2) := by decide +kernel
theorem dX1_findFaultIn_42 : decode cX1_findFaultIn 42 = .ok (.aload_n 3, 1) := by decide +kernel
theorem dX1_findFaultIn_43 : decode cX1_findFaultIn 43 = .ok (.iload 4, 2) := by decide +kernel
theorem dX1_findFaultIn_45 : decode cX1_findFaultIn 45 = .ok (.invokevirtual 114, 3) := by decide +kernel
theorem dX1_findFaultIn_48 : decode cX1_findFaultIn 48 = .ok (.aload_n 3, 1) := by decide +kernel
theorem dX1_findFaultIn_49 : decode cX1_findFaultIn 49 = .ok (.iload 4, 2) := by decide +kernel
theorem dX1_findFaultIn_51 : decode cX1_findFaultIn 51 = .ok (.invokevirtual 118, 3) := by decide +kernel
theorem dX1_findFaultIn_54 : decode cX1_findFaultIn 54 = .ok (.aload_n 2, 1) := by decide +kernel
theorem dX1_findFaultIn_55 : decode cX1_findFaultIn 55 = .ok (.invokevirtual 107, 3) := by decide +kernel
theorem dX1_findFaultIn_58 : decode cX1_findFaultIn 58 = .ok (.iinc 4 1, 3) := by decide +kernel
theorem dX1_findFaultIn_61 : decode cX1_findFaultIn 61 = .ok (.goto (-39), 3) := by decide +kernel
theorem dX1_findFaultIn_64 : decode cX1_findFaultIn 64 = .ok (.return_, 1) := by decide +kernel
theorem dX1_lookAtUse_0 : decode cX1_lookAtUse 0 = .ok (.iload_n 3, 1) := by decide +kernel
theorem dX1_lookAtUse_1 : decode cX1_lookAtUse 1 = .ok (.iconst (-1), 1) := by decide +kernel
theorem dX1_lookAtUse_2 : decode cX1_lookAtUse 2 = .ok (.if_icmp .ne 4, 3) := by decide +kernel
theorem dX1_lookAtUse_5 : decode cX1_lookAtUse 5 = .ok (.return_, 1) := by decide +kernel
theorem dX1_lookAtUse_6 : decode cX1_lookAtUse 6 = .ok (.aload_n 0, 1) := by decide +kernel
theorem dX1_lookAtUse_7 : decode cX1_lookAtUse 7 = .ok (.iload_n 1, 1) := by decide +kernel
theorem dX1_lookAtUse_8 : decode cX1_lookAtUse 8 = .ok (.iload_n 3, 1) := by decide +kernel
theorem dX1_lookAtUse_9 : decode cX1_lookAtUse 9 = .ok (.invokevirtual 121, 3) := by decide +kernel
theorem dX1_lookAtUse_12 : decode cX1_lookAtUse 12 = .ok (.istore 6, 2) := by decide +kernel
theorem dX1_lookAtUse_14 : decode cX1_lookAtUse 14 = .ok (.aload_n 0, 1) := by decide +kernel
theorem dX1_lookAtUse_15 : decode cX1_lookAtUse 15 = .ok (.iload 6, 2) := by decide +kernel
theorem dX1_lookAtUse_17 : decode cX1_lookAtUse 17 = .ok (.invokevirtual 82, 3) := by decide +kernel
theorem dX1_lookAtUse_20 : decode cX1_lookAtUse 20 = .ok (.ifCond .ne 29, 3) := by decide +kernel
theorem dX1_lookAtUse_23 : decode cX1_lookAtUse 23 = .ok (.aload_n 0, 1) := by decide +kernel
theorem dX1_lookAtUse_24 : decode cX1_lookAtUse 24 = .ok (.getfield 39, 3) := by decide +kernel
theorem dX1_lookAtUse_27 : decode cX1_lookAtUse 27 = .ok (.iload_n 1, 1) := by decide +kernel
theorem dX1_lookAtUse_28 : decode cX1_lookAtUse 28 = .ok (.aaload, 1) := by decide +kernel
theorem dX1_lookAtUse_29 : decode cX1_lookAtUse 29 = .ok (.getfield 125, 3) := by decide +kernel
theorem dX1_lookAtUse_32 : decode cX1_lookAtUse 32 = .ok (.iload_n 3, 1) := by decide +kernel
theorem dX1_lookAtUse_33 : decode cX1_lookAtUse 33 = .ok (.baload, 1) := by decide +kernel
theorem dX1_lookAtUse_34 : decode cX1_lookAtUse 34 = .ok (.ifCond .ne 41, 3) := by decide +kernel
theorem dX1_lookAtUse_37 : decode cX1_lookAtUse 37 = .ok (.aload 5, 2) := by decide +kernel
theorem dX1_lookAtUse_39 : decode cX1_lookAtUse 39 = .ok (.iconst 1, 1) := by decide +kernel
theorem dX1_lookAtUse_40 : decode cX1_lookAtUse 40 = .ok (.iload_n 1, 1) := by decide +kernel
theorem dX1_lookAtUse_41 : decode cX1_lookAtUse 41 = .ok (.iload_n 2, 1) := by decide +kernel
theorem dX1_lookAtUse_42 : decode cX1_lookAtUse 42 = .ok (.iload_n 3, 1) := by decide +kernel
theorem dX1_lookAtUse_43 : decode cX1_lookAtUse 43 = .ok (.invokevirtual 91, 3) := by decide +kernel
theorem dX1_lookAtUse_46 : decode cX1_lookAtUse 46 = .ok (.goto 29, 3) := by decide +kernel
theorem dX1_lookAtUse_49 : decode cX1_lookAtUse 49 = .ok (.aload_n 0, 1) := by decide +kernel
theorem dX1_lookAtUse_50 : decode cX1_lookAtUse 50 = .ok (.getfield 39, 3) := by decide +kernel
theorem dX1_lookAtUse_53 : decode cX1_lookAtUse 53 = .ok (.iload 6, 2) := by decide +kernel
theorem dX1_lookAtUse_55 : decode cX1_lookAtUse 55 = .ok (.aaload, 1) := by decide +kernel
theorem dX1_lookAtUse_56 : decode cX1_lookAtUse 56 = .ok (.getfield 128, 3) := by decide +kernel
theorem dX1_lookAtUse_59 : decode cX1_lookAtUse 59 = .ok (.iload_n 3, 1) := by decide +kernel
theorem dX1_lookAtUse_60 : decode cX1_lookAtUse 60 = .ok (.iaload, 1) := by decide +kernel
theorem dX1_lookAtUse_61 : decode cX1_lookAtUse 61 = .ok (.iload 4, 2) := by decide +kernel
theorem dX1_lookAtUse_63 : decode cX1_lookAtUse 63 = .ok (.if_icmp .eq 12, 3) := by decide +kernel
theorem dX1_lookAtUse_66 : decode cX1_lookAtUse 66 = .ok (.aload 5, 2) := by decide +kernel
theorem dX1_lookAtUse_68 : decode cX1_lookAtUse 68 = .ok (.iconst 2, 1) := by decide +kernel
theorem dX1_lookAtUse_69 : decode cX1_lookAtUse 69 = .ok (.iload_n 1, 1) := by decide +kernel
theorem dX1_lookAtUse_70 : decode cX1_lookAtUse 70 = .ok (.iload_n 2, 1) := by decide +kernel
theorem dX1_lookAtUse_71 : decode cX1_lookAtUse 71 = .ok (.iload_n 3, 1) := by decide +kernel
theorem dX1_lookAtUse_72 : decode cX1_lookAtUse 72 = .ok (.invokevirtual 91, 3) := by decide +kernel
theorem dX1_lookAtUse_75 : decode cX1_lookAtUse 75 = .ok (.return_, 1) := by decide +kernel
theorem dX1_refresh_0 : decode cX1_refresh 0 = .ok (.iconst 0, 1) := by decide +kernel
theorem dX1_refresh_1 : decode cX1_refresh 1 = .ok (.istore_n 1, 1) := by decide +kernel
theorem dX1_refresh_2 : decode cX1_refresh 2 = .ok (.iload_n 1, 1) := by decide +kernel
theorem dX1_refresh_3 : decode cX1_refresh 3 = .ok (.aload_n 0, 1) := by decide +kernel
theorem dX1_refresh_4 : decode cX1_refresh 4 = .ok (.getfield 18, 3) := by decide +kernel
theorem dX1_refresh_7 : decode cX1_refresh 7 = .ok (.if_icmp .ge 46, 3) := by decide +kernel
theorem dX1_refresh_10 : decode cX1_refresh 10 = .ok (.aload_n 0, 1) := by decide +kernel
theorem dX1_refresh_11 : decode cX1_refresh 11 = .ok (.getfield 9, 3) := by decide +kernel
theorem dX1_refresh_14 : decode cX1_refresh 14 = .ok (.iload_n 1, 1) := by decide +kernel
theorem dX1_refresh_15 : decode cX1_refresh 15 = .ok (.iaload, 1) := by decide +kernel
theorem dX1_refresh_16 : decode cX1_refresh 16 = .ok (.istore_n 2, 1) := by decide +kernel
theorem dX1_refresh_17 : decode cX1_refresh 17 = .ok (.aload_n 0, 1) := by decide +kernel
theorem dX1_refresh_18 : decode cX1_refresh 18 = .ok (.getfield 39, 3) := by decide +kernel
theorem dX1_refresh_21 : decode cX1_refresh 21 = .ok (.iload_n 2, 1) := by decide +kernel
theorem dX1_refresh_22 : decode cX1_refresh 22 = .ok (.aaload, 1) := by decide +kernel
theorem dX1_refresh_23 : decode cX1_refresh 23 = .ok (.getfield 131, 3) := by decide +kernel
theorem dX1_refresh_26 : decode cX1_refresh 26 = .ok (.iconst 0, 1) := by decide +kernel
theorem dX1_refresh_27 : decode cX1_refresh 27 = .ok (.aload_n 0, 1) := by decide +kernel
theorem dX1_refresh_28 : decode cX1_refresh 28 = .ok (.getfield 39, 3) := by decide +kernel
theorem dX1_refresh_31 : decode cX1_refresh 31 = .ok (.iload_n 2, 1) := by decide +kernel
theorem dX1_refresh_32 : decode cX1_refresh 32 = .ok (.aaload, 1) := by decide +kernel
theorem dX1_refresh_33 : decode cX1_refresh 33 = .ok (.getfield 134, 3) := by decide +kernel
theorem dX1_refresh_36 : decode cX1_refresh 36 = .ok (.iconst 0, 1) := by decide +kernel
theorem dX1_refresh_37 : decode cX1_refresh 37 = .ok (.bipush 64, 2) := by decide +kernel
theorem dX1_refresh_39 : decode cX1_refresh 39 = .ok (.invokestatic 137, 3) := by decide +kernel
theorem dX1_refresh_42 : decode cX1_refresh 42 = .ok (.aload_n 0, 1) := by decide +kernel
theorem dX1_refresh_43 : decode cX1_refresh 43 = .ok (.iload_n 2, 1) := by decide +kernel
theorem dX1_refresh_44 : decode cX1_refresh 44 = .ok (.invokevirtual 143, 3) := by decide +kernel
theorem dX1_refresh_47 : decode cX1_refresh 47 = .ok (.iinc 1 1, 3) := by decide +kernel
theorem dX1_refresh_50 : decode cX1_refresh 50 = .ok (.goto (-48), 3) := by decide +kernel
theorem dX1_refresh_53 : decode cX1_refresh 53 = .ok (.return_, 1) := by decide +kernel
theorem dX1_refreshSlots_0 : decode cX1_refreshSlots 0 = .ok (.aload_n 0, 1) := by decide +kernel
theorem dX1_refreshSlots_1 : decode cX1_refreshSlots 1 = .ok (.getfield 39, 3) := by decide +kernel
theorem dX1_refreshSlots_4 : decode cX1_refreshSlots 4 = .ok (.iload_n 1, 1) := by decide +kernel
theorem dX1_refreshSlots_5 : decode cX1_refreshSlots 5 = .ok (.aaload, 1) := by decide +kernel
theorem dX1_refreshSlots_6 : decode cX1_refreshSlots 6 = .ok (.astore_n 2, 1) := by decide +kernel
theorem dX1_refreshSlots_7 : decode cX1_refreshSlots 7 = .ok (.iconst 0, 1) := by decide +kernel
theorem dX1_refreshSlots_8 : decode cX1_refreshSlots 8 = .ok (.istore_n 3, 1) := by decide +kernel
theorem dX1_refreshSlots_9 : decode cX1_refreshSlots 9 = .ok (.iload_n 3, 1) := by decide +kernel
theorem dX1_refreshSlots_10 : decode cX1_refreshSlots 10 = .ok (.aload_n 2, 1) := by decide +kernel
theorem dX1_refreshSlots_11 : decode cX1_refreshSlots 11 = .ok (.getfield 111, 3) := by decide +kernel
theorem dX1_refreshSlots_14 : decode cX1_refreshSlots 14 = .ok (.if_icmp .ge 54, 3) := by decide +kernel
theorem dX1_refreshSlots_17 : decode cX1_refreshSlots 17 = .ok (.aload_n 2, 1) := by decide +kernel
theorem dX1_refreshSlots_18 : decode cX1_refreshSlots 18 = .ok (.getfield 146, 3) := by decide +kernel
theorem dX1_refreshSlots_21 : decode cX1_refreshSlots 21 = .ok (.iload_n 3, 1) := by decide +kernel
theorem dX1_refreshSlots_22 : decode cX1_refreshSlots 22 = .ok (.iaload, 1) := by decide +kernel
theorem dX1_refreshSlots_23 : decode cX1_refreshSlots 23 = .ok (.bipush 7, 2) := by decide +kernel
theorem dX1_refreshSlots_25 : decode cX1_refreshSlots 25 = .ok (.if_icmp .ne 37, 3) := by decide +kernel
theorem dX1_refreshSlots_28 : decode cX1_refreshSlots 28 = .ok (.aload_n 2, 1) := by decide +kernel
theorem dX1_refreshSlots_29 : decode cX1_refreshSlots 29 = .ok (.getfield 149, 3) := by decide +kernel
theorem dX1_refreshSlots_32 : decode cX1_refreshSlots 32 = .ok (.iload_n 3, 1) := by decide +kernel
theorem dX1_refreshSlots_33 : decode cX1_refreshSlots 33 = .ok (.iaload, 1) := by decide +kernel
theorem dX1_refreshSlots_34 : decode cX1_refreshSlots 34 = .ok (.istore 4, 2) := by decide +kernel
theorem dX1_refreshSlots_36 : decode cX1_refreshSlots 36 = .ok (.aload_n 2, 1) := by decide +kernel
theorem dX1_refreshSlots_37 : decode cX1_refreshSlots 37 = .ok (.getfield 152, 3) := by decide +kernel
theorem dX1_refreshSlots_40 : decode cX1_refreshSlots 40 = .ok (.iload 4, 2) := by decide +kernel
theorem dX1_refreshSlots_42 : decode cX1_refreshSlots 42 = .ok (.aload_n 0, 1) := by decide +kernel
theorem dX1_refreshSlots_43 : decode cX1_refreshSlots 43 = .ok (.getfield 35, 3) := by decide +kernel
theorem dX1_refreshSlots_46 : decode cX1_refreshSlots 46 = .ok (.ifCond .eq 8, 3) := by decide +kernel
theorem dX1_refreshSlots_49 : decode cX1_refreshSlots 49 = .ok (.bipush 21, 2) := by decide +kernel
theorem dX1_refreshSlots_51 : decode cX1_refreshSlots 51 = .ok (.goto 10, 3) := by decide +kernel
theorem dX1_refreshSlots_54 : decode cX1_refreshSlots 54 = .ok (.aload_n 0, 1) := by decide +kernel
theorem dX1_refreshSlots_55 : decode cX1_refreshSlots 55 = .ok (.iload_n 1, 1) := by decide +kernel
theorem dX1_refreshSlots_56 : decode cX1_refreshSlots 56 = .ok (.iload 4, 2) := by decide +kernel
theorem dX1_refreshSlots_58 : decode cX1_refreshSlots 58 = .ok (.invokevirtual 121, 3) := by decide +kernel
theorem dX1_refreshSlots_61 : decode cX1_refreshSlots 61 = .ok (.iastore, 1) := by decide +kernel
theorem dX1_refreshSlots_62 : decode cX1_refreshSlots 62 = .ok (.iinc 3 1, 3) := by decide +kernel
theorem dX1_refreshSlots_65 : decode cX1_refreshSlots 65 = .ok (.goto (-56), 3) := by decide +kernel
theorem dX1_refreshSlots_68 : decode cX1_refreshSlots 68 = .ok (.return_, 1) := by decide +kernel
theorem dX1_isTrulyBound_0 : decode cX1_isTrulyBound 0 = .ok (.iconst 0, 1) := by decide +kernel
theorem dX1_isTrulyBound_1 : decode cX1_isTrulyBound 1 = .ok (.istore_n 1, 1) := by decide +kernel
theorem dX1_isTrulyBound_2 : decode cX1_isTrulyBound 2 = .ok (.iload_n 1, 1) := by decide +kernel
theorem dX1_isTrulyBound_3 : decode cX1_isTrulyBound 3 = .ok (.aload_n 0, 1) := by decide +kernel
theorem dX1_isTrulyBound_4 : decode cX1_isTrulyBound 4 = .ok (.getfield 18, 3) := by decide +kernel
theorem dX1_isTrulyBound_7 : decode cX1_isTrulyBound 7 = .ok (.if_icmp .ge 69, 3) := by decide +kernel
theorem dX1_isTrulyBound_10 : decode cX1_isTrulyBound 10 = .ok (.aload_n 0, 1) := by decide +kernel
theorem dX1_isTrulyBound_11 : decode cX1_isTrulyBound 11 = .ok (.getfield 9, 3) := by decide +kernel
theorem dX1_isTrulyBound_14 : decode cX1_isTrulyBound 14 = .ok (.iload_n 1, 1) := by decide +kernel
theorem dX1_isTrulyBound_15 : decode cX1_isTrulyBound 15 = .ok (.iaload, 1) := by decide +kernel
theorem dX1_isTrulyBound_16 : decode cX1_isTrulyBound 16 = .ok (.istore_n 2, 1) := by decide +kernel
theorem dX1_isTrulyBound_17 : decode cX1_isTrulyBound 17 = .ok (.iconst 0, 1) := by decide +kernel
theorem dX1_isTrulyBound_18 : decode cX1_isTrulyBound 18 = .ok (.istore_n 3, 1) := by decide +kernel
theorem dX1_isTrulyBound_19 : decode cX1_isTrulyBound 19 = .ok (.iload_n 3, 1) := by decide +kernel
theorem dX1_isTrulyBound_20 : decode cX1_isTrulyBound 20 = .ok (.bipush 64, 2) := by decide +kernel
theorem dX1_isTrulyBound_22 : decode cX1_isTrulyBound 22 = .ok (.if_icmp .ge 48, 3) := by decide +kernel
theorem dX1_isTrulyBound_25 : decode cX1_isTrulyBound 25 = .ok (.aload_n 0, 1) := by decide +kernel
theorem dX1_isTrulyBound_26 : decode cX1_isTrulyBound 26 = .ok (.getfield 39, 3) := by decide +kernel
theorem dX1_isTrulyBound_29 : decode cX1_isTrulyBound 29 = .ok (.iload_n 2, 1) := by decide +kernel
theorem dX1_isTrulyBound_30 : decode cX1_isTrulyBound 30 = .ok (.aaload, 1) := by decide +kernel
theorem dX1_isTrulyBound_31 : decode cX1_isTrulyBound 31 = .ok (.getfield 152, 3) := by decide +kernel
theorem dX1_isTrulyBound_34 : decode cX1_isTrulyBound 34 = .ok (.iload_n 3, 1) := by decide +kernel
theorem dX1_isTrulyBound_35 : decode cX1_isTrulyBound 35 = .ok (.iaload, 1) := by decide +kernel
theorem dX1_isTrulyBound_36 : decode cX1_isTrulyBound 36 = .ok (.istore 4, 2) := by decide +kernel
theorem dX1_isTrulyBound_38 : decode cX1_isTrulyBound 38 = .ok (.iload 4, 2) := by decide +kernel
theorem dX1_isTrulyBound_40 : decode cX1_isTrulyBound 40 = .ok (.iconst (-1), 1) := by decide +kernel
theorem dX1_isTrulyBound_41 : decode cX1_isTrulyBound 41 = .ok (.if_icmp .eq 23, 3) := by decide +kernel
theorem dX1_isTrulyBound_44 : decode cX1_isTrulyBound 44 = .ok (.iload 4, 2) := by decide +kernel
theorem dX1_isTrulyBound_46 : decode cX1_isTrulyBound 46 = .ok (.bipush 21, 2) := by decide +kernel
theorem dX1_isTrulyBound_48 : decode cX1_isTrulyBound 48 = .ok (.if_icmp .eq 16, 3) := by decide +kernel
theorem dX1_isTrulyBound_51 : decode cX1_isTrulyBound 51 = .ok (.iload 4, 2) := by decide +kernel
theorem dX1_isTrulyBound_53 : decode cX1_isTrulyBound 53 = .ok (.aload_n 0, 1) := by decide +kernel
theorem dX1_isTrulyBound_54 : decode cX1_isTrulyBound 54 = .ok (.iload_n 2, 1) := by decide +kernel
theorem dX1_isTrulyBound_55 : decode cX1_isTrulyBound 55 = .ok (.iload_n 3, 1) := by decide +kernel
theorem dX1_isTrulyBound_56 : decode cX1_isTrulyBound 56 = .ok (.invokevirtual 121, 3) := by decide +kernel
theorem dX1_isTrulyBound_59 : decode cX1_isTrulyBound 59 = .ok (.if_icmp .eq 5, 3) := by decide +kernel
theorem dX1_isTrulyBound_62 : decode cX1_isTrulyBound 62 = .ok (.iconst 0, 1) := by decide +kernel
theorem dX1_isTrulyBound_63 : decode cX1_isTrulyBound 63 = .ok (.ireturn, 1) := by decide +kernel
theorem dX1_isTrulyBound_64 : decode cX1_isTrulyBound 64 = .ok (.iinc 3 1, 3) := by decide +kernel
theorem dX1_isTrulyBound_67 : decode cX1_isTrulyBound 67 = .ok (.goto (-48), 3) := by decide +kernel
theorem dX1_isTrulyBound_70 : decode cX1_isTrulyBound 70 = .ok (.iinc 1 1, 3) := by decide +kernel
theorem dX1_isTrulyBound_73 : decode cX1_isTrulyBound 73 = .ok (.goto (-71), 3) := by decide +kernel
theorem dX1_isTrulyBound_76 : decode cX1_isTrulyBound 76 = .ok (.iconst 1, 1) := by decide +kernel
theorem dX1_isTrulyBound_77 : decode cX1_isTrulyBound 77 = .ok (.ireturn, 1) := by decide +kernel
theorem dX1_addressOf_0 : decode cX1_addressOf 0 = .ok (.aload_n 0, 1) := by decide +kernel
theorem dX1_addressOf_1 : decode cX1_addressOf 1 = .ok (.iload_n 1, 1) := by decide +kernel
theorem dX1_addressOf_2 : decode cX1_addressOf 2 = .ok (.iload_n 2, 1) := by decide +kernel
theorem dX1_addressOf_3 : decode cX1_addressOf 3 = .ok (.invokevirtual 121, 3) := by decide +kernel
theorem dX1_addressOf_6 : decode cX1_addressOf 6 = .ok (.istore_n 3, 1) := by decide +kernel
theorem dX1_addressOf_7 : decode cX1_addressOf 7 = .ok (.aload_n 0, 1) := by decide +kernel
theorem dX1_addressOf_8 : decode cX1_addressOf 8 = .ok (.iload_n 3, 1) := by decide +kernel
theorem dX1_addressOf_9 : decode cX1_addressOf 9 = .ok (.invokevirtual 82, 3) := by decide +kernel
theorem dX1_addressOf_12 : decode cX1_addressOf 12 = .ok (.ifCond .eq 30, 3) := by decide +kernel
theorem dX1_addressOf_15 : decode cX1_addressOf 15 = .ok (.sipush 1000, 3) := by decide +kernel
theorem dX1_addressOf_18 : decode cX1_addressOf 18 = .ok (.aload_n 0, 1) := by decide +kernel
theorem dX1_addressOf_19 : decode cX1_addressOf 19 = .ok (.getfield 15, 3) := by decide +kernel
theorem dX1_addressOf_22 : decode cX1_addressOf 22 = .ok (.iload_n 3, 1) := by decide +kernel
theorem dX1_addressOf_23 : decode cX1_addressOf 23 = .ok (.iaload, 1) := by decide +kernel
theorem dX1_addressOf_24 : decode cX1_addressOf 24 = .ok (.iconst 1, 1) := by decide +kernel
theorem dX1_addressOf_25 : decode cX1_addressOf 25 = .ok (.iadd, 1) := by decide +kernel
theorem dX1_addressOf_26 : decode cX1_addressOf 26 = .ok (.imul, 1) := by decide +kernel
theorem dX1_addressOf_27 : decode cX1_addressOf 27 = .ok (.aload_n 0, 1) := by decide +kernel
theorem dX1_addressOf_28 : decode cX1_addressOf 28 = .ok (.getfield 39, 3) := by decide +kernel
theorem dX1_addressOf_31 : decode cX1_addressOf 31 = .ok (.iload_n 3, 1) := by decide +kernel
theorem dX1_addressOf_32 : decode cX1_addressOf 32 = .ok (.aaload, 1) := by decide +kernel
theorem dX1_addressOf_33 : decode cX1_addressOf 33 = .ok (.getfield 131, 3) := by decide +kernel
theorem dX1_addressOf_36 : decode cX1_addressOf 36 = .ok (.iload_n 2, 1) := by decide +kernel
theorem dX1_addressOf_37 : decode cX1_addressOf 37 = .ok (.iaload, 1) := by decide +kernel
theorem dX1_addressOf_38 : decode cX1_addressOf 38 = .ok (.iadd, 1) := by decide +kernel
theorem dX1_addressOf_39 : decode cX1_addressOf 39 = .ok (.goto 4, 3) := by decide +kernel
theorem dX1_addressOf_42 : decode cX1_addressOf 42 = .ok (.iconst 0, 1) := by decide +kernel
theorem dX1_addressOf_43 : decode cX1_addressOf 43 = .ok (.ireturn, 1) := by decide +kernel
end
section
theorem dX3_init_0 : decode cX3_init 0 = .ok (.aload_n 0, 1) := by decide +kernel
theorem dX3_init_1 : decode cX3_init 1 = .ok (.invokespecial 3, 3) := by decide +kernel
theorem dX3_init_4 : decode cX3_init 4 = .ok (.aload_n 0, 1) := by decide +kernel
theorem dX3_init_5 : decode cX3_init 5 = .ok (.bipush 8, 2) := by decide +kernel
theorem dX3_init_7 : decode cX3_init 7 = .ok (.newarray .int, 2) := by decide +kernel
theorem dX3_init_9 : decode cX3_init 9 = .ok (.putfield 9, 3) := by decide +kernel
theorem dX3_init_12 : decode cX3_init 12 = .ok (.aload_n 0, 1) := by decide +kernel
theorem dX3_init_13 : decode cX3_init 13 = .ok (.bipush 60, 2) := by decide +kernel
theorem dX3_init_15 : decode cX3_init 15 = .ok (.newarray .int, 2) := by decide +kernel
theorem dX3_init_17 : decode cX3_init 17 = .ok (.putfield 15, 3) := by decide +kernel
theorem dX3_init_20 : decode cX3_init 20 = .ok (.aload_n 0, 1) := by decide +kernel
theorem dX3_init_21 : decode cX3_init 21 = .ok (.iconst 0, 1) := by decide +kernel
theorem dX3_init_22 : decode cX3_init 22 = .ok (.putfield 18, 3) := by decide +kernel
theorem dX3_init_25 : decode cX3_init 25 = .ok (.aload_n 0, 1) := by decide +kernel
theorem dX3_init_26 : decode cX3_init 26 = .ok (.iconst 0, 1) := by decide +kernel
theorem dX3_init_27 : decode cX3_init 27 = .ok (.putfield 22, 3) := by decide +kernel
theorem dX3_init_30 : decode cX3_init 30 = .ok (.aload_n 0, 1) := by decide +kernel
theorem dX3_init_31 : decode cX3_init 31 = .ok (.iconst 0, 1) := by decide +kernel
theorem dX3_init_32 : decode cX3_init 32 = .ok (.putfield 25, 3) := by decide +kernel
theorem dX3_init_35 : decode cX3_init 35 = .ok (.aload_n 0, 1) := by decide +kernel
theorem dX3_init_36 : decode cX3_init 36 = .ok (.iconst 0, 1) := by decide +kernel
theorem dX3_init_37 : decode cX3_init 37 = .ok (.putfield 28, 3) := by decide +kernel
theorem dX3_init_40 : decode cX3_init 40 = .ok (.aload_n 0, 1) := by decide +kernel
theorem dX3_init_41 : decode cX3_init 41 = .ok (.bipush 13, 2) := by decide +kernel
theorem dX3_init_43 : decode cX3_init 43 = .ok (.newarray .int, 2) := by decide +kernel
theorem dX3_init_45 : decode cX3_init 45 = .ok (.putfield 31, 3) := by decide +kernel
theorem dX3_init_48 : decode cX3_init 48 = .ok (.aload_n 0, 1) := by decide +kernel
theorem dX3_init_49 : decode cX3_init 49 = .ok (.bipush 13, 2) := by decide +kernel
theorem dX3_init_51 : decode cX3_init 51 = .ok (.newarray .int, 2) := by decide +kernel
theorem dX3_init_53 : decode cX3_init 53 = .ok (.putfield 34, 3) := by decide +kernel
theorem dX3_init_56 : decode cX3_init 56 = .ok (.aload_n 0, 1) := by decide +kernel
theorem dX3_init_57 : decode cX3_init 57 = .ok (.iconst 0, 1) := by decide +kernel
theorem dX3_init_58 : decode cX3_init 58 = .ok (.putfield 37, 3) := by decide +kernel
theorem dX3_init_61 : decode cX3_init 61 = .ok (.aload_n 0, 1) := by decide +kernel
theorem dX3_init_62 : decode cX3_init 62 = .ok (.iconst 0, 1) := by decide +kernel
theorem dX3_init_63 : decode cX3_init 63 = .ok (.putfield 40, 3) := by decide +kernel
theorem dX3_init_66 : decode cX3_init 66 = .ok (.aload_n 0, 1) := by decide +kernel
theorem dX3_init_67 : decode cX3_init 67 = .ok (.bipush 100, 2) := by decide +kernel
theorem dX3_init_69 : decode cX3_init 69 = .ok (.newarray .int, 2) := by decide +kernel
theorem dX3_init_71 : decode cX3_init 71 = .ok (.putfield 43, 3) := by decide +kernel
theorem dX3_init_74 : decode cX3_init 74 = .ok (.aload_n 0, 1) := by decide +kernel
theorem dX3_init_75 : decode cX3_init 75 = .ok (.bipush 100, 2) := by decide +kernel
theorem dX3_init_77 : decode cX3_init 77 = .ok (.newarray .int, 2) := by decide +kernel
theorem dX3_init_79 : decode cX3_init 79 = .ok (.putfield 46, 3) := by decide +kernel
theorem dX3_init_82 : decode cX3_init 82 = .ok (.aload_n 0, 1) := by decide +kernel
theorem dX3_init_83 : decode cX3_init 83 = .ok (.iconst 0, 1) := by decide +kernel
theorem dX3_init_84 : decode cX3_init 84 = .ok (.putfield 49, 3) := by decide +kernel
theorem dX3_init_87 : decode cX3_init 87 = .ok (.aload_n 0, 1) := by decide +kernel
theorem dX3_init_88 : decode cX3_init 88 = .ok (.iconst 0, 1) := by decide +kernel
theorem dX3_init_89 : decode cX3_init 89 = .ok (.putfield 52, 3) := by decide +kernel
theorem dX3_init_92 : decode cX3_init 92 = .ok (.aload_n 0, 1) := by decide +kernel
theorem dX3_init_93 : decode cX3_init 93 = .ok (.iconst 0, 1) := by decide +kernel
theorem dX3_init_94 : decode cX3_init 94 = .ok (.putfield 55, 3) := by decide +kernel
theorem dX3_init_97 : decode cX3_init 97 = .ok (.return_, 1) := by decide +kernel
theorem dX3_prepare_0 : decode cX3_prepare 0 = .ok (.aload_n 0, 1) := by decide +kernel
theorem dX3_prepare_1 : decode cX3_prepare 1 = .ok (.getfield 9, 3) := by decide +kernel
theorem dX3_prepare_4 : decode cX3_prepare 4 = .ok (.iconst 0, 1) := by decide +kernel
theorem dX3_prepare_5 : decode cX3_prepare 5 = .ok (.invokestatic 58, 3) := by decide +kernel
theorem dX3_prepare_8 : decode cX3_prepare 8 = .ok (.aload_n 0, 1) := by decide +kernel
theorem dX3_prepare_9 : decode cX3_prepare 9 = .ok (.iconst 0, 1) := by decide +kernel
theorem dX3_prepare_10 : decode cX3_prepare 10 = .ok (.putfield 18, 3) := by decide +kernel
theorem dX3_prepare_13 : decode cX3_prepare 13 = .ok (.aload_n 0, 1) := by decide +kernel
theorem dX3_prepare_14 : decode cX3_prepare 14 = .ok (.iconst 0, 1) := by decide +kernel
theorem dX3_prepare_15 : decode cX3_prepare 15 = .ok (.putfield 22, 3) := by decide +kernel
theorem dX3_prepare_18 : decode cX3_prepare 18 = .ok (.aload_n 0, 1) := by decide +kernel
theorem dX3_prepare_19 : decode cX3_prepare 19 = .ok (.iconst 0, 1) := by decide +kernel
theorem dX3_prepare_20 : decode cX3_prepare 20 = .ok (.putfield 25, 3) := by decide +kernel
theorem dX3_prepare_23 : decode cX3_prepare 23 = .ok (.aload_n 0, 1) := by decide +kernel
theorem dX3_prepare_24 : decode cX3_prepare 24 = .ok (.iconst 0, 1) := by decide +kernel
theorem dX3_prepare_25 : decode cX3_prepare 25 = .ok (.putfield 28, 3) := by decide +kernel
theorem dX3_prepare_28 : decode cX3_prepare 28 = .ok (.aload_n 0, 1) := by decide +kernel
theorem dX3_prepare_29 : decode cX3_prepare 29 = .ok (.iconst 0, 1) := by decide +kernel
theorem dX3_prepare_30 : decode cX3_prepare 30 = .ok (.putfield 49, 3) := by decide +kernel
theorem dX3_prepare_33 : decode cX3_prepare 33 = .ok (.aload_n 0, 1) := by decide +kernel
theorem dX3_prepare_34 : decode cX3_prepare 34 = .ok (.iconst 0, 1) := by decide +kernel
theorem dX3_prepare_35 : decode cX3_prepare 35 = .ok (.putfield 37, 3) := by decide +kernel
theorem dX3_prepare_38 : decode cX3_prepare 38 = .ok (.aload_n 0, 1) := by decide +kernel
theorem dX3_prepare_39 : decode cX3_prepare 39 = .ok (.iconst 0, 1) := by decide +kernel
theorem dX3_prepare_40 : decode cX3_prepare 40 = .ok (.putfield 40, 3) := by decide +kernel
theorem dX3_prepare_43 : decode cX3_prepare 43 = .ok (.iconst 0, 1) := by decide +kernel
theorem dX3_prepare_44 : decode cX3_prepare 44 = .ok (.istore_n 3, 1) := by decide +kernel
theorem dX3_prepare_45 : decode cX3_prepare 45 = .ok (.iload_n 3, 1) := by decide +kernel
theorem dX3_prepare_46 : decode cX3_prepare 46 = .ok (.aload_n 1, 1) := by decide +kernel
theorem dX3_prepare_47 : decode cX3_prepare 47 = .ok (.getfield 64, 3) := by decide +kernel
theorem dX3_prepare_50 : decode cX3_prepare 50 = .ok (.if_icmp .ge 34, 3) := by decide +kernel
theorem dX3_prepare_53 : decode cX3_prepare 53 = .ok (.aload_n 1, 1) := by decide +kernel
theorem dX3_prepare_54 : decode cX3_prepare 54 = .ok (.getfield 69, 3) := by decide +kernel
theorem dX3_prepare_57 : decode cX3_prepare 57 = .ok (.iload_n 3, 1) := by decide +kernel
theorem dX3_prepare_58 : decode cX3_prepare 58 = .ok (.iaload, 1) := by decide +kernel
theorem dX3_prepare_59 : decode cX3_prepare 59 = .ok (.istore 4, 2) := by decide +kernel
theorem dX3_prepare_61 : decode cX3_prepare 61 = .ok (.aload_n 0, 1) := by decide +kernel
theorem dX3_prepare_62 : decode cX3_prepare 62 = .ok (.aload_n 1, 1) := by decide +kernel
theorem dX3_prepare_63 : decode cX3_prepare 63 = .ok (.iload 4, 2) := by decide +kernel
theorem dX3_prepare_65 : decode cX3_prepare 65 = .ok (.aload_n 1, 1) := by decide +kernel
theorem dX3_prepare_66 : decode cX3_prepare 66 = .ok (.getfield 72, 3) := by decide +kernel
theorem dX3_prepare_69 : decode cX3_prepare 69 = .ok (.iload 4, 2) := by decide +kernel
theorem dX3_prepare_71 : decode cX3_prepare 71 = .ok (.aaload, 1) := by decide +kernel
theorem dX3_prepare_72 : decode cX3_prepare 72 = .ok (.getfield 76, 3) := by decide +kernel
theorem dX3_prepare_75 : decode cX3_prepare 75 = .ok (.invokevirtual 81, 3) := by decide +kernel
theorem dX3_prepare_78 : decode cX3_prepare 78 = .ok (.iinc 3 1, 3) := by decide +kernel
theorem dX3_prepare_81 : decode cX3_prepare 81 = .ok (.goto (-36), 3) := by decide +kernel
theorem dX3_prepare_84 : decode cX3_prepare 84 = .ok (.aload_n 0, 1) := by decide +kernel
theorem dX3_prepare_85 : decode cX3_prepare 85 = .ok (.aload_n 1, 1) := by decide +kernel
theorem dX3_prepare_86 : decode cX3_prepare 86 = .ok (.aload_n 1, 1) := by decide +kernel
theorem dX3_prepare_87 : decode cX3_prepare 87 = .ok (.getfield 85, 3) := by decide +kernel
theorem dX3_prepare_90 : decode cX3_prepare 90 = .ok (.iconst 0, 1) := by decide +kernel
theorem dX3_prepare_91 : decode cX3_prepare 91 = .ok (.iaload, 1) := by decide +kernel
theorem dX3_prepare_92 : decode cX3_prepare 92 = .ok (.iload_n 2, 1) := by decide +kernel
theorem dX3_prepare_93 : decode cX3_prepare 93 = .ok (.invokevirtual 81, 3) := by decide +kernel
theorem dX3_prepare_96 : decode cX3_prepare 96 = .ok (.return_, 1) := by decide +kernel
theorem dX3_addStart_0 : decode cX3_addStart 0 = .ok (.iload_n 3, 1) := by decide +kernel
theorem dX3_addStart_1 : decode cX3_addStart 1 = .ok (.iconst (-1), 1) := by decide +kernel
theorem dX3_addStart_2 : decode cX3_addStart 2 = .ok (.if_icmp .ne 8, 3) := by decide +kernel
theorem dX3_addStart_5 : decode cX3_addStart 5 = .ok (.bipush 20, 2) := by decide +kernel
theorem dX3_addStart_7 : decode cX3_addStart 7 = .ok (.goto 9, 3) := by decide +kernel
theorem dX3_addStart_10 : decode cX3_addStart 10 = .ok (.aload_n 1, 1) := by decide +kernel
theorem dX3_addStart_11 : decode cX3_addStart 11 = .ok (.iload_n 2, 1) := by decide +kernel
theorem dX3_addStart_12 : decode cX3_addStart 12 = .ok (.iload_n 3, 1) := by decide +kernel
theorem dX3_addStart_13 : decode cX3_addStart 13 = .ok (.invokevirtual 88, 3) := by decide +kernel
theorem dX3_addStart_16 : decode cX3_addStart 16 = .ok (.istore 4, 2) := by decide +kernel
theorem dX3_addStart_18 : decode cX3_addStart 18 = .ok (.aload_n 1, 1) := by decide +kernel
theorem dX3_addStart_19 : decode cX3_addStart 19 = .ok (.iload 4, 2) := by decide +kernel
theorem dX3_addStart_21 : decode cX3_addStart 21 = .ok (.invokevirtual 92, 3) := by decide +kernel
theorem dX3_addStart_24 : decode cX3_addStart 24 = .ok (.ifCond .eq 54, 3) := by decide +kernel
theorem dX3_addStart_27 : decode cX3_addStart 27 = .ok (.aload_n 0, 1) := by decide +kernel
theorem dX3_addStart_28 : decode cX3_addStart 28 = .ok (.getfield 37, 3) := by decide +kernel
theorem dX3_addStart_31 : decode cX3_addStart 31 = .ok (.bipush 12, 2) := by decide +kernel
theorem dX3_addStart_33 : decode cX3_addStart 33 = .ok (.if_icmp .gt 45, 3) := by decide +kernel
theorem dX3_addStart_36 : decode cX3_addStart 36 = .ok (.aload_n 0, 1) := by decide +kernel
theorem dX3_addStart_37 : decode cX3_addStart 37 = .ok (.getfield 31, 3) := by decide +kernel
theorem dX3_addStart_40 : decode cX3_addStart 40 = .ok (.aload_n 0, 1) := by decide +kernel
theorem dX3_addStart_41 : decode cX3_addStart 41 = .ok (.getfield 37, 3) := by decide +kernel
theorem dX3_addStart_44 : decode cX3_addStart 44 = .ok (.iload 4, 2) := by decide +kernel
theorem dX3_addStart_46 : decode cX3_addStart 46 = .ok (.iastore, 1) := by decide +kernel
theorem dX3_addStart_47 : decode cX3_addStart 47 = .ok (.aload_n 0, 1) := by decide +kernel
theorem dX3_addStart_48 : decode cX3_addStart 48 = .ok (.getfield 34, 3) := by decide +kernel
theorem dX3_addStart_51 : decode cX3_addStart 51 = .ok (.aload_n 0, 1) := by decide +kernel
theorem dX3_addStart_52 : decode cX3_addStart 52 = .ok (.getfield 37, 3) := by decide +kernel
theorem dX3_addStart_55 : decode cX3_addStart 55 = .ok (.aload_n 1, 1) := by decide +kernel
theorem dX3_addStart_56 : decode cX3_addStart 56 = .ok (.getfield 72, 3) := by decide +kernel
theorem dX3_addStart_59 : decode cX3_addStart 59 = .ok (.iload 4, 2) := by decide +kernel
theorem dX3_addStart_61 : decode cX3_addStart 61 = .ok (.aaload, 1) := by decide +kernel
theorem dX3_addStart_62 : decode cX3_addStart 62 = .ok (.getfield 96, 3) := by decide +kernel
theorem dX3_addStart_65 : decode cX3_addStart 65 = .ok (.iload_n 3, 1) := by decide +kernel
theorem dX3_addStart_66 : decode cX3_addStart 66 = .ok (.iaload, 1) := by decide +kernel
theorem dX3_addStart_67 : decode cX3_addStart 67 = .ok (.iastore, 1) := by decide +kernel
theorem dX3_addStart_68 : decode cX3_addStart 68 = .ok (.aload_n 0, 1) := by decide +kernel
theorem dX3_addStart_69 : decode cX3_addStart 69 = .ok (.dup, 1) := by decide +kernel
theorem dX3_addStart_70 : decode cX3_addStart 70 = .ok (.getfield 37, 3) := by decide +kernel
theorem dX3_addStart_73 : decode cX3_addStart 73 = .ok (.iconst 1, 1) := by decide +kernel
theorem dX3_addStart_74 : decode cX3_addStart 74 = .ok (.iadd, 1) := by decide +kernel
theorem dX3_addStart_75 : decode cX3_addStart 75 = .ok (.putfield 37, 3) := by decide +kernel
theorem dX3_addStart_78 : decode cX3_addStart 78 = .ok (.return_, 1) := by decide +kernel
theorem dX3_go_0 : decode cX3_go 0 = .ok (.aload_n 0, 1) := by decide +kernel
theorem dX3_go_1 : decode cX3_go 1 = .ok (.invokevirtual 99, 3) := by decide +kernel
theorem dX3_go_4 : decode cX3_go 4 = .ok (.istore_n 3, 1) := by decide +kernel
theorem dX3_go_5 : decode cX3_go 5 = .ok (.iconst 0, 1) := by decide +kernel
theorem dX3_go_6 : decode cX3_go 6 = .ok (.istore 4, 2) := by decide +kernel
theorem dX3_go_8 : decode cX3_go 8 = .ok (.iload 4, 2) := by decide +kernel
theorem dX3_go_10 : decode cX3_go 10 = .ok (.iload_n 2, 1) := by decide +kernel
theorem dX3_go_11 : decode cX3_go 11 = .ok (.if_icmp .gt 21, 3) := by decide +kernel
theorem dX3_go_14 : decode cX3_go 14 = .ok (.iload_n 3, 1) := by decide +kernel
theorem dX3_go_15 : decode cX3_go 15 = .ok (.iconst (-1), 1) := by decide +kernel
theorem dX3_go_16 : decode cX3_go 16 = .ok (.if_icmp .ne 16, 3) := by decide +kernel
theorem dX3_go_19 : decode cX3_go 19 = .ok (.aload_n 0, 1) := by decide +kernel
theorem dX3_go_20 : decode cX3_go 20 = .ok (.aload_n 1, 1) := by decide +kernel
theorem dX3_go_21 : decode cX3_go 21 = .ok (.iload_n 2, 1) := by decide +kernel
theorem dX3_go_22 : decode cX3_go 22 = .ok (.invokevirtual 103, 3) := by decide +kernel
theorem dX3_go_25 : decode cX3_go 25 = .ok (.istore_n 3, 1) := by decide +kernel
theorem dX3_go_26 : decode cX3_go 26 = .ok (.iinc 4 1, 3) := by decide +kernel
theorem dX3_go_29 : decode cX3_go 29 = .ok (.goto (-21), 3) := by decide +kernel
theorem dX3_go_32 : decode cX3_go 32 = .ok (.iload_n 3, 1) := by decide +kernel
theorem dX3_go_33 : decode cX3_go 33 = .ok (.ireturn, 1) := by decide +kernel
theorem dX3_takeTurn_0 : decode cX3_takeTurn 0 = .ok (.aload_n 1, 1) := by decide +kernel
theorem dX3_takeTurn_1 : decode cX3_takeTurn 1 = .ok (.getfield 72, 3) := by decide +kernel
theorem dX3_takeTurn_4 : decode cX3_takeTurn 4 = .ok (.aload_n 0, 1) := by decide +kernel
theorem dX3_takeTurn_5 : decode cX3_takeTurn 5 = .ok (.getfield 52, 3) := by decide +kernel
theorem dX3_takeTurn_8 : decode cX3_takeTurn 8 = .ok (.aaload, 1) := by decide +kernel
theorem dX3_takeTurn_9 : decode cX3_takeTurn 9 = .ok (.astore_n 3, 1) := by decide +kernel
theorem dX3_takeTurn_10 : decode cX3_takeTurn 10 = .ok (.aload_n 0, 1) := by decide +kernel
theorem dX3_takeTurn_11 : decode cX3_takeTurn 11 = .ok (.getfield 55, 3) := by decide +kernel
theorem dX3_takeTurn_14 : decode cX3_takeTurn 14 = .ok (.aload_n 3, 1) := by decide +kernel
theorem dX3_takeTurn_15 : decode cX3_takeTurn 15 = .ok (.getfield 107, 3) := by decide +kernel
theorem dX3_takeTurn_18 : decode cX3_takeTurn 18 = .ok (.if_icmp .lt 5, 3) := by decide +kernel
theorem dX3_takeTurn_21 : decode cX3_takeTurn 21 = .ok (.iconst 4, 1) := by decide +kernel
theorem dX3_takeTurn_22 : decode cX3_takeTurn 22 = .ok (.ireturn, 1) := by decide +kernel
theorem dX3_takeTurn_23 : decode cX3_takeTurn 23 = .ok (.aload_n 0, 1) := by decide +kernel
theorem dX3_takeTurn_24 : decode cX3_takeTurn 24 = .ok (.getfield 18, 3) := by decide +kernel
theorem dX3_takeTurn_27 : decode cX3_takeTurn 27 = .ok (.iload_n 2, 1) := by decide +kernel
theorem dX3_takeTurn_28 : decode cX3_takeTurn 28 = .ok (.if_icmp .lt 5, 3) := by decide +kernel
theorem dX3_takeTurn_31 : decode cX3_takeTurn 31 = .ok (.iconst 1, 1) := by decide +kernel
theorem dX3_takeTurn_32 : decode cX3_takeTurn 32 = .ok (.ireturn, 1) := by decide +kernel
theorem dX3_takeTurn_33 : decode cX3_takeTurn 33 = .ok (.aload_n 0, 1) := by decide +kernel
theorem dX3_takeTurn_34 : decode cX3_takeTurn 34 = .ok (.dup, 1) := by decide +kernel
theorem dX3_takeTurn_35 : decode cX3_takeTurn 35 = .ok (.getfield 18, 3) := by decide +kernel
theorem dX3_takeTurn_38 : decode cX3_takeTurn 38 = .ok (.iconst 1, 1) := by decide +kernel
theorem dX3_takeTurn_39 : decode cX3_takeTurn 39 = .ok (.iadd, 1) := by decide +kernel
theorem dX3_takeTurn_40 : decode cX3_takeTurn 40 = .ok (.putfield 18, 3) := by decide +kernel
theorem dX3_takeTurn_43 : decode cX3_takeTurn 43 = .ok (.aload_n 0, 1) := by decide +kernel
theorem dX3_takeTurn_44 : decode cX3_takeTurn 44 = .ok (.getfield 55, 3) := by decide +kernel
theorem dX3_takeTurn_47 : decode cX3_takeTurn 47 = .ok (.istore 4, 2) := by decide +kernel
theorem dX3_takeTurn_49 : decode cX3_takeTurn 49 = .ok (.aload_n 0, 1) := by decide +kernel
theorem dX3_takeTurn_50 : decode cX3_takeTurn 50 = .ok (.dup, 1) := by decide +kernel
theorem dX3_takeTurn_51 : decode cX3_takeTurn 51 = .ok (.getfield 55, 3) := by decide +kernel
theorem dX3_takeTurn_54 : decode cX3_takeTurn 54 = .ok (.iconst 1, 1) := by decide +kernel
theorem dX3_takeTurn_55 : decode cX3_takeTurn 55 = .ok (.iadd, 1) := by decide +kernel
theorem dX3_takeTurn_56 : decode cX3_takeTurn 56 = .ok (.putfield 55, 3) := by decide +kernel
theorem dX3_takeTurn_59 : decode cX3_takeTurn 59 = .ok (.aload_n 3, 1) := by decide +kernel
theorem dX3_takeTurn_60 : decode cX3_takeTurn 60 = .ok (.getfield 110, 3) := by decide +kernel
theorem dX3_takeTurn_63 : decode cX3_takeTurn 63 = .ok (.iload 4, 2) := by decide +kernel
theorem dX3_takeTurn_65 : decode cX3_takeTurn 65 = .ok (.iaload, 1) := by decide +kernel
theorem dX3_takeTurn_66 : decode cX3_takeTurn 66 = .ok (.istore 5, 2) := by decide +kernel
theorem dX3_takeTurn_68 : decode cX3_takeTurn 68 = .ok (.aload_n 0, 1) := by decide +kernel
theorem dX3_takeTurn_69 : decode cX3_takeTurn 69 = .ok (.aload_n 1, 1) := by decide +kernel
theorem dX3_takeTurn_70 : decode cX3_takeTurn 70 = .ok (.iload 5, 2) := by decide +kernel
theorem dX3_takeTurn_72 : decode cX3_takeTurn 72 = .ok (.aload_n 3, 1) := by decide +kernel
theorem dX3_takeTurn_73 : decode cX3_takeTurn 73 = .ok (.getfield 113, 3) := by decide +kernel
theorem dX3_takeTurn_76 : decode cX3_takeTurn 76 = .ok (.iload 4, 2) := by decide +kernel
theorem dX3_takeTurn_78 : decode cX3_takeTurn 78 = .ok (.iaload, 1) := by decide +kernel
theorem dX3_takeTurn_79 : decode cX3_takeTurn 79 = .ok (.aload_n 3, 1) := by decide +kernel
theorem dX3_takeTurn_80 : decode cX3_takeTurn 80 = .ok (.getfield 116, 3) := by decide +kernel
theorem dX3_takeTurn_83 : decode cX3_takeTurn 83 = .ok (.iload 4, 2) := by decide +kernel
theorem dX3_takeTurn_85 : decode cX3_takeTurn 85 = .ok (.iaload, 1) := by decide +kernel
theorem dX3_takeTurn_86 : decode cX3_takeTurn 86 = .ok (.aload_n 3, 1) := by decide +kernel
theorem dX3_takeTurn_87 : decode cX3_takeTurn 87 = .ok (.getfield 119, 3) := by decide +kernel
theorem dX3_takeTurn_90 : decode cX3_takeTurn 90 = .ok (.iload 4, 2) := by decide +kernel
theorem dX3_takeTurn_92 : decode cX3_takeTurn 92 = .ok (.iaload, 1) := by decide +kernel
theorem dX3_takeTurn_93 : decode cX3_takeTurn 93 = .ok (.invokevirtual 122, 3) := by decide +kernel
theorem dX3_takeTurn_96 : decode cX3_takeTurn 96 = .ok (.ireturn, 1) := by decide +kernel
theorem dX3_makeStep_0 : decode cX3_makeStep 0 = .ok (.iload_n 2, 1) := by decide +kernel
theorem dX3_makeStep_1 : decode cX3_makeStep 1 = .ok (.tableswitch 133 7 14 #[47, 73, 88, 103, 54, 66, 121, 71], 47) := by decide +kernel
theorem dX3_makeStep_48 : decode cX3_makeStep 48 = .ok (.aload_n 0, 1) := by decide +kernel
theorem dX3_makeStep_49 : decode cX3_makeStep 49 = .ok (.aload_n 1, 1) := by decide +kernel
theorem dX3_makeStep_50 : decode cX3_makeStep 50 = .ok (.iload_n 3, 1) := by decide +kernel
theorem dX3_makeStep_51 : decode cX3_makeStep 51 = .ok (.invokevirtual 126, 3) := by decide +kernel
theorem dX3_makeStep_54 : decode cX3_makeStep 54 = .ok (.ireturn, 1) := by decide +kernel
theorem dX3_makeStep_55 : decode cX3_makeStep 55 = .ok (.aload_n 0, 1) := by decide +kernel
theorem dX3_makeStep_56 : decode cX3_makeStep 56 = .ok (.aload_n 1, 1) := by decide +kernel
theorem dX3_makeStep_57 : decode cX3_makeStep 57 = .ok (.aload_n 0, 1) := by decide +kernel
theorem dX3_makeStep_58 : decode cX3_makeStep 58 = .ok (.getfield 9, 3) := by decide +kernel
theorem dX3_makeStep_61 : decode cX3_makeStep 61 = .ok (.iload_n 3, 1) := by decide +kernel
theorem dX3_makeStep_62 : decode cX3_makeStep 62 = .ok (.iaload, 1) := by decide +kernel
theorem dX3_makeStep_63 : decode cX3_makeStep 63 = .ok (.invokevirtual 129, 3) := by decide +kernel
theorem dX3_makeStep_66 : decode cX3_makeStep 66 = .ok (.ireturn, 1) := by decide +kernel
theorem dX3_makeStep_67 : decode cX3_makeStep 67 = .ok (.aload_n 0, 1) := by decide +kernel
theorem dX3_makeStep_68 : decode cX3_makeStep 68 = .ok (.invokevirtual 132, 3) := by decide +kernel
theorem dX3_makeStep_71 : decode cX3_makeStep 71 = .ok (.ireturn, 1) := by decide +kernel
theorem dX3_makeStep_72 : decode cX3_makeStep 72 = .ok (.iconst 0, 1) := by decide +kernel
theorem dX3_makeStep_73 : decode cX3_makeStep 73 = .ok (.ireturn, 1) := by decide +kernel
theorem dX3_makeStep_74 : decode cX3_makeStep 74 = .ok (.aload_n 0, 1) := by decide +kernel
theorem dX3_makeStep_75 : decode cX3_makeStep 75 = .ok (.getfield 9, 3) := by decide +kernel
theorem dX3_makeStep_78 : decode cX3_makeStep 78 = .ok (.iload_n 3, 1) := by decide +kernel
theorem dX3_makeStep_79 : decode cX3_makeStep 79 = .ok (.aload_n 0, 1) := by decide +kernel
theorem dX3_makeStep_80 : decode cX3_makeStep 80 = .ok (.aload_n 1, 1) := by decide +kernel
theorem dX3_makeStep_81 : decode cX3_makeStep 81 = .ok (.iload 4, 2) := by decide +kernel
theorem dX3_makeStep_83 : decode cX3_makeStep 83 = .ok (.invokevirtual 135, 3) := by decide +kernel
theorem dX3_makeStep_86 : decode cX3_makeStep 86 = .ok (.iastore, 1) := by decide +kernel
theorem dX3_makeStep_87 : decode cX3_makeStep 87 = .ok (.iconst (-1), 1) := by decide +kernel
theorem dX3_makeStep_88 : decode cX3_makeStep 88 = .ok (.ireturn, 1) := by decide +kernel
theorem dX3_makeStep_89 : decode cX3_makeStep 89 = .ok (.aload_n 0, 1) := by decide +kernel
theorem dX3_makeStep_90 : decode cX3_makeStep 90 = .ok (.aload_n 1, 1) := by decide +kernel
theorem dX3_makeStep_91 : decode cX3_makeStep 91 = .ok (.iload_n 3, 1) := by decide +kernel
theorem dX3_makeStep_92 : decode cX3_makeStep 92 = .ok (.aload_n 0, 1) := by decide +kernel
theorem dX3_makeStep_93 : decode cX3_makeStep 93 = .ok (.getfield 9, 3) := by decide +kernel
theorem dX3_makeStep_96 : decode cX3_makeStep 96 = .ok (.iload 4, 2) := by decide +kernel
theorem dX3_makeStep_98 : decode cX3_makeStep 98 = .ok (.iaload, 1) := by decide +kernel
theorem dX3_makeStep_99 : decode cX3_makeStep 99 = .ok (.invokevirtual 138, 3) := by decide +kernel
theorem dX3_makeStep_102 : decode cX3_makeStep 102 = .ok (.iconst (-1), 1) := by decide +kernel
theorem dX3_makeStep_103 : decode cX3_makeStep 103 = .ok (.ireturn, 1) := by decide +kernel
theorem dX3_makeStep_104 : decode cX3_makeStep 104 = .ok (.aload_n 0, 1) := by decide +kernel
theorem dX3_makeStep_105 : decode cX3_makeStep 105 = .ok (.getfield 9, 3) := by decide +kernel
theorem dX3_makeStep_108 : decode cX3_makeStep 108 = .ok (.iload_n 3, 1) := by decide +kernel
theorem dX3_makeStep_109 : decode cX3_makeStep 109 = .ok (.aload_n 1, 1) := by decide +kernel
theorem dX3_makeStep_110 : decode cX3_makeStep 110 = .ok (.aload_n 0, 1) := by decide +kernel
theorem dX3_makeStep_111 : decode cX3_makeStep 111 = .ok (.getfield 52, 3) := by decide +kernel
theorem dX3_makeStep_114 : decode cX3_makeStep 114 = .ok (.iload 4, 2) := by decide +kernel
theorem dX3_makeStep_116 : decode cX3_makeStep 116 = .ok (.invokevirtual 141, 3) := by decide +kernel
theorem dX3_makeStep_119 : decode cX3_makeStep 119 = .ok (.iastore, 1) := by decide +kernel
theorem dX3_makeStep_120 : decode cX3_makeStep 120 = .ok (.iconst (-1), 1) := by decide +kernel
theorem dX3_makeStep_121 : decode cX3_makeStep 121 = .ok (.ireturn, 1) := by decide +kernel
theorem dX3_makeStep_122 : decode cX3_makeStep 122 = .ok (.aload_n 0, 1) := by decide +kernel
theorem dX3_makeStep_123 : decode cX3_makeStep 123 = .ok (.aload_n 0, 1) := by decide +kernel
theorem dX3_makeStep_124 : decode cX3_makeStep 124 = .ok (.getfield 9, 3) := by decide +kernel
theorem dX3_makeStep_127 : decode cX3_makeStep 127 = .ok (.iload_n 3, 1) := by decide +kernel
theorem dX3_makeStep_128 : decode cX3_makeStep 128 = .ok (.iaload, 1) := by decide +kernel
theorem dX3_makeStep_129 : decode cX3_makeStep 129 = .ok (.invokevirtual 144, 3) := by decide +kernel
theorem dX3_makeStep_132 : decode cX3_makeStep 132 = .ok (.iconst (-1), 1) := by decide +kernel
theorem dX3_makeStep_133 : decode cX3_makeStep 133 = .ok (.ireturn, 1) := by decide +kernel
theorem dX3_makeStep_134 : decode cX3_makeStep 134 = .ok (.aload_n 0, 1) := by decide +kernel
theorem dX3_makeStep_135 : decode cX3_makeStep 135 = .ok (.iload_n 2, 1) := by decide +kernel
theorem dX3_makeStep_136 : decode cX3_makeStep 136 = .ok (.iload_n 3, 1) := by decide +kernel
theorem dX3_makeStep_137 : decode cX3_makeStep 137 = .ok (.iload 4, 2) := by decide +kernel
theorem dX3_makeStep_139 : decode cX3_makeStep 139 = .ok (.iload 5, 2) := by decide +kernel
theorem dX3_makeStep_141 : decode cX3_makeStep 141 = .ok (.invokevirtual 148, 3) := by decide +kernel
theorem dX3_makeStep_144 : decode cX3_makeStep 144 = .ok (.iconst (-1), 1) := by decide +kernel
theorem dX3_makeStep_145 : decode cX3_makeStep 145 = .ok (.ireturn, 1) := by decide +kernel
theorem dX3_reckon_0 : decode cX3_reckon 0 = .ok (.iload_n 1, 1) := by decide +kernel
theorem dX3_reckon_1 : decode cX3_reckon 1 = .ok (.tableswitch 169 0 6 #[43, 53, 68, 91, 114, 137, 161], 43) := by decide +kernel
theorem dX3_reckon_44 : decode cX3_reckon 44 = .ok (.aload_n 0, 1) := by decide +kernel
theorem dX3_reckon_45 : decode cX3_reckon 45 = .ok (.getfield 9, 3) := by decide +kernel
theorem dX3_reckon_48 : decode cX3_reckon 48 = .ok (.iload_n 2, 1) := by decide +kernel
theorem dX3_reckon_49 : decode cX3_reckon 49 = .ok (.iload_n 3, 1) := by decide +kernel
theorem dX3_reckon_50 : decode cX3_reckon 50 = .ok (.iastore, 1) := by decide +kernel
theorem dX3_reckon_51 : decode cX3_reckon 51 = .ok (.goto 119, 3) := by decide +kernel
theorem dX3_reckon_54 : decode cX3_reckon 54 = .ok (.aload_n 0, 1) := by decide +kernel
theorem dX3_reckon_55 : decode cX3_reckon 55 = .ok (.getfield 9, 3) := by decide +kernel
theorem dX3_reckon_58 : decode cX3_reckon 58 = .ok (.iload_n 2, 1) := by decide +kernel
theorem dX3_reckon_59 : decode cX3_reckon 59 = .ok (.aload_n 0, 1) := by decide +kernel
theorem dX3_reckon_60 : decode cX3_reckon 60 = .ok (.getfield 9, 3) := by decide +kernel
theorem dX3_reckon_63 : decode cX3_reckon 63 = .ok (.iload_n 3, 1) := by decide +kernel
theorem dX3_reckon_64 : decode cX3_reckon 64 = .ok (.iaload, 1) := by decide +kernel
theorem dX3_reckon_65 : decode cX3_reckon 65 = .ok (.iastore, 1) := by decide +kernel
theorem dX3_reckon_66 : decode cX3_reckon 66 = .ok (.goto 104, 3) := by decide +kernel
theorem dX3_reckon_69 : decode cX3_reckon 69 = .ok (.aload_n 0, 1) := by decide +kernel
theorem dX3_reckon_70 : decode cX3_reckon 70 = .ok (.getfield 9, 3) := by decide +kernel
theorem dX3_reckon_73 : decode cX3_reckon 73 = .ok (.iload_n 2, 1) := by decide +kernel
theorem dX3_reckon_74 : decode cX3_reckon 74 = .ok (.aload_n 0, 1) := by decide +kernel
theorem dX3_reckon_75 : decode cX3_reckon 75 = .ok (.getfield 9, 3) := by decide +kernel
theorem dX3_reckon_78 : decode cX3_reckon 78 = .ok (.iload_n 3, 1) := by decide +kernel
theorem dX3_reckon_79 : decode cX3_reckon 79 = .ok (.iaload, 1) := by decide +kernel
theorem dX3_reckon_80 : decode cX3_reckon 80 = .ok (.aload_n 0, 1) := by decide +kernel
theorem dX3_reckon_81 : decode cX3_reckon 81 = .ok (.getfield 9, 3) := by decide +kernel
theorem dX3_reckon_84 : decode cX3_reckon 84 = .ok (.iload 4, 2) := by decide +kernel
theorem dX3_reckon_86 : decode cX3_reckon 86 = .ok (.iaload, 1) := by decide +kernel
theorem dX3_reckon_87 : decode cX3_reckon 87 = .ok (.iadd, 1) := by decide +kernel
theorem dX3_reckon_88 : decode cX3_reckon 88 = .ok (.iastore, 1) := by decide +kernel
theorem dX3_reckon_89 : decode cX3_reckon 89 = .ok (.goto 81, 3) := by decide +kernel
theorem dX3_reckon_92 : decode cX3_reckon 92 = .ok (.aload_n 0, 1) := by decide +kernel
theorem dX3_reckon_93 : decode cX3_reckon 93 = .ok (.getfield 9, 3) := by decide +kernel
theorem dX3_reckon_96 : decode cX3_reckon 96 = .ok (.iload_n 2, 1) := by decide +kernel
theorem dX3_reckon_97 : decode cX3_reckon 97 = .ok (.aload_n 0, 1) := by decide +kernel
theorem dX3_reckon_98 : decode cX3_reckon 98 = .ok (.getfield 9, 3) := by decide +kernel
theorem dX3_reckon_101 : decode cX3_reckon 101 = .ok (.iload_n 3, 1) := by decide +kernel
theorem dX3_reckon_102 : decode cX3_reckon 102 = .ok (.iaload, 1) := by decide +kernel
theorem dX3_reckon_103 : decode cX3_reckon 103 = .ok (.aload_n 0, 1) := by decide +kernel
theorem dX3_reckon_104 : decode cX3_reckon 104 = .ok (.getfield 9, 3) := by decide +kernel
theorem dX3_reckon_107 : decode cX3_reckon 107 = .ok (.iload 4, 2) := by decide +kernel
theorem dX3_reckon_109 : decode cX3_reckon 109 = .ok (.iaload, 1) := by decide +kernel
theorem dX3_reckon_110 : decode cX3_reckon 110 = .ok (.isub, 1) := by decide +kernel
theorem dX3_reckon_111 : decode cX3_reckon 111 = .ok (.iastore, 1) := by decide +kernel
theorem dX3_reckon_112 : decode cX3_reckon 112 = .ok (.goto 58, 3) := by decide +kernel
theorem dX3_reckon_115 : decode cX3_reckon 115 = .ok (.aload_n 0, 1) := by decide +kernel
theorem dX3_reckon_116 : decode cX3_reckon 116 = .ok (.getfield 9, 3) := by decide +kernel
theorem dX3_reckon_119 : decode cX3_reckon 119 = .ok (.iload_n 2, 1) := by decide +kernel
theorem dX3_reckon_120 : decode cX3_reckon 120 = .ok (.aload_n 0, 1) := by decide +kernel
theorem dX3_reckon_121 : decode cX3_reckon 121 = .ok (.getfield 9, 3) := by decide +kernel
theorem dX3_reckon_124 : decode cX3_reckon 124 = .ok (.iload_n 3, 1) := by decide +kernel
theorem dX3_reckon_125 : decode cX3_reckon 125 = .ok (.iaload, 1) := by decide +kernel
theorem dX3_reckon_126 : decode cX3_reckon 126 = .ok (.aload_n 0, 1) := by decide +kernel
theorem dX3_reckon_127 : decode cX3_reckon 127 = .ok (.getfield 9, 3) := by decide +kernel
theorem dX3_reckon_130 : decode cX3_reckon 130 = .ok (.iload 4, 2) := by decide +kernel
theorem dX3_reckon_132 : decode cX3_reckon 132 = .ok (.iaload, 1) := by decide +kernel
theorem dX3_reckon_133 : decode cX3_reckon 133 = .ok (.imul, 1) := by decide +kernel
theorem dX3_reckon_134 : decode cX3_reckon 134 = .ok (.iastore, 1) := by decide +kernel
theorem dX3_reckon_135 : decode cX3_reckon 135 = .ok (.goto 35, 3) := by decide +kernel
theorem dX3_reckon_138 : decode cX3_reckon 138 = .ok (.aload_n 0, 1) := by decide +kernel
theorem dX3_reckon_139 : decode cX3_reckon 139 = .ok (.getfield 9, 3) := by decide +kernel
theorem dX3_reckon_142 : decode cX3_reckon 142 = .ok (.iload_n 2, 1) := by decide +kernel
theorem dX3_reckon_143 : decode cX3_reckon 143 = .ok (.iaload, 1) := by decide +kernel
theorem dX3_reckon_144 : decode cX3_reckon 144 = .ok (.aload_n 0, 1) := by decide +kernel
theorem dX3_reckon_145 : decode cX3_reckon 145 = .ok (.getfield 9, 3) := by decide +kernel
theorem dX3_reckon_148 : decode cX3_reckon 148 = .ok (.iload_n 3, 1) := by decide +kernel
theorem dX3_reckon_149 : decode cX3_reckon 149 = .ok (.iaload, 1) := by decide +kernel
theorem dX3_reckon_150 : decode cX3_reckon 150 = .ok (.if_icmp .ge 20, 3) := by decide +kernel
theorem dX3_reckon_153 : decode cX3_reckon 153 = .ok (.aload_n 0, 1) := by decide +kernel
theorem dX3_reckon_154 : decode cX3_reckon 154 = .ok (.iload 4, 2) := by decide +kernel
theorem dX3_reckon_156 : decode cX3_reckon 156 = .ok (.putfield 55, 3) := by decide +kernel
theorem dX3_reckon_159 : decode cX3_reckon 159 = .ok (.goto 11, 3) := by decide +kernel
theorem dX3_reckon_162 : decode cX3_reckon 162 = .ok (.aload_n 0, 1) := by decide +kernel
theorem dX3_reckon_163 : decode cX3_reckon 163 = .ok (.iload_n 2, 1) := by decide +kernel
theorem dX3_reckon_164 : decode cX3_reckon 164 = .ok (.putfield 55, 3) := by decide +kernel
theorem dX3_reckon_167 : decode cX3_reckon 167 = .ok (.goto 3, 3) := by decide +kernel
theorem dX3_reckon_170 : decode cX3_reckon 170 = .ok (.return_, 1) := by decide +kernel
theorem dX3_callName_0 : decode cX3_callName 0 = .ok (.aload_n 1, 1) := by decide +kernel
theorem dX3_callName_1 : decode cX3_callName 1 = .ok (.getfield 72, 3) := by decide +kernel
theorem dX3_callName_4 : decode cX3_callName 4 = .ok (.aload_n 0, 1) := by decide +kernel
theorem dX3_callName_5 : decode cX3_callName 5 = .ok (.getfield 52, 3) := by decide +kernel
theorem dX3_callName_8 : decode cX3_callName 8 = .ok (.aaload, 1) := by decide +kernel
theorem dX3_callName_9 : decode cX3_callName 9 = .ok (.getfield 152, 3) := by decide +kernel
theorem dX3_callName_12 : decode cX3_callName 12 = .ok (.astore_n 3, 1) := by decide +kernel
theorem dX3_callName_13 : decode cX3_callName 13 = .ok (.aload_n 3, 1) := by decide +kernel
theorem dX3_callName_14 : decode cX3_callName 14 = .ok (.iload_n 2, 1) := by decide +kernel
theorem dX3_callName_15 : decode cX3_callName 15 = .ok (.iaload, 1) := by decide +kernel
theorem dX3_callName_16 : decode cX3_callName 16 = .ok (.bipush 21, 2) := by decide +kernel
theorem dX3_callName_18 : decode cX3_callName 18 = .ok (.if_icmp .ne 25, 3) := by decide +kernel
theorem dX3_callName_21 : decode cX3_callName 21 = .ok (.aload_n 3, 1) := by decide +kernel
theorem dX3_callName_22 : decode cX3_callName 22 = .ok (.iload_n 2, 1) := by decide +kernel
theorem dX3_callName_23 : decode cX3_callName 23 = .ok (.aload_n 1, 1) := by decide +kernel
theorem dX3_callName_24 : decode cX3_callName 24 = .ok (.aload_n 0, 1) := by decide +kernel
theorem dX3_callName_25 : decode cX3_callName 25 = .ok (.getfield 52, 3) := by decide +kernel
theorem dX3_callName_28 : decode cX3_callName 28 = .ok (.iload_n 2, 1) := by decide +kernel
theorem dX3_callName_29 : decode cX3_callName 29 = .ok (.invokevirtual 88, 3) := by decide +kernel
theorem dX3_callName_32 : decode cX3_callName 32 = .ok (.iastore, 1) := by decide +kernel
theorem dX3_callName_33 : decode cX3_callName 33 = .ok (.aload_n 0, 1) := by decide +kernel
theorem dX3_callName_34 : decode cX3_callName 34 = .ok (.dup, 1) := by decide +kernel
theorem dX3_callName_35 : decode cX3_callName 35 = .ok (.getfield 25, 3) := by decide +kernel
theorem dX3_callName_38 : decode cX3_callName 38 = .ok (.iconst 1, 1) := by decide +kernel
theorem dX3_callName_39 : decode cX3_callName 39 = .ok (.iadd, 1) := by decide +kernel
theorem dX3_callName_40 : decode cX3_callName 40 = .ok (.putfield 25, 3) := by decide +kernel
theorem dX3_callName_43 : decode cX3_callName 43 = .ok (.aload_n 3, 1) := by decide +kernel
theorem dX3_callName_44 : decode cX3_callName 44 = .ok (.iload_n 2, 1) := by decide +kernel
theorem dX3_callName_45 : decode cX3_callName 45 = .ok (.iaload, 1) := by decide +kernel
theorem dX3_callName_46 : decode cX3_callName 46 = .ok (.istore 4, 2) := by decide +kernel
theorem dX3_callName_48 : decode cX3_callName 48 = .ok (.aload_n 1, 1) := by decide +kernel
theorem dX3_callName_49 : decode cX3_callName 49 = .ok (.iload 4, 2) := by decide +kernel
theorem dX3_callName_51 : decode cX3_callName 51 = .ok (.invokevirtual 92, 3) := by decide +kernel
theorem dX3_callName_54 : decode cX3_callName 54 = .ok (.ifCond .eq 24, 3) := by decide +kernel
theorem dX3_callName_57 : decode cX3_callName 57 = .ok (.aload_n 0, 1) := by decide +kernel
theorem dX3_callName_58 : decode cX3_callName 58 = .ok (.iload 4, 2) := by decide +kernel
theorem dX3_callName_60 : decode cX3_callName 60 = .ok (.aload_n 1, 1) := by decide +kernel
theorem dX3_callName_61 : decode cX3_callName 61 = .ok (.getfield 72, 3) := by decide +kernel
theorem dX3_callName_64 : decode cX3_callName 64 = .ok (.iload 4, 2) := by decide +kernel
theorem dX3_callName_66 : decode cX3_callName 66 = .ok (.aaload, 1) := by decide +kernel
theorem dX3_callName_67 : decode cX3_callName 67 = .ok (.getfield 96, 3) := by decide +kernel
theorem dX3_callName_70 : decode cX3_callName 70 = .ok (.iload_n 2, 1) := by decide +kernel
theorem dX3_callName_71 : decode cX3_callName 71 = .ok (.iaload, 1) := by decide +kernel
theorem dX3_callName_72 : decode cX3_callName 72 = .ok (.invokevirtual 155, 3) := by decide +kernel
theorem dX3_callName_75 : decode cX3_callName 75 = .ok (.goto 4, 3) := by decide +kernel
theorem dX3_callName_78 : decode cX3_callName 78 = .ok (.iconst 3, 1) := by decide +kernel
theorem dX3_callName_79 : decode cX3_callName 79 = .ok (.ireturn, 1) := by decide +kernel
theorem dX3_callAt_0 : decode cX3_callAt 0 = .ok (.iload_n 2, 1) := by decide +kernel
theorem dX3_callAt_1 : decode cX3_callAt 1 = .ok (.sipush 1000, 3) := by decide +kernel
theorem dX3_callAt_4 : decode cX3_callAt 4 = .ok (.idiv, 1) := by decide +kernel
theorem dX3_callAt_5 : decode cX3_callAt 5 = .ok (.iconst 1, 1) := by decide +kernel
theorem dX3_callAt_6 : decode cX3_callAt 6 = .ok (.isub, 1) := by decide +kernel
theorem dX3_callAt_7 : decode cX3_callAt 7 = .ok (.istore_n 3, 1) := by decide +kernel
theorem dX3_callAt_8 : decode cX3_callAt 8 = .ok (.iload_n 2, 1) := by decide +kernel
theorem dX3_callAt_9 : decode cX3_callAt 9 = .ok (.sipush 1000, 3) := by decide +kernel
theorem dX3_callAt_12 : decode cX3_callAt 12 = .ok (.irem, 1) := by decide +kernel
theorem dX3_callAt_13 : decode cX3_callAt 13 = .ok (.istore 4, 2) := by decide +kernel
theorem dX3_callAt_15 : decode cX3_callAt 15 = .ok (.iload_n 3, 1) := by decide +kernel
theorem dX3_callAt_16 : decode cX3_callAt 16 = .ok (.ifCond .lt 19, 3) := by decide +kernel
theorem dX3_callAt_19 : decode cX3_callAt 19 = .ok (.iload_n 3, 1) := by decide +kernel
theorem dX3_callAt_20 : decode cX3_callAt 20 = .ok (.aload_n 1, 1) := by decide +kernel
theorem dX3_callAt_21 : decode cX3_callAt 21 = .ok (.getfield 158, 3) := by decide +kernel
theorem dX3_callAt_24 : decode cX3_callAt 24 = .ok (.if_icmp .ge 11, 3) := by decide +kernel
theorem dX3_callAt_27 : decode cX3_callAt 27 = .ok (.iload 4, 2) := by decide +kernel
theorem dX3_callAt_29 : decode cX3_callAt 29 = .ok (.invokestatic 161, 3) := by decide +kernel
theorem dX3_callAt_32 : decode cX3_callAt 32 = .ok (.ifCond .ne 5, 3) := by decide +kernel
theorem dX3_callAt_35 : decode cX3_callAt 35 = .ok (.iconst 3, 1) := by decide +kernel
theorem dX3_callAt_36 : decode cX3_callAt 36 = .ok (.ireturn, 1) := by decide +kernel
theorem dX3_callAt_37 : decode cX3_callAt 37 = .ok (.aload_n 1, 1) := by decide +kernel
theorem dX3_callAt_38 : decode cX3_callAt 38 = .ok (.getfield 85, 3) := by decide +kernel
theorem dX3_callAt_41 : decode cX3_callAt 41 = .ok (.iload_n 3, 1) := by decide +kernel
theorem dX3_callAt_42 : decode cX3_callAt 42 = .ok (.iaload, 1) := by decide +kernel
theorem dX3_callAt_43 : decode cX3_callAt 43 = .ok (.istore 5, 2) := by decide +kernel
theorem dX3_callAt_45 : decode cX3_callAt 45 = .ok (.aload_n 1, 1) := by decide +kernel
theorem dX3_callAt_46 : decode cX3_callAt 46 = .ok (.getfield 72, 3) := by decide +kernel
theorem dX3_callAt_49 : decode cX3_callAt 49 = .ok (.iload 5, 2) := by decide +kernel
theorem dX3_callAt_51 : decode cX3_callAt 51 = .ok (.aaload, 1) := by decide +kernel
theorem dX3_callAt_52 : decode cX3_callAt 52 = .ok (.getfield 164, 3) := by decide +kernel
theorem dX3_callAt_55 : decode cX3_callAt 55 = .ok (.iload 4, 2) := by decide +kernel
theorem dX3_callAt_57 : decode cX3_callAt 57 = .ok (.baload, 1) := by decide +kernel
theorem dX3_callAt_58 : decode cX3_callAt 58 = .ok (.ifCond .eq 14, 3) := by decide +kernel
theorem dX3_callAt_61 : decode cX3_callAt 61 = .ok (.aload_n 0, 1) := by decide +kernel
theorem dX3_callAt_62 : decode cX3_callAt 62 = .ok (.iload 5, 2) := by decide +kernel
theorem dX3_callAt_64 : decode cX3_callAt 64 = .ok (.iload 4, 2) := by decide +kernel
theorem dX3_callAt_66 : decode cX3_callAt 66 = .ok (.invokevirtual 155, 3) := by decide +kernel
theorem dX3_callAt_69 : decode cX3_callAt 69 = .ok (.goto 4, 3) := by decide +kernel
theorem dX3_callAt_72 : decode cX3_callAt 72 = .ok (.iconst 3, 1) := by decide +kernel
theorem dX3_callAt_73 : decode cX3_callAt 73 = .ok (.ireturn, 1) := by decide +kernel
theorem dX3_enter_0 : decode cX3_enter 0 = .ok (.aload_n 0, 1) := by decide +kernel
theorem dX3_enter_1 : decode cX3_enter 1 = .ok (.getfield 49, 3) := by decide +kernel
theorem dX3_enter_4 : decode cX3_enter 4 = .ok (.bipush 100, 2) := by decide +kernel
theorem dX3_enter_6 : decode cX3_enter 6 = .ok (.if_icmp .lt 5, 3) := by decide +kernel
theorem dX3_enter_9 : decode cX3_enter 9 = .ok (.iconst 2, 1) := by decide +kernel
theorem dX3_enter_10 : decode cX3_enter 10 = .ok (.ireturn, 1) := by decide +kernel
theorem dX3_enter_11 : decode cX3_enter 11 = .ok (.aload_n 0, 1) := by decide +kernel
theorem dX3_enter_12 : decode cX3_enter 12 = .ok (.getfield 43, 3) := by decide +kernel
theorem dX3_enter_15 : decode cX3_enter 15 = .ok (.aload_n 0, 1) := by decide +kernel
theorem dX3_enter_16 : decode cX3_enter 16 = .ok (.getfield 49, 3) := by decide +kernel
theorem dX3_enter_19 : decode cX3_enter 19 = .ok (.aload_n 0, 1) := by decide +kernel
theorem dX3_enter_20 : decode cX3_enter 20 = .ok (.getfield 52, 3) := by decide +kernel
theorem dX3_enter_23 : decode cX3_enter 23 = .ok (.iastore, 1) := by decide +kernel
theorem dX3_enter_24 : decode cX3_enter 24 = .ok (.aload_n 0, 1) := by decide +kernel
theorem dX3_enter_25 : decode cX3_enter 25 = .ok (.getfield 46, 3) := by decide +kernel
theorem dX3_enter_28 : decode cX3_enter 28 = .ok (.aload_n 0, 1) := by decide +kernel
theorem dX3_enter_29 : decode cX3_enter 29 = .ok (.getfield 49, 3) := by decide +kernel
theorem dX3_enter_32 : decode cX3_enter 32 = .ok (.aload_n 0, 1) := by decide +kernel
theorem dX3_enter_33 : decode cX3_enter 33 = .ok (.getfield 55, 3) := by decide +kernel
theorem dX3_enter_36 : decode cX3_enter 36 = .ok (.iastore, 1) := by decide +kernel
theorem dX3_enter_37 : decode cX3_enter 37 = .ok (.aload_n 0, 1) := by decide +kernel
theorem dX3_enter_38 : decode cX3_enter 38 = .ok (.dup, 1) := by decide +kernel
theorem dX3_enter_39 : decode cX3_enter 39 = .ok (.getfield 49, 3) := by decide +kernel
theorem dX3_enter_42 : decode cX3_enter 42 = .ok (.iconst 1, 1) := by decide +kernel
theorem dX3_enter_43 : decode cX3_enter 43 = .ok (.iadd, 1) := by decide +kernel
theorem dX3_enter_44 : decode cX3_enter 44 = .ok (.putfield 49, 3) := by decide +kernel
theorem dX3_enter_47 : decode cX3_enter 47 = .ok (.aload_n 0, 1) := by decide +kernel
theorem dX3_enter_48 : decode cX3_enter 48 = .ok (.aload_n 0, 1) := by decide +kernel
theorem dX3_enter_49 : decode cX3_enter 49 = .ok (.getfield 28, 3) := by decide +kernel
theorem dX3_enter_52 : decode cX3_enter 52 = .ok (.aload_n 0, 1) := by decide +kernel
theorem dX3_enter_53 : decode cX3_enter 53 = .ok (.getfield 49, 3) := by decide +kernel
theorem dX3_enter_56 : decode cX3_enter 56 = .ok (.invokestatic 168, 3) := by decide +kernel
theorem dX3_enter_59 : decode cX3_enter 59 = .ok (.putfield 28, 3) := by decide +kernel
theorem dX3_enter_62 : decode cX3_enter 62 = .ok (.aload_n 0, 1) := by decide +kernel
theorem dX3_enter_63 : decode cX3_enter 63 = .ok (.iload_n 1, 1) := by decide +kernel
theorem dX3_enter_64 : decode cX3_enter 64 = .ok (.putfield 52, 3) := by decide +kernel
theorem dX3_enter_67 : decode cX3_enter 67 = .ok (.aload_n 0, 1) := by decide +kernel
theorem dX3_enter_68 : decode cX3_enter 68 = .ok (.iload_n 2, 1) := by decide +kernel
theorem dX3_enter_69 : decode cX3_enter 69 = .ok (.putfield 55, 3) := by decide +kernel
theorem dX3_enter_72 : decode cX3_enter 72 = .ok (.iconst (-1), 1) := by decide +kernel
theorem dX3_enter_73 : decode cX3_enter 73 = .ok (.ireturn, 1) := by decide +kernel
theorem dX3_goBack_0 : decode cX3_goBack 0 = .ok (.aload_n 0, 1) := by decide +kernel
theorem dX3_goBack_1 : decode cX3_goBack 1 = .ok (.getfield 49, 3) := by decide +kernel
theorem dX3_goBack_4 : decode cX3_goBack 4 = .ok (.ifCond .ne 8, 3) := by decide +kernel
theorem dX3_goBack_7 : decode cX3_goBack 7 = .ok (.aload_n 0, 1) := by decide +kernel
theorem dX3_goBack_8 : decode cX3_goBack 8 = .ok (.invokevirtual 99, 3) := by decide +kernel
theorem dX3_goBack_11 : decode cX3_goBack 11 = .ok (.ireturn, 1) := by decide +kernel
theorem dX3_goBack_12 : decode cX3_goBack 12 = .ok (.aload_n 0, 1) := by decide +kernel
theorem dX3_goBack_13 : decode cX3_goBack 13 = .ok (.dup, 1) := by decide +kernel
theorem dX3_goBack_14 : decode cX3_goBack 14 = .ok (.getfield 49, 3) := by decide +kernel
theorem dX3_goBack_17 : decode cX3_goBack 17 = .ok (.iconst 1, 1) := by decide +kernel
theorem dX3_goBack_18 : decode cX3_goBack 18 = .ok (.isub, 1) := by decide +kernel
theorem dX3_goBack_19 : decode cX3_goBack 19 = .ok (.putfield 49, 3) := by decide +kernel
theorem dX3_goBack_22 : decode cX3_goBack 22 = .ok (.aload_n 0, 1) := by decide +kernel
theorem dX3_goBack_23 : decode cX3_goBack 23 = .ok (.aload_n 0, 1) := by decide +kernel
theorem dX3_goBack_24 : decode cX3_goBack 24 = .ok (.getfield 43, 3) := by decide +kernel
theorem dX3_goBack_27 : decode cX3_goBack 27 = .ok (.aload_n 0, 1) := by decide +kernel
theorem dX3_goBack_28 : decode cX3_goBack 28 = .ok (.getfield 49, 3) := by decide +kernel
theorem dX3_goBack_31 : decode cX3_goBack 31 = .ok (.iaload, 1) := by decide +kernel
theorem dX3_goBack_32 : decode cX3_goBack 32 = .ok (.putfield 52, 3) := by decide +kernel
theorem dX3_goBack_35 : decode cX3_goBack 35 = .ok (.aload_n 0, 1) := by decide +kernel
theorem dX3_goBack_36 : decode cX3_goBack 36 = .ok (.aload_n 0, 1) := by decide +kernel
theorem dX3_goBack_37 : decode cX3_goBack 37 = .ok (.getfield 46, 3) := by decide +kernel
theorem dX3_goBack_40 : decode cX3_goBack 40 = .ok (.aload_n 0, 1) := by decide +kernel
theorem dX3_goBack_41 : decode cX3_goBack 41 = .ok (.getfield 49, 3) := by decide +kernel
theorem dX3_goBack_44 : decode cX3_goBack 44 = .ok (.iaload, 1) := by decide +kernel
theorem dX3_goBack_45 : decode cX3_goBack 45 = .ok (.putfield 55, 3) := by decide +kernel
theorem dX3_goBack_48 : decode cX3_goBack 48 = .ok (.iconst (-1), 1) := by decide +kernel
theorem dX3_goBack_49 : decode cX3_goBack 49 = .ok (.ireturn, 1) := by decide +kernel
theorem dX3_startNext_0 : decode cX3_startNext 0 = .ok (.aload_n 0, 1) := by decide +kernel
theorem dX3_startNext_1 : decode cX3_startNext 1 = .ok (.getfield 40, 3) := by decide +kernel
theorem dX3_startNext_4 : decode cX3_startNext 4 = .ok (.aload_n 0, 1) := by decide +kernel
theorem dX3_startNext_5 : decode cX3_startNext 5 = .ok (.getfield 37, 3) := by decide +kernel
theorem dX3_startNext_8 : decode cX3_startNext 8 = .ok (.if_icmp .lt 5, 3) := by decide +kernel
theorem dX3_startNext_11 : decode cX3_startNext 11 = .ok (.iconst 0, 1) := by decide +kernel
theorem dX3_startNext_12 : decode cX3_startNext 12 = .ok (.ireturn, 1) := by decide +kernel
theorem dX3_startNext_13 : decode cX3_startNext 13 = .ok (.aload_n 0, 1) := by decide +kernel
theorem dX3_startNext_14 : decode cX3_startNext 14 = .ok (.aload_n 0, 1) := by decide +kernel
theorem dX3_startNext_15 : decode cX3_startNext 15 = .ok (.getfield 31, 3) := by decide +kernel
theorem dX3_startNext_18 : decode cX3_startNext 18 = .ok (.aload_n 0, 1) := by decide +kernel
theorem dX3_startNext_19 : decode cX3_startNext 19 = .ok (.getfield 40, 3) := by decide +kernel
theorem dX3_startNext_22 : decode cX3_startNext 22 = .ok (.iaload, 1) := by decide +kernel
theorem dX3_startNext_23 : decode cX3_startNext 23 = .ok (.putfield 52, 3) := by decide +kernel
theorem dX3_startNext_26 : decode cX3_startNext 26 = .ok (.aload_n 0, 1) := by decide +kernel
theorem dX3_startNext_27 : decode cX3_startNext 27 = .ok (.aload_n 0, 1) := by decide +kernel
theorem dX3_startNext_28 : decode cX3_startNext 28 = .ok (.getfield 34, 3) := by decide +kernel
theorem dX3_startNext_31 : decode cX3_startNext 31 = .ok (.aload_n 0, 1) := by decide +kernel
theorem dX3_startNext_32 : decode cX3_startNext 32 = .ok (.getfield 40, 3) := by decide +kernel
theorem dX3_startNext_35 : decode cX3_startNext 35 = .ok (.iaload, 1) := by decide +kernel
theorem dX3_startNext_36 : decode cX3_startNext 36 = .ok (.putfield 55, 3) := by decide +kernel
theorem dX3_startNext_39 : decode cX3_startNext 39 = .ok (.aload_n 0, 1) := by decide +kernel
theorem dX3_startNext_40 : decode cX3_startNext 40 = .ok (.dup, 1) := by decide +kernel
theorem dX3_startNext_41 : decode cX3_startNext 41 = .ok (.getfield 40, 3) := by decide +kernel
theorem dX3_startNext_44 : decode cX3_startNext 44 = .ok (.iconst 1, 1) := by decide +kernel
theorem dX3_startNext_45 : decode cX3_startNext 45 = .ok (.iadd, 1) := by decide +kernel
theorem dX3_startNext_46 : decode cX3_startNext 46 = .ok (.putfield 40, 3) := by decide +kernel
theorem dX3_startNext_49 : decode cX3_startNext 49 = .ok (.iconst (-1), 1) := by decide +kernel
theorem dX3_startNext_50 : decode cX3_startNext 50 = .ok (.ireturn, 1) := by decide +kernel
theorem dX3_readDatum_0 : decode cX3_readDatum 0 = .ok (.aload_n 1, 1) := by decide +kernel
theorem dX3_readDatum_1 : decode cX3_readDatum 1 = .ok (.aload_n 0, 1) := by decide +kernel
theorem dX3_readDatum_2 : decode cX3_readDatum 2 = .ok (.getfield 52, 3) := by decide +kernel
theorem dX3_readDatum_5 : decode cX3_readDatum 5 = .ok (.iload_n 2, 1) := by decide +kernel
theorem dX3_readDatum_6 : decode cX3_readDatum 6 = .ok (.invokevirtual 88, 3) := by decide +kernel
theorem dX3_readDatum_9 : decode cX3_readDatum 9 = .ok (.istore_n 3, 1) := by decide +kernel
theorem dX3_readDatum_10 : decode cX3_readDatum 10 = .ok (.aload_n 1, 1) := by decide +kernel
theorem dX3_readDatum_11 : decode cX3_readDatum 11 = .ok (.iload_n 3, 1) := by decide +kernel
theorem dX3_readDatum_12 : decode cX3_readDatum 12 = .ok (.invokevirtual 92, 3) := by decide +kernel
theorem dX3_readDatum_15 : decode cX3_readDatum 15 = .ok (.ifCond .eq 17, 3) := by decide +kernel
theorem dX3_readDatum_18 : decode cX3_readDatum 18 = .ok (.aload_n 1, 1) := by decide +kernel
theorem dX3_readDatum_19 : decode cX3_readDatum 19 = .ok (.getfield 72, 3) := by decide +kernel
theorem dX3_readDatum_22 : decode cX3_readDatum 22 = .ok (.iload_n 3, 1) := by decide +kernel
theorem dX3_readDatum_23 : decode cX3_readDatum 23 = .ok (.aaload, 1) := by decide +kernel
theorem dX3_readDatum_24 : decode cX3_readDatum 24 = .ok (.getfield 173, 3) := by decide +kernel
theorem dX3_readDatum_27 : decode cX3_readDatum 27 = .ok (.iload_n 2, 1) := by decide +kernel
theorem dX3_readDatum_28 : decode cX3_readDatum 28 = .ok (.iaload, 1) := by decide +kernel
theorem dX3_readDatum_29 : decode cX3_readDatum 29 = .ok (.goto 4, 3) := by decide +kernel
theorem dX3_readDatum_32 : decode cX3_readDatum 32 = .ok (.iconst 0, 1) := by decide +kernel
theorem dX3_readDatum_33 : decode cX3_readDatum 33 = .ok (.ireturn, 1) := by decide +kernel
theorem dX3_writeDatum_0 : decode cX3_writeDatum 0 = .ok (.aload_n 1, 1) := by decide +kernel
theorem dX3_writeDatum_1 : decode cX3_writeDatum 1 = .ok (.aload_n 0, 1) := by decide +kernel
theorem dX3_writeDatum_2 : decode cX3_writeDatum 2 = .ok (.getfield 52, 3) := by decide +kernel
theorem dX3_writeDatum_5 : decode cX3_writeDatum 5 = .ok (.iload_n 2, 1) := by decide +kernel
theorem dX3_writeDatum_6 : decode cX3_writeDatum 6 = .ok (.invokevirtual 88, 3) := by decide +kernel
theorem dX3_writeDatum_9 : decode cX3_writeDatum 9 = .ok (.istore 4, 2) := by decide +kernel
theorem dX3_writeDatum_11 : decode cX3_writeDatum 11 = .ok (.aload_n 1, 1) := by decide +kernel
theorem dX3_writeDatum_12 : decode cX3_writeDatum 12 = .ok (.iload 4, 2) := by decide +kernel
theorem dX3_writeDatum_14 : decode cX3_writeDatum 14 = .ok (.invokevirtual 92, 3) := by decide +kernel
theorem dX3_writeDatum_17 : decode cX3_writeDatum 17 = .ok (.ifCond .eq 16, 3) := by decide +kernel
theorem dX3_writeDatum_20 : decode cX3_writeDatum 20 = .ok (.aload_n 1, 1) := by decide +kernel
theorem dX3_writeDatum_21 : decode cX3_writeDatum 21 = .ok (.getfield 72, 3) := by decide +kernel
theorem dX3_writeDatum_24 : decode cX3_writeDatum 24 = .ok (.iload 4, 2) := by decide +kernel
theorem dX3_writeDatum_26 : decode cX3_writeDatum 26 = .ok (.aaload, 1) := by decide +kernel
theorem dX3_writeDatum_27 : decode cX3_writeDatum 27 = .ok (.getfield 173, 3) := by decide +kernel
theorem dX3_writeDatum_30 : decode cX3_writeDatum 30 = .ok (.iload_n 2, 1) := by decide +kernel
theorem dX3_writeDatum_31 : decode cX3_writeDatum 31 = .ok (.iload_n 3, 1) := by decide +kernel
theorem dX3_writeDatum_32 : decode cX3_writeDatum 32 = .ok (.iastore, 1) := by decide +kernel
theorem dX3_writeDatum_33 : decode cX3_writeDatum 33 = .ok (.return_, 1) := by decide +kernel
theorem dX3_say_0 : decode cX3_say 0 = .ok (.aload_n 0, 1) := by decide +kernel
theorem dX3_say_1 : decode cX3_say 1 = .ok (.getfield 22, 3) := by decide +kernel
theorem dX3_say_4 : decode cX3_say 4 = .ok (.bipush 60, 2) := by decide +kernel
theorem dX3_say_6 : decode cX3_say 6 = .ok (.if_icmp .ge 13, 3) := by decide +kernel
theorem dX3_say_9 : decode cX3_say 9 = .ok (.aload_n 0, 1) := by decide +kernel
theorem dX3_say_10 : decode cX3_say 10 = .ok (.getfield 15, 3) := by decide +kernel
theorem dX3_say_13 : decode cX3_say 13 = .ok (.aload_n 0, 1) := by decide +kernel
theorem dX3_say_14 : decode cX3_say 14 = .ok (.getfield 22, 3) := by decide +kernel
theorem dX3_say_17 : decode cX3_say 17 = .ok (.iload_n 1, 1) := by decide +kernel
theorem dX3_say_18 : decode cX3_say 18 = .ok (.iastore, 1) := by decide +kernel
theorem dX3_say_19 : decode cX3_say 19 = .ok (.aload_n 0, 1) := by decide +kernel
theorem dX3_say_20 : decode cX3_say 20 = .ok (.dup, 1) := by decide +kernel
theorem dX3_say_21 : decode cX3_say 21 = .ok (.getfield 22, 3) := by decide +kernel
theorem dX3_say_24 : decode cX3_say 24 = .ok (.iconst 1, 1) := by decide +kernel
theorem dX3_say_25 : decode cX3_say 25 = .ok (.iadd, 1) := by decide +kernel
theorem dX3_say_26 : decode cX3_say 26 = .ok (.putfield 22, 3) := by decide +kernel
theorem dX3_say_29 : decode cX3_say 29 = .ok (.return_, 1) := by decide +kernel
end
section
theorem dX4_init_0 : decode cX4_init 0 = .ok (.aload_n 0, 1) := by decide +kernel
theorem dX4_init_1 : decode cX4_init 1 = .ok (.invokespecial 1, 3) := by decide +kernel
theorem dX4_init_4 : decode cX4_init 4 = .ok (.aload_n 0, 1) := by decide +kernel
theorem dX4_init_5 : decode cX4_init 5 = .ok (.iconst 0, 1) := by decide +kernel
theorem dX4_init_6 : decode cX4_init 6 = .ok (.putfield 7, 3) := by decide +kernel
theorem dX4_init_9 : decode cX4_init 9 = .ok (.aload_n 0, 1) := by decide +kernel
theorem dX4_init_10 : decode cX4_init 10 = .ok (.new 13, 3) := by decide +kernel
theorem dX4_init_13 : decode cX4_init 13 = .ok (.dup, 1) := by decide +kernel
theorem dX4_init_14 : decode cX4_init 14 = .ok (.invokespecial 15, 3) := by decide +kernel
theorem dX4_init_17 : decode cX4_init 17 = .ok (.putfield 16, 3) := by decide +kernel
theorem dX4_init_20 : decode cX4_init 20 = .ok (.aload_n 0, 1) := by decide +kernel
theorem dX4_init_21 : decode cX4_init 21 = .ok (.new 20, 3) := by decide +kernel
theorem dX4_init_24 : decode cX4_init 24 = .ok (.dup, 1) := by decide +kernel
theorem dX4_init_25 : decode cX4_init 25 = .ok (.invokespecial 22, 3) := by decide +kernel
theorem dX4_init_28 : decode cX4_init 28 = .ok (.putfield 23, 3) := by decide +kernel
theorem dX4_init_31 : decode cX4_init 31 = .ok (.new 27, 3) := by decide +kernel
theorem dX4_init_34 : decode cX4_init 34 = .ok (.dup, 1) := by decide +kernel
theorem dX4_init_35 : decode cX4_init 35 = .ok (.invokespecial 29, 3) := by decide +kernel
theorem dX4_init_38 : decode cX4_init 38 = .ok (.astore_n 1, 1) := by decide +kernel
theorem dX4_init_39 : decode cX4_init 39 = .ok (.bipush 12, 2) := by decide +kernel
theorem dX4_init_41 : decode cX4_init 41 = .ok (.anewarray 27, 3) := by decide +kernel
theorem dX4_init_44 : decode cX4_init 44 = .ok (.astore_n 2, 1) := by decide +kernel
theorem dX4_init_45 : decode cX4_init 45 = .ok (.iconst 0, 1) := by decide +kernel
theorem dX4_init_46 : decode cX4_init 46 = .ok (.istore_n 3, 1) := by decide +kernel
theorem dX4_init_47 : decode cX4_init 47 = .ok (.iload_n 3, 1) := by decide +kernel
theorem dX4_init_48 : decode cX4_init 48 = .ok (.bipush 12, 2) := by decide +kernel
theorem dX4_init_50 : decode cX4_init 50 = .ok (.if_icmp .ge 13, 3) := by decide +kernel
theorem dX4_init_53 : decode cX4_init 53 = .ok (.aload_n 2, 1) := by decide +kernel
theorem dX4_init_54 : decode cX4_init 54 = .ok (.iload_n 3, 1) := by decide +kernel
theorem dX4_init_55 : decode cX4_init 55 = .ok (.aload_n 1, 1) := by decide +kernel
theorem dX4_init_56 : decode cX4_init 56 = .ok (.aastore, 1) := by decide +kernel
theorem dX4_init_57 : decode cX4_init 57 = .ok (.iinc 3 1, 3) := by decide +kernel
theorem dX4_init_60 : decode cX4_init 60 = .ok (.goto (-13), 3) := by decide +kernel
theorem dX4_init_63 : decode cX4_init 63 = .ok (.aload_n 0, 1) := by decide +kernel
theorem dX4_init_64 : decode cX4_init 64 = .ok (.aload_n 2, 1) := by decide +kernel
theorem dX4_init_65 : decode cX4_init 65 = .ok (.putfield 30, 3) := by decide +kernel
theorem dX4_init_68 : decode cX4_init 68 = .ok (.aload_n 0, 1) := by decide +kernel
theorem dX4_init_69 : decode cX4_init 69 = .ok (.new 34, 3) := by decide +kernel
theorem dX4_init_72 : decode cX4_init 72 = .ok (.dup, 1) := by decide +kernel
theorem dX4_init_73 : decode cX4_init 73 = .ok (.aload_n 2, 1) := by decide +kernel
theorem dX4_init_74 : decode cX4_init 74 = .ok (.invokespecial 36, 3) := by decide +kernel
theorem dX4_init_77 : decode cX4_init 77 = .ok (.putfield 39, 3) := by decide +kernel
theorem dX4_init_80 : decode cX4_init 80 = .ok (.aload_n 0, 1) := by decide +kernel
theorem dX4_init_81 : decode cX4_init 81 = .ok (.new 34, 3) := by decide +kernel
theorem dX4_init_84 : decode cX4_init 84 = .ok (.dup, 1) := by decide +kernel
theorem dX4_init_85 : decode cX4_init 85 = .ok (.aload_n 2, 1) := by decide +kernel
theorem dX4_init_86 : decode cX4_init 86 = .ok (.invokespecial 36, 3) := by decide +kernel
theorem dX4_init_89 : decode cX4_init 89 = .ok (.putfield 43, 3) := by decide +kernel
theorem dX4_init_92 : decode cX4_init 92 = .ok (.return_, 1) := by decide +kernel
theorem dX4_module_0 : decode cX4_module 0 = .ok (.aload_n 0, 1) := by decide +kernel
theorem dX4_module_1 : decode cX4_module 1 = .ok (.getfield 7, 3) := by decide +kernel
theorem dX4_module_4 : decode cX4_module 4 = .ok (.bipush 12, 2) := by decide +kernel
theorem dX4_module_6 : decode cX4_module 6 = .ok (.if_icmp .lt 5, 3) := by decide +kernel
theorem dX4_module_9 : decode cX4_module 9 = .ok (.iconst (-1), 1) := by decide +kernel
theorem dX4_module_10 : decode cX4_module 10 = .ok (.ireturn, 1) := by decide +kernel
theorem dX4_module_11 : decode cX4_module 11 = .ok (.aload_n 0, 1) := by decide +kernel
theorem dX4_module_12 : decode cX4_module 12 = .ok (.getfield 30, 3) := by decide +kernel
theorem dX4_module_15 : decode cX4_module 15 = .ok (.aload_n 0, 1) := by decide +kernel
theorem dX4_module_16 : decode cX4_module 16 = .ok (.getfield 7, 3) := by decide +kernel
theorem dX4_module_19 : decode cX4_module 19 = .ok (.new 27, 3) := by decide +kernel
theorem dX4_module_22 : decode cX4_module 22 = .ok (.dup, 1) := by decide +kernel
theorem dX4_module_23 : decode cX4_module 23 = .ok (.invokespecial 29, 3) := by decide +kernel
theorem dX4_module_26 : decode cX4_module 26 = .ok (.aastore, 1) := by decide +kernel
theorem dX4_module_27 : decode cX4_module 27 = .ok (.aload_n 0, 1) := by decide +kernel
theorem dX4_module_28 : decode cX4_module 28 = .ok (.dup, 1) := by decide +kernel
theorem dX4_module_29 : decode cX4_module 29 = .ok (.getfield 7, 3) := by decide +kernel
theorem dX4_module_32 : decode cX4_module 32 = .ok (.iconst 1, 1) := by decide +kernel
theorem dX4_module_33 : decode cX4_module 33 = .ok (.iadd, 1) := by decide +kernel
theorem dX4_module_34 : decode cX4_module 34 = .ok (.putfield 7, 3) := by decide +kernel
theorem dX4_module_37 : decode cX4_module 37 = .ok (.aload_n 0, 1) := by decide +kernel
theorem dX4_module_38 : decode cX4_module 38 = .ok (.getfield 7, 3) := by decide +kernel
theorem dX4_module_41 : decode cX4_module 41 = .ok (.iconst 1, 1) := by decide +kernel
theorem dX4_module_42 : decode cX4_module 42 = .ok (.isub, 1) := by decide +kernel
theorem dX4_module_43 : decode cX4_module 43 = .ok (.ireturn, 1) := by decide +kernel
theorem dX4_need_0 : decode cX4_need 0 = .ok (.aload_n 0, 1) := by decide +kernel
theorem dX4_need_1 : decode cX4_need 1 = .ok (.iload_n 1, 1) := by decide +kernel
theorem dX4_need_2 : decode cX4_need 2 = .ok (.invokevirtual 46, 3) := by decide +kernel
theorem dX4_need_5 : decode cX4_need 5 = .ok (.ifCond .eq 24, 3) := by decide +kernel
theorem dX4_need_8 : decode cX4_need 8 = .ok (.aload_n 0, 1) := by decide +kernel
theorem dX4_need_9 : decode cX4_need 9 = .ok (.iload_n 2, 1) := by decide +kernel
theorem dX4_need_10 : decode cX4_need 10 = .ok (.invokevirtual 46, 3) := by decide +kernel
theorem dX4_need_13 : decode cX4_need 13 = .ok (.ifCond .eq 16, 3) := by decide +kernel
theorem dX4_need_16 : decode cX4_need 16 = .ok (.aload_n 0, 1) := by decide +kernel
theorem dX4_need_17 : decode cX4_need 17 = .ok (.getfield 30, 3) := by decide +kernel
theorem dX4_need_20 : decode cX4_need 20 = .ok (.iload_n 1, 1) := by decide +kernel
theorem dX4_need_21 : decode cX4_need 21 = .ok (.aaload, 1) := by decide +kernel
theorem dX4_need_22 : decode cX4_need 22 = .ok (.iload_n 2, 1) := by decide +kernel
theorem dX4_need_23 : decode cX4_need 23 = .ok (.invokevirtual 50, 3) := by decide +kernel
theorem dX4_need_26 : decode cX4_need 26 = .ok (.ifCond .ne 5, 3) := by decide +kernel
theorem dX4_need_29 : decode cX4_need 29 = .ok (.iconst (-1), 1) := by decide +kernel
theorem dX4_need_30 : decode cX4_need 30 = .ok (.ireturn, 1) := by decide +kernel
theorem dX4_need_31 : decode cX4_need 31 = .ok (.aload_n 0, 1) := by decide +kernel
theorem dX4_need_32 : decode cX4_need 32 = .ok (.getfield 39, 3) := by decide +kernel
theorem dX4_need_35 : decode cX4_need 35 = .ok (.invokevirtual 53, 3) := by decide +kernel
theorem dX4_need_38 : decode cX4_need 38 = .ok (.aload_n 0, 1) := by decide +kernel
theorem dX4_need_39 : decode cX4_need 39 = .ok (.getfield 30, 3) := by decide +kernel
theorem dX4_need_42 : decode cX4_need 42 = .ok (.iload_n 1, 1) := by decide +kernel
theorem dX4_need_43 : decode cX4_need 43 = .ok (.aaload, 1) := by decide +kernel
theorem dX4_need_44 : decode cX4_need 44 = .ok (.getfield 56, 3) := by decide +kernel
theorem dX4_need_47 : decode cX4_need 47 = .ok (.ireturn, 1) := by decide +kernel
theorem dX4_define_0 : decode cX4_define 0 = .ok (.aload_n 0, 1) := by decide +kernel
theorem dX4_define_1 : decode cX4_define 1 = .ok (.iload_n 1, 1) := by decide +kernel
theorem dX4_define_2 : decode cX4_define 2 = .ok (.invokevirtual 46, 3) := by decide +kernel
theorem dX4_define_5 : decode cX4_define 5 = .ok (.ifCond .eq 21, 3) := by decide +kernel
theorem dX4_define_8 : decode cX4_define 8 = .ok (.iload_n 2, 1) := by decide +kernel
theorem dX4_define_9 : decode cX4_define 9 = .ok (.invokestatic 59, 3) := by decide +kernel
theorem dX4_define_12 : decode cX4_define 12 = .ok (.ifCond .eq 14, 3) := by decide +kernel
theorem dX4_define_15 : decode cX4_define 15 = .ok (.iload 5, 2) := by decide +kernel
theorem dX4_define_17 : decode cX4_define 17 = .ok (.ifCond .lt 9, 3) := by decide +kernel
theorem dX4_define_20 : decode cX4_define 20 = .ok (.iload 5, 2) := by decide +kernel
theorem dX4_define_22 : decode cX4_define 22 = .ok (.iconst 5, 1) := by decide +kernel
theorem dX4_define_23 : decode cX4_define 23 = .ok (.if_icmp .le 5, 3) := by decide +kernel
theorem dX4_define_26 : decode cX4_define 26 = .ok (.iconst (-1), 1) := by decide +kernel
theorem dX4_define_27 : decode cX4_define 27 = .ok (.ireturn, 1) := by decide +kernel
theorem dX4_define_28 : decode cX4_define 28 = .ok (.iload_n 3, 1) := by decide +kernel
theorem dX4_define_29 : decode cX4_define 29 = .ok (.iconst 1, 1) := by decide +kernel
theorem dX4_define_30 : decode cX4_define 30 = .ok (.if_icmp .eq 15, 3) := by decide +kernel
theorem dX4_define_33 : decode cX4_define 33 = .ok (.iload_n 3, 1) := by decide +kernel
theorem dX4_define_34 : decode cX4_define 34 = .ok (.ifCond .ne 15, 3) := by decide +kernel
theorem dX4_define_37 : decode cX4_define 37 = .ok (.iload 4, 2) := by decide +kernel
theorem dX4_define_39 : decode cX4_define 39 = .ok (.invokestatic 62, 3) := by decide +kernel
theorem dX4_define_42 : decode cX4_define 42 = .ok (.ifCond .eq 7, 3) := by decide +kernel
theorem dX4_define_45 : decode cX4_define 45 = .ok (.iconst 1, 1) := by decide +kernel
theorem dX4_define_46 : decode cX4_define 46 = .ok (.goto 4, 3) := by decide +kernel
theorem dX4_define_49 : decode cX4_define 49 = .ok (.iconst 0, 1) := by decide +kernel
theorem dX4_define_50 : decode cX4_define 50 = .ok (.istore 6, 2) := by decide +kernel
theorem dX4_define_52 : decode cX4_define 52 = .ok (.iload 6, 2) := by decide +kernel
theorem dX4_define_54 : decode cX4_define 54 = .ok (.ifCond .eq 21, 3) := by decide +kernel
theorem dX4_define_57 : decode cX4_define 57 = .ok (.aload_n 0, 1) := by decide +kernel
theorem dX4_define_58 : decode cX4_define 58 = .ok (.getfield 30, 3) := by decide +kernel
theorem dX4_define_61 : decode cX4_define 61 = .ok (.iload_n 1, 1) := by decide +kernel
theorem dX4_define_62 : decode cX4_define 62 = .ok (.aaload, 1) := by decide +kernel
theorem dX4_define_63 : decode cX4_define 63 = .ok (.iload_n 2, 1) := by decide +kernel
theorem dX4_define_64 : decode cX4_define 64 = .ok (.iload_n 3, 1) := by decide +kernel
theorem dX4_define_65 : decode cX4_define 65 = .ok (.iload 4, 2) := by decide +kernel
theorem dX4_define_67 : decode cX4_define 67 = .ok (.iload 5, 2) := by decide +kernel
theorem dX4_define_69 : decode cX4_define 69 = .ok (.invokevirtual 65, 3) := by decide +kernel
theorem dX4_define_72 : decode cX4_define 72 = .ok (.ifCond .ne 5, 3) := by decide +kernel
theorem dX4_define_75 : decode cX4_define 75 = .ok (.iconst (-1), 1) := by decide +kernel
theorem dX4_define_76 : decode cX4_define 76 = .ok (.ireturn, 1) := by decide +kernel
theorem dX4_define_77 : decode cX4_define 77 = .ok (.aload_n 0, 1) := by decide +kernel
theorem dX4_define_78 : decode cX4_define 78 = .ok (.getfield 39, 3) := by decide +kernel
theorem dX4_define_81 : decode cX4_define 81 = .ok (.invokevirtual 53, 3) := by decide +kernel
theorem dX4_define_84 : decode cX4_define 84 = .ok (.aload_n 0, 1) := by decide +kernel
theorem dX4_define_85 : decode cX4_define 85 = .ok (.getfield 30, 3) := by decide +kernel
theorem dX4_define_88 : decode cX4_define 88 = .ok (.iload_n 1, 1) := by decide +kernel
theorem dX4_define_89 : decode cX4_define 89 = .ok (.aaload, 1) := by decide +kernel
theorem dX4_define_90 : decode cX4_define 90 = .ok (.getfield 69, 3) := by decide +kernel
theorem dX4_define_93 : decode cX4_define 93 = .ok (.ireturn, 1) := by decide +kernel
theorem dX4_optional_0 : decode cX4_optional 0 = .ok (.aload_n 0, 1) := by decide +kernel
theorem dX4_optional_1 : decode cX4_optional 1 = .ok (.iload_n 1, 1) := by decide +kernel
theorem dX4_optional_2 : decode cX4_optional 2 = .ok (.invokevirtual 46, 3) := by decide +kernel
theorem dX4_optional_5 : decode cX4_optional 5 = .ok (.ifCond .eq 24, 3) := by decide +kernel
theorem dX4_optional_8 : decode cX4_optional 8 = .ok (.iload_n 2, 1) := by decide +kernel
theorem dX4_optional_9 : decode cX4_optional 9 = .ok (.invokestatic 59, 3) := by decide +kernel
theorem dX4_optional_12 : decode cX4_optional 12 = .ok (.ifCond .eq 17, 3) := by decide +kernel
theorem dX4_optional_15 : decode cX4_optional 15 = .ok (.aload_n 0, 1) := by decide +kernel
theorem dX4_optional_16 : decode cX4_optional 16 = .ok (.getfield 30, 3) := by decide +kernel
theorem dX4_optional_19 : decode cX4_optional 19 = .ok (.iload_n 1, 1) := by decide +kernel
theorem dX4_optional_20 : decode cX4_optional 20 = .ok (.aaload, 1) := by decide +kernel
theorem dX4_optional_21 : decode cX4_optional 21 = .ok (.getfield 72, 3) := by decide +kernel
theorem dX4_optional_24 : decode cX4_optional 24 = .ok (.iload_n 2, 1) := by decide +kernel
theorem dX4_optional_25 : decode cX4_optional 25 = .ok (.baload, 1) := by decide +kernel
theorem dX4_optional_26 : decode cX4_optional 26 = .ok (.ifCond .eq 5, 3) := by decide +kernel
theorem dX4_optional_29 : decode cX4_optional 29 = .ok (.iconst 0, 1) := by decide +kernel
theorem dX4_optional_30 : decode cX4_optional 30 = .ok (.ireturn, 1) := by decide +kernel
theorem dX4_optional_31 : decode cX4_optional 31 = .ok (.aload_n 0, 1) := by decide +kernel
theorem dX4_optional_32 : decode cX4_optional 32 = .ok (.getfield 30, 3) := by decide +kernel
theorem dX4_optional_35 : decode cX4_optional 35 = .ok (.iload_n 1, 1) := by decide +kernel
theorem dX4_optional_36 : decode cX4_optional 36 = .ok (.aaload, 1) := by decide +kernel
theorem dX4_optional_37 : decode cX4_optional 37 = .ok (.getfield 72, 3) := by decide +kernel
theorem dX4_optional_40 : decode cX4_optional 40 = .ok (.iload_n 2, 1) := by decide +kernel
theorem dX4_optional_41 : decode cX4_optional 41 = .ok (.iconst 1, 1) := by decide +kernel
theorem dX4_optional_42 : decode cX4_optional 42 = .ok (.bastore, 1) := by decide +kernel
theorem dX4_optional_43 : decode cX4_optional 43 = .ok (.aload_n 0, 1) := by decide +kernel
theorem dX4_optional_44 : decode cX4_optional 44 = .ok (.getfield 39, 3) := by decide +kernel
theorem dX4_optional_47 : decode cX4_optional 47 = .ok (.invokevirtual 53, 3) := by decide +kernel
theorem dX4_optional_50 : decode cX4_optional 50 = .ok (.iconst 1, 1) := by decide +kernel
theorem dX4_optional_51 : decode cX4_optional 51 = .ok (.ireturn, 1) := by decide +kernel
theorem dX4_beginner_0 : decode cX4_beginner 0 = .ok (.aload_n 0, 1) := by decide +kernel
theorem dX4_beginner_1 : decode cX4_beginner 1 = .ok (.iload_n 1, 1) := by decide +kernel
theorem dX4_beginner_2 : decode cX4_beginner 2 = .ok (.invokevirtual 46, 3) := by decide +kernel
theorem dX4_beginner_5 : decode cX4_beginner 5 = .ok (.ifCond .eq 15, 3) := by decide +kernel
theorem dX4_beginner_8 : decode cX4_beginner 8 = .ok (.iload_n 2, 1) := by decide +kernel
theorem dX4_beginner_9 : decode cX4_beginner 9 = .ok (.iconst (-1), 1) := by decide +kernel
theorem dX4_beginner_10 : decode cX4_beginner 10 = .ok (.if_icmp .eq 12, 3) := by decide +kernel
theorem dX4_beginner_13 : decode cX4_beginner 13 = .ok (.iload_n 2, 1) := by decide +kernel
theorem dX4_beginner_14 : decode cX4_beginner 14 = .ok (.invokestatic 59, 3) := by decide +kernel
theorem dX4_beginner_17 : decode cX4_beginner 17 = .ok (.ifCond .ne 5, 3) := by decide +kernel
theorem dX4_beginner_20 : decode cX4_beginner 20 = .ok (.iconst 0, 1) := by decide +kernel
theorem dX4_beginner_21 : decode cX4_beginner 21 = .ok (.ireturn, 1) := by decide +kernel
theorem dX4_beginner_22 : decode cX4_beginner 22 = .ok (.aload_n 0, 1) := by decide +kernel
theorem dX4_beginner_23 : decode cX4_beginner 23 = .ok (.getfield 30, 3) := by decide +kernel
theorem dX4_beginner_26 : decode cX4_beginner 26 = .ok (.iload_n 1, 1) := by decide +kernel
theorem dX4_beginner_27 : decode cX4_beginner 27 = .ok (.aaload, 1) := by decide +kernel
theorem dX4_beginner_28 : decode cX4_beginner 28 = .ok (.iload_n 2, 1) := by decide +kernel
theorem dX4_beginner_29 : decode cX4_beginner 29 = .ok (.putfield 76, 3) := by decide +kernel
theorem dX4_beginner_32 : decode cX4_beginner 32 = .ok (.aload_n 0, 1) := by decide +kernel
theorem dX4_beginner_33 : decode cX4_beginner 33 = .ok (.getfield 39, 3) := by decide +kernel
theorem dX4_beginner_36 : decode cX4_beginner 36 = .ok (.invokevirtual 53, 3) := by decide +kernel
theorem dX4_beginner_39 : decode cX4_beginner 39 = .ok (.iconst 1, 1) := by decide +kernel
theorem dX4_beginner_40 : decode cX4_beginner 40 = .ok (.ireturn, 1) := by decide +kernel
theorem dX4_put_0 : decode cX4_put 0 = .ok (.aload_n 0, 1) := by decide +kernel
theorem dX4_put_1 : decode cX4_put 1 = .ok (.iload_n 1, 1) := by decide +kernel
theorem dX4_put_2 : decode cX4_put 2 = .ok (.invokevirtual 46, 3) := by decide +kernel
theorem dX4_put_5 : decode cX4_put 5 = .ok (.ifCond .eq 33, 3) := by decide +kernel
theorem dX4_put_8 : decode cX4_put 8 = .ok (.iload_n 2, 1) := by decide +kernel
theorem dX4_put_9 : decode cX4_put 9 = .ok (.iload_n 3, 1) := by decide +kernel
theorem dX4_put_10 : decode cX4_put 10 = .ok (.iload 4, 2) := by decide +kernel
theorem dX4_put_12 : decode cX4_put 12 = .ok (.iload 5, 2) := by decide +kernel
theorem dX4_put_14 : decode cX4_put 14 = .ok (.invokestatic 79, 3) := by decide +kernel
theorem dX4_put_17 : decode cX4_put 17 = .ok (.ifCond .eq 21, 3) := by decide +kernel
theorem dX4_put_20 : decode cX4_put 20 = .ok (.aload_n 0, 1) := by decide +kernel
theorem dX4_put_21 : decode cX4_put 21 = .ok (.getfield 30, 3) := by decide +kernel
theorem dX4_put_24 : decode cX4_put 24 = .ok (.iload_n 1, 1) := by decide +kernel
theorem dX4_put_25 : decode cX4_put 25 = .ok (.aaload, 1) := by decide +kernel
theorem dX4_put_26 : decode cX4_put 26 = .ok (.iload_n 2, 1) := by decide +kernel
theorem dX4_put_27 : decode cX4_put 27 = .ok (.iload_n 3, 1) := by decide +kernel
theorem dX4_put_28 : decode cX4_put 28 = .ok (.iload 4, 2) := by decide +kernel
theorem dX4_put_30 : decode cX4_put 30 = .ok (.iload 5, 2) := by decide +kernel
theorem dX4_put_32 : decode cX4_put 32 = .ok (.invokevirtual 82, 3) := by decide +kernel
theorem dX4_put_35 : decode cX4_put 35 = .ok (.ifCond .ne 5, 3) := by decide +kernel
theorem dX4_put_38 : decode cX4_put 38 = .ok (.iconst (-1), 1) := by decide +kernel
theorem dX4_put_39 : decode cX4_put 39 = .ok (.ireturn, 1) := by decide +kernel
theorem dX4_put_40 : decode cX4_put 40 = .ok (.aload_n 0, 1) := by decide +kernel
theorem dX4_put_41 : decode cX4_put 41 = .ok (.getfield 39, 3) := by decide +kernel
theorem dX4_put_44 : decode cX4_put 44 = .ok (.invokevirtual 53, 3) := by decide +kernel
theorem dX4_put_47 : decode cX4_put 47 = .ok (.aload_n 0, 1) := by decide +kernel
theorem dX4_put_48 : decode cX4_put 48 = .ok (.getfield 30, 3) := by decide +kernel
theorem dX4_put_51 : decode cX4_put 51 = .ok (.iload_n 1, 1) := by decide +kernel
theorem dX4_put_52 : decode cX4_put 52 = .ok (.aaload, 1) := by decide +kernel
theorem dX4_put_53 : decode cX4_put 53 = .ok (.getfield 85, 3) := by decide +kernel
theorem dX4_put_56 : decode cX4_put 56 = .ok (.iconst 1, 1) := by decide +kernel
theorem dX4_put_57 : decode cX4_put 57 = .ok (.isub, 1) := by decide +kernel
theorem dX4_put_58 : decode cX4_put 58 = .ok (.ireturn, 1) := by decide +kernel
theorem dX4_load_0 : decode cX4_load 0 = .ok (.aload_n 0, 1) := by decide +kernel
theorem dX4_load_1 : decode cX4_load 1 = .ok (.iload_n 1, 1) := by decide +kernel
theorem dX4_load_2 : decode cX4_load 2 = .ok (.invokevirtual 46, 3) := by decide +kernel
theorem dX4_load_5 : decode cX4_load 5 = .ok (.ifCond .eq 12, 3) := by decide +kernel
theorem dX4_load_8 : decode cX4_load 8 = .ok (.iload_n 2, 1) := by decide +kernel
theorem dX4_load_9 : decode cX4_load 9 = .ok (.ifCond .eq 10, 3) := by decide +kernel
theorem dX4_load_12 : decode cX4_load 12 = .ok (.iload_n 2, 1) := by decide +kernel
theorem dX4_load_13 : decode cX4_load 13 = .ok (.iconst 1, 1) := by decide +kernel
theorem dX4_load_14 : decode cX4_load 14 = .ok (.if_icmp .eq 5, 3) := by decide +kernel
theorem dX4_load_17 : decode cX4_load 17 = .ok (.iconst (-1), 1) := by decide +kernel
theorem dX4_load_18 : decode cX4_load 18 = .ok (.ireturn, 1) := by decide +kernel
theorem dX4_load_19 : decode cX4_load 19 = .ok (.aload_n 0, 1) := by decide +kernel
theorem dX4_load_20 : decode cX4_load 20 = .ok (.getfield 43, 3) := by decide +kernel
theorem dX4_load_23 : decode cX4_load 23 = .ok (.iload_n 1, 1) := by decide +kernel
theorem dX4_load_24 : decode cX4_load 24 = .ok (.iload_n 2, 1) := by decide +kernel
theorem dX4_load_25 : decode cX4_load 25 = .ok (.iconst 1, 1) := by decide +kernel
theorem dX4_load_26 : decode cX4_load 26 = .ok (.if_icmp .ne 7, 3) := by decide +kernel
theorem dX4_load_29 : decode cX4_load 29 = .ok (.iconst 1, 1) := by decide +kernel
theorem dX4_load_30 : decode cX4_load 30 = .ok (.goto 4, 3) := by decide +kernel
theorem dX4_load_33 : decode cX4_load 33 = .ok (.iconst 0, 1) := by decide +kernel
theorem dX4_load_34 : decode cX4_load 34 = .ok (.invokevirtual 88, 3) := by decide +kernel
theorem dX4_load_37 : decode cX4_load 37 = .ok (.aload_n 0, 1) := by decide +kernel
theorem dX4_load_38 : decode cX4_load 38 = .ok (.getfield 43, 3) := by decide +kernel
theorem dX4_load_41 : decode cX4_load 41 = .ok (.aload_n 0, 1) := by decide +kernel
theorem dX4_load_42 : decode cX4_load 42 = .ok (.getfield 16, 3) := by decide +kernel
theorem dX4_load_45 : decode cX4_load 45 = .ok (.invokevirtual 92, 3) := by decide +kernel
theorem dX4_load_48 : decode cX4_load 48 = .ok (.aload_n 0, 1) := by decide +kernel
theorem dX4_load_49 : decode cX4_load 49 = .ok (.getfield 16, 3) := by decide +kernel
theorem dX4_load_52 : decode cX4_load 52 = .ok (.getfield 96, 3) := by decide +kernel
theorem dX4_load_55 : decode cX4_load 55 = .ok (.ifCond .ne 7, 3) := by decide +kernel
theorem dX4_load_58 : decode cX4_load 58 = .ok (.aload_n 0, 1) := by decide +kernel
theorem dX4_load_59 : decode cX4_load 59 = .ok (.invokevirtual 99, 3) := by decide +kernel
theorem dX4_load_62 : decode cX4_load 62 = .ok (.aload_n 0, 1) := by decide +kernel
theorem dX4_load_63 : decode cX4_load 63 = .ok (.getfield 16, 3) := by decide +kernel
theorem dX4_load_66 : decode cX4_load 66 = .ok (.getfield 96, 3) := by decide +kernel
theorem dX4_load_69 : decode cX4_load 69 = .ok (.ireturn, 1) := by decide +kernel
theorem dX4_fault_0 : decode cX4_fault 0 = .ok (.iload_n 1, 1) := by decide +kernel
theorem dX4_fault_1 : decode cX4_fault 1 = .ok (.tableswitch 51 0 2 #[27, 35, 43], 27) := by decide +kernel
theorem dX4_fault_28 : decode cX4_fault 28 = .ok (.aload_n 0, 1) := by decide +kernel
theorem dX4_fault_29 : decode cX4_fault 29 = .ok (.getfield 16, 3) := by decide +kernel
theorem dX4_fault_32 : decode cX4_fault 32 = .ok (.getfield 102, 3) := by decide +kernel
theorem dX4_fault_35 : decode cX4_fault 35 = .ok (.ireturn, 1) := by decide +kernel
theorem dX4_fault_36 : decode cX4_fault 36 = .ok (.aload_n 0, 1) := by decide +kernel
theorem dX4_fault_37 : decode cX4_fault 37 = .ok (.getfield 16, 3) := by decide +kernel
theorem dX4_fault_40 : decode cX4_fault 40 = .ok (.getfield 105, 3) := by decide +kernel
theorem dX4_fault_43 : decode cX4_fault 43 = .ok (.ireturn, 1) := by decide +kernel
theorem dX4_fault_44 : decode cX4_fault 44 = .ok (.aload_n 0, 1) := by decide +kernel
theorem dX4_fault_45 : decode cX4_fault 45 = .ok (.getfield 16, 3) := by decide +kernel
theorem dX4_fault_48 : decode cX4_fault 48 = .ok (.getfield 108, 3) := by decide +kernel
theorem dX4_fault_51 : decode cX4_fault 51 = .ok (.ireturn, 1) := by decide +kernel
theorem dX4_fault_52 : decode cX4_fault 52 = .ok (.iconst (-1), 1) := by decide +kernel
theorem dX4_fault_53 : decode cX4_fault 53 = .ok (.ireturn, 1) := by decide +kernel
theorem dX4_order_0 : decode cX4_order 0 = .ok (.iload_n 1, 1) := by decide +kernel
theorem dX4_order_1 : decode cX4_order 1 = .ok (.ifCond .lt 14, 3) := by decide +kernel
theorem dX4_order_4 : decode cX4_order 4 = .ok (.iload_n 1, 1) := by decide +kernel
theorem dX4_order_5 : decode cX4_order 5 = .ok (.aload_n 0, 1) := by decide +kernel
theorem dX4_order_6 : decode cX4_order 6 = .ok (.getfield 39, 3) := by decide +kernel
theorem dX4_order_9 : decode cX4_order 9 = .ok (.getfield 111, 3) := by decide +kernel
theorem dX4_order_12 : decode cX4_order 12 = .ok (.if_icmp .lt 5, 3) := by decide +kernel
theorem dX4_order_15 : decode cX4_order 15 = .ok (.iconst (-1), 1) := by decide +kernel
theorem dX4_order_16 : decode cX4_order 16 = .ok (.ireturn, 1) := by decide +kernel
theorem dX4_order_17 : decode cX4_order 17 = .ok (.iload_n 2, 1) := by decide +kernel
theorem dX4_order_18 : decode cX4_order 18 = .ok (.ifCond .ne 13, 3) := by decide +kernel
theorem dX4_order_21 : decode cX4_order 21 = .ok (.aload_n 0, 1) := by decide +kernel
theorem dX4_order_22 : decode cX4_order 22 = .ok (.getfield 39, 3) := by decide +kernel
theorem dX4_order_25 : decode cX4_order 25 = .ok (.getfield 114, 3) := by decide +kernel
theorem dX4_order_28 : decode cX4_order 28 = .ok (.iload_n 1, 1) := by decide +kernel
theorem dX4_order_29 : decode cX4_order 29 = .ok (.iaload, 1) := by decide +kernel
theorem dX4_order_30 : decode cX4_order 30 = .ok (.ireturn, 1) := by decide +kernel
theorem dX4_order_31 : decode cX4_order 31 = .ok (.iload_n 2, 1) := by decide +kernel
theorem dX4_order_32 : decode cX4_order 32 = .ok (.iconst 1, 1) := by decide +kernel
theorem dX4_order_33 : decode cX4_order 33 = .ok (.if_icmp .ne 15, 3) := by decide +kernel
theorem dX4_order_36 : decode cX4_order 36 = .ok (.aload_n 0, 1) := by decide +kernel
theorem dX4_order_37 : decode cX4_order 37 = .ok (.getfield 39, 3) := by decide +kernel
theorem dX4_order_40 : decode cX4_order 40 = .ok (.getfield 118, 3) := by decide +kernel
theorem dX4_order_43 : decode cX4_order 43 = .ok (.iload_n 1, 1) := by decide +kernel
theorem dX4_order_44 : decode cX4_order 44 = .ok (.iaload, 1) := by decide +kernel
theorem dX4_order_45 : decode cX4_order 45 = .ok (.goto 4, 3) := by decide +kernel
theorem dX4_order_48 : decode cX4_order 48 = .ok (.iconst (-1), 1) := by decide +kernel
theorem dX4_order_49 : decode cX4_order 49 = .ok (.ireturn, 1) := by decide +kernel
theorem dX4_comes_0 : decode cX4_comes 0 = .ok (.aload_n 0, 1) := by decide +kernel
theorem dX4_comes_1 : decode cX4_comes 1 = .ok (.getfield 39, 3) := by decide +kernel
theorem dX4_comes_4 : decode cX4_comes 4 = .ok (.iload_n 1, 1) := by decide +kernel
theorem dX4_comes_5 : decode cX4_comes 5 = .ok (.invokevirtual 121, 3) := by decide +kernel
theorem dX4_comes_8 : decode cX4_comes 8 = .ok (.ifCond .eq 22, 3) := by decide +kernel
theorem dX4_comes_11 : decode cX4_comes 11 = .ok (.iload_n 2, 1) := by decide +kernel
theorem dX4_comes_12 : decode cX4_comes 12 = .ok (.invokestatic 59, 3) := by decide +kernel
theorem dX4_comes_15 : decode cX4_comes 15 = .ok (.ifCond .eq 15, 3) := by decide +kernel
theorem dX4_comes_18 : decode cX4_comes 18 = .ok (.aload_n 0, 1) := by decide +kernel
theorem dX4_comes_19 : decode cX4_comes 19 = .ok (.getfield 39, 3) := by decide +kernel
theorem dX4_comes_22 : decode cX4_comes 22 = .ok (.iload_n 1, 1) := by decide +kernel
theorem dX4_comes_23 : decode cX4_comes 23 = .ok (.iload_n 2, 1) := by decide +kernel
theorem dX4_comes_24 : decode cX4_comes 24 = .ok (.invokevirtual 124, 3) := by decide +kernel
theorem dX4_comes_27 : decode cX4_comes 27 = .ok (.goto 4, 3) := by decide +kernel
theorem dX4_comes_30 : decode cX4_comes 30 = .ok (.iconst (-1), 1) := by decide +kernel
theorem dX4_comes_31 : decode cX4_comes 31 = .ok (.ireturn, 1) := by decide +kernel
theorem dX4_bound_0 : decode cX4_bound 0 = .ok (.aload_n 0, 1) := by decide +kernel
theorem dX4_bound_1 : decode cX4_bound 1 = .ok (.getfield 39, 3) := by decide +kernel
theorem dX4_bound_4 : decode cX4_bound 4 = .ok (.iload_n 1, 1) := by decide +kernel
theorem dX4_bound_5 : decode cX4_bound 5 = .ok (.invokevirtual 121, 3) := by decide +kernel
theorem dX4_bound_8 : decode cX4_bound 8 = .ok (.ifCond .eq 24, 3) := by decide +kernel
theorem dX4_bound_11 : decode cX4_bound 11 = .ok (.iload_n 2, 1) := by decide +kernel
theorem dX4_bound_12 : decode cX4_bound 12 = .ok (.invokestatic 59, 3) := by decide +kernel
theorem dX4_bound_15 : decode cX4_bound 15 = .ok (.ifCond .eq 17, 3) := by decide +kernel
theorem dX4_bound_18 : decode cX4_bound 18 = .ok (.aload_n 0, 1) := by decide +kernel
theorem dX4_bound_19 : decode cX4_bound 19 = .ok (.getfield 30, 3) := by decide +kernel
theorem dX4_bound_22 : decode cX4_bound 22 = .ok (.iload_n 1, 1) := by decide +kernel
theorem dX4_bound_23 : decode cX4_bound 23 = .ok (.aaload, 1) := by decide +kernel
theorem dX4_bound_24 : decode cX4_bound 24 = .ok (.getfield 128, 3) := by decide +kernel
theorem dX4_bound_27 : decode cX4_bound 27 = .ok (.iload_n 2, 1) := by decide +kernel
theorem dX4_bound_28 : decode cX4_bound 28 = .ok (.iaload, 1) := by decide +kernel
theorem dX4_bound_29 : decode cX4_bound 29 = .ok (.goto 4, 3) := by decide +kernel
theorem dX4_bound_32 : decode cX4_bound 32 = .ok (.iconst (-1), 1) := by decide +kernel
theorem dX4_bound_33 : decode cX4_bound 33 = .ok (.ireturn, 1) := by decide +kernel
theorem dX4_run_0 : decode cX4_run 0 = .ok (.aload_n 0, 1) := by decide +kernel
theorem dX4_run_1 : decode cX4_run 1 = .ok (.getfield 39, 3) := by decide +kernel
theorem dX4_run_4 : decode cX4_run 4 = .ok (.getfield 111, 3) := by decide +kernel
theorem dX4_run_7 : decode cX4_run 7 = .ok (.ifCond .eq 21, 3) := by decide +kernel
theorem dX4_run_10 : decode cX4_run 10 = .ok (.iload_n 1, 1) := by decide +kernel
theorem dX4_run_11 : decode cX4_run 11 = .ok (.invokestatic 59, 3) := by decide +kernel
theorem dX4_run_14 : decode cX4_run 14 = .ok (.ifCond .eq 14, 3) := by decide +kernel
theorem dX4_run_17 : decode cX4_run 17 = .ok (.iload_n 2, 1) := by decide +kernel
theorem dX4_run_18 : decode cX4_run 18 = .ok (.ifCond .lt 10, 3) := by decide +kernel
theorem dX4_run_21 : decode cX4_run 21 = .ok (.iload_n 2, 1) := by decide +kernel
theorem dX4_run_22 : decode cX4_run 22 = .ok (.sipush 5000, 3) := by decide +kernel
theorem dX4_run_25 : decode cX4_run 25 = .ok (.if_icmp .le 5, 3) := by decide +kernel
theorem dX4_run_28 : decode cX4_run 28 = .ok (.iconst (-1), 1) := by decide +kernel
theorem dX4_run_29 : decode cX4_run 29 = .ok (.ireturn, 1) := by decide +kernel
theorem dX4_run_30 : decode cX4_run 30 = .ok (.aload_n 0, 1) := by decide +kernel
theorem dX4_run_31 : decode cX4_run 31 = .ok (.getfield 39, 3) := by decide +kernel
theorem dX4_run_34 : decode cX4_run 34 = .ok (.aload_n 0, 1) := by decide +kernel
theorem dX4_run_35 : decode cX4_run 35 = .ok (.getfield 39, 3) := by decide +kernel
theorem dX4_run_38 : decode cX4_run 38 = .ok (.getfield 114, 3) := by decide +kernel
theorem dX4_run_41 : decode cX4_run 41 = .ok (.iconst 0, 1) := by decide +kernel
theorem dX4_run_42 : decode cX4_run 42 = .ok (.iaload, 1) := by decide +kernel
theorem dX4_run_43 : decode cX4_run 43 = .ok (.iload_n 1, 1) := by decide +kernel
theorem dX4_run_44 : decode cX4_run 44 = .ok (.invokevirtual 124, 3) := by decide +kernel
theorem dX4_run_47 : decode cX4_run 47 = .ok (.istore_n 3, 1) := by decide +kernel
theorem dX4_run_48 : decode cX4_run 48 = .ok (.aload_n 0, 1) := by decide +kernel
theorem dX4_run_49 : decode cX4_run 49 = .ok (.getfield 39, 3) := by decide +kernel
theorem dX4_run_52 : decode cX4_run 52 = .ok (.iload_n 3, 1) := by decide +kernel
theorem dX4_run_53 : decode cX4_run 53 = .ok (.invokevirtual 121, 3) := by decide +kernel
theorem dX4_run_56 : decode cX4_run 56 = .ok (.ifCond .eq 17, 3) := by decide +kernel
theorem dX4_run_59 : decode cX4_run 59 = .ok (.aload_n 0, 1) := by decide +kernel
theorem dX4_run_60 : decode cX4_run 60 = .ok (.getfield 30, 3) := by decide +kernel
theorem dX4_run_63 : decode cX4_run 63 = .ok (.iload_n 3, 1) := by decide +kernel
theorem dX4_run_64 : decode cX4_run 64 = .ok (.aaload, 1) := by decide +kernel
theorem dX4_run_65 : decode cX4_run 65 = .ok (.getfield 131, 3) := by decide +kernel
theorem dX4_run_68 : decode cX4_run 68 = .ok (.iload_n 1, 1) := by decide +kernel
theorem dX4_run_69 : decode cX4_run 69 = .ok (.iaload, 1) := by decide +kernel
theorem dX4_run_70 : decode cX4_run 70 = .ok (.ifCond .eq 5, 3) := by decide +kernel
theorem dX4_run_73 : decode cX4_run 73 = .ok (.iconst (-1), 1) := by decide +kernel
theorem dX4_run_74 : decode cX4_run 74 = .ok (.ireturn, 1) := by decide +kernel
theorem dX4_run_75 : decode cX4_run 75 = .ok (.aload_n 0, 1) := by decide +kernel
theorem dX4_run_76 : decode cX4_run 76 = .ok (.getfield 39, 3) := by decide +kernel
theorem dX4_run_79 : decode cX4_run 79 = .ok (.invokevirtual 134, 3) := by decide +kernel
theorem dX4_run_82 : decode cX4_run 82 = .ok (.aload_n 0, 1) := by decide +kernel
theorem dX4_run_83 : decode cX4_run 83 = .ok (.getfield 23, 3) := by decide +kernel
theorem dX4_run_86 : decode cX4_run 86 = .ok (.aload_n 0, 1) := by decide +kernel
theorem dX4_run_87 : decode cX4_run 87 = .ok (.getfield 39, 3) := by decide +kernel
theorem dX4_run_90 : decode cX4_run 90 = .ok (.iload_n 1, 1) := by decide +kernel
theorem dX4_run_91 : decode cX4_run 91 = .ok (.invokevirtual 137, 3) := by decide +kernel
theorem dX4_run_94 : decode cX4_run 94 = .ok (.aload_n 0, 1) := by decide +kernel
theorem dX4_run_95 : decode cX4_run 95 = .ok (.getfield 23, 3) := by decide +kernel
theorem dX4_run_98 : decode cX4_run 98 = .ok (.aload_n 0, 1) := by decide +kernel
theorem dX4_run_99 : decode cX4_run 99 = .ok (.getfield 39, 3) := by decide +kernel
theorem dX4_run_102 : decode cX4_run 102 = .ok (.iload_n 2, 1) := by decide +kernel
theorem dX4_run_103 : decode cX4_run 103 = .ok (.invokevirtual 141, 3) := by decide +kernel
theorem dX4_run_106 : decode cX4_run 106 = .ok (.ireturn, 1) := by decide +kernel
theorem dX4_count_0 : decode cX4_count 0 = .ok (.iload_n 1, 1) := by decide +kernel
theorem dX4_count_1 : decode cX4_count 1 = .ok (.tableswitch 84 0 5 #[39, 47, 55, 63, 71, 79], 39) := by decide +kernel
theorem dX4_count_40 : decode cX4_count 40 = .ok (.aload_n 0, 1) := by decide +kernel
theorem dX4_count_41 : decode cX4_count 41 = .ok (.getfield 23, 3) := by decide +kernel
theorem dX4_count_44 : decode cX4_count 44 = .ok (.getfield 145, 3) := by decide +kernel
theorem dX4_count_47 : decode cX4_count 47 = .ok (.ireturn, 1) := by decide +kernel
theorem dX4_count_48 : decode cX4_count 48 = .ok (.aload_n 0, 1) := by decide +kernel
theorem dX4_count_49 : decode cX4_count 49 = .ok (.getfield 23, 3) := by decide +kernel
theorem dX4_count_52 : decode cX4_count 52 = .ok (.getfield 148, 3) := by decide +kernel
theorem dX4_count_55 : decode cX4_count 55 = .ok (.ireturn, 1) := by decide +kernel
theorem dX4_count_56 : decode cX4_count 56 = .ok (.aload_n 0, 1) := by decide +kernel
theorem dX4_count_57 : decode cX4_count 57 = .ok (.getfield 23, 3) := by decide +kernel
theorem dX4_count_60 : decode cX4_count 60 = .ok (.getfield 151, 3) := by decide +kernel
theorem dX4_count_63 : decode cX4_count 63 = .ok (.ireturn, 1) := by decide +kernel
theorem dX4_count_64 : decode cX4_count 64 = .ok (.aload_n 0, 1) := by decide +kernel
theorem dX4_count_65 : decode cX4_count 65 = .ok (.getfield 23, 3) := by decide +kernel
theorem dX4_count_68 : decode cX4_count 68 = .ok (.getfield 154, 3) := by decide +kernel
theorem dX4_count_71 : decode cX4_count 71 = .ok (.ireturn, 1) := by decide +kernel
theorem dX4_count_72 : decode cX4_count 72 = .ok (.aload_n 0, 1) := by decide +kernel
theorem dX4_count_73 : decode cX4_count 73 = .ok (.getfield 39, 3) := by decide +kernel
theorem dX4_count_76 : decode cX4_count 76 = .ok (.getfield 111, 3) := by decide +kernel
theorem dX4_count_79 : decode cX4_count 79 = .ok (.ireturn, 1) := by decide +kernel
theorem dX4_count_80 : decode cX4_count 80 = .ok (.aload_n 0, 1) := by decide +kernel
theorem dX4_count_81 : decode cX4_count 81 = .ok (.getfield 7, 3) := by decide +kernel
theorem dX4_count_84 : decode cX4_count 84 = .ok (.ireturn, 1) := by decide +kernel
theorem dX4_count_85 : decode cX4_count 85 = .ok (.iconst (-1), 1) := by decide +kernel
theorem dX4_count_86 : decode cX4_count 86 = .ok (.ireturn, 1) := by decide +kernel
theorem dX4_said_0 : decode cX4_said 0 = .ok (.iload_n 1, 1) := by decide +kernel
theorem dX4_said_1 : decode cX4_said 1 = .ok (.ifCond .lt 32, 3) := by decide +kernel
theorem dX4_said_4 : decode cX4_said 4 = .ok (.iload_n 1, 1) := by decide +kernel
theorem dX4_said_5 : decode cX4_said 5 = .ok (.bipush 60, 2) := by decide +kernel
theorem dX4_said_7 : decode cX4_said 7 = .ok (.if_icmp .ge 26, 3) := by decide +kernel
theorem dX4_said_10 : decode cX4_said 10 = .ok (.iload_n 1, 1) := by decide +kernel
theorem dX4_said_11 : decode cX4_said 11 = .ok (.aload_n 0, 1) := by decide +kernel
theorem dX4_said_12 : decode cX4_said 12 = .ok (.getfield 23, 3) := by decide +kernel
theorem dX4_said_15 : decode cX4_said 15 = .ok (.getfield 148, 3) := by decide +kernel
theorem dX4_said_18 : decode cX4_said 18 = .ok (.if_icmp .ge 15, 3) := by decide +kernel
theorem dX4_said_21 : decode cX4_said 21 = .ok (.aload_n 0, 1) := by decide +kernel
theorem dX4_said_22 : decode cX4_said 22 = .ok (.getfield 23, 3) := by decide +kernel
theorem dX4_said_25 : decode cX4_said 25 = .ok (.getfield 157, 3) := by decide +kernel
theorem dX4_said_28 : decode cX4_said 28 = .ok (.iload_n 1, 1) := by decide +kernel
theorem dX4_said_29 : decode cX4_said 29 = .ok (.iaload, 1) := by decide +kernel
theorem dX4_said_30 : decode cX4_said 30 = .ok (.goto 4, 3) := by decide +kernel
theorem dX4_said_33 : decode cX4_said 33 = .ok (.iconst 0, 1) := by decide +kernel
theorem dX4_said_34 : decode cX4_said 34 = .ok (.ireturn, 1) := by decide +kernel
theorem dX4_register_0 : decode cX4_register 0 = .ok (.iload_n 1, 1) := by decide +kernel
theorem dX4_register_1 : decode cX4_register 1 = .ok (.invokestatic 160, 3) := by decide +kernel
theorem dX4_register_4 : decode cX4_register 4 = .ok (.ifCond .eq 15, 3) := by decide +kernel
theorem dX4_register_7 : decode cX4_register 7 = .ok (.aload_n 0, 1) := by decide +kernel
theorem dX4_register_8 : decode cX4_register 8 = .ok (.getfield 23, 3) := by decide +kernel
theorem dX4_register_11 : decode cX4_register 11 = .ok (.getfield 163, 3) := by decide +kernel
theorem dX4_register_14 : decode cX4_register 14 = .ok (.iload_n 1, 1) := by decide +kernel
theorem dX4_register_15 : decode cX4_register 15 = .ok (.iaload, 1) := by decide +kernel
theorem dX4_register_16 : decode cX4_register 16 = .ok (.goto 4, 3) := by decide +kernel
theorem dX4_register_19 : decode cX4_register 19 = .ok (.iconst 0, 1) := by decide +kernel
theorem dX4_register_20 : decode cX4_register 20 = .ok (.ireturn, 1) := by decide +kernel
theorem dX4_datum_0 : decode cX4_datum 0 = .ok (.aload_n 0, 1) := by decide +kernel
theorem dX4_datum_1 : decode cX4_datum 1 = .ok (.getfield 39, 3) := by decide +kernel
theorem dX4_datum_4 : decode cX4_datum 4 = .ok (.iload_n 1, 1) := by decide +kernel
theorem dX4_datum_5 : decode cX4_datum 5 = .ok (.invokevirtual 121, 3) := by decide +kernel
theorem dX4_datum_8 : decode cX4_datum 8 = .ok (.ifCond .eq 25, 3) := by decide +kernel
theorem dX4_datum_11 : decode cX4_datum 11 = .ok (.iload_n 2, 1) := by decide +kernel
theorem dX4_datum_12 : decode cX4_datum 12 = .ok (.invokestatic 59, 3) := by decide +kernel
theorem dX4_datum_15 : decode cX4_datum 15 = .ok (.ifCond .eq 18, 3) := by decide +kernel
theorem dX4_datum_18 : decode cX4_datum 18 = .ok (.aload_n 0, 1) := by decide +kernel
theorem dX4_datum_19 : decode cX4_datum 19 = .ok (.getfield 30, 3) := by decide +kernel
theorem dX4_datum_22 : decode cX4_datum 22 = .ok (.iload_n 1, 1) := by decide +kernel
theorem dX4_datum_23 : decode cX4_datum 23 = .ok (.aaload, 1) := by decide +kernel
theorem dX4_datum_24 : decode cX4_datum 24 = .ok (.getfield 131, 3) := by decide +kernel
theorem dX4_datum_27 : decode cX4_datum 27 = .ok (.iload_n 2, 1) := by decide +kernel
theorem dX4_datum_28 : decode cX4_datum 28 = .ok (.iaload, 1) := by decide +kernel
theorem dX4_datum_29 : decode cX4_datum 29 = .ok (.iconst 1, 1) := by decide +kernel
theorem dX4_datum_30 : decode cX4_datum 30 = .ok (.if_icmp .eq 5, 3) := by decide +kernel
theorem dX4_datum_33 : decode cX4_datum 33 = .ok (.iconst (-1), 1) := by decide +kernel
theorem dX4_datum_34 : decode cX4_datum 34 = .ok (.ireturn, 1) := by decide +kernel
theorem dX4_datum_35 : decode cX4_datum 35 = .ok (.aload_n 0, 1) := by decide +kernel
theorem dX4_datum_36 : decode cX4_datum 36 = .ok (.getfield 30, 3) := by decide +kernel
theorem dX4_datum_39 : decode cX4_datum 39 = .ok (.iload_n 1, 1) := by decide +kernel
theorem dX4_datum_40 : decode cX4_datum 40 = .ok (.aaload, 1) := by decide +kernel
theorem dX4_datum_41 : decode cX4_datum 41 = .ok (.getfield 166, 3) := by decide +kernel
theorem dX4_datum_44 : decode cX4_datum 44 = .ok (.iload_n 2, 1) := by decide +kernel
theorem dX4_datum_45 : decode cX4_datum 45 = .ok (.iaload, 1) := by decide +kernel
theorem dX4_datum_46 : decode cX4_datum 46 = .ok (.ireturn, 1) := by decide +kernel
theorem dX4_check_0 : decode cX4_check 0 = .ok (.aload_n 0, 1) := by decide +kernel
theorem dX4_check_1 : decode cX4_check 1 = .ok (.getfield 39, 3) := by decide +kernel
theorem dX4_check_4 : decode cX4_check 4 = .ok (.invokevirtual 169, 3) := by decide +kernel
theorem dX4_check_7 : decode cX4_check 7 = .ok (.ifCond .eq 7, 3) := by decide +kernel
theorem dX4_check_10 : decode cX4_check 10 = .ok (.iconst 1, 1) := by decide +kernel
theorem dX4_check_11 : decode cX4_check 11 = .ok (.goto 4, 3) := by decide +kernel
theorem dX4_check_14 : decode cX4_check 14 = .ok (.iconst 0, 1) := by decide +kernel
theorem dX4_check_15 : decode cX4_check 15 = .ok (.ireturn, 1) := by decide +kernel
theorem dX4_isModule_0 : decode cX4_isModule 0 = .ok (.iload_n 1, 1) := by decide +kernel
theorem dX4_isModule_1 : decode cX4_isModule 1 = .ok (.ifCond .lt 15, 3) := by decide +kernel
theorem dX4_isModule_4 : decode cX4_isModule 4 = .ok (.iload_n 1, 1) := by decide +kernel
theorem dX4_isModule_5 : decode cX4_isModule 5 = .ok (.aload_n 0, 1) := by decide +kernel
theorem dX4_isModule_6 : decode cX4_isModule 6 = .ok (.getfield 7, 3) := by decide +kernel
theorem dX4_isModule_9 : decode cX4_isModule 9 = .ok (.if_icmp .ge 7, 3) := by decide +kernel
theorem dX4_isModule_12 : decode cX4_isModule 12 = .ok (.iconst 1, 1) := by decide +kernel
theorem dX4_isModule_13 : decode cX4_isModule 13 = .ok (.goto 4, 3) := by decide +kernel
theorem dX4_isModule_16 : decode cX4_isModule 16 = .ok (.iconst 0, 1) := by decide +kernel
theorem dX4_isModule_17 : decode cX4_isModule 17 = .ok (.ireturn, 1) := by decide +kernel
theorem dX4_takeTrial_0 : decode cX4_takeTrial 0 = .ok (.aload_n 0, 1) := by decide +kernel
theorem dX4_takeTrial_1 : decode cX4_takeTrial 1 = .ok (.getfield 39, 3) := by decide +kernel
theorem dX4_takeTrial_4 : decode cX4_takeTrial 4 = .ok (.astore_n 1, 1) := by decide +kernel
theorem dX4_takeTrial_5 : decode cX4_takeTrial 5 = .ok (.aload_n 0, 1) := by decide +kernel
theorem dX4_takeTrial_6 : decode cX4_takeTrial 6 = .ok (.aload_n 0, 1) := by decide +kernel
theorem dX4_takeTrial_7 : decode cX4_takeTrial 7 = .ok (.getfield 43, 3) := by decide +kernel
theorem dX4_takeTrial_10 : decode cX4_takeTrial 10 = .ok (.putfield 39, 3) := by decide +kernel
theorem dX4_takeTrial_13 : decode cX4_takeTrial 13 = .ok (.aload_n 0, 1) := by decide +kernel
theorem dX4_takeTrial_14 : decode cX4_takeTrial 14 = .ok (.aload_n 1, 1) := by decide +kernel
theorem dX4_takeTrial_15 : decode cX4_takeTrial 15 = .ok (.putfield 43, 3) := by decide +kernel
theorem dX4_takeTrial_18 : decode cX4_takeTrial 18 = .ok (.aload_n 0, 1) := by decide +kernel
theorem dX4_takeTrial_19 : decode cX4_takeTrial 19 = .ok (.getfield 39, 3) := by decide +kernel
theorem dX4_takeTrial_22 : decode cX4_takeTrial 22 = .ok (.invokevirtual 134, 3) := by decide +kernel
theorem dX4_takeTrial_25 : decode cX4_takeTrial 25 = .ok (.return_, 1) := by decide +kernel
theorem dX4_isName_0 : decode cX4_isName 0 = .ok (.iload_n 0, 1) := by decide +kernel
theorem dX4_isName_1 : decode cX4_isName 1 = .ok (.ifCond .lt 13, 3) := by decide +kernel
theorem dX4_isName_4 : decode cX4_isName 4 = .ok (.iload_n 0, 1) := by decide +kernel
theorem dX4_isName_5 : decode cX4_isName 5 = .ok (.bipush 64, 2) := by decide +kernel
theorem dX4_isName_7 : decode cX4_isName 7 = .ok (.if_icmp .ge 7, 3) := by decide +kernel
theorem dX4_isName_10 : decode cX4_isName 10 = .ok (.iconst 1, 1) := by decide +kernel
theorem dX4_isName_11 : decode cX4_isName 11 = .ok (.goto 4, 3) := by decide +kernel
theorem dX4_isName_14 : decode cX4_isName 14 = .ok (.iconst 0, 1) := by decide +kernel
theorem dX4_isName_15 : decode cX4_isName 15 = .ok (.ireturn, 1) := by decide +kernel
theorem dX4_isStep_0 : decode cX4_isStep 0 = .ok (.iload_n 0, 1) := by decide +kernel
theorem dX4_isStep_1 : decode cX4_isStep 1 = .ok (.ifCond .lt 13, 3) := by decide +kernel
theorem dX4_isStep_4 : decode cX4_isStep 4 = .ok (.iload_n 0, 1) := by decide +kernel
theorem dX4_isStep_5 : decode cX4_isStep 5 = .ok (.bipush 100, 2) := by decide +kernel
theorem dX4_isStep_7 : decode cX4_isStep 7 = .ok (.if_icmp .ge 7, 3) := by decide +kernel
theorem dX4_isStep_10 : decode cX4_isStep 10 = .ok (.iconst 1, 1) := by decide +kernel
theorem dX4_isStep_11 : decode cX4_isStep 11 = .ok (.goto 4, 3) := by decide +kernel
theorem dX4_isStep_14 : decode cX4_isStep 14 = .ok (.iconst 0, 1) := by decide +kernel
theorem dX4_isStep_15 : decode cX4_isStep 15 = .ok (.ireturn, 1) := by decide +kernel
theorem dX4_isRegister_0 : decode cX4_isRegister 0 = .ok (.iload_n 0, 1) := by decide +kernel
theorem dX4_isRegister_1 : decode cX4_isRegister 1 = .ok (.ifCond .lt 13, 3) := by decide +kernel
theorem dX4_isRegister_4 : decode cX4_isRegister 4 = .ok (.iload_n 0, 1) := by decide +kernel
theorem dX4_isRegister_5 : decode cX4_isRegister 5 = .ok (.bipush 8, 2) := by decide +kernel
theorem dX4_isRegister_7 : decode cX4_isRegister 7 = .ok (.if_icmp .ge 7, 3) := by decide +kernel
theorem dX4_isRegister_10 : decode cX4_isRegister 10 = .ok (.iconst 1, 1) := by decide +kernel
theorem dX4_isRegister_11 : decode cX4_isRegister 11 = .ok (.goto 4, 3) := by decide +kernel
theorem dX4_isRegister_14 : decode cX4_isRegister 14 = .ok (.iconst 0, 1) := by decide +kernel
theorem dX4_isRegister_15 : decode cX4_isRegister 15 = .ok (.ireturn, 1) := by decide +kernel
theorem dX4_isWellFormed_0 : decode cX4_isWellFormed 0 = .ok (.iload_n 0, 1) := by decide +kernel
theorem dX4_isWellFormed_1 : decode cX4_isWellFormed 1 = .ok (.tableswitch 206 0 14 #[75, 80, 100, 100, 100, 127, 154, 159, 164, 184, 164, 75, 204, 75, 204], 75) := by decide +kernel
theorem dX4_isWellFormed_76 : decode cX4_isWellFormed 76 = .ok (.iload_n 1, 1) := by decide +kernel
theorem dX4_isWellFormed_77 : decode cX4_isWellFormed 77 = .ok (.invokestatic 160, 3) := by decide +kernel
theorem dX4_isWellFormed_80 : decode cX4_isWellFormed 80 = .ok (.ireturn, 1) := by decide +kernel
theorem dX4_isWellFormed_81 : decode cX4_isWellFormed 81 = .ok (.iload_n 1, 1) := by decide +kernel
theorem dX4_isWellFormed_82 : decode cX4_isWellFormed 82 = .ok (.invokestatic 160, 3) := by decide +kernel
theorem dX4_isWellFormed_85 : decode cX4_isWellFormed 85 = .ok (.ifCond .eq 14, 3) := by decide +kernel
theorem dX4_isWellFormed_88 : decode cX4_isWellFormed 88 = .ok (.iload_n 2, 1) := by decide +kernel
theorem dX4_isWellFormed_89 : decode cX4_isWellFormed 89 = .ok (.invokestatic 160, 3) := by decide +kernel
theorem dX4_isWellFormed_92 : decode cX4_isWellFormed 92 = .ok (.ifCond .eq 7, 3) := by decide +kernel
theorem dX4_isWellFormed_95 : decode cX4_isWellFormed 95 = .ok (.iconst 1, 1) := by decide +kernel
theorem dX4_isWellFormed_96 : decode cX4_isWellFormed 96 = .ok (.goto 4, 3) := by decide +kernel
theorem dX4_isWellFormed_99 : decode cX4_isWellFormed 99 = .ok (.iconst 0, 1) := by decide +kernel
theorem dX4_isWellFormed_100 : decode cX4_isWellFormed 100 = .ok (.ireturn, 1) := by decide +kernel
theorem dX4_isWellFormed_101 : decode cX4_isWellFormed 101 = .ok (.iload_n 1, 1) := by decide +kernel
theorem dX4_isWellFormed_102 : decode cX4_isWellFormed 102 = .ok (.invokestatic 160, 3) := by decide +kernel
theorem dX4_isWellFormed_105 : decode cX4_isWellFormed 105 = .ok (.ifCond .eq 21, 3) := by decide +kernel
theorem dX4_isWellFormed_108 : decode cX4_isWellFormed 108 = .ok (.iload_n 2, 1) := by decide +kernel
theorem dX4_isWellFormed_109 : decode cX4_isWellFormed 109 = .ok (.invokestatic 160, 3) := by decide +kernel
theorem dX4_isWellFormed_112 : decode cX4_isWellFormed 112 = .ok (.ifCond .eq 14, 3) := by decide +kernel
theorem dX4_isWellFormed_115 : decode cX4_isWellFormed 115 = .ok (.iload_n 3, 1) := by decide +kernel
theorem dX4_isWellFormed_116 : decode cX4_isWellFormed 116 = .ok (.invokestatic 160, 3) := by decide +kernel
theorem dX4_isWellFormed_119 : decode cX4_isWellFormed 119 = .ok (.ifCond .eq 7, 3) := by decide +kernel
theorem dX4_isWellFormed_122 : decode cX4_isWellFormed 122 = .ok (.iconst 1, 1) := by decide +kernel
theorem dX4_isWellFormed_123 : decode cX4_isWellFormed 123 = .ok (.goto 4, 3) := by decide +kernel
theorem dX4_isWellFormed_126 : decode cX4_isWellFormed 126 = .ok (.iconst 0, 1) := by decide +kernel
theorem dX4_isWellFormed_127 : decode cX4_isWellFormed 127 = .ok (.ireturn, 1) := by decide +kernel
theorem dX4_isWellFormed_128 : decode cX4_isWellFormed 128 = .ok (.iload_n 1, 1) := by decide +kernel
theorem dX4_isWellFormed_129 : decode cX4_isWellFormed 129 = .ok (.invokestatic 160, 3) := by decide +kernel
theorem dX4_isWellFormed_132 : decode cX4_isWellFormed 132 = .ok (.ifCond .eq 21, 3) := by decide +kernel
theorem dX4_isWellFormed_135 : decode cX4_isWellFormed 135 = .ok (.iload_n 2, 1) := by decide +kernel
theorem dX4_isWellFormed_136 : decode cX4_isWellFormed 136 = .ok (.invokestatic 160, 3) := by decide +kernel
theorem dX4_isWellFormed_139 : decode cX4_isWellFormed 139 = .ok (.ifCond .eq 14, 3) := by decide +kernel
theorem dX4_isWellFormed_142 : decode cX4_isWellFormed 142 = .ok (.iload_n 3, 1) := by decide +kernel
theorem dX4_isWellFormed_143 : decode cX4_isWellFormed 143 = .ok (.invokestatic 62, 3) := by decide +kernel
theorem dX4_isWellFormed_146 : decode cX4_isWellFormed 146 = .ok (.ifCond .eq 7, 3) := by decide +kernel
theorem dX4_isWellFormed_149 : decode cX4_isWellFormed 149 = .ok (.iconst 1, 1) := by decide +kernel
theorem dX4_isWellFormed_150 : decode cX4_isWellFormed 150 = .ok (.goto 4, 3) := by decide +kernel
theorem dX4_isWellFormed_153 : decode cX4_isWellFormed 153 = .ok (.iconst 0, 1) := by decide +kernel
theorem dX4_isWellFormed_154 : decode cX4_isWellFormed 154 = .ok (.ireturn, 1) := by decide +kernel
theorem dX4_isWellFormed_155 : decode cX4_isWellFormed 155 = .ok (.iload_n 1, 1) := by decide +kernel
theorem dX4_isWellFormed_156 : decode cX4_isWellFormed 156 = .ok (.invokestatic 62, 3) := by decide +kernel
theorem dX4_isWellFormed_159 : decode cX4_isWellFormed 159 = .ok (.ireturn, 1) := by decide +kernel
theorem dX4_isWellFormed_160 : decode cX4_isWellFormed 160 = .ok (.iload_n 1, 1) := by decide +kernel
theorem dX4_isWellFormed_161 : decode cX4_isWellFormed 161 = .ok (.invokestatic 59, 3) := by decide +kernel
theorem dX4_isWellFormed_164 : decode cX4_isWellFormed 164 = .ok (.ireturn, 1) := by decide +kernel
theorem dX4_isWellFormed_165 : decode cX4_isWellFormed 165 = .ok (.iload_n 1, 1) := by decide +kernel
theorem dX4_isWellFormed_166 : decode cX4_isWellFormed 166 = .ok (.invokestatic 160, 3) := by decide +kernel
theorem dX4_isWellFormed_169 : decode cX4_isWellFormed 169 = .ok (.ifCond .eq 14, 3) := by decide +kernel
theorem dX4_isWellFormed_172 : decode cX4_isWellFormed 172 = .ok (.iload_n 2, 1) := by decide +kernel
theorem dX4_isWellFormed_173 : decode cX4_isWellFormed 173 = .ok (.invokestatic 59, 3) := by decide +kernel
theorem dX4_isWellFormed_176 : decode cX4_isWellFormed 176 = .ok (.ifCond .eq 7, 3) := by decide +kernel
theorem dX4_isWellFormed_179 : decode cX4_isWellFormed 179 = .ok (.iconst 1, 1) := by decide +kernel
theorem dX4_isWellFormed_180 : decode cX4_isWellFormed 180 = .ok (.goto 4, 3) := by decide +kernel
theorem dX4_isWellFormed_183 : decode cX4_isWellFormed 183 = .ok (.iconst 0, 1) := by decide +kernel
theorem dX4_isWellFormed_184 : decode cX4_isWellFormed 184 = .ok (.ireturn, 1) := by decide +kernel
theorem dX4_isWellFormed_185 : decode cX4_isWellFormed 185 = .ok (.iload_n 1, 1) := by decide +kernel
theorem dX4_isWellFormed_186 : decode cX4_isWellFormed 186 = .ok (.invokestatic 59, 3) := by decide +kernel
theorem dX4_isWellFormed_189 : decode cX4_isWellFormed 189 = .ok (.ifCond .eq 14, 3) := by decide +kernel
theorem dX4_isWellFormed_192 : decode cX4_isWellFormed 192 = .ok (.iload_n 2, 1) := by decide +kernel
theorem dX4_isWellFormed_193 : decode cX4_isWellFormed 193 = .ok (.invokestatic 160, 3) := by decide +kernel
theorem dX4_isWellFormed_196 : decode cX4_isWellFormed 196 = .ok (.ifCond .eq 7, 3) := by decide +kernel
theorem dX4_isWellFormed_199 : decode cX4_isWellFormed 199 = .ok (.iconst 1, 1) := by decide +kernel
theorem dX4_isWellFormed_200 : decode cX4_isWellFormed 200 = .ok (.goto 4, 3) := by decide +kernel
theorem dX4_isWellFormed_203 : decode cX4_isWellFormed 203 = .ok (.iconst 0, 1) := by decide +kernel
theorem dX4_isWellFormed_204 : decode cX4_isWellFormed 204 = .ok (.ireturn, 1) := by decide +kernel
theorem dX4_isWellFormed_205 : decode cX4_isWellFormed 205 = .ok (.iconst 1, 1) := by decide +kernel
theorem dX4_isWellFormed_206 : decode cX4_isWellFormed 206 = .ok (.ireturn, 1) := by decide +kernel
theorem dX4_isWellFormed_207 : decode cX4_isWellFormed 207 = .ok (.iconst 0, 1) := by decide +kernel
theorem dX4_isWellFormed_208 : decode cX4_isWellFormed 208 = .ok (.ireturn, 1) := by decide +kernel
end
section
theorem dX5_init_0 : decode cX5_init 0 = .ok (.aload_n 0, 1) := by decide +kernel
theorem dX5_init_1 : decode cX5_init 1 = .ok (.invokespecial 1, 3) := by decide +kernel
theorem dX5_init_4 : decode cX5_init 4 = .ok (.aload_n 0, 1) := by decide +kernel
theorem dX5_init_5 : decode cX5_init 5 = .ok (.bipush 72, 2) := by decide +kernel
theorem dX5_init_7 : decode cX5_init 7 = .ok (.newarray .int, 2) := by decide +kernel
theorem dX5_init_9 : decode cX5_init 9 = .ok (.putfield 7, 3) := by decide +kernel
theorem dX5_init_12 : decode cX5_init 12 = .ok (.aload_n 0, 1) := by decide +kernel
theorem dX5_init_13 : decode cX5_init 13 = .ok (.bipush 12, 2) := by decide +kernel
theorem dX5_init_15 : decode cX5_init 15 = .ok (.newarray .int, 2) := by decide +kernel
theorem dX5_init_17 : decode cX5_init 17 = .ok (.putfield 13, 3) := by decide +kernel
theorem dX5_init_20 : decode cX5_init 20 = .ok (.aload_n 0, 1) := by decide +kernel
theorem dX5_init_21 : decode cX5_init 21 = .ok (.sipush 240, 3) := by decide +kernel
theorem dX5_init_24 : decode cX5_init 24 = .ok (.newarray .int, 2) := by decide +kernel
theorem dX5_init_26 : decode cX5_init 26 = .ok (.putfield 16, 3) := by decide +kernel
theorem dX5_init_29 : decode cX5_init 29 = .ok (.aload_n 0, 1) := by decide +kernel
theorem dX5_init_30 : decode cX5_init 30 = .ok (.sipush 240, 3) := by decide +kernel
theorem dX5_init_33 : decode cX5_init 33 = .ok (.newarray .int, 2) := by decide +kernel
theorem dX5_init_35 : decode cX5_init 35 = .ok (.putfield 19, 3) := by decide +kernel
theorem dX5_init_38 : decode cX5_init 38 = .ok (.aload_n 0, 1) := by decide +kernel
theorem dX5_init_39 : decode cX5_init 39 = .ok (.sipush 240, 3) := by decide +kernel
theorem dX5_init_42 : decode cX5_init 42 = .ok (.newarray .int, 2) := by decide +kernel
theorem dX5_init_44 : decode cX5_init 44 = .ok (.putfield 22, 3) := by decide +kernel
theorem dX5_init_47 : decode cX5_init 47 = .ok (.aload_n 0, 1) := by decide +kernel
theorem dX5_init_48 : decode cX5_init 48 = .ok (.sipush 240, 3) := by decide +kernel
theorem dX5_init_51 : decode cX5_init 51 = .ok (.newarray .int, 2) := by decide +kernel
theorem dX5_init_53 : decode cX5_init 53 = .ok (.putfield 25, 3) := by decide +kernel
theorem dX5_init_56 : decode cX5_init 56 = .ok (.aload_n 0, 1) := by decide +kernel
theorem dX5_init_57 : decode cX5_init 57 = .ok (.bipush 12, 2) := by decide +kernel
theorem dX5_init_59 : decode cX5_init 59 = .ok (.newarray .int, 2) := by decide +kernel
theorem dX5_init_61 : decode cX5_init 61 = .ok (.putfield 28, 3) := by decide +kernel
theorem dX5_init_64 : decode cX5_init 64 = .ok (.aload_n 0, 1) := by decide +kernel
theorem dX5_init_65 : decode cX5_init 65 = .ok (.sipush 4800, 3) := by decide +kernel
theorem dX5_init_68 : decode cX5_init 68 = .ok (.newarray .int, 2) := by decide +kernel
theorem dX5_init_70 : decode cX5_init 70 = .ok (.putfield 31, 3) := by decide +kernel
theorem dX5_init_73 : decode cX5_init 73 = .ok (.aload_n 0, 1) := by decide +kernel
theorem dX5_init_74 : decode cX5_init 74 = .ok (.bipush 12, 2) := by decide +kernel
theorem dX5_init_76 : decode cX5_init 76 = .ok (.newarray .int, 2) := by decide +kernel
theorem dX5_init_78 : decode cX5_init 78 = .ok (.putfield 34, 3) := by decide +kernel
theorem dX5_init_81 : decode cX5_init 81 = .ok (.aload_n 0, 1) := by decide +kernel
theorem dX5_init_82 : decode cX5_init 82 = .ok (.sipush 768, 3) := by decide +kernel
theorem dX5_init_85 : decode cX5_init 85 = .ok (.newarray .boolean, 2) := by decide +kernel
theorem dX5_init_87 : decode cX5_init 87 = .ok (.putfield 37, 3) := by decide +kernel
theorem dX5_init_90 : decode cX5_init 90 = .ok (.aload_n 0, 1) := by decide +kernel
theorem dX5_init_91 : decode cX5_init 91 = .ok (.bipush 12, 2) := by decide +kernel
theorem dX5_init_93 : decode cX5_init 93 = .ok (.newarray .int, 2) := by decide +kernel
theorem dX5_init_95 : decode cX5_init 95 = .ok (.putfield 41, 3) := by decide +kernel
theorem dX5_init_98 : decode cX5_init 98 = .ok (.aload_n 0, 1) := by decide +kernel
theorem dX5_init_99 : decode cX5_init 99 = .ok (.bipush 12, 2) := by decide +kernel
theorem dX5_init_101 : decode cX5_init 101 = .ok (.newarray .int, 2) := by decide +kernel
theorem dX5_init_103 : decode cX5_init 103 = .ok (.putfield 44, 3) := by decide +kernel
theorem dX5_init_106 : decode cX5_init 106 = .ok (.aload_n 0, 1) := by decide +kernel
theorem dX5_init_107 : decode cX5_init 107 = .ok (.bipush 12, 2) := by decide +kernel
theorem dX5_init_109 : decode cX5_init 109 = .ok (.newarray .int, 2) := by decide +kernel
theorem dX5_init_111 : decode cX5_init 111 = .ok (.putfield 47, 3) := by decide +kernel
theorem dX5_init_114 : decode cX5_init 114 = .ok (.aload_n 0, 1) := by decide +kernel
theorem dX5_init_115 : decode cX5_init 115 = .ok (.sipush 768, 3) := by decide +kernel
theorem dX5_init_118 : decode cX5_init 118 = .ok (.newarray .int, 2) := by decide +kernel
theorem dX5_init_120 : decode cX5_init 120 = .ok (.putfield 50, 3) := by decide +kernel
theorem dX5_init_123 : decode cX5_init 123 = .ok (.aload_n 0, 1) := by decide +kernel
theorem dX5_init_124 : decode cX5_init 124 = .ok (.sipush 240, 3) := by decide +kernel
theorem dX5_init_127 : decode cX5_init 127 = .ok (.newarray .int, 2) := by decide +kernel
theorem dX5_init_129 : decode cX5_init 129 = .ok (.putfield 53, 3) := by decide +kernel
theorem dX5_init_132 : decode cX5_init 132 = .ok (.aload_n 0, 1) := by decide +kernel
theorem dX5_init_133 : decode cX5_init 133 = .ok (.bipush 12, 2) := by decide +kernel
theorem dX5_init_135 : decode cX5_init 135 = .ok (.newarray .int, 2) := by decide +kernel
theorem dX5_init_137 : decode cX5_init 137 = .ok (.putfield 56, 3) := by decide +kernel
theorem dX5_init_140 : decode cX5_init 140 = .ok (.aload_n 0, 1) := by decide +kernel
theorem dX5_init_141 : decode cX5_init 141 = .ok (.bipush 12, 2) := by decide +kernel
theorem dX5_init_143 : decode cX5_init 143 = .ok (.newarray .boolean, 2) := by decide +kernel
theorem dX5_init_145 : decode cX5_init 145 = .ok (.putfield 59, 3) := by decide +kernel
theorem dX5_init_148 : decode cX5_init 148 = .ok (.aload_n 0, 1) := by decide +kernel
theorem dX5_init_149 : decode cX5_init 149 = .ok (.bipush 12, 2) := by decide +kernel
theorem dX5_init_151 : decode cX5_init 151 = .ok (.newarray .int, 2) := by decide +kernel
theorem dX5_init_153 : decode cX5_init 153 = .ok (.putfield 62, 3) := by decide +kernel
theorem dX5_init_156 : decode cX5_init 156 = .ok (.aload_n 0, 1) := by decide +kernel
theorem dX5_init_157 : decode cX5_init 157 = .ok (.bipush 12, 2) := by decide +kernel
theorem dX5_init_159 : decode cX5_init 159 = .ok (.newarray .int, 2) := by decide +kernel
theorem dX5_init_161 : decode cX5_init 161 = .ok (.putfield 65, 3) := by decide +kernel
theorem dX5_init_164 : decode cX5_init 164 = .ok (.aload_n 0, 1) := by decide +kernel
theorem dX5_init_165 : decode cX5_init 165 = .ok (.iconst (-1), 1) := by decide +kernel
theorem dX5_init_166 : decode cX5_init 166 = .ok (.putfield 68, 3) := by decide +kernel
theorem dX5_init_169 : decode cX5_init 169 = .ok (.aload_n 0, 1) := by decide +kernel
theorem dX5_init_170 : decode cX5_init 170 = .ok (.iconst (-1), 1) := by decide +kernel
theorem dX5_init_171 : decode cX5_init 171 = .ok (.putfield 72, 3) := by decide +kernel
theorem dX5_init_174 : decode cX5_init 174 = .ok (.aload_n 0, 1) := by decide +kernel
theorem dX5_init_175 : decode cX5_init 175 = .ok (.iconst (-1), 1) := by decide +kernel
theorem dX5_init_176 : decode cX5_init 176 = .ok (.putfield 75, 3) := by decide +kernel
theorem dX5_init_179 : decode cX5_init 179 = .ok (.aload_n 0, 1) := by decide +kernel
theorem dX5_init_180 : decode cX5_init 180 = .ok (.bipush 8, 2) := by decide +kernel
theorem dX5_init_182 : decode cX5_init 182 = .ok (.newarray .int, 2) := by decide +kernel
theorem dX5_init_184 : decode cX5_init 184 = .ok (.putfield 78, 3) := by decide +kernel
theorem dX5_init_187 : decode cX5_init 187 = .ok (.aload_n 0, 1) := by decide +kernel
theorem dX5_init_188 : decode cX5_init 188 = .ok (.bipush 60, 2) := by decide +kernel
theorem dX5_init_190 : decode cX5_init 190 = .ok (.newarray .int, 2) := by decide +kernel
theorem dX5_init_192 : decode cX5_init 192 = .ok (.putfield 81, 3) := by decide +kernel
theorem dX5_init_195 : decode cX5_init 195 = .ok (.aload_n 0, 1) := by decide +kernel
theorem dX5_init_196 : decode cX5_init 196 = .ok (.bipush 101, 2) := by decide +kernel
theorem dX5_init_198 : decode cX5_init 198 = .ok (.newarray .int, 2) := by decide +kernel
theorem dX5_init_200 : decode cX5_init 200 = .ok (.putfield 84, 3) := by decide +kernel
theorem dX5_init_203 : decode cX5_init 203 = .ok (.aload_n 0, 1) := by decide +kernel
theorem dX5_init_204 : decode cX5_init 204 = .ok (.bipush 101, 2) := by decide +kernel
theorem dX5_init_206 : decode cX5_init 206 = .ok (.newarray .int, 2) := by decide +kernel
theorem dX5_init_208 : decode cX5_init 208 = .ok (.putfield 87, 3) := by decide +kernel
theorem dX5_init_211 : decode cX5_init 211 = .ok (.return_, 1) := by decide +kernel
theorem dX5_isModule_0 : decode cX5_isModule 0 = .ok (.iload_n 1, 1) := by decide +kernel
theorem dX5_isModule_1 : decode cX5_isModule 1 = .ok (.ifCond .lt 15, 3) := by decide +kernel
theorem dX5_isModule_4 : decode cX5_isModule 4 = .ok (.iload_n 1, 1) := by decide +kernel
theorem dX5_isModule_5 : decode cX5_isModule 5 = .ok (.aload_n 0, 1) := by decide +kernel
theorem dX5_isModule_6 : decode cX5_isModule 6 = .ok (.getfield 90, 3) := by decide +kernel
theorem dX5_isModule_9 : decode cX5_isModule 9 = .ok (.if_icmp .ge 7, 3) := by decide +kernel
theorem dX5_isModule_12 : decode cX5_isModule 12 = .ok (.iconst 1, 1) := by decide +kernel
theorem dX5_isModule_13 : decode cX5_isModule 13 = .ok (.goto 4, 3) := by decide +kernel
theorem dX5_isModule_16 : decode cX5_isModule 16 = .ok (.iconst 0, 1) := by decide +kernel
theorem dX5_isModule_17 : decode cX5_isModule 17 = .ok (.ireturn, 1) := by decide +kernel
theorem dX5_isName_0 : decode cX5_isName 0 = .ok (.iload_n 0, 1) := by decide +kernel
theorem dX5_isName_1 : decode cX5_isName 1 = .ok (.ifCond .lt 13, 3) := by decide +kernel
theorem dX5_isName_4 : decode cX5_isName 4 = .ok (.iload_n 0, 1) := by decide +kernel
theorem dX5_isName_5 : decode cX5_isName 5 = .ok (.bipush 64, 2) := by decide +kernel
theorem dX5_isName_7 : decode cX5_isName 7 = .ok (.if_icmp .ge 7, 3) := by decide +kernel
theorem dX5_isName_10 : decode cX5_isName 10 = .ok (.iconst 1, 1) := by decide +kernel
theorem dX5_isName_11 : decode cX5_isName 11 = .ok (.goto 4, 3) := by decide +kernel
theorem dX5_isName_14 : decode cX5_isName 14 = .ok (.iconst 0, 1) := by decide +kernel
theorem dX5_isName_15 : decode cX5_isName 15 = .ok (.ireturn, 1) := by decide +kernel
theorem dX5_isRegister_0 : decode cX5_isRegister 0 = .ok (.iload_n 0, 1) := by decide +kernel
theorem dX5_isRegister_1 : decode cX5_isRegister 1 = .ok (.ifCond .lt 13, 3) := by decide +kernel
theorem dX5_isRegister_4 : decode cX5_isRegister 4 = .ok (.iload_n 0, 1) := by decide +kernel
theorem dX5_isRegister_5 : decode cX5_isRegister 5 = .ok (.bipush 8, 2) := by decide +kernel
theorem dX5_isRegister_7 : decode cX5_isRegister 7 = .ok (.if_icmp .ge 7, 3) := by decide +kernel
theorem dX5_isRegister_10 : decode cX5_isRegister 10 = .ok (.iconst 1, 1) := by decide +kernel
theorem dX5_isRegister_11 : decode cX5_isRegister 11 = .ok (.goto 4, 3) := by decide +kernel
theorem dX5_isRegister_14 : decode cX5_isRegister 14 = .ok (.iconst 0, 1) := by decide +kernel
theorem dX5_isRegister_15 : decode cX5_isRegister 15 = .ok (.ireturn, 1) := by decide +kernel
theorem dX5_isStep_0 : decode cX5_isStep 0 = .ok (.iload_n 0, 1) := by decide +kernel
theorem dX5_isStep_1 : decode cX5_isStep 1 = .ok (.ifCond .lt 13, 3) := by decide +kernel
theorem dX5_isStep_4 : decode cX5_isStep 4 = .ok (.iload_n 0, 1) := by decide +kernel
theorem dX5_isStep_5 : decode cX5_isStep 5 = .ok (.bipush 100, 2) := by decide +kernel
theorem dX5_isStep_7 : decode cX5_isStep 7 = .ok (.if_icmp .ge 7, 3) := by decide +kernel
theorem dX5_isStep_10 : decode cX5_isStep 10 = .ok (.iconst 1, 1) := by decide +kernel
theorem dX5_isStep_11 : decode cX5_isStep 11 = .ok (.goto 4, 3) := by decide +kernel
theorem dX5_isStep_14 : decode cX5_isStep 14 = .ok (.iconst 0, 1) := by decide +kernel
theorem dX5_isStep_15 : decode cX5_isStep 15 = .ok (.ireturn, 1) := by decide +kernel
theorem dX5_module_0 : decode cX5_module 0 = .ok (.aload_n 0, 1) := by decide +kernel
theorem dX5_module_1 : decode cX5_module 1 = .ok (.getfield 90, 3) := by decide +kernel
theorem dX5_module_4 : decode cX5_module 4 = .ok (.bipush 12, 2) := by decide +kernel
theorem dX5_module_6 : decode cX5_module 6 = .ok (.if_icmp .ne 5, 3) := by decide +kernel
theorem dX5_module_9 : decode cX5_module 9 = .ok (.iconst (-1), 1) := by decide +kernel
theorem dX5_module_10 : decode cX5_module 10 = .ok (.ireturn, 1) := by decide +kernel
theorem dX5_module_11 : decode cX5_module 11 = .ok (.aload_n 0, 1) := by decide +kernel
theorem dX5_module_12 : decode cX5_module 12 = .ok (.getfield 41, 3) := by decide +kernel
theorem dX5_module_15 : decode cX5_module 15 = .ok (.aload_n 0, 1) := by decide +kernel
theorem dX5_module_16 : decode cX5_module 16 = .ok (.getfield 90, 3) := by decide +kernel
theorem dX5_module_19 : decode cX5_module 19 = .ok (.iconst (-1), 1) := by decide +kernel
theorem dX5_module_20 : decode cX5_module 20 = .ok (.iastore, 1) := by decide +kernel
theorem dX5_module_21 : decode cX5_module 21 = .ok (.aload_n 0, 1) := by decide +kernel
theorem dX5_module_22 : decode cX5_module 22 = .ok (.dup, 1) := by decide +kernel
theorem dX5_module_23 : decode cX5_module 23 = .ok (.getfield 90, 3) := by decide +kernel
theorem dX5_module_26 : decode cX5_module 26 = .ok (.iconst 1, 1) := by decide +kernel
theorem dX5_module_27 : decode cX5_module 27 = .ok (.iadd, 1) := by decide +kernel
theorem dX5_module_28 : decode cX5_module 28 = .ok (.putfield 90, 3) := by decide +kernel
theorem dX5_module_31 : decode cX5_module 31 = .ok (.aload_n 0, 1) := by decide +kernel
theorem dX5_module_32 : decode cX5_module 32 = .ok (.getfield 90, 3) := by decide +kernel
theorem dX5_module_35 : decode cX5_module 35 = .ok (.iconst 1, 1) := by decide +kernel
theorem dX5_module_36 : decode cX5_module 36 = .ok (.isub, 1) := by decide +kernel
theorem dX5_module_37 : decode cX5_module 37 = .ok (.ireturn, 1) := by decide +kernel
theorem dX5_need_0 : decode cX5_need 0 = .ok (.aload_n 0, 1) := by decide +kernel
theorem dX5_need_1 : decode cX5_need 1 = .ok (.iload_n 1, 1) := by decide +kernel
theorem dX5_need_2 : decode cX5_need 2 = .ok (.invokevirtual 93, 3) := by decide +kernel
theorem dX5_need_5 : decode cX5_need 5 = .ok (.ifCond .eq 22, 3) := by decide +kernel
theorem dX5_need_8 : decode cX5_need 8 = .ok (.aload_n 0, 1) := by decide +kernel
theorem dX5_need_9 : decode cX5_need 9 = .ok (.iload_n 2, 1) := by decide +kernel
theorem dX5_need_10 : decode cX5_need 10 = .ok (.invokevirtual 93, 3) := by decide +kernel
theorem dX5_need_13 : decode cX5_need 13 = .ok (.ifCond .eq 14, 3) := by decide +kernel
theorem dX5_need_16 : decode cX5_need 16 = .ok (.aload_n 0, 1) := by decide +kernel
theorem dX5_need_17 : decode cX5_need 17 = .ok (.getfield 13, 3) := by decide +kernel
theorem dX5_need_20 : decode cX5_need 20 = .ok (.iload_n 1, 1) := by decide +kernel
theorem dX5_need_21 : decode cX5_need 21 = .ok (.iaload, 1) := by decide +kernel
theorem dX5_need_22 : decode cX5_need 22 = .ok (.bipush 6, 2) := by decide +kernel
theorem dX5_need_24 : decode cX5_need 24 = .ok (.if_icmp .ne 5, 3) := by decide +kernel
theorem dX5_need_27 : decode cX5_need 27 = .ok (.iconst (-1), 1) := by decide +kernel
theorem dX5_need_28 : decode cX5_need 28 = .ok (.ireturn, 1) := by decide +kernel
theorem dX5_need_29 : decode cX5_need 29 = .ok (.iconst 0, 1) := by decide +kernel
theorem dX5_need_30 : decode cX5_need 30 = .ok (.istore_n 3, 1) := by decide +kernel
theorem dX5_need_31 : decode cX5_need 31 = .ok (.iload_n 3, 1) := by decide +kernel
theorem dX5_need_32 : decode cX5_need 32 = .ok (.aload_n 0, 1) := by decide +kernel
theorem dX5_need_33 : decode cX5_need 33 = .ok (.getfield 13, 3) := by decide +kernel
theorem dX5_need_36 : decode cX5_need 36 = .ok (.iload_n 1, 1) := by decide +kernel
theorem dX5_need_37 : decode cX5_need 37 = .ok (.iaload, 1) := by decide +kernel
theorem dX5_need_38 : decode cX5_need 38 = .ok (.if_icmp .ge 26, 3) := by decide +kernel
theorem dX5_need_41 : decode cX5_need 41 = .ok (.aload_n 0, 1) := by decide +kernel
theorem dX5_need_42 : decode cX5_need 42 = .ok (.getfield 7, 3) := by decide +kernel
theorem dX5_need_45 : decode cX5_need 45 = .ok (.bipush 6, 2) := by decide +kernel
theorem dX5_need_47 : decode cX5_need 47 = .ok (.iload_n 1, 1) := by decide +kernel
theorem dX5_need_48 : decode cX5_need 48 = .ok (.imul, 1) := by decide +kernel
theorem dX5_need_49 : decode cX5_need 49 = .ok (.iload_n 3, 1) := by decide +kernel
theorem dX5_need_50 : decode cX5_need 50 = .ok (.iadd, 1) := by decide +kernel
theorem dX5_need_51 : decode cX5_need 51 = .ok (.iaload, 1) := by decide +kernel
theorem dX5_need_52 : decode cX5_need 52 = .ok (.iload_n 2, 1) := by decide +kernel
theorem dX5_need_53 : decode cX5_need 53 = .ok (.if_icmp .ne 5, 3) := by decide +kernel
theorem dX5_need_56 : decode cX5_need 56 = .ok (.iconst (-1), 1) := by decide +kernel
theorem dX5_need_57 : decode cX5_need 57 = .ok (.ireturn, 1) := by decide +kernel
theorem dX5_need_58 : decode cX5_need 58 = .ok (.iinc 3 1, 3) := by decide +kernel
theorem dX5_need_61 : decode cX5_need 61 = .ok (.goto (-30), 3) := by decide +kernel
theorem dX5_need_64 : decode cX5_need 64 = .ok (.aload_n 0, 1) := by decide +kernel
theorem dX5_need_65 : decode cX5_need 65 = .ok (.getfield 7, 3) := by decide +kernel
theorem dX5_need_68 : decode cX5_need 68 = .ok (.bipush 6, 2) := by decide +kernel
theorem dX5_need_70 : decode cX5_need 70 = .ok (.iload_n 1, 1) := by decide +kernel
theorem dX5_need_71 : decode cX5_need 71 = .ok (.imul, 1) := by decide +kernel
theorem dX5_need_72 : decode cX5_need 72 = .ok (.aload_n 0, 1) := by decide +kernel
theorem dX5_need_73 : decode cX5_need 73 = .ok (.getfield 13, 3) := by decide +kernel
theorem dX5_need_76 : decode cX5_need 76 = .ok (.iload_n 1, 1) := by decide +kernel
theorem dX5_need_77 : decode cX5_need 77 = .ok (.iaload, 1) := by decide +kernel
theorem dX5_need_78 : decode cX5_need 78 = .ok (.iadd, 1) := by decide +kernel
theorem dX5_need_79 : decode cX5_need 79 = .ok (.iload_n 2, 1) := by decide +kernel
theorem dX5_need_80 : decode cX5_need 80 = .ok (.iastore, 1) := by decide +kernel
theorem dX5_need_81 : decode cX5_need 81 = .ok (.aload_n 0, 1) := by decide +kernel
theorem dX5_need_82 : decode cX5_need 82 = .ok (.getfield 13, 3) := by decide +kernel
theorem dX5_need_85 : decode cX5_need 85 = .ok (.iload_n 1, 1) := by decide +kernel
theorem dX5_need_86 : decode cX5_need 86 = .ok (.dup2, 1) := by decide +kernel
theorem dX5_need_87 : decode cX5_need 87 = .ok (.iaload, 1) := by decide +kernel
theorem dX5_need_88 : decode cX5_need 88 = .ok (.iconst 1, 1) := by decide +kernel
theorem dX5_need_89 : decode cX5_need 89 = .ok (.iadd, 1) := by decide +kernel
theorem dX5_need_90 : decode cX5_need 90 = .ok (.iastore, 1) := by decide +kernel
theorem dX5_need_91 : decode cX5_need 91 = .ok (.aload_n 0, 1) := by decide +kernel
theorem dX5_need_92 : decode cX5_need 92 = .ok (.iconst 0, 1) := by decide +kernel
theorem dX5_need_93 : decode cX5_need 93 = .ok (.putfield 97, 3) := by decide +kernel
theorem dX5_need_96 : decode cX5_need 96 = .ok (.aload_n 0, 1) := by decide +kernel
theorem dX5_need_97 : decode cX5_need 97 = .ok (.getfield 13, 3) := by decide +kernel
theorem dX5_need_100 : decode cX5_need 100 = .ok (.iload_n 1, 1) := by decide +kernel
theorem dX5_need_101 : decode cX5_need 101 = .ok (.iaload, 1) := by decide +kernel
theorem dX5_need_102 : decode cX5_need 102 = .ok (.ireturn, 1) := by decide +kernel
theorem dX5_ofName_0 : decode cX5_ofName 0 = .ok (.iconst 0, 1) := by decide +kernel
theorem dX5_ofName_1 : decode cX5_ofName 1 = .ok (.istore_n 3, 1) := by decide +kernel
theorem dX5_ofName_2 : decode cX5_ofName 2 = .ok (.iload_n 3, 1) := by decide +kernel
theorem dX5_ofName_3 : decode cX5_ofName 3 = .ok (.aload_n 0, 1) := by decide +kernel
theorem dX5_ofName_4 : decode cX5_ofName 4 = .ok (.getfield 28, 3) := by decide +kernel
theorem dX5_ofName_7 : decode cX5_ofName 7 = .ok (.iload_n 1, 1) := by decide +kernel
theorem dX5_ofName_8 : decode cX5_ofName 8 = .ok (.iaload, 1) := by decide +kernel
theorem dX5_ofName_9 : decode cX5_ofName 9 = .ok (.if_icmp .ge 31, 3) := by decide +kernel
theorem dX5_ofName_12 : decode cX5_ofName 12 = .ok (.aload_n 0, 1) := by decide +kernel
theorem dX5_ofName_13 : decode cX5_ofName 13 = .ok (.getfield 16, 3) := by decide +kernel
theorem dX5_ofName_16 : decode cX5_ofName 16 = .ok (.bipush 20, 2) := by decide +kernel
theorem dX5_ofName_18 : decode cX5_ofName 18 = .ok (.iload_n 1, 1) := by decide +kernel
theorem dX5_ofName_19 : decode cX5_ofName 19 = .ok (.imul, 1) := by decide +kernel
theorem dX5_ofName_20 : decode cX5_ofName 20 = .ok (.iload_n 3, 1) := by decide +kernel
theorem dX5_ofName_21 : decode cX5_ofName 21 = .ok (.iadd, 1) := by decide +kernel
theorem dX5_ofName_22 : decode cX5_ofName 22 = .ok (.iaload, 1) := by decide +kernel
theorem dX5_ofName_23 : decode cX5_ofName 23 = .ok (.iload_n 2, 1) := by decide +kernel
theorem dX5_ofName_24 : decode cX5_ofName 24 = .ok (.if_icmp .ne 10, 3) := by decide +kernel
theorem dX5_ofName_27 : decode cX5_ofName 27 = .ok (.bipush 20, 2) := by decide +kernel
theorem dX5_ofName_29 : decode cX5_ofName 29 = .ok (.iload_n 1, 1) := by decide +kernel
theorem dX5_ofName_30 : decode cX5_ofName 30 = .ok (.imul, 1) := by decide +kernel
theorem dX5_ofName_31 : decode cX5_ofName 31 = .ok (.iload_n 3, 1) := by decide +kernel
theorem dX5_ofName_32 : decode cX5_ofName 32 = .ok (.iadd, 1) := by decide +kernel
theorem dX5_ofName_33 : decode cX5_ofName 33 = .ok (.ireturn, 1) := by decide +kernel
theorem dX5_ofName_34 : decode cX5_ofName 34 = .ok (.iinc 3 1, 3) := by decide +kernel
theorem dX5_ofName_37 : decode cX5_ofName 37 = .ok (.goto (-35), 3) := by decide +kernel
theorem dX5_ofName_40 : decode cX5_ofName 40 = .ok (.iconst (-1), 1) := by decide +kernel
theorem dX5_ofName_41 : decode cX5_ofName 41 = .ok (.ireturn, 1) := by decide +kernel
theorem dX5_define_0 : decode cX5_define 0 = .ok (.aload_n 0, 1) := by decide +kernel
theorem dX5_define_1 : decode cX5_define 1 = .ok (.iload_n 1, 1) := by decide +kernel
theorem dX5_define_2 : decode cX5_define 2 = .ok (.invokevirtual 93, 3) := by decide +kernel
theorem dX5_define_5 : decode cX5_define 5 = .ok (.ifCond .eq 63, 3) := by decide +kernel
theorem dX5_define_8 : decode cX5_define 8 = .ok (.iload_n 2, 1) := by decide +kernel
theorem dX5_define_9 : decode cX5_define 9 = .ok (.invokestatic 101, 3) := by decide +kernel
theorem dX5_define_12 : decode cX5_define 12 = .ok (.ifCond .eq 56, 3) := by decide +kernel
theorem dX5_define_15 : decode cX5_define 15 = .ok (.iload_n 3, 1) := by decide +kernel
theorem dX5_define_16 : decode cX5_define 16 = .ok (.ifCond .lt 52, 3) := by decide +kernel
theorem dX5_define_19 : decode cX5_define 19 = .ok (.iload_n 3, 1) := by decide +kernel
theorem dX5_define_20 : decode cX5_define 20 = .ok (.iconst 1, 1) := by decide +kernel
theorem dX5_define_21 : decode cX5_define 21 = .ok (.if_icmp .gt 47, 3) := by decide +kernel
theorem dX5_define_24 : decode cX5_define 24 = .ok (.iload 5, 2) := by decide +kernel
theorem dX5_define_26 : decode cX5_define 26 = .ok (.ifCond .lt 42, 3) := by decide +kernel
theorem dX5_define_29 : decode cX5_define 29 = .ok (.iload 5, 2) := by decide +kernel
theorem dX5_define_31 : decode cX5_define 31 = .ok (.iconst 5, 1) := by decide +kernel
theorem dX5_define_32 : decode cX5_define 32 = .ok (.if_icmp .gt 36, 3) := by decide +kernel
theorem dX5_define_35 : decode cX5_define 35 = .ok (.iload_n 3, 1) := by decide +kernel
theorem dX5_define_36 : decode cX5_define 36 = .ok (.ifCond .ne 11, 3) := by decide +kernel
theorem dX5_define_39 : decode cX5_define 39 = .ok (.iload 4, 2) := by decide +kernel
theorem dX5_define_41 : decode cX5_define 41 = .ok (.invokestatic 104, 3) := by decide +kernel
theorem dX5_define_44 : decode cX5_define 44 = .ok (.ifCond .eq 24, 3) := by decide +kernel
theorem dX5_define_47 : decode cX5_define 47 = .ok (.aload_n 0, 1) := by decide +kernel
theorem dX5_define_48 : decode cX5_define 48 = .ok (.iload_n 1, 1) := by decide +kernel
theorem dX5_define_49 : decode cX5_define 49 = .ok (.iload_n 2, 1) := by decide +kernel
theorem dX5_define_50 : decode cX5_define 50 = .ok (.invokevirtual 107, 3) := by decide +kernel
theorem dX5_define_53 : decode cX5_define 53 = .ok (.iconst (-1), 1) := by decide +kernel
theorem dX5_define_54 : decode cX5_define 54 = .ok (.if_icmp .ne 14, 3) := by decide +kernel
theorem dX5_define_57 : decode cX5_define 57 = .ok (.aload_n 0, 1) := by decide +kernel
theorem dX5_define_58 : decode cX5_define 58 = .ok (.getfield 28, 3) := by decide +kernel
theorem dX5_define_61 : decode cX5_define 61 = .ok (.iload_n 1, 1) := by decide +kernel
theorem dX5_define_62 : decode cX5_define 62 = .ok (.iaload, 1) := by decide +kernel
theorem dX5_define_63 : decode cX5_define 63 = .ok (.bipush 20, 2) := by decide +kernel
theorem dX5_define_65 : decode cX5_define 65 = .ok (.if_icmp .ne 5, 3) := by decide +kernel
theorem dX5_define_68 : decode cX5_define 68 = .ok (.iconst (-1), 1) := by decide +kernel
theorem dX5_define_69 : decode cX5_define 69 = .ok (.ireturn, 1) := by decide +kernel
theorem dX5_define_70 : decode cX5_define 70 = .ok (.bipush 20, 2) := by decide +kernel
theorem dX5_define_72 : decode cX5_define 72 = .ok (.iload_n 1, 1) := by decide +kernel
theorem dX5_define_73 : decode cX5_define 73 = .ok (.imul, 1) := by decide +kernel
theorem dX5_define_74 : decode cX5_define 74 = .ok (.aload_n 0, 1) := by decide +kernel
theorem dX5_define_75 : decode cX5_define 75 = .ok (.getfield 28, 3) := by decide +kernel
theorem dX5_define_78 : decode cX5_define 78 = .ok (.iload_n 1, 1) := by decide +kernel
theorem dX5_define_79 : decode cX5_define 79 = .ok (.iaload, 1) := by decide +kernel
theorem dX5_define_80 : decode cX5_define 80 = .ok (.iadd, 1) := by decide +kernel
theorem dX5_define_81 : decode cX5_define 81 = .ok (.istore 6, 2) := by decide +kernel
theorem dX5_define_83 : decode cX5_define 83 = .ok (.aload_n 0, 1) := by decide +kernel
theorem dX5_define_84 : decode cX5_define 84 = .ok (.getfield 16, 3) := by decide +kernel
theorem dX5_define_87 : decode cX5_define 87 = .ok (.iload 6, 2) := by decide +kernel
theorem dX5_define_89 : decode cX5_define 89 = .ok (.iload_n 2, 1) := by decide +kernel
theorem dX5_define_90 : decode cX5_define 90 = .ok (.iastore, 1) := by decide +kernel
theorem dX5_define_91 : decode cX5_define 91 = .ok (.aload_n 0, 1) := by decide +kernel
theorem dX5_define_92 : decode cX5_define 92 = .ok (.getfield 19, 3) := by decide +kernel
theorem dX5_define_95 : decode cX5_define 95 = .ok (.iload 6, 2) := by decide +kernel
theorem dX5_define_97 : decode cX5_define 97 = .ok (.iload_n 3, 1) := by decide +kernel
theorem dX5_define_98 : decode cX5_define 98 = .ok (.iastore, 1) := by decide +kernel
theorem dX5_define_99 : decode cX5_define 99 = .ok (.aload_n 0, 1) := by decide +kernel
theorem dX5_define_100 : decode cX5_define 100 = .ok (.getfield 22, 3) := by decide +kernel
theorem dX5_define_103 : decode cX5_define 103 = .ok (.iload 6, 2) := by decide +kernel
theorem dX5_define_105 : decode cX5_define 105 = .ok (.iload 4, 2) := by decide +kernel
theorem dX5_define_107 : decode cX5_define 107 = .ok (.iastore, 1) := by decide +kernel
theorem dX5_define_108 : decode cX5_define 108 = .ok (.aload_n 0, 1) := by decide +kernel
theorem dX5_define_109 : decode cX5_define 109 = .ok (.getfield 25, 3) := by decide +kernel
theorem dX5_define_112 : decode cX5_define 112 = .ok (.iload 6, 2) := by decide +kernel
theorem dX5_define_114 : decode cX5_define 114 = .ok (.iload 5, 2) := by decide +kernel
theorem dX5_define_116 : decode cX5_define 116 = .ok (.iastore, 1) := by decide +kernel
theorem dX5_define_117 : decode cX5_define 117 = .ok (.aload_n 0, 1) := by decide +kernel
theorem dX5_define_118 : decode cX5_define 118 = .ok (.getfield 28, 3) := by decide +kernel
theorem dX5_define_121 : decode cX5_define 121 = .ok (.iload_n 1, 1) := by decide +kernel
theorem dX5_define_122 : decode cX5_define 122 = .ok (.dup2, 1) := by decide +kernel
theorem dX5_define_123 : decode cX5_define 123 = .ok (.iaload, 1) := by decide +kernel
theorem dX5_define_124 : decode cX5_define 124 = .ok (.iconst 1, 1) := by decide +kernel
theorem dX5_define_125 : decode cX5_define 125 = .ok (.iadd, 1) := by decide +kernel
theorem dX5_define_126 : decode cX5_define 126 = .ok (.iastore, 1) := by decide +kernel
theorem dX5_define_127 : decode cX5_define 127 = .ok (.aload_n 0, 1) := by decide +kernel
theorem dX5_define_128 : decode cX5_define 128 = .ok (.iconst 0, 1) := by decide +kernel
theorem dX5_define_129 : decode cX5_define 129 = .ok (.putfield 97, 3) := by decide +kernel
theorem dX5_define_132 : decode cX5_define 132 = .ok (.aload_n 0, 1) := by decide +kernel
theorem dX5_define_133 : decode cX5_define 133 = .ok (.getfield 28, 3) := by decide +kernel
theorem dX5_define_136 : decode cX5_define 136 = .ok (.iload_n 1, 1) := by decide +kernel
theorem dX5_define_137 : decode cX5_define 137 = .ok (.iaload, 1) := by decide +kernel
theorem dX5_define_138 : decode cX5_define 138 = .ok (.ireturn, 1) := by decide +kernel
theorem dX5_optional_0 : decode cX5_optional 0 = .ok (.aload_n 0, 1) := by decide +kernel
theorem dX5_optional_1 : decode cX5_optional 1 = .ok (.iload_n 1, 1) := by decide +kernel
theorem dX5_optional_2 : decode cX5_optional 2 = .ok (.invokevirtual 93, 3) := by decide +kernel
theorem dX5_optional_5 : decode cX5_optional 5 = .ok (.ifCond .eq 24, 3) := by decide +kernel
theorem dX5_optional_8 : decode cX5_optional 8 = .ok (.iload_n 2, 1) := by decide +kernel
theorem dX5_optional_9 : decode cX5_optional 9 = .ok (.invokestatic 101, 3) := by decide +kernel
theorem dX5_optional_12 : decode cX5_optional 12 = .ok (.ifCond .eq 17, 3) := by decide +kernel
theorem dX5_optional_15 : decode cX5_optional 15 = .ok (.aload_n 0, 1) := by decide +kernel
theorem dX5_optional_16 : decode cX5_optional 16 = .ok (.getfield 37, 3) := by decide +kernel
theorem dX5_optional_19 : decode cX5_optional 19 = .ok (.bipush 64, 2) := by decide +kernel
theorem dX5_optional_21 : decode cX5_optional 21 = .ok (.iload_n 1, 1) := by decide +kernel
theorem dX5_optional_22 : decode cX5_optional 22 = .ok (.imul, 1) := by decide +kernel
theorem dX5_optional_23 : decode cX5_optional 23 = .ok (.iload_n 2, 1) := by decide +kernel
theorem dX5_optional_24 : decode cX5_optional 24 = .ok (.iadd, 1) := by decide +kernel
theorem dX5_optional_25 : decode cX5_optional 25 = .ok (.baload, 1) := by decide +kernel
theorem dX5_optional_26 : decode cX5_optional 26 = .ok (.ifCond .eq 5, 3) := by decide +kernel
theorem dX5_optional_29 : decode cX5_optional 29 = .ok (.iconst 0, 1) := by decide +kernel
theorem dX5_optional_30 : decode cX5_optional 30 = .ok (.ireturn, 1) := by decide +kernel
theorem dX5_optional_31 : decode cX5_optional 31 = .ok (.aload_n 0, 1) := by decide +kernel
theorem dX5_optional_32 : decode cX5_optional 32 = .ok (.getfield 37, 3) := by decide +kernel
theorem dX5_optional_35 : decode cX5_optional 35 = .ok (.bipush 64, 2) := by decide +kernel
theorem dX5_optional_37 : decode cX5_optional 37 = .ok (.iload_n 1, 1) := by decide +kernel
theorem dX5_optional_38 : decode cX5_optional 38 = .ok (.imul, 1) := by decide +kernel
theorem dX5_optional_39 : decode cX5_optional 39 = .ok (.iload_n 2, 1) := by decide +kernel
theorem dX5_optional_40 : decode cX5_optional 40 = .ok (.iadd, 1) := by decide +kernel
theorem dX5_optional_41 : decode cX5_optional 41 = .ok (.iconst 1, 1) := by decide +kernel
theorem dX5_optional_42 : decode cX5_optional 42 = .ok (.bastore, 1) := by decide +kernel
theorem dX5_optional_43 : decode cX5_optional 43 = .ok (.aload_n 0, 1) := by decide +kernel
theorem dX5_optional_44 : decode cX5_optional 44 = .ok (.iconst 0, 1) := by decide +kernel
theorem dX5_optional_45 : decode cX5_optional 45 = .ok (.putfield 97, 3) := by decide +kernel
theorem dX5_optional_48 : decode cX5_optional 48 = .ok (.iconst 1, 1) := by decide +kernel
theorem dX5_optional_49 : decode cX5_optional 49 = .ok (.ireturn, 1) := by decide +kernel
theorem dX5_beginner_0 : decode cX5_beginner 0 = .ok (.aload_n 0, 1) := by decide +kernel
theorem dX5_beginner_1 : decode cX5_beginner 1 = .ok (.iload_n 1, 1) := by decide +kernel
theorem dX5_beginner_2 : decode cX5_beginner 2 = .ok (.invokevirtual 93, 3) := by decide +kernel
theorem dX5_beginner_5 : decode cX5_beginner 5 = .ok (.ifCond .eq 15, 3) := by decide +kernel
theorem dX5_beginner_8 : decode cX5_beginner 8 = .ok (.iload_n 2, 1) := by decide +kernel
theorem dX5_beginner_9 : decode cX5_beginner 9 = .ok (.iconst (-1), 1) := by decide +kernel
theorem dX5_beginner_10 : decode cX5_beginner 10 = .ok (.if_icmp .eq 12, 3) := by decide +kernel
theorem dX5_beginner_13 : decode cX5_beginner 13 = .ok (.iload_n 2, 1) := by decide +kernel
theorem dX5_beginner_14 : decode cX5_beginner 14 = .ok (.invokestatic 101, 3) := by decide +kernel
theorem dX5_beginner_17 : decode cX5_beginner 17 = .ok (.ifCond .ne 5, 3) := by decide +kernel
theorem dX5_beginner_20 : decode cX5_beginner 20 = .ok (.iconst 0, 1) := by decide +kernel
theorem dX5_beginner_21 : decode cX5_beginner 21 = .ok (.ireturn, 1) := by decide +kernel
theorem dX5_beginner_22 : decode cX5_beginner 22 = .ok (.aload_n 0, 1) := by decide +kernel
theorem dX5_beginner_23 : decode cX5_beginner 23 = .ok (.getfield 41, 3) := by decide +kernel
theorem dX5_beginner_26 : decode cX5_beginner 26 = .ok (.iload_n 1, 1) := by decide +kernel
theorem dX5_beginner_27 : decode cX5_beginner 27 = .ok (.iload_n 2, 1) := by decide +kernel
theorem dX5_beginner_28 : decode cX5_beginner 28 = .ok (.iastore, 1) := by decide +kernel
theorem dX5_beginner_29 : decode cX5_beginner 29 = .ok (.aload_n 0, 1) := by decide +kernel
theorem dX5_beginner_30 : decode cX5_beginner 30 = .ok (.iconst 0, 1) := by decide +kernel
theorem dX5_beginner_31 : decode cX5_beginner 31 = .ok (.putfield 97, 3) := by decide +kernel
theorem dX5_beginner_34 : decode cX5_beginner 34 = .ok (.iconst 1, 1) := by decide +kernel
theorem dX5_beginner_35 : decode cX5_beginner 35 = .ok (.ireturn, 1) := by decide +kernel
theorem dX5_isGood_0 : decode cX5_isGood 0 = .ok (.iload_n 0, 1) := by decide +kernel
theorem dX5_isGood_1 : decode cX5_isGood 1 = .ok (.tableswitch 200 0 13 #[71, 76, 96, 96, 96, 123, 150, 155, 160, 180, 160, 71, 200, 71], 71) := by decide +kernel
theorem dX5_isGood_72 : decode cX5_isGood 72 = .ok (.iload_n 1, 1) := by decide +kernel
theorem dX5_isGood_73 : decode cX5_isGood 73 = .ok (.invokestatic 111, 3) := by decide +kernel
theorem dX5_isGood_76 : decode cX5_isGood 76 = .ok (.ireturn, 1) := by decide +kernel
theorem dX5_isGood_77 : decode cX5_isGood 77 = .ok (.iload_n 1, 1) := by decide +kernel
theorem dX5_isGood_78 : decode cX5_isGood 78 = .ok (.invokestatic 111, 3) := by decide +kernel
theorem dX5_isGood_81 : decode cX5_isGood 81 = .ok (.ifCond .eq 14, 3) := by decide +kernel
theorem dX5_isGood_84 : decode cX5_isGood 84 = .ok (.iload_n 2, 1) := by decide +kernel
theorem dX5_isGood_85 : decode cX5_isGood 85 = .ok (.invokestatic 111, 3) := by decide +kernel
theorem dX5_isGood_88 : decode cX5_isGood 88 = .ok (.ifCond .eq 7, 3) := by decide +kernel
theorem dX5_isGood_91 : decode cX5_isGood 91 = .ok (.iconst 1, 1) := by decide +kernel
theorem dX5_isGood_92 : decode cX5_isGood 92 = .ok (.goto 4, 3) := by decide +kernel
theorem dX5_isGood_95 : decode cX5_isGood 95 = .ok (.iconst 0, 1) := by decide +kernel
theorem dX5_isGood_96 : decode cX5_isGood 96 = .ok (.ireturn, 1) := by decide +kernel
theorem dX5_isGood_97 : decode cX5_isGood 97 = .ok (.iload_n 1, 1) := by decide +kernel
theorem dX5_isGood_98 : decode cX5_isGood 98 = .ok (.invokestatic 111, 3) := by decide +kernel
theorem dX5_isGood_101 : decode cX5_isGood 101 = .ok (.ifCond .eq 21, 3) := by decide +kernel
theorem dX5_isGood_104 : decode cX5_isGood 104 = .ok (.iload_n 2, 1) := by decide +kernel
theorem dX5_isGood_105 : decode cX5_isGood 105 = .ok (.invokestatic 111, 3) := by decide +kernel
theorem dX5_isGood_108 : decode cX5_isGood 108 = .ok (.ifCond .eq 14, 3) := by decide +kernel
theorem dX5_isGood_111 : decode cX5_isGood 111 = .ok (.iload_n 3, 1) := by decide +kernel
theorem dX5_isGood_112 : decode cX5_isGood 112 = .ok (.invokestatic 111, 3) := by decide +kernel
theorem dX5_isGood_115 : decode cX5_isGood 115 = .ok (.ifCond .eq 7, 3) := by decide +kernel
theorem dX5_isGood_118 : decode cX5_isGood 118 = .ok (.iconst 1, 1) := by decide +kernel
theorem dX5_isGood_119 : decode cX5_isGood 119 = .ok (.goto 4, 3) := by decide +kernel
theorem dX5_isGood_122 : decode cX5_isGood 122 = .ok (.iconst 0, 1) := by decide +kernel
theorem dX5_isGood_123 : decode cX5_isGood 123 = .ok (.ireturn, 1) := by decide +kernel
theorem dX5_isGood_124 : decode cX5_isGood 124 = .ok (.iload_n 1, 1) := by decide +kernel
theorem dX5_isGood_125 : decode cX5_isGood 125 = .ok (.invokestatic 111, 3) := by decide +kernel
theorem dX5_isGood_128 : decode cX5_isGood 128 = .ok (.ifCond .eq 21, 3) := by decide +kernel
theorem dX5_isGood_131 : decode cX5_isGood 131 = .ok (.iload_n 2, 1) := by decide +kernel
theorem dX5_isGood_132 : decode cX5_isGood 132 = .ok (.invokestatic 111, 3) := by decide +kernel
theorem dX5_isGood_135 : decode cX5_isGood 135 = .ok (.ifCond .eq 14, 3) := by decide +kernel
theorem dX5_isGood_138 : decode cX5_isGood 138 = .ok (.iload_n 3, 1) := by decide +kernel
theorem dX5_isGood_139 : decode cX5_isGood 139 = .ok (.invokestatic 104, 3) := by decide +kernel
theorem dX5_isGood_142 : decode cX5_isGood 142 = .ok (.ifCond .eq 7, 3) := by decide +kernel
theorem dX5_isGood_145 : decode cX5_isGood 145 = .ok (.iconst 1, 1) := by decide +kernel
theorem dX5_isGood_146 : decode cX5_isGood 146 = .ok (.goto 4, 3) := by decide +kernel
theorem dX5_isGood_149 : decode cX5_isGood 149 = .ok (.iconst 0, 1) := by decide +kernel
theorem dX5_isGood_150 : decode cX5_isGood 150 = .ok (.ireturn, 1) := by decide +kernel
theorem dX5_isGood_151 : decode cX5_isGood 151 = .ok (.iload_n 1, 1) := by decide +kernel
theorem dX5_isGood_152 : decode cX5_isGood 152 = .ok (.invokestatic 104, 3) := by decide +kernel
theorem dX5_isGood_155 : decode cX5_isGood 155 = .ok (.ireturn, 1) := by decide +kernel
theorem dX5_isGood_156 : decode cX5_isGood 156 = .ok (.iload_n 1, 1) := by decide +kernel
theorem dX5_isGood_157 : decode cX5_isGood 157 = .ok (.invokestatic 101, 3) := by decide +kernel
theorem dX5_isGood_160 : decode cX5_isGood 160 = .ok (.ireturn, 1) := by decide +kernel
theorem dX5_isGood_161 : decode cX5_isGood 161 = .ok (.iload_n 1, 1) := by decide +kernel
theorem dX5_isGood_162 : decode cX5_isGood 162 = .ok (.invokestatic 111, 3) := by decide +kernel
theorem dX5_isGood_165 : decode cX5_isGood 165 = .ok (.ifCond .eq 14, 3) := by decide +kernel
theorem dX5_isGood_168 : decode cX5_isGood 168 = .ok (.iload_n 2, 1) := by decide +kernel
theorem dX5_isGood_169 : decode cX5_isGood 169 = .ok (.invokestatic 101, 3) := by decide +kernel
theorem dX5_isGood_172 : decode cX5_isGood 172 = .ok (.ifCond .eq 7, 3) := by decide +kernel
theorem dX5_isGood_175 : decode cX5_isGood 175 = .ok (.iconst 1, 1) := by decide +kernel
theorem dX5_isGood_176 : decode cX5_isGood 176 = .ok (.goto 4, 3) := by decide +kernel
theorem dX5_isGood_179 : decode cX5_isGood 179 = .ok (.iconst 0, 1) := by decide +kernel
theorem dX5_isGood_180 : decode cX5_isGood 180 = .ok (.ireturn, 1) := by decide +kernel
theorem dX5_isGood_181 : decode cX5_isGood 181 = .ok (.iload_n 1, 1) := by decide +kernel
theorem dX5_isGood_182 : decode cX5_isGood 182 = .ok (.invokestatic 101, 3) := by decide +kernel
theorem dX5_isGood_185 : decode cX5_isGood 185 = .ok (.ifCond .eq 14, 3) := by decide +kernel
theorem dX5_isGood_188 : decode cX5_isGood 188 = .ok (.iload_n 2, 1) := by decide +kernel
theorem dX5_isGood_189 : decode cX5_isGood 189 = .ok (.invokestatic 111, 3) := by decide +kernel
theorem dX5_isGood_192 : decode cX5_isGood 192 = .ok (.ifCond .eq 7, 3) := by decide +kernel
theorem dX5_isGood_195 : decode cX5_isGood 195 = .ok (.iconst 1, 1) := by decide +kernel
theorem dX5_isGood_196 : decode cX5_isGood 196 = .ok (.goto 4, 3) := by decide +kernel
theorem dX5_isGood_199 : decode cX5_isGood 199 = .ok (.iconst 0, 1) := by decide +kernel
theorem dX5_isGood_200 : decode cX5_isGood 200 = .ok (.ireturn, 1) := by decide +kernel
theorem dX5_isGood_201 : decode cX5_isGood 201 = .ok (.iload_n 0, 1) := by decide +kernel
theorem dX5_isGood_202 : decode cX5_isGood 202 = .ok (.bipush 12, 2) := by decide +kernel
theorem dX5_isGood_204 : decode cX5_isGood 204 = .ok (.if_icmp .eq 9, 3) := by decide +kernel
theorem dX5_isGood_207 : decode cX5_isGood 207 = .ok (.iload_n 0, 1) := by decide +kernel
theorem dX5_isGood_208 : decode cX5_isGood 208 = .ok (.bipush 14, 2) := by decide +kernel
theorem dX5_isGood_210 : decode cX5_isGood 210 = .ok (.if_icmp .ne 7, 3) := by decide +kernel
theorem dX5_isGood_213 : decode cX5_isGood 213 = .ok (.iconst 1, 1) := by decide +kernel
theorem dX5_isGood_214 : decode cX5_isGood 214 = .ok (.goto 4, 3) := by decide +kernel
theorem dX5_isGood_217 : decode cX5_isGood 217 = .ok (.iconst 0, 1) := by decide +kernel
theorem dX5_isGood_218 : decode cX5_isGood 218 = .ok (.ireturn, 1) := by decide +kernel
theorem dX5_put_0 : decode cX5_put 0 = .ok (.aload_n 0, 1) := by decide +kernel
theorem dX5_put_1 : decode cX5_put 1 = .ok (.iload_n 1, 1) := by decide +kernel
theorem dX5_put_2 : decode cX5_put 2 = .ok (.invokevirtual 93, 3) := by decide +kernel
theorem dX5_put_5 : decode cX5_put 5 = .ok (.ifCond .eq 26, 3) := by decide +kernel
theorem dX5_put_8 : decode cX5_put 8 = .ok (.iload_n 2, 1) := by decide +kernel
theorem dX5_put_9 : decode cX5_put 9 = .ok (.iload_n 3, 1) := by decide +kernel
theorem dX5_put_10 : decode cX5_put 10 = .ok (.iload 4, 2) := by decide +kernel
theorem dX5_put_12 : decode cX5_put 12 = .ok (.iload 5, 2) := by decide +kernel
theorem dX5_put_14 : decode cX5_put 14 = .ok (.invokestatic 114, 3) := by decide +kernel
theorem dX5_put_17 : decode cX5_put 17 = .ok (.ifCond .eq 14, 3) := by decide +kernel
theorem dX5_put_20 : decode cX5_put 20 = .ok (.aload_n 0, 1) := by decide +kernel
theorem dX5_put_21 : decode cX5_put 21 = .ok (.getfield 34, 3) := by decide +kernel
theorem dX5_put_24 : decode cX5_put 24 = .ok (.iload_n 1, 1) := by decide +kernel
theorem dX5_put_25 : decode cX5_put 25 = .ok (.iaload, 1) := by decide +kernel
theorem dX5_put_26 : decode cX5_put 26 = .ok (.bipush 100, 2) := by decide +kernel
theorem dX5_put_28 : decode cX5_put 28 = .ok (.if_icmp .ne 5, 3) := by decide +kernel
theorem dX5_put_31 : decode cX5_put 31 = .ok (.iconst (-1), 1) := by decide +kernel
theorem dX5_put_32 : decode cX5_put 32 = .ok (.ireturn, 1) := by decide +kernel
theorem dX5_put_33 : decode cX5_put 33 = .ok (.iconst 4, 1) := by decide +kernel
theorem dX5_put_34 : decode cX5_put 34 = .ok (.bipush 100, 2) := by decide +kernel
theorem dX5_put_36 : decode cX5_put 36 = .ok (.iload_n 1, 1) := by decide +kernel
theorem dX5_put_37 : decode cX5_put 37 = .ok (.imul, 1) := by decide +kernel
theorem dX5_put_38 : decode cX5_put 38 = .ok (.aload_n 0, 1) := by decide +kernel
theorem dX5_put_39 : decode cX5_put 39 = .ok (.getfield 34, 3) := by decide +kernel
theorem dX5_put_42 : decode cX5_put 42 = .ok (.iload_n 1, 1) := by decide +kernel
theorem dX5_put_43 : decode cX5_put 43 = .ok (.iaload, 1) := by decide +kernel
theorem dX5_put_44 : decode cX5_put 44 = .ok (.iadd, 1) := by decide +kernel
theorem dX5_put_45 : decode cX5_put 45 = .ok (.imul, 1) := by decide +kernel
theorem dX5_put_46 : decode cX5_put 46 = .ok (.istore 6, 2) := by decide +kernel
theorem dX5_put_48 : decode cX5_put 48 = .ok (.aload_n 0, 1) := by decide +kernel
theorem dX5_put_49 : decode cX5_put 49 = .ok (.getfield 31, 3) := by decide +kernel
theorem dX5_put_52 : decode cX5_put 52 = .ok (.iload 6, 2) := by decide +kernel
theorem dX5_put_54 : decode cX5_put 54 = .ok (.iload_n 2, 1) := by decide +kernel
theorem dX5_put_55 : decode cX5_put 55 = .ok (.iastore, 1) := by decide +kernel
theorem dX5_put_56 : decode cX5_put 56 = .ok (.aload_n 0, 1) := by decide +kernel
theorem dX5_put_57 : decode cX5_put 57 = .ok (.getfield 31, 3) := by decide +kernel
theorem dX5_put_60 : decode cX5_put 60 = .ok (.iload 6, 2) := by decide +kernel
theorem dX5_put_62 : decode cX5_put 62 = .ok (.iconst 1, 1) := by decide +kernel
theorem dX5_put_63 : decode cX5_put 63 = .ok (.iadd, 1) := by decide +kernel
theorem dX5_put_64 : decode cX5_put 64 = .ok (.iload_n 3, 1) := by decide +kernel
theorem dX5_put_65 : decode cX5_put 65 = .ok (.iastore, 1) := by decide +kernel
theorem dX5_put_66 : decode cX5_put 66 = .ok (.aload_n 0, 1) := by decide +kernel
theorem dX5_put_67 : decode cX5_put 67 = .ok (.getfield 31, 3) := by decide +kernel
theorem dX5_put_70 : decode cX5_put 70 = .ok (.iload 6, 2) := by decide +kernel
theorem dX5_put_72 : decode cX5_put 72 = .ok (.iconst 2, 1) := by decide +kernel
theorem dX5_put_73 : decode cX5_put 73 = .ok (.iadd, 1) := by decide +kernel
theorem dX5_put_74 : decode cX5_put 74 = .ok (.iload 4, 2) := by decide +kernel
theorem dX5_put_76 : decode cX5_put 76 = .ok (.iastore, 1) := by decide +kernel
theorem dX5_put_77 : decode cX5_put 77 = .ok (.aload_n 0, 1) := by decide +kernel
theorem dX5_put_78 : decode cX5_put 78 = .ok (.getfield 31, 3) := by decide +kernel
theorem dX5_put_81 : decode cX5_put 81 = .ok (.iload 6, 2) := by decide +kernel
theorem dX5_put_83 : decode cX5_put 83 = .ok (.iconst 3, 1) := by decide +kernel
theorem dX5_put_84 : decode cX5_put 84 = .ok (.iadd, 1) := by decide +kernel
theorem dX5_put_85 : decode cX5_put 85 = .ok (.iload 5, 2) := by decide +kernel
theorem dX5_put_87 : decode cX5_put 87 = .ok (.iastore, 1) := by decide +kernel
theorem dX5_put_88 : decode cX5_put 88 = .ok (.aload_n 0, 1) := by decide +kernel
theorem dX5_put_89 : decode cX5_put 89 = .ok (.getfield 34, 3) := by decide +kernel
theorem dX5_put_92 : decode cX5_put 92 = .ok (.iload_n 1, 1) := by decide +kernel
theorem dX5_put_93 : decode cX5_put 93 = .ok (.dup2, 1) := by decide +kernel
theorem dX5_put_94 : decode cX5_put 94 = .ok (.iaload, 1) := by decide +kernel
theorem dX5_put_95 : decode cX5_put 95 = .ok (.iconst 1, 1) := by decide +kernel
theorem dX5_put_96 : decode cX5_put 96 = .ok (.iadd, 1) := by decide +kernel
theorem dX5_put_97 : decode cX5_put 97 = .ok (.iastore, 1) := by decide +kernel
theorem dX5_put_98 : decode cX5_put 98 = .ok (.aload_n 0, 1) := by decide +kernel
theorem dX5_put_99 : decode cX5_put 99 = .ok (.iconst 0, 1) := by decide +kernel
theorem dX5_put_100 : decode cX5_put 100 = .ok (.putfield 97, 3) := by decide +kernel
theorem dX5_put_103 : decode cX5_put 103 = .ok (.aload_n 0, 1) := by decide +kernel
theorem dX5_put_104 : decode cX5_put 104 = .ok (.getfield 34, 3) := by decide +kernel
theorem dX5_put_107 : decode cX5_put 107 = .ok (.iload_n 1, 1) := by decide +kernel
theorem dX5_put_108 : decode cX5_put 108 = .ok (.iaload, 1) := by decide +kernel
theorem dX5_put_109 : decode cX5_put 109 = .ok (.iconst 1, 1) := by decide +kernel
theorem dX5_put_110 : decode cX5_put 110 = .ok (.isub, 1) := by decide +kernel
theorem dX5_put_111 : decode cX5_put 111 = .ok (.ireturn, 1) := by decide +kernel
theorem dX5_find_0 : decode cX5_find 0 = .ok (.aload_n 0, 1) := by decide +kernel
theorem dX5_find_1 : decode cX5_find 1 = .ok (.iload_n 3, 1) := by decide +kernel
theorem dX5_find_2 : decode cX5_find 2 = .ok (.iload 4, 2) := by decide +kernel
theorem dX5_find_4 : decode cX5_find 4 = .ok (.invokevirtual 107, 3) := by decide +kernel
theorem dX5_find_7 : decode cX5_find 7 = .ok (.istore 5, 2) := by decide +kernel
theorem dX5_find_9 : decode cX5_find 9 = .ok (.iload 5, 2) := by decide +kernel
theorem dX5_find_11 : decode cX5_find 11 = .ok (.iconst (-1), 1) := by decide +kernel
theorem dX5_find_12 : decode cX5_find 12 = .ok (.if_icmp .eq 19, 3) := by decide +kernel
theorem dX5_find_15 : decode cX5_find 15 = .ok (.aload_n 0, 1) := by decide +kernel
theorem dX5_find_16 : decode cX5_find 16 = .ok (.getfield 25, 3) := by decide +kernel
theorem dX5_find_19 : decode cX5_find 19 = .ok (.iload 5, 2) := by decide +kernel
theorem dX5_find_21 : decode cX5_find 21 = .ok (.iaload, 1) := by decide +kernel
theorem dX5_find_22 : decode cX5_find 22 = .ok (.bipush 6, 2) := by decide +kernel
theorem dX5_find_24 : decode cX5_find 24 = .ok (.iand, 1) := by decide +kernel
theorem dX5_find_25 : decode cX5_find 25 = .ok (.ifCond .eq 6, 3) := by decide +kernel
theorem dX5_find_28 : decode cX5_find 28 = .ok (.iload 5, 2) := by decide +kernel
theorem dX5_find_30 : decode cX5_find 30 = .ok (.ireturn, 1) := by decide +kernel
theorem dX5_find_31 : decode cX5_find 31 = .ok (.iconst (-1), 1) := by decide +kernel
theorem dX5_find_32 : decode cX5_find 32 = .ok (.istore 6, 2) := by decide +kernel
theorem dX5_find_34 : decode cX5_find 34 = .ok (.iconst 0, 1) := by decide +kernel
theorem dX5_find_35 : decode cX5_find 35 = .ok (.istore 7, 2) := by decide +kernel
theorem dX5_find_37 : decode cX5_find 37 = .ok (.iload 7, 2) := by decide +kernel
theorem dX5_find_39 : decode cX5_find 39 = .ok (.iload_n 2, 1) := by decide +kernel
theorem dX5_find_40 : decode cX5_find 40 = .ok (.if_icmp .ge 69, 3) := by decide +kernel
theorem dX5_find_43 : decode cX5_find 43 = .ok (.aload_n 0, 1) := by decide +kernel
theorem dX5_find_44 : decode cX5_find 44 = .ok (.aload_n 1, 1) := by decide +kernel
theorem dX5_find_45 : decode cX5_find 45 = .ok (.iload 7, 2) := by decide +kernel
theorem dX5_find_47 : decode cX5_find 47 = .ok (.iaload, 1) := by decide +kernel
theorem dX5_find_48 : decode cX5_find 48 = .ok (.iload 4, 2) := by decide +kernel
theorem dX5_find_50 : decode cX5_find 50 = .ok (.invokevirtual 107, 3) := by decide +kernel
theorem dX5_find_53 : decode cX5_find 53 = .ok (.istore 8, 2) := by decide +kernel
theorem dX5_find_55 : decode cX5_find 55 = .ok (.iload 8, 2) := by decide +kernel
theorem dX5_find_57 : decode cX5_find 57 = .ok (.iconst (-1), 1) := by decide +kernel
theorem dX5_find_58 : decode cX5_find 58 = .ok (.if_icmp .eq 45, 3) := by decide +kernel
theorem dX5_find_61 : decode cX5_find 61 = .ok (.aload_n 0, 1) := by decide +kernel
theorem dX5_find_62 : decode cX5_find 62 = .ok (.getfield 25, 3) := by decide +kernel
theorem dX5_find_65 : decode cX5_find 65 = .ok (.iload 8, 2) := by decide +kernel
theorem dX5_find_67 : decode cX5_find 67 = .ok (.iaload, 1) := by decide +kernel
theorem dX5_find_68 : decode cX5_find 68 = .ok (.iconst 4, 1) := by decide +kernel
theorem dX5_find_69 : decode cX5_find 69 = .ok (.iand, 1) := by decide +kernel
theorem dX5_find_70 : decode cX5_find 70 = .ok (.ifCond .ne 33, 3) := by decide +kernel
theorem dX5_find_73 : decode cX5_find 73 = .ok (.aload_n 0, 1) := by decide +kernel
theorem dX5_find_74 : decode cX5_find 74 = .ok (.getfield 25, 3) := by decide +kernel
theorem dX5_find_77 : decode cX5_find 77 = .ok (.iload 8, 2) := by decide +kernel
theorem dX5_find_79 : decode cX5_find 79 = .ok (.iaload, 1) := by decide +kernel
theorem dX5_find_80 : decode cX5_find 80 = .ok (.iconst 1, 1) := by decide +kernel
theorem dX5_find_81 : decode cX5_find 81 = .ok (.iand, 1) := by decide +kernel
theorem dX5_find_82 : decode cX5_find 82 = .ok (.ifCond .ne 6, 3) := by decide +kernel
theorem dX5_find_85 : decode cX5_find 85 = .ok (.iload 8, 2) := by decide +kernel
theorem dX5_find_87 : decode cX5_find 87 = .ok (.ireturn, 1) := by decide +kernel
theorem dX5_find_88 : decode cX5_find 88 = .ok (.iload 6, 2) := by decide +kernel
theorem dX5_find_90 : decode cX5_find 90 = .ok (.iconst (-1), 1) := by decide +kernel
theorem dX5_find_91 : decode cX5_find 91 = .ok (.if_icmp .ne 8, 3) := by decide +kernel
theorem dX5_find_94 : decode cX5_find 94 = .ok (.iload 8, 2) := by decide +kernel
theorem dX5_find_96 : decode cX5_find 96 = .ok (.goto 5, 3) := by decide +kernel
theorem dX5_find_99 : decode cX5_find 99 = .ok (.iload 6, 2) := by decide +kernel
theorem dX5_find_101 : decode cX5_find 101 = .ok (.istore 6, 2) := by decide +kernel
theorem dX5_find_103 : decode cX5_find 103 = .ok (.iinc 7 1, 3) := by decide +kernel
theorem dX5_find_106 : decode cX5_find 106 = .ok (.goto (-69), 3) := by decide +kernel
theorem dX5_find_109 : decode cX5_find 109 = .ok (.iload 6, 2) := by decide +kernel
theorem dX5_find_111 : decode cX5_find 111 = .ok (.ireturn, 1) := by decide +kernel
theorem dX5_findOrder_0 : decode cX5_findOrder 0 = .ok (.iconst 0, 1) := by decide +kernel
theorem dX5_findOrder_1 : decode cX5_findOrder 1 = .ok (.istore_n 2, 1) := by decide +kernel
theorem dX5_findOrder_2 : decode cX5_findOrder 2 = .ok (.iload_n 2, 1) := by decide +kernel
theorem dX5_findOrder_3 : decode cX5_findOrder 3 = .ok (.bipush 12, 2) := by decide +kernel
theorem dX5_findOrder_5 : decode cX5_findOrder 5 = .ok (.if_icmp .ge 25, 3) := by decide +kernel
theorem dX5_findOrder_8 : decode cX5_findOrder 8 = .ok (.aload_n 0, 1) := by decide +kernel
theorem dX5_findOrder_9 : decode cX5_findOrder 9 = .ok (.getfield 59, 3) := by decide +kernel
theorem dX5_findOrder_12 : decode cX5_findOrder 12 = .ok (.iload_n 2, 1) := by decide +kernel
theorem dX5_findOrder_13 : decode cX5_findOrder 13 = .ok (.iload_n 2, 1) := by decide +kernel
theorem dX5_findOrder_14 : decode cX5_findOrder 14 = .ok (.iload_n 1, 1) := by decide +kernel
theorem dX5_findOrder_15 : decode cX5_findOrder 15 = .ok (.if_icmp .ne 7, 3) := by decide +kernel
theorem dX5_findOrder_18 : decode cX5_findOrder 18 = .ok (.iconst 1, 1) := by decide +kernel
theorem dX5_findOrder_19 : decode cX5_findOrder 19 = .ok (.goto 4, 3) := by decide +kernel
theorem dX5_findOrder_22 : decode cX5_findOrder 22 = .ok (.iconst 0, 1) := by decide +kernel
theorem dX5_findOrder_23 : decode cX5_findOrder 23 = .ok (.bastore, 1) := by decide +kernel
theorem dX5_findOrder_24 : decode cX5_findOrder 24 = .ok (.iinc 2 1, 3) := by decide +kernel
theorem dX5_findOrder_27 : decode cX5_findOrder 27 = .ok (.goto (-25), 3) := by decide +kernel
theorem dX5_findOrder_30 : decode cX5_findOrder 30 = .ok (.aload_n 0, 1) := by decide +kernel
theorem dX5_findOrder_31 : decode cX5_findOrder 31 = .ok (.getfield 56, 3) := by decide +kernel
theorem dX5_findOrder_34 : decode cX5_findOrder 34 = .ok (.iconst 0, 1) := by decide +kernel
theorem dX5_findOrder_35 : decode cX5_findOrder 35 = .ok (.iload_n 1, 1) := by decide +kernel
theorem dX5_findOrder_36 : decode cX5_findOrder 36 = .ok (.iastore, 1) := by decide +kernel
theorem dX5_findOrder_37 : decode cX5_findOrder 37 = .ok (.aload_n 0, 1) := by decide +kernel
theorem dX5_findOrder_38 : decode cX5_findOrder 38 = .ok (.iconst 1, 1) := by decide +kernel
theorem dX5_findOrder_39 : decode cX5_findOrder 39 = .ok (.putfield 118, 3) := by decide +kernel
theorem dX5_findOrder_42 : decode cX5_findOrder 42 = .ok (.iconst 0, 1) := by decide +kernel
theorem dX5_findOrder_43 : decode cX5_findOrder 43 = .ok (.istore_n 2, 1) := by decide +kernel
theorem dX5_findOrder_44 : decode cX5_findOrder 44 = .ok (.iload_n 2, 1) := by decide +kernel
theorem dX5_findOrder_45 : decode cX5_findOrder 45 = .ok (.aload_n 0, 1) := by decide +kernel
theorem dX5_findOrder_46 : decode cX5_findOrder 46 = .ok (.getfield 118, 3) := by decide +kernel
theorem dX5_findOrder_49 : decode cX5_findOrder 49 = .ok (.if_icmp .ge 89, 3) := by decide +kernel
theorem dX5_findOrder_52 : decode cX5_findOrder 52 = .ok (.aload_n 0, 1) := by decide +kernel
theorem dX5_findOrder_53 : decode cX5_findOrder 53 = .ok (.getfield 56, 3) := by decide +kernel
theorem dX5_findOrder_56 : decode cX5_findOrder 56 = .ok (.iload_n 2, 1) := by decide +kernel
theorem dX5_findOrder_57 : decode cX5_findOrder 57 = .ok (.iaload, 1) := by decide +kernel
theorem dX5_findOrder_58 : decode cX5_findOrder 58 = .ok (.istore_n 3, 1) := by decide +kernel
theorem dX5_findOrder_59 : decode cX5_findOrder 59 = .ok (.iconst 0, 1) := by decide +kernel
theorem dX5_findOrder_60 : decode cX5_findOrder 60 = .ok (.istore 4, 2) := by decide +kernel
theorem dX5_findOrder_62 : decode cX5_findOrder 62 = .ok (.iload 4, 2) := by decide +kernel
theorem dX5_findOrder_64 : decode cX5_findOrder 64 = .ok (.aload_n 0, 1) := by decide +kernel
theorem dX5_findOrder_65 : decode cX5_findOrder 65 = .ok (.getfield 13, 3) := by decide +kernel
theorem dX5_findOrder_68 : decode cX5_findOrder 68 = .ok (.iload_n 3, 1) := by decide +kernel
theorem dX5_findOrder_69 : decode cX5_findOrder 69 = .ok (.iaload, 1) := by decide +kernel
theorem dX5_findOrder_70 : decode cX5_findOrder 70 = .ok (.if_icmp .ge 62, 3) := by decide +kernel
theorem dX5_findOrder_73 : decode cX5_findOrder 73 = .ok (.aload_n 0, 1) := by decide +kernel
theorem dX5_findOrder_74 : decode cX5_findOrder 74 = .ok (.getfield 7, 3) := by decide +kernel
theorem dX5_findOrder_77 : decode cX5_findOrder 77 = .ok (.bipush 6, 2) := by decide +kernel
theorem dX5_findOrder_79 : decode cX5_findOrder 79 = .ok (.iload_n 3, 1) := by decide +kernel
theorem dX5_findOrder_80 : decode cX5_findOrder 80 = .ok (.imul, 1) := by decide +kernel
theorem dX5_findOrder_81 : decode cX5_findOrder 81 = .ok (.iload 4, 2) := by decide +kernel
theorem dX5_findOrder_83 : decode cX5_findOrder 83 = .ok (.iadd, 1) := by decide +kernel
theorem dX5_findOrder_84 : decode cX5_findOrder 84 = .ok (.iaload, 1) := by decide +kernel
theorem dX5_findOrder_85 : decode cX5_findOrder 85 = .ok (.istore 5, 2) := by decide +kernel
theorem dX5_findOrder_87 : decode cX5_findOrder 87 = .ok (.aload_n 0, 1) := by decide +kernel
theorem dX5_findOrder_88 : decode cX5_findOrder 88 = .ok (.getfield 59, 3) := by decide +kernel
theorem dX5_findOrder_91 : decode cX5_findOrder 91 = .ok (.iload 5, 2) := by decide +kernel
theorem dX5_findOrder_93 : decode cX5_findOrder 93 = .ok (.baload, 1) := by decide +kernel
theorem dX5_findOrder_94 : decode cX5_findOrder 94 = .ok (.ifCond .ne 32, 3) := by decide +kernel
theorem dX5_findOrder_97 : decode cX5_findOrder 97 = .ok (.aload_n 0, 1) := by decide +kernel
theorem dX5_findOrder_98 : decode cX5_findOrder 98 = .ok (.getfield 59, 3) := by decide +kernel
theorem dX5_findOrder_101 : decode cX5_findOrder 101 = .ok (.iload 5, 2) := by decide +kernel
theorem dX5_findOrder_103 : decode cX5_findOrder 103 = .ok (.iconst 1, 1) := by decide +kernel
theorem dX5_findOrder_104 : decode cX5_findOrder 104 = .ok (.bastore, 1) := by decide +kernel
theorem dX5_findOrder_105 : decode cX5_findOrder 105 = .ok (.aload_n 0, 1) := by decide +kernel
theorem dX5_findOrder_106 : decode cX5_findOrder 106 = .ok (.getfield 56, 3) := by decide +kernel
theorem dX5_findOrder_109 : decode cX5_findOrder 109 = .ok (.aload_n 0, 1) := by decide +kernel
theorem dX5_findOrder_110 : decode cX5_findOrder 110 = .ok (.getfield 118, 3) := by decide +kernel
theorem dX5_findOrder_113 : decode cX5_findOrder 113 = .ok (.iload 5, 2) := by decide +kernel
theorem dX5_findOrder_115 : decode cX5_findOrder 115 = .ok (.iastore, 1) := by decide +kernel
theorem dX5_findOrder_116 : decode cX5_findOrder 116 = .ok (.aload_n 0, 1) := by decide +kernel
theorem dX5_findOrder_117 : decode cX5_findOrder 117 = .ok (.dup, 1) := by decide +kernel
theorem dX5_findOrder_118 : decode cX5_findOrder 118 = .ok (.getfield 118, 3) := by decide +kernel
theorem dX5_findOrder_121 : decode cX5_findOrder 121 = .ok (.iconst 1, 1) := by decide +kernel
theorem dX5_findOrder_122 : decode cX5_findOrder 122 = .ok (.iadd, 1) := by decide +kernel
theorem dX5_findOrder_123 : decode cX5_findOrder 123 = .ok (.putfield 118, 3) := by decide +kernel
theorem dX5_findOrder_126 : decode cX5_findOrder 126 = .ok (.iinc 4 1, 3) := by decide +kernel
theorem dX5_findOrder_129 : decode cX5_findOrder 129 = .ok (.goto (-67), 3) := by decide +kernel
theorem dX5_findOrder_132 : decode cX5_findOrder 132 = .ok (.iinc 2 1, 3) := by decide +kernel
theorem dX5_findOrder_135 : decode cX5_findOrder 135 = .ok (.goto (-91), 3) := by decide +kernel
theorem dX5_findOrder_138 : decode cX5_findOrder 138 = .ok (.return_, 1) := by decide +kernel
theorem dX5_look_0 : decode cX5_look 0 = .ok (.aload_n 0, 1) := by decide +kernel
theorem dX5_look_1 : decode cX5_look 1 = .ok (.aload_n 0, 1) := by decide +kernel
theorem dX5_look_2 : decode cX5_look 2 = .ok (.getfield 56, 3) := by decide +kernel
theorem dX5_look_5 : decode cX5_look 5 = .ok (.aload_n 0, 1) := by decide +kernel
theorem dX5_look_6 : decode cX5_look 6 = .ok (.getfield 118, 3) := by decide +kernel
theorem dX5_look_9 : decode cX5_look 9 = .ok (.iload_n 1, 1) := by decide +kernel
theorem dX5_look_10 : decode cX5_look 10 = .ok (.iload_n 3, 1) := by decide +kernel
theorem dX5_look_11 : decode cX5_look 11 = .ok (.invokevirtual 121, 3) := by decide +kernel
theorem dX5_look_14 : decode cX5_look 14 = .ok (.istore 5, 2) := by decide +kernel
theorem dX5_look_16 : decode cX5_look 16 = .ok (.iload 5, 2) := by decide +kernel
theorem dX5_look_18 : decode cX5_look 18 = .ok (.iconst (-1), 1) := by decide +kernel
theorem dX5_look_19 : decode cX5_look 19 = .ok (.if_icmp .ne 25, 3) := by decide +kernel
theorem dX5_look_22 : decode cX5_look 22 = .ok (.aload_n 0, 1) := by decide +kernel
theorem dX5_look_23 : decode cX5_look 23 = .ok (.getfield 37, 3) := by decide +kernel
theorem dX5_look_26 : decode cX5_look 26 = .ok (.bipush 64, 2) := by decide +kernel
theorem dX5_look_28 : decode cX5_look 28 = .ok (.iload_n 1, 1) := by decide +kernel
end
section
theorem dX5_look_29 : decode cX5_look 29 = .ok (.imul, 1) := by decide +kernel
theorem dX5_look_30 : decode cX5_look 30 = .ok (.iload_n 3, 1) := by decide +kernel
theorem dX5_look_31 : decode cX5_look 31 = .ok (.iadd, 1) := by decide +kernel
theorem dX5_look_32 : decode cX5_look 32 = .ok (.baload, 1) := by decide +kernel
theorem dX5_look_33 : decode cX5_look 33 = .ok (.ifCond .eq 7, 3) := by decide +kernel
theorem dX5_look_36 : decode cX5_look 36 = .ok (.iconst 0, 1) := by decide +kernel
theorem dX5_look_37 : decode cX5_look 37 = .ok (.goto 32, 3) := by decide +kernel
theorem dX5_look_40 : decode cX5_look 40 = .ok (.iconst 1, 1) := by decide +kernel
theorem dX5_look_41 : decode cX5_look 41 = .ok (.goto 28, 3) := by decide +kernel
theorem dX5_look_44 : decode cX5_look 44 = .ok (.aload_n 0, 1) := by decide +kernel
theorem dX5_look_45 : decode cX5_look 45 = .ok (.getfield 19, 3) := by decide +kernel
theorem dX5_look_48 : decode cX5_look 48 = .ok (.iload 5, 2) := by decide +kernel
theorem dX5_look_50 : decode cX5_look 50 = .ok (.iaload, 1) := by decide +kernel
theorem dX5_look_51 : decode cX5_look 51 = .ok (.ifCond .ne 7, 3) := by decide +kernel
theorem dX5_look_54 : decode cX5_look 54 = .ok (.iconst 1, 1) := by decide +kernel
theorem dX5_look_55 : decode cX5_look 55 = .ok (.goto 4, 3) := by decide +kernel
theorem dX5_look_58 : decode cX5_look 58 = .ok (.iconst 0, 1) := by decide +kernel
theorem dX5_look_59 : decode cX5_look 59 = .ok (.iload 4, 2) := by decide +kernel
theorem dX5_look_61 : decode cX5_look 61 = .ok (.if_icmp .ne 7, 3) := by decide +kernel
theorem dX5_look_64 : decode cX5_look 64 = .ok (.iconst 0, 1) := by decide +kernel
theorem dX5_look_65 : decode cX5_look 65 = .ok (.goto 4, 3) := by decide +kernel
theorem dX5_look_68 : decode cX5_look 68 = .ok (.iconst 2, 1) := by decide +kernel
theorem dX5_look_69 : decode cX5_look 69 = .ok (.istore 6, 2) := by decide +kernel
theorem dX5_look_71 : decode cX5_look 71 = .ok (.iload 6, 2) := by decide +kernel
theorem dX5_look_73 : decode cX5_look 73 = .ok (.ifCond .le 18, 3) := by decide +kernel
theorem dX5_look_76 : decode cX5_look 76 = .ok (.aload_n 0, 1) := by decide +kernel
theorem dX5_look_77 : decode cX5_look 77 = .ok (.iload_n 1, 1) := by decide +kernel
theorem dX5_look_78 : decode cX5_look 78 = .ok (.putfield 68, 3) := by decide +kernel
theorem dX5_look_81 : decode cX5_look 81 = .ok (.aload_n 0, 1) := by decide +kernel
theorem dX5_look_82 : decode cX5_look 82 = .ok (.iload_n 2, 1) := by decide +kernel
theorem dX5_look_83 : decode cX5_look 83 = .ok (.putfield 72, 3) := by decide +kernel
theorem dX5_look_86 : decode cX5_look 86 = .ok (.aload_n 0, 1) := by decide +kernel
theorem dX5_look_87 : decode cX5_look 87 = .ok (.iload_n 3, 1) := by decide +kernel
theorem dX5_look_88 : decode cX5_look 88 = .ok (.putfield 75, 3) := by decide +kernel
theorem dX5_look_91 : decode cX5_look 91 = .ok (.iload 6, 2) := by decide +kernel
theorem dX5_look_93 : decode cX5_look 93 = .ok (.ireturn, 1) := by decide +kernel
theorem dX5_lookAt_0 : decode cX5_lookAt 0 = .ok (.aload_n 0, 1) := by decide +kernel
theorem dX5_lookAt_1 : decode cX5_lookAt 1 = .ok (.getfield 41, 3) := by decide +kernel
theorem dX5_lookAt_4 : decode cX5_lookAt 4 = .ok (.iload_n 1, 1) := by decide +kernel
theorem dX5_lookAt_5 : decode cX5_lookAt 5 = .ok (.iaload, 1) := by decide +kernel
theorem dX5_lookAt_6 : decode cX5_lookAt 6 = .ok (.iconst (-1), 1) := by decide +kernel
theorem dX5_lookAt_7 : decode cX5_lookAt 7 = .ok (.if_icmp .ne 7, 3) := by decide +kernel
theorem dX5_lookAt_10 : decode cX5_lookAt 10 = .ok (.iconst 0, 1) := by decide +kernel
theorem dX5_lookAt_11 : decode cX5_lookAt 11 = .ok (.goto 16, 3) := by decide +kernel
theorem dX5_lookAt_14 : decode cX5_lookAt 14 = .ok (.aload_n 0, 1) := by decide +kernel
theorem dX5_lookAt_15 : decode cX5_lookAt 15 = .ok (.iload_n 1, 1) := by decide +kernel
theorem dX5_lookAt_16 : decode cX5_lookAt 16 = .ok (.iconst (-1), 1) := by decide +kernel
theorem dX5_lookAt_17 : decode cX5_lookAt 17 = .ok (.aload_n 0, 1) := by decide +kernel
theorem dX5_lookAt_18 : decode cX5_lookAt 18 = .ok (.getfield 41, 3) := by decide +kernel
theorem dX5_lookAt_21 : decode cX5_lookAt 21 = .ok (.iload_n 1, 1) := by decide +kernel
theorem dX5_lookAt_22 : decode cX5_lookAt 22 = .ok (.iaload, 1) := by decide +kernel
theorem dX5_lookAt_23 : decode cX5_lookAt 23 = .ok (.iconst 1, 1) := by decide +kernel
theorem dX5_lookAt_24 : decode cX5_lookAt 24 = .ok (.invokevirtual 125, 3) := by decide +kernel
theorem dX5_lookAt_27 : decode cX5_lookAt 27 = .ok (.istore_n 2, 1) := by decide +kernel
theorem dX5_lookAt_28 : decode cX5_lookAt 28 = .ok (.iconst 0, 1) := by decide +kernel
theorem dX5_lookAt_29 : decode cX5_lookAt 29 = .ok (.istore_n 3, 1) := by decide +kernel
theorem dX5_lookAt_30 : decode cX5_lookAt 30 = .ok (.iload_n 3, 1) := by decide +kernel
theorem dX5_lookAt_31 : decode cX5_lookAt 31 = .ok (.aload_n 0, 1) := by decide +kernel
theorem dX5_lookAt_32 : decode cX5_lookAt 32 = .ok (.getfield 34, 3) := by decide +kernel
theorem dX5_lookAt_35 : decode cX5_lookAt 35 = .ok (.iload_n 1, 1) := by decide +kernel
theorem dX5_lookAt_36 : decode cX5_lookAt 36 = .ok (.iaload, 1) := by decide +kernel
theorem dX5_lookAt_37 : decode cX5_lookAt 37 = .ok (.if_icmp .ge 107, 3) := by decide +kernel
theorem dX5_lookAt_40 : decode cX5_lookAt 40 = .ok (.iload_n 2, 1) := by decide +kernel
theorem dX5_lookAt_41 : decode cX5_lookAt 41 = .ok (.ifCond .ne 103, 3) := by decide +kernel
theorem dX5_lookAt_44 : decode cX5_lookAt 44 = .ok (.iconst 4, 1) := by decide +kernel
theorem dX5_lookAt_45 : decode cX5_lookAt 45 = .ok (.bipush 100, 2) := by decide +kernel
theorem dX5_lookAt_47 : decode cX5_lookAt 47 = .ok (.iload_n 1, 1) := by decide +kernel
theorem dX5_lookAt_48 : decode cX5_lookAt 48 = .ok (.imul, 1) := by decide +kernel
theorem dX5_lookAt_49 : decode cX5_lookAt 49 = .ok (.iload_n 3, 1) := by decide +kernel
theorem dX5_lookAt_50 : decode cX5_lookAt 50 = .ok (.iadd, 1) := by decide +kernel
theorem dX5_lookAt_51 : decode cX5_lookAt 51 = .ok (.imul, 1) := by decide +kernel
theorem dX5_lookAt_52 : decode cX5_lookAt 52 = .ok (.istore 4, 2) := by decide +kernel
theorem dX5_lookAt_54 : decode cX5_lookAt 54 = .ok (.aload_n 0, 1) := by decide +kernel
theorem dX5_lookAt_55 : decode cX5_lookAt 55 = .ok (.getfield 31, 3) := by decide +kernel
theorem dX5_lookAt_58 : decode cX5_lookAt 58 = .ok (.iload 4, 2) := by decide +kernel
theorem dX5_lookAt_60 : decode cX5_lookAt 60 = .ok (.iaload, 1) := by decide +kernel
theorem dX5_lookAt_61 : decode cX5_lookAt 61 = .ok (.istore 5, 2) := by decide +kernel
theorem dX5_lookAt_63 : decode cX5_lookAt 63 = .ok (.iload 5, 2) := by decide +kernel
theorem dX5_lookAt_65 : decode cX5_lookAt 65 = .ok (.bipush 6, 2) := by decide +kernel
theorem dX5_lookAt_67 : decode cX5_lookAt 67 = .ok (.if_icmp .le 71, 3) := by decide +kernel
theorem dX5_lookAt_70 : decode cX5_lookAt 70 = .ok (.iload 5, 2) := by decide +kernel
theorem dX5_lookAt_72 : decode cX5_lookAt 72 = .ok (.bipush 11, 2) := by decide +kernel
theorem dX5_lookAt_74 : decode cX5_lookAt 74 = .ok (.if_icmp .ge 64, 3) := by decide +kernel
theorem dX5_lookAt_77 : decode cX5_lookAt 77 = .ok (.aload_n 0, 1) := by decide +kernel
theorem dX5_lookAt_78 : decode cX5_lookAt 78 = .ok (.iload_n 1, 1) := by decide +kernel
theorem dX5_lookAt_79 : decode cX5_lookAt 79 = .ok (.iload_n 3, 1) := by decide +kernel
theorem dX5_lookAt_80 : decode cX5_lookAt 80 = .ok (.iload 5, 2) := by decide +kernel
theorem dX5_lookAt_82 : decode cX5_lookAt 82 = .ok (.bipush 7, 2) := by decide +kernel
theorem dX5_lookAt_84 : decode cX5_lookAt 84 = .ok (.if_icmp .eq 10, 3) := by decide +kernel
theorem dX5_lookAt_87 : decode cX5_lookAt 87 = .ok (.iload 5, 2) := by decide +kernel
theorem dX5_lookAt_89 : decode cX5_lookAt 89 = .ok (.bipush 9, 2) := by decide +kernel
theorem dX5_lookAt_91 : decode cX5_lookAt 91 = .ok (.if_icmp .ne 15, 3) := by decide +kernel
theorem dX5_lookAt_94 : decode cX5_lookAt 94 = .ok (.aload_n 0, 1) := by decide +kernel
theorem dX5_lookAt_95 : decode cX5_lookAt 95 = .ok (.getfield 31, 3) := by decide +kernel
theorem dX5_lookAt_98 : decode cX5_lookAt 98 = .ok (.iload 4, 2) := by decide +kernel
theorem dX5_lookAt_100 : decode cX5_lookAt 100 = .ok (.iconst 1, 1) := by decide +kernel
theorem dX5_lookAt_101 : decode cX5_lookAt 101 = .ok (.iadd, 1) := by decide +kernel
theorem dX5_lookAt_102 : decode cX5_lookAt 102 = .ok (.iaload, 1) := by decide +kernel
theorem dX5_lookAt_103 : decode cX5_lookAt 103 = .ok (.goto 12, 3) := by decide +kernel
theorem dX5_lookAt_106 : decode cX5_lookAt 106 = .ok (.aload_n 0, 1) := by decide +kernel
theorem dX5_lookAt_107 : decode cX5_lookAt 107 = .ok (.getfield 31, 3) := by decide +kernel
theorem dX5_lookAt_110 : decode cX5_lookAt 110 = .ok (.iload 4, 2) := by decide +kernel
theorem dX5_lookAt_112 : decode cX5_lookAt 112 = .ok (.iconst 2, 1) := by decide +kernel
theorem dX5_lookAt_113 : decode cX5_lookAt 113 = .ok (.iadd, 1) := by decide +kernel
theorem dX5_lookAt_114 : decode cX5_lookAt 114 = .ok (.iaload, 1) := by decide +kernel
theorem dX5_lookAt_115 : decode cX5_lookAt 115 = .ok (.iload 5, 2) := by decide +kernel
theorem dX5_lookAt_117 : decode cX5_lookAt 117 = .ok (.bipush 7, 2) := by decide +kernel
theorem dX5_lookAt_119 : decode cX5_lookAt 119 = .ok (.if_icmp .eq 10, 3) := by decide +kernel
theorem dX5_lookAt_122 : decode cX5_lookAt 122 = .ok (.iload 5, 2) := by decide +kernel
theorem dX5_lookAt_124 : decode cX5_lookAt 124 = .ok (.bipush 10, 2) := by decide +kernel
theorem dX5_lookAt_126 : decode cX5_lookAt 126 = .ok (.if_icmp .ne 7, 3) := by decide +kernel
theorem dX5_lookAt_129 : decode cX5_lookAt 129 = .ok (.iconst 1, 1) := by decide +kernel
theorem dX5_lookAt_130 : decode cX5_lookAt 130 = .ok (.goto 4, 3) := by decide +kernel
theorem dX5_lookAt_133 : decode cX5_lookAt 133 = .ok (.iconst 0, 1) := by decide +kernel
theorem dX5_lookAt_134 : decode cX5_lookAt 134 = .ok (.invokevirtual 125, 3) := by decide +kernel
theorem dX5_lookAt_137 : decode cX5_lookAt 137 = .ok (.istore_n 2, 1) := by decide +kernel
theorem dX5_lookAt_138 : decode cX5_lookAt 138 = .ok (.iinc 3 1, 3) := by decide +kernel
theorem dX5_lookAt_141 : decode cX5_lookAt 141 = .ok (.goto (-111), 3) := by decide +kernel
theorem dX5_lookAt_144 : decode cX5_lookAt 144 = .ok (.iload_n 2, 1) := by decide +kernel
theorem dX5_lookAt_145 : decode cX5_lookAt 145 = .ok (.ireturn, 1) := by decide +kernel
theorem dX5_findBegun_0 : decode cX5_findBegun 0 = .ok (.iconst 0, 1) := by decide +kernel
theorem dX5_findBegun_1 : decode cX5_findBegun 1 = .ok (.istore_n 1, 1) := by decide +kernel
theorem dX5_findBegun_2 : decode cX5_findBegun 2 = .ok (.iconst 0, 1) := by decide +kernel
theorem dX5_findBegun_3 : decode cX5_findBegun 3 = .ok (.istore_n 2, 1) := by decide +kernel
theorem dX5_findBegun_4 : decode cX5_findBegun 4 = .ok (.iload_n 2, 1) := by decide +kernel
theorem dX5_findBegun_5 : decode cX5_findBegun 5 = .ok (.bipush 12, 2) := by decide +kernel
theorem dX5_findBegun_7 : decode cX5_findBegun 7 = .ok (.if_icmp .ge 28, 3) := by decide +kernel
theorem dX5_findBegun_10 : decode cX5_findBegun 10 = .ok (.aload_n 0, 1) := by decide +kernel
theorem dX5_findBegun_11 : decode cX5_findBegun 11 = .ok (.getfield 59, 3) := by decide +kernel
theorem dX5_findBegun_14 : decode cX5_findBegun 14 = .ok (.iload_n 2, 1) := by decide +kernel
theorem dX5_findBegun_15 : decode cX5_findBegun 15 = .ok (.iload_n 2, 1) := by decide +kernel
theorem dX5_findBegun_16 : decode cX5_findBegun 16 = .ok (.aload_n 0, 1) := by decide +kernel
theorem dX5_findBegun_17 : decode cX5_findBegun 17 = .ok (.getfield 129, 3) := by decide +kernel
theorem dX5_findBegun_20 : decode cX5_findBegun 20 = .ok (.if_icmp .ne 7, 3) := by decide +kernel
theorem dX5_findBegun_23 : decode cX5_findBegun 23 = .ok (.iconst 1, 1) := by decide +kernel
theorem dX5_findBegun_24 : decode cX5_findBegun 24 = .ok (.goto 4, 3) := by decide +kernel
theorem dX5_findBegun_27 : decode cX5_findBegun 27 = .ok (.iconst 0, 1) := by decide +kernel
theorem dX5_findBegun_28 : decode cX5_findBegun 28 = .ok (.bastore, 1) := by decide +kernel
theorem dX5_findBegun_29 : decode cX5_findBegun 29 = .ok (.iinc 2 1, 3) := by decide +kernel
theorem dX5_findBegun_32 : decode cX5_findBegun 32 = .ok (.goto (-28), 3) := by decide +kernel
theorem dX5_findBegun_35 : decode cX5_findBegun 35 = .ok (.iconst 1, 1) := by decide +kernel
theorem dX5_findBegun_36 : decode cX5_findBegun 36 = .ok (.istore_n 2, 1) := by decide +kernel
theorem dX5_findBegun_37 : decode cX5_findBegun 37 = .ok (.aload_n 0, 1) := by decide +kernel
theorem dX5_findBegun_38 : decode cX5_findBegun 38 = .ok (.getfield 62, 3) := by decide +kernel
theorem dX5_findBegun_41 : decode cX5_findBegun 41 = .ok (.iconst 0, 1) := by decide +kernel
theorem dX5_findBegun_42 : decode cX5_findBegun 42 = .ok (.aload_n 0, 1) := by decide +kernel
theorem dX5_findBegun_43 : decode cX5_findBegun 43 = .ok (.getfield 129, 3) := by decide +kernel
theorem dX5_findBegun_46 : decode cX5_findBegun 46 = .ok (.iastore, 1) := by decide +kernel
theorem dX5_findBegun_47 : decode cX5_findBegun 47 = .ok (.aload_n 0, 1) := by decide +kernel
theorem dX5_findBegun_48 : decode cX5_findBegun 48 = .ok (.getfield 65, 3) := by decide +kernel
theorem dX5_findBegun_51 : decode cX5_findBegun 51 = .ok (.iconst 0, 1) := by decide +kernel
theorem dX5_findBegun_52 : decode cX5_findBegun 52 = .ok (.iconst 0, 1) := by decide +kernel
theorem dX5_findBegun_53 : decode cX5_findBegun 53 = .ok (.iastore, 1) := by decide +kernel
theorem dX5_findBegun_54 : decode cX5_findBegun 54 = .ok (.iload_n 2, 1) := by decide +kernel
theorem dX5_findBegun_55 : decode cX5_findBegun 55 = .ok (.ifCond .le 124, 3) := by decide +kernel
theorem dX5_findBegun_58 : decode cX5_findBegun 58 = .ok (.aload_n 0, 1) := by decide +kernel
theorem dX5_findBegun_59 : decode cX5_findBegun 59 = .ok (.getfield 62, 3) := by decide +kernel
theorem dX5_findBegun_62 : decode cX5_findBegun 62 = .ok (.iload_n 2, 1) := by decide +kernel
theorem dX5_findBegun_63 : decode cX5_findBegun 63 = .ok (.iconst 1, 1) := by decide +kernel
theorem dX5_findBegun_64 : decode cX5_findBegun 64 = .ok (.isub, 1) := by decide +kernel
theorem dX5_findBegun_65 : decode cX5_findBegun 65 = .ok (.iaload, 1) := by decide +kernel
theorem dX5_findBegun_66 : decode cX5_findBegun 66 = .ok (.istore_n 3, 1) := by decide +kernel
theorem dX5_findBegun_67 : decode cX5_findBegun 67 = .ok (.aload_n 0, 1) := by decide +kernel
theorem dX5_findBegun_68 : decode cX5_findBegun 68 = .ok (.getfield 65, 3) := by decide +kernel
theorem dX5_findBegun_71 : decode cX5_findBegun 71 = .ok (.iload_n 2, 1) := by decide +kernel
theorem dX5_findBegun_72 : decode cX5_findBegun 72 = .ok (.iconst 1, 1) := by decide +kernel
theorem dX5_findBegun_73 : decode cX5_findBegun 73 = .ok (.isub, 1) := by decide +kernel
theorem dX5_findBegun_74 : decode cX5_findBegun 74 = .ok (.iaload, 1) := by decide +kernel
theorem dX5_findBegun_75 : decode cX5_findBegun 75 = .ok (.istore 4, 2) := by decide +kernel
theorem dX5_findBegun_77 : decode cX5_findBegun 77 = .ok (.aload_n 0, 1) := by decide +kernel
theorem dX5_findBegun_78 : decode cX5_findBegun 78 = .ok (.getfield 65, 3) := by decide +kernel
theorem dX5_findBegun_81 : decode cX5_findBegun 81 = .ok (.iload_n 2, 1) := by decide +kernel
theorem dX5_findBegun_82 : decode cX5_findBegun 82 = .ok (.iconst 1, 1) := by decide +kernel
theorem dX5_findBegun_83 : decode cX5_findBegun 83 = .ok (.isub, 1) := by decide +kernel
theorem dX5_findBegun_84 : decode cX5_findBegun 84 = .ok (.dup2, 1) := by decide +kernel
theorem dX5_findBegun_85 : decode cX5_findBegun 85 = .ok (.iaload, 1) := by decide +kernel
theorem dX5_findBegun_86 : decode cX5_findBegun 86 = .ok (.iconst 1, 1) := by decide +kernel
theorem dX5_findBegun_87 : decode cX5_findBegun 87 = .ok (.iadd, 1) := by decide +kernel
theorem dX5_findBegun_88 : decode cX5_findBegun 88 = .ok (.iastore, 1) := by decide +kernel
theorem dX5_findBegun_89 : decode cX5_findBegun 89 = .ok (.iload 4, 2) := by decide +kernel
theorem dX5_findBegun_91 : decode cX5_findBegun 91 = .ok (.aload_n 0, 1) := by decide +kernel
theorem dX5_findBegun_92 : decode cX5_findBegun 92 = .ok (.getfield 13, 3) := by decide +kernel
theorem dX5_findBegun_95 : decode cX5_findBegun 95 = .ok (.iload_n 3, 1) := by decide +kernel
theorem dX5_findBegun_96 : decode cX5_findBegun 96 = .ok (.iaload, 1) := by decide +kernel
theorem dX5_findBegun_97 : decode cX5_findBegun 97 = .ok (.if_icmp .ne 19, 3) := by decide +kernel
theorem dX5_findBegun_100 : decode cX5_findBegun 100 = .ok (.aload_n 0, 1) := by decide +kernel
theorem dX5_findBegun_101 : decode cX5_findBegun 101 = .ok (.getfield 47, 3) := by decide +kernel
theorem dX5_findBegun_104 : decode cX5_findBegun 104 = .ok (.iload_n 1, 1) := by decide +kernel
theorem dX5_findBegun_105 : decode cX5_findBegun 105 = .ok (.iload_n 3, 1) := by decide +kernel
theorem dX5_findBegun_106 : decode cX5_findBegun 106 = .ok (.iastore, 1) := by decide +kernel
theorem dX5_findBegun_107 : decode cX5_findBegun 107 = .ok (.iinc 1 1, 3) := by decide +kernel
theorem dX5_findBegun_110 : decode cX5_findBegun 110 = .ok (.iinc 2 (-1), 3) := by decide +kernel
theorem dX5_findBegun_113 : decode cX5_findBegun 113 = .ok (.goto 63, 3) := by decide +kernel
theorem dX5_findBegun_116 : decode cX5_findBegun 116 = .ok (.aload_n 0, 1) := by decide +kernel
theorem dX5_findBegun_117 : decode cX5_findBegun 117 = .ok (.getfield 59, 3) := by decide +kernel
theorem dX5_findBegun_120 : decode cX5_findBegun 120 = .ok (.aload_n 0, 1) := by decide +kernel
theorem dX5_findBegun_121 : decode cX5_findBegun 121 = .ok (.getfield 7, 3) := by decide +kernel
theorem dX5_findBegun_124 : decode cX5_findBegun 124 = .ok (.bipush 6, 2) := by decide +kernel
theorem dX5_findBegun_126 : decode cX5_findBegun 126 = .ok (.iload_n 3, 1) := by decide +kernel
theorem dX5_findBegun_127 : decode cX5_findBegun 127 = .ok (.imul, 1) := by decide +kernel
theorem dX5_findBegun_128 : decode cX5_findBegun 128 = .ok (.iload 4, 2) := by decide +kernel
theorem dX5_findBegun_130 : decode cX5_findBegun 130 = .ok (.iadd, 1) := by decide +kernel
theorem dX5_findBegun_131 : decode cX5_findBegun 131 = .ok (.iaload, 1) := by decide +kernel
theorem dX5_findBegun_132 : decode cX5_findBegun 132 = .ok (.baload, 1) := by decide +kernel
theorem dX5_findBegun_133 : decode cX5_findBegun 133 = .ok (.ifCond .ne 43, 3) := by decide +kernel
theorem dX5_findBegun_136 : decode cX5_findBegun 136 = .ok (.aload_n 0, 1) := by decide +kernel
theorem dX5_findBegun_137 : decode cX5_findBegun 137 = .ok (.getfield 7, 3) := by decide +kernel
theorem dX5_findBegun_140 : decode cX5_findBegun 140 = .ok (.bipush 6, 2) := by decide +kernel
theorem dX5_findBegun_142 : decode cX5_findBegun 142 = .ok (.iload_n 3, 1) := by decide +kernel
theorem dX5_findBegun_143 : decode cX5_findBegun 143 = .ok (.imul, 1) := by decide +kernel
theorem dX5_findBegun_144 : decode cX5_findBegun 144 = .ok (.iload 4, 2) := by decide +kernel
theorem dX5_findBegun_146 : decode cX5_findBegun 146 = .ok (.iadd, 1) := by decide +kernel
theorem dX5_findBegun_147 : decode cX5_findBegun 147 = .ok (.iaload, 1) := by decide +kernel
theorem dX5_findBegun_148 : decode cX5_findBegun 148 = .ok (.istore 5, 2) := by decide +kernel
theorem dX5_findBegun_150 : decode cX5_findBegun 150 = .ok (.aload_n 0, 1) := by decide +kernel
theorem dX5_findBegun_151 : decode cX5_findBegun 151 = .ok (.getfield 59, 3) := by decide +kernel
theorem dX5_findBegun_154 : decode cX5_findBegun 154 = .ok (.iload 5, 2) := by decide +kernel
theorem dX5_findBegun_156 : decode cX5_findBegun 156 = .ok (.iconst 1, 1) := by decide +kernel
theorem dX5_findBegun_157 : decode cX5_findBegun 157 = .ok (.bastore, 1) := by decide +kernel
theorem dX5_findBegun_158 : decode cX5_findBegun 158 = .ok (.aload_n 0, 1) := by decide +kernel
theorem dX5_findBegun_159 : decode cX5_findBegun 159 = .ok (.getfield 62, 3) := by decide +kernel
theorem dX5_findBegun_162 : decode cX5_findBegun 162 = .ok (.iload_n 2, 1) := by decide +kernel
theorem dX5_findBegun_163 : decode cX5_findBegun 163 = .ok (.iload 5, 2) := by decide +kernel
theorem dX5_findBegun_165 : decode cX5_findBegun 165 = .ok (.iastore, 1) := by decide +kernel
theorem dX5_findBegun_166 : decode cX5_findBegun 166 = .ok (.aload_n 0, 1) := by decide +kernel
theorem dX5_findBegun_167 : decode cX5_findBegun 167 = .ok (.getfield 65, 3) := by decide +kernel
theorem dX5_findBegun_170 : decode cX5_findBegun 170 = .ok (.iload_n 2, 1) := by decide +kernel
theorem dX5_findBegun_171 : decode cX5_findBegun 171 = .ok (.iconst 0, 1) := by decide +kernel
theorem dX5_findBegun_172 : decode cX5_findBegun 172 = .ok (.iastore, 1) := by decide +kernel
theorem dX5_findBegun_173 : decode cX5_findBegun 173 = .ok (.iinc 2 1, 3) := by decide +kernel
theorem dX5_findBegun_176 : decode cX5_findBegun 176 = .ok (.goto (-122), 3) := by decide +kernel
theorem dX5_findBegun_179 : decode cX5_findBegun 179 = .ok (.return_, 1) := by decide +kernel
theorem dX5_usesCall_0 : decode cX5_usesCall 0 = .ok (.iconst 0, 1) := by decide +kernel
theorem dX5_usesCall_1 : decode cX5_usesCall 1 = .ok (.istore_n 3, 1) := by decide +kernel
theorem dX5_usesCall_2 : decode cX5_usesCall 2 = .ok (.iconst 0, 1) := by decide +kernel
theorem dX5_usesCall_3 : decode cX5_usesCall 3 = .ok (.istore 4, 2) := by decide +kernel
theorem dX5_usesCall_5 : decode cX5_usesCall 5 = .ok (.iload 4, 2) := by decide +kernel
theorem dX5_usesCall_7 : decode cX5_usesCall 7 = .ok (.aload_n 0, 1) := by decide +kernel
theorem dX5_usesCall_8 : decode cX5_usesCall 8 = .ok (.getfield 34, 3) := by decide +kernel
theorem dX5_usesCall_11 : decode cX5_usesCall 11 = .ok (.iload_n 1, 1) := by decide +kernel
theorem dX5_usesCall_12 : decode cX5_usesCall 12 = .ok (.iaload, 1) := by decide +kernel
theorem dX5_usesCall_13 : decode cX5_usesCall 13 = .ok (.if_icmp .ge 55, 3) := by decide +kernel
theorem dX5_usesCall_16 : decode cX5_usesCall 16 = .ok (.iconst 4, 1) := by decide +kernel
theorem dX5_usesCall_17 : decode cX5_usesCall 17 = .ok (.bipush 100, 2) := by decide +kernel
theorem dX5_usesCall_19 : decode cX5_usesCall 19 = .ok (.iload_n 1, 1) := by decide +kernel
theorem dX5_usesCall_20 : decode cX5_usesCall 20 = .ok (.imul, 1) := by decide +kernel
theorem dX5_usesCall_21 : decode cX5_usesCall 21 = .ok (.iload 4, 2) := by decide +kernel
theorem dX5_usesCall_23 : decode cX5_usesCall 23 = .ok (.iadd, 1) := by decide +kernel
theorem dX5_usesCall_24 : decode cX5_usesCall 24 = .ok (.imul, 1) := by decide +kernel
theorem dX5_usesCall_25 : decode cX5_usesCall 25 = .ok (.istore 5, 2) := by decide +kernel
theorem dX5_usesCall_27 : decode cX5_usesCall 27 = .ok (.iload_n 3, 1) := by decide +kernel
theorem dX5_usesCall_28 : decode cX5_usesCall 28 = .ok (.ifCond .ne 28, 3) := by decide +kernel
theorem dX5_usesCall_31 : decode cX5_usesCall 31 = .ok (.aload_n 0, 1) := by decide +kernel
theorem dX5_usesCall_32 : decode cX5_usesCall 32 = .ok (.getfield 31, 3) := by decide +kernel
theorem dX5_usesCall_35 : decode cX5_usesCall 35 = .ok (.iload 5, 2) := by decide +kernel
theorem dX5_usesCall_37 : decode cX5_usesCall 37 = .ok (.iaload, 1) := by decide +kernel
theorem dX5_usesCall_38 : decode cX5_usesCall 38 = .ok (.bipush 7, 2) := by decide +kernel
theorem dX5_usesCall_40 : decode cX5_usesCall 40 = .ok (.if_icmp .ne 20, 3) := by decide +kernel
theorem dX5_usesCall_43 : decode cX5_usesCall 43 = .ok (.aload_n 0, 1) := by decide +kernel
theorem dX5_usesCall_44 : decode cX5_usesCall 44 = .ok (.getfield 31, 3) := by decide +kernel
theorem dX5_usesCall_47 : decode cX5_usesCall 47 = .ok (.iload 5, 2) := by decide +kernel
theorem dX5_usesCall_49 : decode cX5_usesCall 49 = .ok (.iconst 1, 1) := by decide +kernel
theorem dX5_usesCall_50 : decode cX5_usesCall 50 = .ok (.iadd, 1) := by decide +kernel
theorem dX5_usesCall_51 : decode cX5_usesCall 51 = .ok (.iaload, 1) := by decide +kernel
theorem dX5_usesCall_52 : decode cX5_usesCall 52 = .ok (.iload_n 2, 1) := by decide +kernel
theorem dX5_usesCall_53 : decode cX5_usesCall 53 = .ok (.if_icmp .ne 7, 3) := by decide +kernel
theorem dX5_usesCall_56 : decode cX5_usesCall 56 = .ok (.iconst 1, 1) := by decide +kernel
theorem dX5_usesCall_57 : decode cX5_usesCall 57 = .ok (.goto 4, 3) := by decide +kernel
theorem dX5_usesCall_60 : decode cX5_usesCall 60 = .ok (.iconst 0, 1) := by decide +kernel
theorem dX5_usesCall_61 : decode cX5_usesCall 61 = .ok (.istore_n 3, 1) := by decide +kernel
theorem dX5_usesCall_62 : decode cX5_usesCall 62 = .ok (.iinc 4 1, 3) := by decide +kernel
theorem dX5_usesCall_65 : decode cX5_usesCall 65 = .ok (.goto (-60), 3) := by decide +kernel
theorem dX5_usesCall_68 : decode cX5_usesCall 68 = .ok (.iload_n 3, 1) := by decide +kernel
theorem dX5_usesCall_69 : decode cX5_usesCall 69 = .ok (.ireturn, 1) := by decide +kernel
theorem dX5_moduleOf_0 : decode cX5_moduleOf 0 = .ok (.iload_n 1, 1) := by decide +kernel
theorem dX5_moduleOf_1 : decode cX5_moduleOf 1 = .ok (.iconst (-1), 1) := by decide +kernel
theorem dX5_moduleOf_2 : decode cX5_moduleOf 2 = .ok (.if_icmp .ne 8, 3) := by decide +kernel
theorem dX5_moduleOf_5 : decode cX5_moduleOf 5 = .ok (.bipush 20, 2) := by decide +kernel
theorem dX5_moduleOf_7 : decode cX5_moduleOf 7 = .ok (.goto 7, 3) := by decide +kernel
theorem dX5_moduleOf_10 : decode cX5_moduleOf 10 = .ok (.iload_n 1, 1) := by decide +kernel
theorem dX5_moduleOf_11 : decode cX5_moduleOf 11 = .ok (.bipush 20, 2) := by decide +kernel
theorem dX5_moduleOf_13 : decode cX5_moduleOf 13 = .ok (.idiv, 1) := by decide +kernel
theorem dX5_moduleOf_14 : decode cX5_moduleOf 14 = .ok (.ireturn, 1) := by decide +kernel
theorem dX5_setAll_0 : decode cX5_setAll 0 = .ok (.iconst 0, 1) := by decide +kernel
theorem dX5_setAll_1 : decode cX5_setAll 1 = .ok (.istore_n 1, 1) := by decide +kernel
theorem dX5_setAll_2 : decode cX5_setAll 2 = .ok (.iload_n 1, 1) := by decide +kernel
theorem dX5_setAll_3 : decode cX5_setAll 3 = .ok (.sipush 768, 3) := by decide +kernel
theorem dX5_setAll_6 : decode cX5_setAll 6 = .ok (.if_icmp .ge 16, 3) := by decide +kernel
theorem dX5_setAll_9 : decode cX5_setAll 9 = .ok (.aload_n 0, 1) := by decide +kernel
theorem dX5_setAll_10 : decode cX5_setAll 10 = .ok (.getfield 50, 3) := by decide +kernel
theorem dX5_setAll_13 : decode cX5_setAll 13 = .ok (.iload_n 1, 1) := by decide +kernel
theorem dX5_setAll_14 : decode cX5_setAll 14 = .ok (.iconst (-1), 1) := by decide +kernel
theorem dX5_setAll_15 : decode cX5_setAll 15 = .ok (.iastore, 1) := by decide +kernel
theorem dX5_setAll_16 : decode cX5_setAll 16 = .ok (.iinc 1 1, 3) := by decide +kernel
theorem dX5_setAll_19 : decode cX5_setAll 19 = .ok (.goto (-17), 3) := by decide +kernel
theorem dX5_setAll_22 : decode cX5_setAll 22 = .ok (.iconst 0, 1) := by decide +kernel
theorem dX5_setAll_23 : decode cX5_setAll 23 = .ok (.istore_n 1, 1) := by decide +kernel
theorem dX5_setAll_24 : decode cX5_setAll 24 = .ok (.iload_n 1, 1) := by decide +kernel
theorem dX5_setAll_25 : decode cX5_setAll 25 = .ok (.aload_n 0, 1) := by decide +kernel
theorem dX5_setAll_26 : decode cX5_setAll 26 = .ok (.getfield 132, 3) := by decide +kernel
theorem dX5_setAll_29 : decode cX5_setAll 29 = .ok (.if_icmp .ge 80, 3) := by decide +kernel
theorem dX5_setAll_32 : decode cX5_setAll 32 = .ok (.aload_n 0, 1) := by decide +kernel
theorem dX5_setAll_33 : decode cX5_setAll 33 = .ok (.getfield 44, 3) := by decide +kernel
theorem dX5_setAll_36 : decode cX5_setAll 36 = .ok (.iload_n 1, 1) := by decide +kernel
theorem dX5_setAll_37 : decode cX5_setAll 37 = .ok (.iaload, 1) := by decide +kernel
theorem dX5_setAll_38 : decode cX5_setAll 38 = .ok (.istore_n 2, 1) := by decide +kernel
theorem dX5_setAll_39 : decode cX5_setAll 39 = .ok (.iconst 0, 1) := by decide +kernel
theorem dX5_setAll_40 : decode cX5_setAll 40 = .ok (.istore_n 3, 1) := by decide +kernel
theorem dX5_setAll_41 : decode cX5_setAll 41 = .ok (.iload_n 3, 1) := by decide +kernel
theorem dX5_setAll_42 : decode cX5_setAll 42 = .ok (.bipush 64, 2) := by decide +kernel
theorem dX5_setAll_44 : decode cX5_setAll 44 = .ok (.if_icmp .ge 59, 3) := by decide +kernel
theorem dX5_setAll_47 : decode cX5_setAll 47 = .ok (.aload_n 0, 1) := by decide +kernel
theorem dX5_setAll_48 : decode cX5_setAll 48 = .ok (.iload_n 2, 1) := by decide +kernel
theorem dX5_setAll_49 : decode cX5_setAll 49 = .ok (.iload_n 3, 1) := by decide +kernel
theorem dX5_setAll_50 : decode cX5_setAll 50 = .ok (.invokevirtual 135, 3) := by decide +kernel
theorem dX5_setAll_53 : decode cX5_setAll 53 = .ok (.ifCond .eq 44, 3) := by decide +kernel
theorem dX5_setAll_56 : decode cX5_setAll 56 = .ok (.aload_n 0, 1) := by decide +kernel
theorem dX5_setAll_57 : decode cX5_setAll 57 = .ok (.getfield 50, 3) := by decide +kernel
theorem dX5_setAll_60 : decode cX5_setAll 60 = .ok (.bipush 64, 2) := by decide +kernel
theorem dX5_setAll_62 : decode cX5_setAll 62 = .ok (.iload_n 2, 1) := by decide +kernel
theorem dX5_setAll_63 : decode cX5_setAll 63 = .ok (.imul, 1) := by decide +kernel
theorem dX5_setAll_64 : decode cX5_setAll 64 = .ok (.iload_n 3, 1) := by decide +kernel
theorem dX5_setAll_65 : decode cX5_setAll 65 = .ok (.iadd, 1) := by decide +kernel
theorem dX5_setAll_66 : decode cX5_setAll 66 = .ok (.aload_n 0, 1) := by decide +kernel
theorem dX5_setAll_67 : decode cX5_setAll 67 = .ok (.getfield 139, 3) := by decide +kernel
theorem dX5_setAll_70 : decode cX5_setAll 70 = .ok (.ifCond .eq 8, 3) := by decide +kernel
theorem dX5_setAll_73 : decode cX5_setAll 73 = .ok (.bipush 21, 2) := by decide +kernel
theorem dX5_setAll_75 : decode cX5_setAll 75 = .ok (.goto 21, 3) := by decide +kernel
theorem dX5_setAll_78 : decode cX5_setAll 78 = .ok (.aload_n 0, 1) := by decide +kernel
theorem dX5_setAll_79 : decode cX5_setAll 79 = .ok (.aload_n 0, 1) := by decide +kernel
theorem dX5_setAll_80 : decode cX5_setAll 80 = .ok (.aload_n 0, 1) := by decide +kernel
theorem dX5_setAll_81 : decode cX5_setAll 81 = .ok (.getfield 44, 3) := by decide +kernel
theorem dX5_setAll_84 : decode cX5_setAll 84 = .ok (.aload_n 0, 1) := by decide +kernel
theorem dX5_setAll_85 : decode cX5_setAll 85 = .ok (.getfield 132, 3) := by decide +kernel
theorem dX5_setAll_88 : decode cX5_setAll 88 = .ok (.iload_n 2, 1) := by decide +kernel
theorem dX5_setAll_89 : decode cX5_setAll 89 = .ok (.iload_n 3, 1) := by decide +kernel
theorem dX5_setAll_90 : decode cX5_setAll 90 = .ok (.invokevirtual 121, 3) := by decide +kernel
theorem dX5_setAll_93 : decode cX5_setAll 93 = .ok (.invokevirtual 142, 3) := by decide +kernel
theorem dX5_setAll_96 : decode cX5_setAll 96 = .ok (.iastore, 1) := by decide +kernel
theorem dX5_setAll_97 : decode cX5_setAll 97 = .ok (.iinc 3 1, 3) := by decide +kernel
theorem dX5_setAll_100 : decode cX5_setAll 100 = .ok (.goto (-59), 3) := by decide +kernel
theorem dX5_setAll_103 : decode cX5_setAll 103 = .ok (.iinc 1 1, 3) := by decide +kernel
theorem dX5_setAll_106 : decode cX5_setAll 106 = .ok (.goto (-82), 3) := by decide +kernel
theorem dX5_setAll_109 : decode cX5_setAll 109 = .ok (.iconst 0, 1) := by decide +kernel
theorem dX5_setAll_110 : decode cX5_setAll 110 = .ok (.istore_n 1, 1) := by decide +kernel
theorem dX5_setAll_111 : decode cX5_setAll 111 = .ok (.iload_n 1, 1) := by decide +kernel
theorem dX5_setAll_112 : decode cX5_setAll 112 = .ok (.sipush 240, 3) := by decide +kernel
theorem dX5_setAll_115 : decode cX5_setAll 115 = .ok (.if_icmp .ge 21, 3) := by decide +kernel
theorem dX5_setAll_118 : decode cX5_setAll 118 = .ok (.aload_n 0, 1) := by decide +kernel
theorem dX5_setAll_119 : decode cX5_setAll 119 = .ok (.getfield 53, 3) := by decide +kernel
theorem dX5_setAll_122 : decode cX5_setAll 122 = .ok (.iload_n 1, 1) := by decide +kernel
theorem dX5_setAll_123 : decode cX5_setAll 123 = .ok (.aload_n 0, 1) := by decide +kernel
theorem dX5_setAll_124 : decode cX5_setAll 124 = .ok (.getfield 22, 3) := by decide +kernel
theorem dX5_setAll_127 : decode cX5_setAll 127 = .ok (.iload_n 1, 1) := by decide +kernel
theorem dX5_setAll_128 : decode cX5_setAll 128 = .ok (.iaload, 1) := by decide +kernel
theorem dX5_setAll_129 : decode cX5_setAll 129 = .ok (.iastore, 1) := by decide +kernel
theorem dX5_setAll_130 : decode cX5_setAll 130 = .ok (.iinc 1 1, 3) := by decide +kernel
theorem dX5_setAll_133 : decode cX5_setAll 133 = .ok (.goto (-22), 3) := by decide +kernel
theorem dX5_setAll_136 : decode cX5_setAll 136 = .ok (.return_, 1) := by decide +kernel
theorem dX5_load_0 : decode cX5_load 0 = .ok (.aload_n 0, 1) := by decide +kernel
theorem dX5_load_1 : decode cX5_load 1 = .ok (.iload_n 1, 1) := by decide +kernel
theorem dX5_load_2 : decode cX5_load 2 = .ok (.invokevirtual 93, 3) := by decide +kernel
theorem dX5_load_5 : decode cX5_load 5 = .ok (.ifCond .eq 12, 3) := by decide +kernel
theorem dX5_load_8 : decode cX5_load 8 = .ok (.iload_n 2, 1) := by decide +kernel
theorem dX5_load_9 : decode cX5_load 9 = .ok (.ifCond .lt 8, 3) := by decide +kernel
theorem dX5_load_12 : decode cX5_load 12 = .ok (.iload_n 2, 1) := by decide +kernel
theorem dX5_load_13 : decode cX5_load 13 = .ok (.iconst 1, 1) := by decide +kernel
theorem dX5_load_14 : decode cX5_load 14 = .ok (.if_icmp .le 5, 3) := by decide +kernel
theorem dX5_load_17 : decode cX5_load 17 = .ok (.iconst (-1), 1) := by decide +kernel
theorem dX5_load_18 : decode cX5_load 18 = .ok (.ireturn, 1) := by decide +kernel
theorem dX5_load_19 : decode cX5_load 19 = .ok (.aload_n 0, 1) := by decide +kernel
theorem dX5_load_20 : decode cX5_load 20 = .ok (.iconst (-1), 1) := by decide +kernel
theorem dX5_load_21 : decode cX5_load 21 = .ok (.putfield 68, 3) := by decide +kernel
theorem dX5_load_24 : decode cX5_load 24 = .ok (.aload_n 0, 1) := by decide +kernel
theorem dX5_load_25 : decode cX5_load 25 = .ok (.iconst (-1), 1) := by decide +kernel
theorem dX5_load_26 : decode cX5_load 26 = .ok (.putfield 72, 3) := by decide +kernel
theorem dX5_load_29 : decode cX5_load 29 = .ok (.aload_n 0, 1) := by decide +kernel
theorem dX5_load_30 : decode cX5_load 30 = .ok (.iconst (-1), 1) := by decide +kernel
theorem dX5_load_31 : decode cX5_load 31 = .ok (.putfield 75, 3) := by decide +kernel
theorem dX5_load_34 : decode cX5_load 34 = .ok (.aload_n 0, 1) := by decide +kernel
theorem dX5_load_35 : decode cX5_load 35 = .ok (.iload_n 1, 1) := by decide +kernel
theorem dX5_load_36 : decode cX5_load 36 = .ok (.invokevirtual 146, 3) := by decide +kernel
theorem dX5_load_39 : decode cX5_load 39 = .ok (.iconst 0, 1) := by decide +kernel
theorem dX5_load_40 : decode cX5_load 40 = .ok (.istore_n 3, 1) := by decide +kernel
theorem dX5_load_41 : decode cX5_load 41 = .ok (.iload_n 3, 1) := by decide +kernel
theorem dX5_load_42 : decode cX5_load 42 = .ok (.aload_n 0, 1) := by decide +kernel
theorem dX5_load_43 : decode cX5_load 43 = .ok (.getfield 118, 3) := by decide +kernel
theorem dX5_load_46 : decode cX5_load 46 = .ok (.if_icmp .ge 29, 3) := by decide +kernel
theorem dX5_load_49 : decode cX5_load 49 = .ok (.aload_n 0, 1) := by decide +kernel
theorem dX5_load_50 : decode cX5_load 50 = .ok (.aload_n 0, 1) := by decide +kernel
theorem dX5_load_51 : decode cX5_load 51 = .ok (.getfield 56, 3) := by decide +kernel
theorem dX5_load_54 : decode cX5_load 54 = .ok (.iload_n 3, 1) := by decide +kernel
theorem dX5_load_55 : decode cX5_load 55 = .ok (.iaload, 1) := by decide +kernel
theorem dX5_load_56 : decode cX5_load 56 = .ok (.invokevirtual 150, 3) := by decide +kernel
theorem dX5_load_59 : decode cX5_load 59 = .ok (.istore 4, 2) := by decide +kernel
theorem dX5_load_61 : decode cX5_load 61 = .ok (.iload 4, 2) := by decide +kernel
theorem dX5_load_63 : decode cX5_load 63 = .ok (.ifCond .le 6, 3) := by decide +kernel
theorem dX5_load_66 : decode cX5_load 66 = .ok (.iload 4, 2) := by decide +kernel
theorem dX5_load_68 : decode cX5_load 68 = .ok (.ireturn, 1) := by decide +kernel
theorem dX5_load_69 : decode cX5_load 69 = .ok (.iinc 3 1, 3) := by decide +kernel
theorem dX5_load_72 : decode cX5_load 72 = .ok (.goto (-31), 3) := by decide +kernel
theorem dX5_load_75 : decode cX5_load 75 = .ok (.aload_n 0, 1) := by decide +kernel
theorem dX5_load_76 : decode cX5_load 76 = .ok (.iconst 1, 1) := by decide +kernel
theorem dX5_load_77 : decode cX5_load 77 = .ok (.putfield 97, 3) := by decide +kernel
theorem dX5_load_80 : decode cX5_load 80 = .ok (.aload_n 0, 1) := by decide +kernel
theorem dX5_load_81 : decode cX5_load 81 = .ok (.iload_n 2, 1) := by decide +kernel
theorem dX5_load_82 : decode cX5_load 82 = .ok (.iconst 1, 1) := by decide +kernel
theorem dX5_load_83 : decode cX5_load 83 = .ok (.if_icmp .ne 7, 3) := by decide +kernel
theorem dX5_load_86 : decode cX5_load 86 = .ok (.iconst 1, 1) := by decide +kernel
theorem dX5_load_87 : decode cX5_load 87 = .ok (.goto 4, 3) := by decide +kernel
theorem dX5_load_90 : decode cX5_load 90 = .ok (.iconst 0, 1) := by decide +kernel
theorem dX5_load_91 : decode cX5_load 91 = .ok (.putfield 139, 3) := by decide +kernel
theorem dX5_load_94 : decode cX5_load 94 = .ok (.aload_n 0, 1) := by decide +kernel
theorem dX5_load_95 : decode cX5_load 95 = .ok (.iload_n 1, 1) := by decide +kernel
theorem dX5_load_96 : decode cX5_load 96 = .ok (.putfield 129, 3) := by decide +kernel
theorem dX5_load_99 : decode cX5_load 99 = .ok (.aload_n 0, 1) := by decide +kernel
theorem dX5_load_100 : decode cX5_load 100 = .ok (.aload_n 0, 1) := by decide +kernel
theorem dX5_load_101 : decode cX5_load 101 = .ok (.getfield 118, 3) := by decide +kernel
theorem dX5_load_104 : decode cX5_load 104 = .ok (.putfield 132, 3) := by decide +kernel
theorem dX5_load_107 : decode cX5_load 107 = .ok (.iconst 0, 1) := by decide +kernel
theorem dX5_load_108 : decode cX5_load 108 = .ok (.istore_n 3, 1) := by decide +kernel
theorem dX5_load_109 : decode cX5_load 109 = .ok (.iload_n 3, 1) := by decide +kernel
theorem dX5_load_110 : decode cX5_load 110 = .ok (.aload_n 0, 1) := by decide +kernel
theorem dX5_load_111 : decode cX5_load 111 = .ok (.getfield 132, 3) := by decide +kernel
theorem dX5_load_114 : decode cX5_load 114 = .ok (.if_icmp .ge 21, 3) := by decide +kernel
theorem dX5_load_117 : decode cX5_load 117 = .ok (.aload_n 0, 1) := by decide +kernel
theorem dX5_load_118 : decode cX5_load 118 = .ok (.getfield 44, 3) := by decide +kernel
theorem dX5_load_121 : decode cX5_load 121 = .ok (.iload_n 3, 1) := by decide +kernel
theorem dX5_load_122 : decode cX5_load 122 = .ok (.aload_n 0, 1) := by decide +kernel
theorem dX5_load_123 : decode cX5_load 123 = .ok (.getfield 56, 3) := by decide +kernel
theorem dX5_load_126 : decode cX5_load 126 = .ok (.iload_n 3, 1) := by decide +kernel
theorem dX5_load_127 : decode cX5_load 127 = .ok (.iaload, 1) := by decide +kernel
theorem dX5_load_128 : decode cX5_load 128 = .ok (.iastore, 1) := by decide +kernel
theorem dX5_load_129 : decode cX5_load 129 = .ok (.iinc 3 1, 3) := by decide +kernel
theorem dX5_load_132 : decode cX5_load 132 = .ok (.goto (-23), 3) := by decide +kernel
theorem dX5_load_135 : decode cX5_load 135 = .ok (.aload_n 0, 1) := by decide +kernel
theorem dX5_load_136 : decode cX5_load 136 = .ok (.invokevirtual 153, 3) := by decide +kernel
theorem dX5_load_139 : decode cX5_load 139 = .ok (.aload_n 0, 1) := by decide +kernel
theorem dX5_load_140 : decode cX5_load 140 = .ok (.invokevirtual 156, 3) := by decide +kernel
theorem dX5_load_143 : decode cX5_load 143 = .ok (.iconst 0, 1) := by decide +kernel
theorem dX5_load_144 : decode cX5_load 144 = .ok (.ireturn, 1) := by decide +kernel
theorem dX5_fault_0 : decode cX5_fault 0 = .ok (.iload_n 1, 1) := by decide +kernel
theorem dX5_fault_1 : decode cX5_fault 1 = .ok (.ifCond .ne 10, 3) := by decide +kernel
theorem dX5_fault_4 : decode cX5_fault 4 = .ok (.aload_n 0, 1) := by decide +kernel
theorem dX5_fault_5 : decode cX5_fault 5 = .ok (.getfield 68, 3) := by decide +kernel
theorem dX5_fault_8 : decode cX5_fault 8 = .ok (.goto 28, 3) := by decide +kernel
theorem dX5_fault_11 : decode cX5_fault 11 = .ok (.iload_n 1, 1) := by decide +kernel
theorem dX5_fault_12 : decode cX5_fault 12 = .ok (.iconst 1, 1) := by decide +kernel
theorem dX5_fault_13 : decode cX5_fault 13 = .ok (.if_icmp .ne 10, 3) := by decide +kernel
theorem dX5_fault_16 : decode cX5_fault 16 = .ok (.aload_n 0, 1) := by decide +kernel
theorem dX5_fault_17 : decode cX5_fault 17 = .ok (.getfield 72, 3) := by decide +kernel
theorem dX5_fault_20 : decode cX5_fault 20 = .ok (.goto 16, 3) := by decide +kernel
theorem dX5_fault_23 : decode cX5_fault 23 = .ok (.iload_n 1, 1) := by decide +kernel
theorem dX5_fault_24 : decode cX5_fault 24 = .ok (.iconst 2, 1) := by decide +kernel
theorem dX5_fault_25 : decode cX5_fault 25 = .ok (.if_icmp .ne 10, 3) := by decide +kernel
theorem dX5_fault_28 : decode cX5_fault 28 = .ok (.aload_n 0, 1) := by decide +kernel
theorem dX5_fault_29 : decode cX5_fault 29 = .ok (.getfield 75, 3) := by decide +kernel
theorem dX5_fault_32 : decode cX5_fault 32 = .ok (.goto 4, 3) := by decide +kernel
theorem dX5_fault_35 : decode cX5_fault 35 = .ok (.iconst (-1), 1) := by decide +kernel
theorem dX5_fault_36 : decode cX5_fault 36 = .ok (.ireturn, 1) := by decide +kernel
theorem dX5_order_0 : decode cX5_order 0 = .ok (.aload_n 0, 1) := by decide +kernel
theorem dX5_order_1 : decode cX5_order 1 = .ok (.getfield 97, 3) := by decide +kernel
theorem dX5_order_4 : decode cX5_order 4 = .ok (.ifCond .eq 24, 3) := by decide +kernel
theorem dX5_order_7 : decode cX5_order 7 = .ok (.iload_n 1, 1) := by decide +kernel
theorem dX5_order_8 : decode cX5_order 8 = .ok (.ifCond .lt 20, 3) := by decide +kernel
theorem dX5_order_11 : decode cX5_order 11 = .ok (.iload_n 1, 1) := by decide +kernel
theorem dX5_order_12 : decode cX5_order 12 = .ok (.aload_n 0, 1) := by decide +kernel
theorem dX5_order_13 : decode cX5_order 13 = .ok (.getfield 132, 3) := by decide +kernel
theorem dX5_order_16 : decode cX5_order 16 = .ok (.if_icmp .ge 12, 3) := by decide +kernel
theorem dX5_order_19 : decode cX5_order 19 = .ok (.iload_n 2, 1) := by decide +kernel
theorem dX5_order_20 : decode cX5_order 20 = .ok (.ifCond .lt 8, 3) := by decide +kernel
theorem dX5_order_23 : decode cX5_order 23 = .ok (.iload_n 2, 1) := by decide +kernel
theorem dX5_order_24 : decode cX5_order 24 = .ok (.iconst 1, 1) := by decide +kernel
theorem dX5_order_25 : decode cX5_order 25 = .ok (.if_icmp .le 5, 3) := by decide +kernel
theorem dX5_order_28 : decode cX5_order 28 = .ok (.iconst (-1), 1) := by decide +kernel
theorem dX5_order_29 : decode cX5_order 29 = .ok (.ireturn, 1) := by decide +kernel
theorem dX5_order_30 : decode cX5_order 30 = .ok (.iload_n 2, 1) := by decide +kernel
theorem dX5_order_31 : decode cX5_order 31 = .ok (.ifCond .ne 12, 3) := by decide +kernel
theorem dX5_order_34 : decode cX5_order 34 = .ok (.aload_n 0, 1) := by decide +kernel
theorem dX5_order_35 : decode cX5_order 35 = .ok (.getfield 44, 3) := by decide +kernel
theorem dX5_order_38 : decode cX5_order 38 = .ok (.iload_n 1, 1) := by decide +kernel
theorem dX5_order_39 : decode cX5_order 39 = .ok (.iaload, 1) := by decide +kernel
theorem dX5_order_40 : decode cX5_order 40 = .ok (.goto 9, 3) := by decide +kernel
theorem dX5_order_43 : decode cX5_order 43 = .ok (.aload_n 0, 1) := by decide +kernel
theorem dX5_order_44 : decode cX5_order 44 = .ok (.getfield 47, 3) := by decide +kernel
theorem dX5_order_47 : decode cX5_order 47 = .ok (.iload_n 1, 1) := by decide +kernel
theorem dX5_order_48 : decode cX5_order 48 = .ok (.iaload, 1) := by decide +kernel
theorem dX5_order_49 : decode cX5_order 49 = .ok (.ireturn, 1) := by decide +kernel
theorem dX5_placeOf_0 : decode cX5_placeOf 0 = .ok (.iconst 0, 1) := by decide +kernel
theorem dX5_placeOf_1 : decode cX5_placeOf 1 = .ok (.istore_n 2, 1) := by decide +kernel
theorem dX5_placeOf_2 : decode cX5_placeOf 2 = .ok (.iload_n 2, 1) := by decide +kernel
theorem dX5_placeOf_3 : decode cX5_placeOf 3 = .ok (.aload_n 0, 1) := by decide +kernel
theorem dX5_placeOf_4 : decode cX5_placeOf 4 = .ok (.getfield 132, 3) := by decide +kernel
theorem dX5_placeOf_7 : decode cX5_placeOf 7 = .ok (.if_icmp .ge 28, 3) := by decide +kernel
theorem dX5_placeOf_10 : decode cX5_placeOf 10 = .ok (.aload_n 0, 1) := by decide +kernel
theorem dX5_placeOf_11 : decode cX5_placeOf 11 = .ok (.getfield 97, 3) := by decide +kernel
theorem dX5_placeOf_14 : decode cX5_placeOf 14 = .ok (.ifCond .eq 21, 3) := by decide +kernel
theorem dX5_placeOf_17 : decode cX5_placeOf 17 = .ok (.aload_n 0, 1) := by decide +kernel
theorem dX5_placeOf_18 : decode cX5_placeOf 18 = .ok (.getfield 44, 3) := by decide +kernel
theorem dX5_placeOf_21 : decode cX5_placeOf 21 = .ok (.iload_n 2, 1) := by decide +kernel
theorem dX5_placeOf_22 : decode cX5_placeOf 22 = .ok (.iaload, 1) := by decide +kernel
theorem dX5_placeOf_23 : decode cX5_placeOf 23 = .ok (.iload_n 1, 1) := by decide +kernel
theorem dX5_placeOf_24 : decode cX5_placeOf 24 = .ok (.if_icmp .ne 5, 3) := by decide +kernel
theorem dX5_placeOf_27 : decode cX5_placeOf 27 = .ok (.iload_n 2, 1) := by decide +kernel
theorem dX5_placeOf_28 : decode cX5_placeOf 28 = .ok (.ireturn, 1) := by decide +kernel
theorem dX5_placeOf_29 : decode cX5_placeOf 29 = .ok (.iinc 2 1, 3) := by decide +kernel
theorem dX5_placeOf_32 : decode cX5_placeOf 32 = .ok (.goto (-30), 3) := by decide +kernel
theorem dX5_placeOf_35 : decode cX5_placeOf 35 = .ok (.iconst (-1), 1) := by decide +kernel
theorem dX5_placeOf_36 : decode cX5_placeOf 36 = .ok (.ireturn, 1) := by decide +kernel
theorem dX5_comes_0 : decode cX5_comes 0 = .ok (.aload_n 0, 1) := by decide +kernel
theorem dX5_comes_1 : decode cX5_comes 1 = .ok (.iload_n 1, 1) := by decide +kernel
theorem dX5_comes_2 : decode cX5_comes 2 = .ok (.invokevirtual 159, 3) := by decide +kernel
theorem dX5_comes_5 : decode cX5_comes 5 = .ok (.iconst (-1), 1) := by decide +kernel
theorem dX5_comes_6 : decode cX5_comes 6 = .ok (.if_icmp .eq 10, 3) := by decide +kernel
theorem dX5_comes_9 : decode cX5_comes 9 = .ok (.iload_n 2, 1) := by decide +kernel
theorem dX5_comes_10 : decode cX5_comes 10 = .ok (.invokestatic 101, 3) := by decide +kernel
theorem dX5_comes_13 : decode cX5_comes 13 = .ok (.ifCond .ne 7, 3) := by decide +kernel
theorem dX5_comes_16 : decode cX5_comes 16 = .ok (.iconst (-1), 1) := by decide +kernel
theorem dX5_comes_17 : decode cX5_comes 17 = .ok (.goto 21, 3) := by decide +kernel
theorem dX5_comes_20 : decode cX5_comes 20 = .ok (.aload_n 0, 1) := by decide +kernel
theorem dX5_comes_21 : decode cX5_comes 21 = .ok (.aload_n 0, 1) := by decide +kernel
theorem dX5_comes_22 : decode cX5_comes 22 = .ok (.aload_n 0, 1) := by decide +kernel
theorem dX5_comes_23 : decode cX5_comes 23 = .ok (.getfield 44, 3) := by decide +kernel
theorem dX5_comes_26 : decode cX5_comes 26 = .ok (.aload_n 0, 1) := by decide +kernel
theorem dX5_comes_27 : decode cX5_comes 27 = .ok (.getfield 132, 3) := by decide +kernel
theorem dX5_comes_30 : decode cX5_comes 30 = .ok (.iload_n 1, 1) := by decide +kernel
theorem dX5_comes_31 : decode cX5_comes 31 = .ok (.iload_n 2, 1) := by decide +kernel
theorem dX5_comes_32 : decode cX5_comes 32 = .ok (.invokevirtual 121, 3) := by decide +kernel
theorem dX5_comes_35 : decode cX5_comes 35 = .ok (.invokevirtual 142, 3) := by decide +kernel
theorem dX5_comes_38 : decode cX5_comes 38 = .ok (.ireturn, 1) := by decide +kernel
theorem dX5_bound_0 : decode cX5_bound 0 = .ok (.aload_n 0, 1) := by decide +kernel
theorem dX5_bound_1 : decode cX5_bound 1 = .ok (.iload_n 1, 1) := by decide +kernel
theorem dX5_bound_2 : decode cX5_bound 2 = .ok (.invokevirtual 159, 3) := by decide +kernel
theorem dX5_bound_5 : decode cX5_bound 5 = .ok (.iconst (-1), 1) := by decide +kernel
theorem dX5_bound_6 : decode cX5_bound 6 = .ok (.if_icmp .eq 10, 3) := by decide +kernel
theorem dX5_bound_9 : decode cX5_bound 9 = .ok (.iload_n 2, 1) := by decide +kernel
theorem dX5_bound_10 : decode cX5_bound 10 = .ok (.invokestatic 101, 3) := by decide +kernel
theorem dX5_bound_13 : decode cX5_bound 13 = .ok (.ifCond .ne 7, 3) := by decide +kernel
theorem dX5_bound_16 : decode cX5_bound 16 = .ok (.iconst (-1), 1) := by decide +kernel
theorem dX5_bound_17 : decode cX5_bound 17 = .ok (.goto 14, 3) := by decide +kernel
theorem dX5_bound_20 : decode cX5_bound 20 = .ok (.aload_n 0, 1) := by decide +kernel
theorem dX5_bound_21 : decode cX5_bound 21 = .ok (.getfield 50, 3) := by decide +kernel
theorem dX5_bound_24 : decode cX5_bound 24 = .ok (.bipush 64, 2) := by decide +kernel
theorem dX5_bound_26 : decode cX5_bound 26 = .ok (.iload_n 1, 1) := by decide +kernel
theorem dX5_bound_27 : decode cX5_bound 27 = .ok (.imul, 1) := by decide +kernel
theorem dX5_bound_28 : decode cX5_bound 28 = .ok (.iload_n 2, 1) := by decide +kernel
theorem dX5_bound_29 : decode cX5_bound 29 = .ok (.iadd, 1) := by decide +kernel
theorem dX5_bound_30 : decode cX5_bound 30 = .ok (.iaload, 1) := by decide +kernel
theorem dX5_bound_31 : decode cX5_bound 31 = .ok (.ireturn, 1) := by decide +kernel
theorem dX5_call_0 : decode cX5_call 0 = .ok (.iload_n 1, 1) := by decide +kernel
theorem dX5_call_1 : decode cX5_call 1 = .ok (.iconst (-1), 1) := by decide +kernel
theorem dX5_call_2 : decode cX5_call 2 = .ok (.if_icmp .ne 5, 3) := by decide +kernel
theorem dX5_call_5 : decode cX5_call 5 = .ok (.iconst 3, 1) := by decide +kernel
theorem dX5_call_6 : decode cX5_call 6 = .ok (.ireturn, 1) := by decide +kernel
theorem dX5_call_7 : decode cX5_call 7 = .ok (.aload_n 0, 1) := by decide +kernel
theorem dX5_call_8 : decode cX5_call 8 = .ok (.getfield 162, 3) := by decide +kernel
theorem dX5_call_11 : decode cX5_call 11 = .ok (.bipush 101, 2) := by decide +kernel
theorem dX5_call_13 : decode cX5_call 13 = .ok (.if_icmp .ne 5, 3) := by decide +kernel
theorem dX5_call_16 : decode cX5_call 16 = .ok (.iconst 2, 1) := by decide +kernel
theorem dX5_call_17 : decode cX5_call 17 = .ok (.ireturn, 1) := by decide +kernel
theorem dX5_call_18 : decode cX5_call 18 = .ok (.aload_n 0, 1) := by decide +kernel
theorem dX5_call_19 : decode cX5_call 19 = .ok (.getfield 84, 3) := by decide +kernel
theorem dX5_call_22 : decode cX5_call 22 = .ok (.aload_n 0, 1) := by decide +kernel
theorem dX5_call_23 : decode cX5_call 23 = .ok (.getfield 162, 3) := by decide +kernel
theorem dX5_call_26 : decode cX5_call 26 = .ok (.aload_n 0, 1) := by decide +kernel
theorem dX5_call_27 : decode cX5_call 27 = .ok (.getfield 165, 3) := by decide +kernel
theorem dX5_call_30 : decode cX5_call 30 = .ok (.iastore, 1) := by decide +kernel
theorem dX5_call_31 : decode cX5_call 31 = .ok (.aload_n 0, 1) := by decide +kernel
theorem dX5_call_32 : decode cX5_call 32 = .ok (.getfield 87, 3) := by decide +kernel
theorem dX5_call_35 : decode cX5_call 35 = .ok (.aload_n 0, 1) := by decide +kernel
theorem dX5_call_36 : decode cX5_call 36 = .ok (.getfield 162, 3) := by decide +kernel
theorem dX5_call_39 : decode cX5_call 39 = .ok (.aload_n 0, 1) := by decide +kernel
theorem dX5_call_40 : decode cX5_call 40 = .ok (.getfield 168, 3) := by decide +kernel
theorem dX5_call_43 : decode cX5_call 43 = .ok (.iastore, 1) := by decide +kernel
theorem dX5_call_44 : decode cX5_call 44 = .ok (.aload_n 0, 1) := by decide +kernel
theorem dX5_call_45 : decode cX5_call 45 = .ok (.dup, 1) := by decide +kernel
theorem dX5_call_46 : decode cX5_call 46 = .ok (.getfield 162, 3) := by decide +kernel
theorem dX5_call_49 : decode cX5_call 49 = .ok (.iconst 1, 1) := by decide +kernel
theorem dX5_call_50 : decode cX5_call 50 = .ok (.iadd, 1) := by decide +kernel
theorem dX5_call_51 : decode cX5_call 51 = .ok (.putfield 162, 3) := by decide +kernel
theorem dX5_call_54 : decode cX5_call 54 = .ok (.aload_n 0, 1) := by decide +kernel
theorem dX5_call_55 : decode cX5_call 55 = .ok (.aload_n 0, 1) := by decide +kernel
theorem dX5_call_56 : decode cX5_call 56 = .ok (.getfield 162, 3) := by decide +kernel
theorem dX5_call_59 : decode cX5_call 59 = .ok (.iconst 1, 1) := by decide +kernel
theorem dX5_call_60 : decode cX5_call 60 = .ok (.isub, 1) := by decide +kernel
theorem dX5_call_61 : decode cX5_call 61 = .ok (.aload_n 0, 1) := by decide +kernel
theorem dX5_call_62 : decode cX5_call 62 = .ok (.getfield 171, 3) := by decide +kernel
theorem dX5_call_65 : decode cX5_call 65 = .ok (.if_icmp .le 12, 3) := by decide +kernel
theorem dX5_call_68 : decode cX5_call 68 = .ok (.aload_n 0, 1) := by decide +kernel
theorem dX5_call_69 : decode cX5_call 69 = .ok (.getfield 162, 3) := by decide +kernel
theorem dX5_call_72 : decode cX5_call 72 = .ok (.iconst 1, 1) := by decide +kernel
theorem dX5_call_73 : decode cX5_call 73 = .ok (.isub, 1) := by decide +kernel
theorem dX5_call_74 : decode cX5_call 74 = .ok (.goto 7, 3) := by decide +kernel
theorem dX5_call_77 : decode cX5_call 77 = .ok (.aload_n 0, 1) := by decide +kernel
theorem dX5_call_78 : decode cX5_call 78 = .ok (.getfield 171, 3) := by decide +kernel
theorem dX5_call_81 : decode cX5_call 81 = .ok (.putfield 171, 3) := by decide +kernel
theorem dX5_call_84 : decode cX5_call 84 = .ok (.aload_n 0, 1) := by decide +kernel
theorem dX5_call_85 : decode cX5_call 85 = .ok (.iload_n 1, 1) := by decide +kernel
theorem dX5_call_86 : decode cX5_call 86 = .ok (.bipush 20, 2) := by decide +kernel
theorem dX5_call_88 : decode cX5_call 88 = .ok (.idiv, 1) := by decide +kernel
theorem dX5_call_89 : decode cX5_call 89 = .ok (.putfield 165, 3) := by decide +kernel
theorem dX5_call_92 : decode cX5_call 92 = .ok (.aload_n 0, 1) := by decide +kernel
theorem dX5_call_93 : decode cX5_call 93 = .ok (.aload_n 0, 1) := by decide +kernel
theorem dX5_call_94 : decode cX5_call 94 = .ok (.getfield 22, 3) := by decide +kernel
theorem dX5_call_97 : decode cX5_call 97 = .ok (.iload_n 1, 1) := by decide +kernel
theorem dX5_call_98 : decode cX5_call 98 = .ok (.iaload, 1) := by decide +kernel
theorem dX5_call_99 : decode cX5_call 99 = .ok (.putfield 168, 3) := by decide +kernel
theorem dX5_call_102 : decode cX5_call 102 = .ok (.iconst (-1), 1) := by decide +kernel
theorem dX5_call_103 : decode cX5_call 103 = .ok (.ireturn, 1) := by decide +kernel
theorem dX5_atAddress_0 : decode cX5_atAddress 0 = .ok (.iload_n 1, 1) := by decide +kernel
theorem dX5_atAddress_1 : decode cX5_atAddress 1 = .ok (.sipush 1000, 3) := by decide +kernel
theorem dX5_atAddress_4 : decode cX5_atAddress 4 = .ok (.idiv, 1) := by decide +kernel
theorem dX5_atAddress_5 : decode cX5_atAddress 5 = .ok (.iconst 1, 1) := by decide +kernel
theorem dX5_atAddress_6 : decode cX5_atAddress 6 = .ok (.isub, 1) := by decide +kernel
theorem dX5_atAddress_7 : decode cX5_atAddress 7 = .ok (.istore_n 2, 1) := by decide +kernel
theorem dX5_atAddress_8 : decode cX5_atAddress 8 = .ok (.iload_n 1, 1) := by decide +kernel
theorem dX5_atAddress_9 : decode cX5_atAddress 9 = .ok (.sipush 1000, 3) := by decide +kernel
theorem dX5_atAddress_12 : decode cX5_atAddress 12 = .ok (.if_icmp .lt 11, 3) := by decide +kernel
theorem dX5_atAddress_15 : decode cX5_atAddress 15 = .ok (.iload_n 2, 1) := by decide +kernel
theorem dX5_atAddress_16 : decode cX5_atAddress 16 = .ok (.aload_n 0, 1) := by decide +kernel
theorem dX5_atAddress_17 : decode cX5_atAddress 17 = .ok (.getfield 132, 3) := by decide +kernel
theorem dX5_atAddress_20 : decode cX5_atAddress 20 = .ok (.if_icmp .lt 5, 3) := by decide +kernel
theorem dX5_atAddress_23 : decode cX5_atAddress 23 = .ok (.iconst (-1), 1) := by decide +kernel
theorem dX5_atAddress_24 : decode cX5_atAddress 24 = .ok (.ireturn, 1) := by decide +kernel
theorem dX5_atAddress_25 : decode cX5_atAddress 25 = .ok (.aload_n 0, 1) := by decide +kernel
theorem dX5_atAddress_26 : decode cX5_atAddress 26 = .ok (.getfield 44, 3) := by decide +kernel
theorem dX5_atAddress_29 : decode cX5_atAddress 29 = .ok (.iload_n 2, 1) := by decide +kernel
theorem dX5_atAddress_30 : decode cX5_atAddress 30 = .ok (.iaload, 1) := by decide +kernel
theorem dX5_atAddress_31 : decode cX5_atAddress 31 = .ok (.istore_n 3, 1) := by decide +kernel
theorem dX5_atAddress_32 : decode cX5_atAddress 32 = .ok (.iconst 0, 1) := by decide +kernel
theorem dX5_atAddress_33 : decode cX5_atAddress 33 = .ok (.istore 4, 2) := by decide +kernel
theorem dX5_atAddress_35 : decode cX5_atAddress 35 = .ok (.iload 4, 2) := by decide +kernel
theorem dX5_atAddress_37 : decode cX5_atAddress 37 = .ok (.aload_n 0, 1) := by decide +kernel
theorem dX5_atAddress_38 : decode cX5_atAddress 38 = .ok (.getfield 28, 3) := by decide +kernel
theorem dX5_atAddress_41 : decode cX5_atAddress 41 = .ok (.iload_n 3, 1) := by decide +kernel
theorem dX5_atAddress_42 : decode cX5_atAddress 42 = .ok (.iaload, 1) := by decide +kernel
theorem dX5_atAddress_43 : decode cX5_atAddress 43 = .ok (.if_icmp .ge 46, 3) := by decide +kernel
theorem dX5_atAddress_46 : decode cX5_atAddress 46 = .ok (.bipush 20, 2) := by decide +kernel
theorem dX5_atAddress_48 : decode cX5_atAddress 48 = .ok (.iload_n 3, 1) := by decide +kernel
theorem dX5_atAddress_49 : decode cX5_atAddress 49 = .ok (.imul, 1) := by decide +kernel
theorem dX5_atAddress_50 : decode cX5_atAddress 50 = .ok (.iload 4, 2) := by decide +kernel
theorem dX5_atAddress_52 : decode cX5_atAddress 52 = .ok (.iadd, 1) := by decide +kernel
theorem dX5_atAddress_53 : decode cX5_atAddress 53 = .ok (.istore 5, 2) := by decide +kernel
theorem dX5_atAddress_55 : decode cX5_atAddress 55 = .ok (.aload_n 0, 1) := by decide +kernel
theorem dX5_atAddress_56 : decode cX5_atAddress 56 = .ok (.getfield 19, 3) := by decide +kernel
theorem dX5_atAddress_59 : decode cX5_atAddress 59 = .ok (.iload 5, 2) := by decide +kernel
theorem dX5_atAddress_61 : decode cX5_atAddress 61 = .ok (.iaload, 1) := by decide +kernel
theorem dX5_atAddress_62 : decode cX5_atAddress 62 = .ok (.ifCond .ne 21, 3) := by decide +kernel
theorem dX5_atAddress_65 : decode cX5_atAddress 65 = .ok (.aload_n 0, 1) := by decide +kernel
theorem dX5_atAddress_66 : decode cX5_atAddress 66 = .ok (.getfield 22, 3) := by decide +kernel
theorem dX5_atAddress_69 : decode cX5_atAddress 69 = .ok (.iload 5, 2) := by decide +kernel
theorem dX5_atAddress_71 : decode cX5_atAddress 71 = .ok (.iaload, 1) := by decide +kernel
theorem dX5_atAddress_72 : decode cX5_atAddress 72 = .ok (.iload_n 1, 1) := by decide +kernel
theorem dX5_atAddress_73 : decode cX5_atAddress 73 = .ok (.sipush 1000, 3) := by decide +kernel
theorem dX5_atAddress_76 : decode cX5_atAddress 76 = .ok (.irem, 1) := by decide +kernel
theorem dX5_atAddress_77 : decode cX5_atAddress 77 = .ok (.if_icmp .ne 6, 3) := by decide +kernel
theorem dX5_atAddress_80 : decode cX5_atAddress 80 = .ok (.iload 5, 2) := by decide +kernel
theorem dX5_atAddress_82 : decode cX5_atAddress 82 = .ok (.ireturn, 1) := by decide +kernel
theorem dX5_atAddress_83 : decode cX5_atAddress 83 = .ok (.iinc 4 1, 3) := by decide +kernel
theorem dX5_atAddress_86 : decode cX5_atAddress 86 = .ok (.goto (-51), 3) := by decide +kernel
theorem dX5_atAddress_89 : decode cX5_atAddress 89 = .ok (.iconst (-1), 1) := by decide +kernel
theorem dX5_atAddress_90 : decode cX5_atAddress 90 = .ok (.ireturn, 1) := by decide +kernel
theorem dX5_addressOf_0 : decode cX5_addressOf 0 = .ok (.iload_n 1, 1) := by decide +kernel
theorem dX5_addressOf_1 : decode cX5_addressOf 1 = .ok (.iconst (-1), 1) := by decide +kernel
theorem dX5_addressOf_2 : decode cX5_addressOf 2 = .ok (.if_icmp .ne 7, 3) := by decide +kernel
theorem dX5_addressOf_5 : decode cX5_addressOf 5 = .ok (.iconst 0, 1) := by decide +kernel
theorem dX5_addressOf_6 : decode cX5_addressOf 6 = .ok (.goto 24, 3) := by decide +kernel
theorem dX5_addressOf_9 : decode cX5_addressOf 9 = .ok (.sipush 1000, 3) := by decide +kernel
theorem dX5_addressOf_12 : decode cX5_addressOf 12 = .ok (.aload_n 0, 1) := by decide +kernel
theorem dX5_addressOf_13 : decode cX5_addressOf 13 = .ok (.iload_n 1, 1) := by decide +kernel
theorem dX5_addressOf_14 : decode cX5_addressOf 14 = .ok (.bipush 20, 2) := by decide +kernel
theorem dX5_addressOf_16 : decode cX5_addressOf 16 = .ok (.idiv, 1) := by decide +kernel
theorem dX5_addressOf_17 : decode cX5_addressOf 17 = .ok (.invokevirtual 159, 3) := by decide +kernel
theorem dX5_addressOf_20 : decode cX5_addressOf 20 = .ok (.iconst 1, 1) := by decide +kernel
theorem dX5_addressOf_21 : decode cX5_addressOf 21 = .ok (.iadd, 1) := by decide +kernel
theorem dX5_addressOf_22 : decode cX5_addressOf 22 = .ok (.imul, 1) := by decide +kernel
theorem dX5_addressOf_23 : decode cX5_addressOf 23 = .ok (.aload_n 0, 1) := by decide +kernel
theorem dX5_addressOf_24 : decode cX5_addressOf 24 = .ok (.getfield 22, 3) := by decide +kernel
theorem dX5_addressOf_27 : decode cX5_addressOf 27 = .ok (.iload_n 1, 1) := by decide +kernel
theorem dX5_addressOf_28 : decode cX5_addressOf 28 = .ok (.iaload, 1) := by decide +kernel
theorem dX5_addressOf_29 : decode cX5_addressOf 29 = .ok (.iadd, 1) := by decide +kernel
theorem dX5_addressOf_30 : decode cX5_addressOf 30 = .ok (.ireturn, 1) := by decide +kernel
theorem dX5_callName_0 : decode cX5_callName 0 = .ok (.bipush 64, 2) := by decide +kernel
theorem dX5_callName_2 : decode cX5_callName 2 = .ok (.aload_n 0, 1) := by decide +kernel
theorem dX5_callName_3 : decode cX5_callName 3 = .ok (.getfield 165, 3) := by decide +kernel
theorem dX5_callName_6 : decode cX5_callName 6 = .ok (.imul, 1) := by decide +kernel
theorem dX5_callName_7 : decode cX5_callName 7 = .ok (.iload_n 1, 1) := by decide +kernel
theorem dX5_callName_8 : decode cX5_callName 8 = .ok (.iadd, 1) := by decide +kernel
theorem dX5_callName_9 : decode cX5_callName 9 = .ok (.istore_n 2, 1) := by decide +kernel
theorem dX5_callName_10 : decode cX5_callName 10 = .ok (.aload_n 0, 1) := by decide +kernel
theorem dX5_callName_11 : decode cX5_callName 11 = .ok (.aload_n 0, 1) := by decide +kernel
theorem dX5_callName_12 : decode cX5_callName 12 = .ok (.getfield 44, 3) := by decide +kernel
theorem dX5_callName_15 : decode cX5_callName 15 = .ok (.aload_n 0, 1) := by decide +kernel
theorem dX5_callName_16 : decode cX5_callName 16 = .ok (.getfield 132, 3) := by decide +kernel
theorem dX5_callName_19 : decode cX5_callName 19 = .ok (.aload_n 0, 1) := by decide +kernel
theorem dX5_callName_20 : decode cX5_callName 20 = .ok (.getfield 165, 3) := by decide +kernel
theorem dX5_callName_23 : decode cX5_callName 23 = .ok (.iload_n 1, 1) := by decide +kernel
theorem dX5_callName_24 : decode cX5_callName 24 = .ok (.invokevirtual 121, 3) := by decide +kernel
theorem dX5_callName_27 : decode cX5_callName 27 = .ok (.istore_n 3, 1) := by decide +kernel
theorem dX5_callName_28 : decode cX5_callName 28 = .ok (.aload_n 0, 1) := by decide +kernel
end
section
theorem dX5_callName_29 : decode cX5_callName 29 = .ok (.getfield 50, 3) := by decide +kernel
theorem dX5_callName_32 : decode cX5_callName 32 = .ok (.iload_n 2, 1) := by decide +kernel
theorem dX5_callName_33 : decode cX5_callName 33 = .ok (.iaload, 1) := by decide +kernel
theorem dX5_callName_34 : decode cX5_callName 34 = .ok (.bipush 21, 2) := by decide +kernel
theorem dX5_callName_36 : decode cX5_callName 36 = .ok (.if_icmp .ne 24, 3) := by decide +kernel
theorem dX5_callName_39 : decode cX5_callName 39 = .ok (.aload_n 0, 1) := by decide +kernel
theorem dX5_callName_40 : decode cX5_callName 40 = .ok (.getfield 50, 3) := by decide +kernel
theorem dX5_callName_43 : decode cX5_callName 43 = .ok (.iload_n 2, 1) := by decide +kernel
theorem dX5_callName_44 : decode cX5_callName 44 = .ok (.aload_n 0, 1) := by decide +kernel
theorem dX5_callName_45 : decode cX5_callName 45 = .ok (.iload_n 3, 1) := by decide +kernel
theorem dX5_callName_46 : decode cX5_callName 46 = .ok (.invokevirtual 142, 3) := by decide +kernel
theorem dX5_callName_49 : decode cX5_callName 49 = .ok (.iastore, 1) := by decide +kernel
theorem dX5_callName_50 : decode cX5_callName 50 = .ok (.aload_n 0, 1) := by decide +kernel
theorem dX5_callName_51 : decode cX5_callName 51 = .ok (.dup, 1) := by decide +kernel
theorem dX5_callName_52 : decode cX5_callName 52 = .ok (.getfield 174, 3) := by decide +kernel
theorem dX5_callName_55 : decode cX5_callName 55 = .ok (.iconst 1, 1) := by decide +kernel
theorem dX5_callName_56 : decode cX5_callName 56 = .ok (.iadd, 1) := by decide +kernel
theorem dX5_callName_57 : decode cX5_callName 57 = .ok (.putfield 174, 3) := by decide +kernel
theorem dX5_callName_60 : decode cX5_callName 60 = .ok (.aload_n 0, 1) := by decide +kernel
theorem dX5_callName_61 : decode cX5_callName 61 = .ok (.iload_n 3, 1) := by decide +kernel
theorem dX5_callName_62 : decode cX5_callName 62 = .ok (.invokevirtual 177, 3) := by decide +kernel
theorem dX5_callName_65 : decode cX5_callName 65 = .ok (.ireturn, 1) := by decide +kernel
theorem dX5_make_0 : decode cX5_make 0 = .ok (.iconst 4, 1) := by decide +kernel
theorem dX5_make_1 : decode cX5_make 1 = .ok (.bipush 100, 2) := by decide +kernel
theorem dX5_make_3 : decode cX5_make 3 = .ok (.aload_n 0, 1) := by decide +kernel
theorem dX5_make_4 : decode cX5_make 4 = .ok (.getfield 165, 3) := by decide +kernel
theorem dX5_make_7 : decode cX5_make 7 = .ok (.imul, 1) := by decide +kernel
theorem dX5_make_8 : decode cX5_make 8 = .ok (.aload_n 0, 1) := by decide +kernel
theorem dX5_make_9 : decode cX5_make 9 = .ok (.getfield 168, 3) := by decide +kernel
theorem dX5_make_12 : decode cX5_make 12 = .ok (.iadd, 1) := by decide +kernel
theorem dX5_make_13 : decode cX5_make 13 = .ok (.imul, 1) := by decide +kernel
theorem dX5_make_14 : decode cX5_make 14 = .ok (.istore_n 1, 1) := by decide +kernel
theorem dX5_make_15 : decode cX5_make 15 = .ok (.aload_n 0, 1) := by decide +kernel
theorem dX5_make_16 : decode cX5_make 16 = .ok (.getfield 31, 3) := by decide +kernel
theorem dX5_make_19 : decode cX5_make 19 = .ok (.iload_n 1, 1) := by decide +kernel
theorem dX5_make_20 : decode cX5_make 20 = .ok (.iconst 1, 1) := by decide +kernel
theorem dX5_make_21 : decode cX5_make 21 = .ok (.iadd, 1) := by decide +kernel
theorem dX5_make_22 : decode cX5_make 22 = .ok (.iaload, 1) := by decide +kernel
theorem dX5_make_23 : decode cX5_make 23 = .ok (.istore_n 2, 1) := by decide +kernel
theorem dX5_make_24 : decode cX5_make 24 = .ok (.aload_n 0, 1) := by decide +kernel
theorem dX5_make_25 : decode cX5_make 25 = .ok (.getfield 31, 3) := by decide +kernel
theorem dX5_make_28 : decode cX5_make 28 = .ok (.iload_n 1, 1) := by decide +kernel
theorem dX5_make_29 : decode cX5_make 29 = .ok (.iconst 2, 1) := by decide +kernel
theorem dX5_make_30 : decode cX5_make 30 = .ok (.iadd, 1) := by decide +kernel
theorem dX5_make_31 : decode cX5_make 31 = .ok (.iaload, 1) := by decide +kernel
theorem dX5_make_32 : decode cX5_make 32 = .ok (.istore_n 3, 1) := by decide +kernel
theorem dX5_make_33 : decode cX5_make 33 = .ok (.aload_n 0, 1) := by decide +kernel
theorem dX5_make_34 : decode cX5_make 34 = .ok (.getfield 31, 3) := by decide +kernel
theorem dX5_make_37 : decode cX5_make 37 = .ok (.iload_n 1, 1) := by decide +kernel
theorem dX5_make_38 : decode cX5_make 38 = .ok (.iconst 3, 1) := by decide +kernel
theorem dX5_make_39 : decode cX5_make 39 = .ok (.iadd, 1) := by decide +kernel
theorem dX5_make_40 : decode cX5_make 40 = .ok (.iaload, 1) := by decide +kernel
theorem dX5_make_41 : decode cX5_make 41 = .ok (.istore 4, 2) := by decide +kernel
theorem dX5_make_43 : decode cX5_make 43 = .ok (.aload_n 0, 1) := by decide +kernel
theorem dX5_make_44 : decode cX5_make 44 = .ok (.dup, 1) := by decide +kernel
theorem dX5_make_45 : decode cX5_make 45 = .ok (.getfield 168, 3) := by decide +kernel
theorem dX5_make_48 : decode cX5_make 48 = .ok (.iconst 1, 1) := by decide +kernel
theorem dX5_make_49 : decode cX5_make 49 = .ok (.iadd, 1) := by decide +kernel
theorem dX5_make_50 : decode cX5_make 50 = .ok (.putfield 168, 3) := by decide +kernel
theorem dX5_make_53 : decode cX5_make 53 = .ok (.aload_n 0, 1) := by decide +kernel
theorem dX5_make_54 : decode cX5_make 54 = .ok (.getfield 31, 3) := by decide +kernel
theorem dX5_make_57 : decode cX5_make 57 = .ok (.iload_n 1, 1) := by decide +kernel
theorem dX5_make_58 : decode cX5_make 58 = .ok (.iaload, 1) := by decide +kernel
theorem dX5_make_59 : decode cX5_make 59 = .ok (.tableswitch 403 0 13 #[69, 78, 92, 114, 136, 158, 188, 195, 201, 245, 285, 314, 329, 367], 69) := by decide +kernel
theorem dX5_make_128 : decode cX5_make 128 = .ok (.aload_n 0, 1) := by decide +kernel
theorem dX5_make_129 : decode cX5_make 129 = .ok (.getfield 78, 3) := by decide +kernel
theorem dX5_make_132 : decode cX5_make 132 = .ok (.iload_n 2, 1) := by decide +kernel
theorem dX5_make_133 : decode cX5_make 133 = .ok (.iload_n 3, 1) := by decide +kernel
theorem dX5_make_134 : decode cX5_make 134 = .ok (.iastore, 1) := by decide +kernel
theorem dX5_make_135 : decode cX5_make 135 = .ok (.iconst (-1), 1) := by decide +kernel
theorem dX5_make_136 : decode cX5_make 136 = .ok (.ireturn, 1) := by decide +kernel
theorem dX5_make_137 : decode cX5_make 137 = .ok (.aload_n 0, 1) := by decide +kernel
theorem dX5_make_138 : decode cX5_make 138 = .ok (.getfield 78, 3) := by decide +kernel
theorem dX5_make_141 : decode cX5_make 141 = .ok (.iload_n 2, 1) := by decide +kernel
theorem dX5_make_142 : decode cX5_make 142 = .ok (.aload_n 0, 1) := by decide +kernel
theorem dX5_make_143 : decode cX5_make 143 = .ok (.getfield 78, 3) := by decide +kernel
theorem dX5_make_146 : decode cX5_make 146 = .ok (.iload_n 3, 1) := by decide +kernel
theorem dX5_make_147 : decode cX5_make 147 = .ok (.iaload, 1) := by decide +kernel
theorem dX5_make_148 : decode cX5_make 148 = .ok (.iastore, 1) := by decide +kernel
theorem dX5_make_149 : decode cX5_make 149 = .ok (.iconst (-1), 1) := by decide +kernel
theorem dX5_make_150 : decode cX5_make 150 = .ok (.ireturn, 1) := by decide +kernel
theorem dX5_make_151 : decode cX5_make 151 = .ok (.aload_n 0, 1) := by decide +kernel
theorem dX5_make_152 : decode cX5_make 152 = .ok (.getfield 78, 3) := by decide +kernel
theorem dX5_make_155 : decode cX5_make 155 = .ok (.iload_n 2, 1) := by decide +kernel
theorem dX5_make_156 : decode cX5_make 156 = .ok (.aload_n 0, 1) := by decide +kernel
theorem dX5_make_157 : decode cX5_make 157 = .ok (.getfield 78, 3) := by decide +kernel
theorem dX5_make_160 : decode cX5_make 160 = .ok (.iload_n 3, 1) := by decide +kernel
theorem dX5_make_161 : decode cX5_make 161 = .ok (.iaload, 1) := by decide +kernel
theorem dX5_make_162 : decode cX5_make 162 = .ok (.aload_n 0, 1) := by decide +kernel
theorem dX5_make_163 : decode cX5_make 163 = .ok (.getfield 78, 3) := by decide +kernel
theorem dX5_make_166 : decode cX5_make 166 = .ok (.iload 4, 2) := by decide +kernel
theorem dX5_make_168 : decode cX5_make 168 = .ok (.iaload, 1) := by decide +kernel
theorem dX5_make_169 : decode cX5_make 169 = .ok (.iadd, 1) := by decide +kernel
theorem dX5_make_170 : decode cX5_make 170 = .ok (.iastore, 1) := by decide +kernel
theorem dX5_make_171 : decode cX5_make 171 = .ok (.iconst (-1), 1) := by decide +kernel
theorem dX5_make_172 : decode cX5_make 172 = .ok (.ireturn, 1) := by decide +kernel
theorem dX5_make_173 : decode cX5_make 173 = .ok (.aload_n 0, 1) := by decide +kernel
theorem dX5_make_174 : decode cX5_make 174 = .ok (.getfield 78, 3) := by decide +kernel
theorem dX5_make_177 : decode cX5_make 177 = .ok (.iload_n 2, 1) := by decide +kernel
theorem dX5_make_178 : decode cX5_make 178 = .ok (.aload_n 0, 1) := by decide +kernel
theorem dX5_make_179 : decode cX5_make 179 = .ok (.getfield 78, 3) := by decide +kernel
theorem dX5_make_182 : decode cX5_make 182 = .ok (.iload_n 3, 1) := by decide +kernel
theorem dX5_make_183 : decode cX5_make 183 = .ok (.iaload, 1) := by decide +kernel
theorem dX5_make_184 : decode cX5_make 184 = .ok (.aload_n 0, 1) := by decide +kernel
theorem dX5_make_185 : decode cX5_make 185 = .ok (.getfield 78, 3) := by decide +kernel
theorem dX5_make_188 : decode cX5_make 188 = .ok (.iload 4, 2) := by decide +kernel
theorem dX5_make_190 : decode cX5_make 190 = .ok (.iaload, 1) := by decide +kernel
theorem dX5_make_191 : decode cX5_make 191 = .ok (.isub, 1) := by decide +kernel
theorem dX5_make_192 : decode cX5_make 192 = .ok (.iastore, 1) := by decide +kernel
theorem dX5_make_193 : decode cX5_make 193 = .ok (.iconst (-1), 1) := by decide +kernel
theorem dX5_make_194 : decode cX5_make 194 = .ok (.ireturn, 1) := by decide +kernel
theorem dX5_make_195 : decode cX5_make 195 = .ok (.aload_n 0, 1) := by decide +kernel
theorem dX5_make_196 : decode cX5_make 196 = .ok (.getfield 78, 3) := by decide +kernel
theorem dX5_make_199 : decode cX5_make 199 = .ok (.iload_n 2, 1) := by decide +kernel
theorem dX5_make_200 : decode cX5_make 200 = .ok (.aload_n 0, 1) := by decide +kernel
theorem dX5_make_201 : decode cX5_make 201 = .ok (.getfield 78, 3) := by decide +kernel
theorem dX5_make_204 : decode cX5_make 204 = .ok (.iload_n 3, 1) := by decide +kernel
theorem dX5_make_205 : decode cX5_make 205 = .ok (.iaload, 1) := by decide +kernel
theorem dX5_make_206 : decode cX5_make 206 = .ok (.aload_n 0, 1) := by decide +kernel
theorem dX5_make_207 : decode cX5_make 207 = .ok (.getfield 78, 3) := by decide +kernel
theorem dX5_make_210 : decode cX5_make 210 = .ok (.iload 4, 2) := by decide +kernel
theorem dX5_make_212 : decode cX5_make 212 = .ok (.iaload, 1) := by decide +kernel
theorem dX5_make_213 : decode cX5_make 213 = .ok (.imul, 1) := by decide +kernel
theorem dX5_make_214 : decode cX5_make 214 = .ok (.iastore, 1) := by decide +kernel
theorem dX5_make_215 : decode cX5_make 215 = .ok (.iconst (-1), 1) := by decide +kernel
theorem dX5_make_216 : decode cX5_make 216 = .ok (.ireturn, 1) := by decide +kernel
theorem dX5_make_217 : decode cX5_make 217 = .ok (.aload_n 0, 1) := by decide +kernel
theorem dX5_make_218 : decode cX5_make 218 = .ok (.aload_n 0, 1) := by decide +kernel
theorem dX5_make_219 : decode cX5_make 219 = .ok (.getfield 78, 3) := by decide +kernel
theorem dX5_make_222 : decode cX5_make 222 = .ok (.iload_n 2, 1) := by decide +kernel
theorem dX5_make_223 : decode cX5_make 223 = .ok (.iaload, 1) := by decide +kernel
theorem dX5_make_224 : decode cX5_make 224 = .ok (.aload_n 0, 1) := by decide +kernel
theorem dX5_make_225 : decode cX5_make 225 = .ok (.getfield 78, 3) := by decide +kernel
theorem dX5_make_228 : decode cX5_make 228 = .ok (.iload_n 3, 1) := by decide +kernel
theorem dX5_make_229 : decode cX5_make 229 = .ok (.iaload, 1) := by decide +kernel
theorem dX5_make_230 : decode cX5_make 230 = .ok (.if_icmp .ge 8, 3) := by decide +kernel
theorem dX5_make_233 : decode cX5_make 233 = .ok (.iload 4, 2) := by decide +kernel
theorem dX5_make_235 : decode cX5_make 235 = .ok (.goto 7, 3) := by decide +kernel
theorem dX5_make_238 : decode cX5_make 238 = .ok (.aload_n 0, 1) := by decide +kernel
theorem dX5_make_239 : decode cX5_make 239 = .ok (.getfield 168, 3) := by decide +kernel
theorem dX5_make_242 : decode cX5_make 242 = .ok (.putfield 168, 3) := by decide +kernel
theorem dX5_make_245 : decode cX5_make 245 = .ok (.iconst (-1), 1) := by decide +kernel
theorem dX5_make_246 : decode cX5_make 246 = .ok (.ireturn, 1) := by decide +kernel
theorem dX5_make_247 : decode cX5_make 247 = .ok (.aload_n 0, 1) := by decide +kernel
theorem dX5_make_248 : decode cX5_make 248 = .ok (.iload_n 2, 1) := by decide +kernel
theorem dX5_make_249 : decode cX5_make 249 = .ok (.putfield 168, 3) := by decide +kernel
theorem dX5_make_252 : decode cX5_make 252 = .ok (.iconst (-1), 1) := by decide +kernel
theorem dX5_make_253 : decode cX5_make 253 = .ok (.ireturn, 1) := by decide +kernel
theorem dX5_make_254 : decode cX5_make 254 = .ok (.aload_n 0, 1) := by decide +kernel
theorem dX5_make_255 : decode cX5_make 255 = .ok (.iload_n 2, 1) := by decide +kernel
theorem dX5_make_256 : decode cX5_make 256 = .ok (.invokevirtual 180, 3) := by decide +kernel
theorem dX5_make_259 : decode cX5_make 259 = .ok (.ireturn, 1) := by decide +kernel
theorem dX5_make_260 : decode cX5_make 260 = .ok (.aload_n 0, 1) := by decide +kernel
theorem dX5_make_261 : decode cX5_make 261 = .ok (.aload_n 0, 1) := by decide +kernel
theorem dX5_make_262 : decode cX5_make 262 = .ok (.getfield 44, 3) := by decide +kernel
theorem dX5_make_265 : decode cX5_make 265 = .ok (.aload_n 0, 1) := by decide +kernel
theorem dX5_make_266 : decode cX5_make 266 = .ok (.getfield 132, 3) := by decide +kernel
theorem dX5_make_269 : decode cX5_make 269 = .ok (.aload_n 0, 1) := by decide +kernel
theorem dX5_make_270 : decode cX5_make 270 = .ok (.getfield 165, 3) := by decide +kernel
theorem dX5_make_273 : decode cX5_make 273 = .ok (.iload_n 3, 1) := by decide +kernel
theorem dX5_make_274 : decode cX5_make 274 = .ok (.invokevirtual 121, 3) := by decide +kernel
theorem dX5_make_277 : decode cX5_make 277 = .ok (.istore 5, 2) := by decide +kernel
theorem dX5_make_279 : decode cX5_make 279 = .ok (.aload_n 0, 1) := by decide +kernel
theorem dX5_make_280 : decode cX5_make 280 = .ok (.getfield 78, 3) := by decide +kernel
theorem dX5_make_283 : decode cX5_make 283 = .ok (.iload_n 2, 1) := by decide +kernel
theorem dX5_make_284 : decode cX5_make 284 = .ok (.iload 5, 2) := by decide +kernel
theorem dX5_make_286 : decode cX5_make 286 = .ok (.iconst (-1), 1) := by decide +kernel
theorem dX5_make_287 : decode cX5_make 287 = .ok (.if_icmp .ne 7, 3) := by decide +kernel
theorem dX5_make_290 : decode cX5_make 290 = .ok (.iconst 0, 1) := by decide +kernel
theorem dX5_make_291 : decode cX5_make 291 = .ok (.goto 10, 3) := by decide +kernel
theorem dX5_make_294 : decode cX5_make 294 = .ok (.aload_n 0, 1) := by decide +kernel
theorem dX5_make_295 : decode cX5_make 295 = .ok (.getfield 53, 3) := by decide +kernel
theorem dX5_make_298 : decode cX5_make 298 = .ok (.iload 5, 2) := by decide +kernel
theorem dX5_make_300 : decode cX5_make 300 = .ok (.iaload, 1) := by decide +kernel
theorem dX5_make_301 : decode cX5_make 301 = .ok (.iastore, 1) := by decide +kernel
theorem dX5_make_302 : decode cX5_make 302 = .ok (.iconst (-1), 1) := by decide +kernel
theorem dX5_make_303 : decode cX5_make 303 = .ok (.ireturn, 1) := by decide +kernel
theorem dX5_make_304 : decode cX5_make 304 = .ok (.aload_n 0, 1) := by decide +kernel
theorem dX5_make_305 : decode cX5_make 305 = .ok (.aload_n 0, 1) := by decide +kernel
theorem dX5_make_306 : decode cX5_make 306 = .ok (.getfield 44, 3) := by decide +kernel
theorem dX5_make_309 : decode cX5_make 309 = .ok (.aload_n 0, 1) := by decide +kernel
theorem dX5_make_310 : decode cX5_make 310 = .ok (.getfield 132, 3) := by decide +kernel
theorem dX5_make_313 : decode cX5_make 313 = .ok (.aload_n 0, 1) := by decide +kernel
theorem dX5_make_314 : decode cX5_make 314 = .ok (.getfield 165, 3) := by decide +kernel
theorem dX5_make_317 : decode cX5_make 317 = .ok (.iload_n 2, 1) := by decide +kernel
theorem dX5_make_318 : decode cX5_make 318 = .ok (.invokevirtual 121, 3) := by decide +kernel
theorem dX5_make_321 : decode cX5_make 321 = .ok (.istore 6, 2) := by decide +kernel
theorem dX5_make_323 : decode cX5_make 323 = .ok (.iload 6, 2) := by decide +kernel
theorem dX5_make_325 : decode cX5_make 325 = .ok (.iconst (-1), 1) := by decide +kernel
theorem dX5_make_326 : decode cX5_make 326 = .ok (.if_icmp .eq 16, 3) := by decide +kernel
theorem dX5_make_329 : decode cX5_make 329 = .ok (.aload_n 0, 1) := by decide +kernel
theorem dX5_make_330 : decode cX5_make 330 = .ok (.getfield 53, 3) := by decide +kernel
theorem dX5_make_333 : decode cX5_make 333 = .ok (.iload 6, 2) := by decide +kernel
theorem dX5_make_335 : decode cX5_make 335 = .ok (.aload_n 0, 1) := by decide +kernel
theorem dX5_make_336 : decode cX5_make 336 = .ok (.getfield 78, 3) := by decide +kernel
theorem dX5_make_339 : decode cX5_make 339 = .ok (.iload_n 3, 1) := by decide +kernel
theorem dX5_make_340 : decode cX5_make 340 = .ok (.iaload, 1) := by decide +kernel
theorem dX5_make_341 : decode cX5_make 341 = .ok (.iastore, 1) := by decide +kernel
theorem dX5_make_342 : decode cX5_make 342 = .ok (.iconst (-1), 1) := by decide +kernel
theorem dX5_make_343 : decode cX5_make 343 = .ok (.ireturn, 1) := by decide +kernel
theorem dX5_make_344 : decode cX5_make 344 = .ok (.aload_n 0, 1) := by decide +kernel
theorem dX5_make_345 : decode cX5_make 345 = .ok (.getfield 78, 3) := by decide +kernel
theorem dX5_make_348 : decode cX5_make 348 = .ok (.iload_n 2, 1) := by decide +kernel
theorem dX5_make_349 : decode cX5_make 349 = .ok (.aload_n 0, 1) := by decide +kernel
theorem dX5_make_350 : decode cX5_make 350 = .ok (.aload_n 0, 1) := by decide +kernel
theorem dX5_make_351 : decode cX5_make 351 = .ok (.aload_n 0, 1) := by decide +kernel
theorem dX5_make_352 : decode cX5_make 352 = .ok (.getfield 44, 3) := by decide +kernel
theorem dX5_make_355 : decode cX5_make 355 = .ok (.aload_n 0, 1) := by decide +kernel
theorem dX5_make_356 : decode cX5_make 356 = .ok (.getfield 132, 3) := by decide +kernel
theorem dX5_make_359 : decode cX5_make 359 = .ok (.aload_n 0, 1) := by decide +kernel
theorem dX5_make_360 : decode cX5_make 360 = .ok (.getfield 165, 3) := by decide +kernel
theorem dX5_make_363 : decode cX5_make 363 = .ok (.iload_n 3, 1) := by decide +kernel
theorem dX5_make_364 : decode cX5_make 364 = .ok (.invokevirtual 121, 3) := by decide +kernel
theorem dX5_make_367 : decode cX5_make 367 = .ok (.invokevirtual 183, 3) := by decide +kernel
theorem dX5_make_370 : decode cX5_make 370 = .ok (.iastore, 1) := by decide +kernel
theorem dX5_make_371 : decode cX5_make 371 = .ok (.iconst (-1), 1) := by decide +kernel
theorem dX5_make_372 : decode cX5_make 372 = .ok (.ireturn, 1) := by decide +kernel
theorem dX5_make_373 : decode cX5_make 373 = .ok (.aload_n 0, 1) := by decide +kernel
theorem dX5_make_374 : decode cX5_make 374 = .ok (.aload_n 0, 1) := by decide +kernel
theorem dX5_make_375 : decode cX5_make 375 = .ok (.aload_n 0, 1) := by decide +kernel
theorem dX5_make_376 : decode cX5_make 376 = .ok (.getfield 78, 3) := by decide +kernel
theorem dX5_make_379 : decode cX5_make 379 = .ok (.iload_n 2, 1) := by decide +kernel
theorem dX5_make_380 : decode cX5_make 380 = .ok (.iaload, 1) := by decide +kernel
theorem dX5_make_381 : decode cX5_make 381 = .ok (.invokevirtual 186, 3) := by decide +kernel
theorem dX5_make_384 : decode cX5_make 384 = .ok (.invokevirtual 177, 3) := by decide +kernel
theorem dX5_make_387 : decode cX5_make 387 = .ok (.ireturn, 1) := by decide +kernel
theorem dX5_make_388 : decode cX5_make 388 = .ok (.aload_n 0, 1) := by decide +kernel
theorem dX5_make_389 : decode cX5_make 389 = .ok (.dup, 1) := by decide +kernel
theorem dX5_make_390 : decode cX5_make 390 = .ok (.getfield 162, 3) := by decide +kernel
theorem dX5_make_393 : decode cX5_make 393 = .ok (.iconst 1, 1) := by decide +kernel
theorem dX5_make_394 : decode cX5_make 394 = .ok (.isub, 1) := by decide +kernel
theorem dX5_make_395 : decode cX5_make 395 = .ok (.putfield 162, 3) := by decide +kernel
theorem dX5_make_398 : decode cX5_make 398 = .ok (.aload_n 0, 1) := by decide +kernel
theorem dX5_make_399 : decode cX5_make 399 = .ok (.aload_n 0, 1) := by decide +kernel
theorem dX5_make_400 : decode cX5_make 400 = .ok (.getfield 84, 3) := by decide +kernel
theorem dX5_make_403 : decode cX5_make 403 = .ok (.aload_n 0, 1) := by decide +kernel
theorem dX5_make_404 : decode cX5_make 404 = .ok (.getfield 162, 3) := by decide +kernel
theorem dX5_make_407 : decode cX5_make 407 = .ok (.iaload, 1) := by decide +kernel
theorem dX5_make_408 : decode cX5_make 408 = .ok (.putfield 165, 3) := by decide +kernel
theorem dX5_make_411 : decode cX5_make 411 = .ok (.aload_n 0, 1) := by decide +kernel
theorem dX5_make_412 : decode cX5_make 412 = .ok (.aload_n 0, 1) := by decide +kernel
theorem dX5_make_413 : decode cX5_make 413 = .ok (.getfield 87, 3) := by decide +kernel
theorem dX5_make_416 : decode cX5_make 416 = .ok (.aload_n 0, 1) := by decide +kernel
theorem dX5_make_417 : decode cX5_make 417 = .ok (.getfield 162, 3) := by decide +kernel
theorem dX5_make_420 : decode cX5_make 420 = .ok (.iaload, 1) := by decide +kernel
theorem dX5_make_421 : decode cX5_make 421 = .ok (.putfield 168, 3) := by decide +kernel
theorem dX5_make_424 : decode cX5_make 424 = .ok (.iconst (-1), 1) := by decide +kernel
theorem dX5_make_425 : decode cX5_make 425 = .ok (.ireturn, 1) := by decide +kernel
theorem dX5_make_426 : decode cX5_make 426 = .ok (.aload_n 0, 1) := by decide +kernel
theorem dX5_make_427 : decode cX5_make 427 = .ok (.getfield 189, 3) := by decide +kernel
theorem dX5_make_430 : decode cX5_make 430 = .ok (.bipush 60, 2) := by decide +kernel
theorem dX5_make_432 : decode cX5_make 432 = .ok (.if_icmp .ge 18, 3) := by decide +kernel
theorem dX5_make_435 : decode cX5_make 435 = .ok (.aload_n 0, 1) := by decide +kernel
theorem dX5_make_436 : decode cX5_make 436 = .ok (.getfield 81, 3) := by decide +kernel
theorem dX5_make_439 : decode cX5_make 439 = .ok (.aload_n 0, 1) := by decide +kernel
theorem dX5_make_440 : decode cX5_make 440 = .ok (.getfield 189, 3) := by decide +kernel
theorem dX5_make_443 : decode cX5_make 443 = .ok (.aload_n 0, 1) := by decide +kernel
theorem dX5_make_444 : decode cX5_make 444 = .ok (.getfield 78, 3) := by decide +kernel
theorem dX5_make_447 : decode cX5_make 447 = .ok (.iload_n 2, 1) := by decide +kernel
theorem dX5_make_448 : decode cX5_make 448 = .ok (.iaload, 1) := by decide +kernel
theorem dX5_make_449 : decode cX5_make 449 = .ok (.iastore, 1) := by decide +kernel
theorem dX5_make_450 : decode cX5_make 450 = .ok (.aload_n 0, 1) := by decide +kernel
theorem dX5_make_451 : decode cX5_make 451 = .ok (.dup, 1) := by decide +kernel
theorem dX5_make_452 : decode cX5_make 452 = .ok (.getfield 189, 3) := by decide +kernel
theorem dX5_make_455 : decode cX5_make 455 = .ok (.iconst 1, 1) := by decide +kernel
theorem dX5_make_456 : decode cX5_make 456 = .ok (.iadd, 1) := by decide +kernel
theorem dX5_make_457 : decode cX5_make 457 = .ok (.putfield 189, 3) := by decide +kernel
theorem dX5_make_460 : decode cX5_make 460 = .ok (.iconst (-1), 1) := by decide +kernel
theorem dX5_make_461 : decode cX5_make 461 = .ok (.ireturn, 1) := by decide +kernel
theorem dX5_make_462 : decode cX5_make 462 = .ok (.iconst 0, 1) := by decide +kernel
theorem dX5_make_463 : decode cX5_make 463 = .ok (.ireturn, 1) := by decide +kernel
theorem dX5_go_0 : decode cX5_go 0 = .ok (.aload_n 0, 1) := by decide +kernel
theorem dX5_go_1 : decode cX5_go 1 = .ok (.iconst 0, 1) := by decide +kernel
theorem dX5_go_2 : decode cX5_go 2 = .ok (.putfield 162, 3) := by decide +kernel
theorem dX5_go_5 : decode cX5_go 5 = .ok (.aload_n 0, 1) := by decide +kernel
theorem dX5_go_6 : decode cX5_go 6 = .ok (.iload_n 1, 1) := by decide +kernel
theorem dX5_go_7 : decode cX5_go 7 = .ok (.invokevirtual 177, 3) := by decide +kernel
theorem dX5_go_10 : decode cX5_go 10 = .ok (.istore_n 3, 1) := by decide +kernel
theorem dX5_go_11 : decode cX5_go 11 = .ok (.iload_n 3, 1) := by decide +kernel
theorem dX5_go_12 : decode cX5_go 12 = .ok (.iconst (-1), 1) := by decide +kernel
theorem dX5_go_13 : decode cX5_go 13 = .ok (.if_icmp .ne 56, 3) := by decide +kernel
theorem dX5_go_16 : decode cX5_go 16 = .ok (.aload_n 0, 1) := by decide +kernel
theorem dX5_go_17 : decode cX5_go 17 = .ok (.getfield 162, 3) := by decide +kernel
theorem dX5_go_20 : decode cX5_go 20 = .ok (.ifCond .le 49, 3) := by decide +kernel
theorem dX5_go_23 : decode cX5_go 23 = .ok (.aload_n 0, 1) := by decide +kernel
theorem dX5_go_24 : decode cX5_go 24 = .ok (.getfield 168, 3) := by decide +kernel
theorem dX5_go_27 : decode cX5_go 27 = .ok (.aload_n 0, 1) := by decide +kernel
theorem dX5_go_28 : decode cX5_go 28 = .ok (.getfield 34, 3) := by decide +kernel
theorem dX5_go_31 : decode cX5_go 31 = .ok (.aload_n 0, 1) := by decide +kernel
theorem dX5_go_32 : decode cX5_go 32 = .ok (.getfield 165, 3) := by decide +kernel
theorem dX5_go_35 : decode cX5_go 35 = .ok (.iaload, 1) := by decide +kernel
theorem dX5_go_36 : decode cX5_go 36 = .ok (.if_icmp .lt 5, 3) := by decide +kernel
theorem dX5_go_39 : decode cX5_go 39 = .ok (.iconst 4, 1) := by decide +kernel
theorem dX5_go_40 : decode cX5_go 40 = .ok (.ireturn, 1) := by decide +kernel
theorem dX5_go_41 : decode cX5_go 41 = .ok (.aload_n 0, 1) := by decide +kernel
theorem dX5_go_42 : decode cX5_go 42 = .ok (.getfield 192, 3) := by decide +kernel
theorem dX5_go_45 : decode cX5_go 45 = .ok (.iload_n 2, 1) := by decide +kernel
theorem dX5_go_46 : decode cX5_go 46 = .ok (.if_icmp .ne 5, 3) := by decide +kernel
theorem dX5_go_49 : decode cX5_go 49 = .ok (.iconst 1, 1) := by decide +kernel
theorem dX5_go_50 : decode cX5_go 50 = .ok (.ireturn, 1) := by decide +kernel
theorem dX5_go_51 : decode cX5_go 51 = .ok (.aload_n 0, 1) := by decide +kernel
theorem dX5_go_52 : decode cX5_go 52 = .ok (.dup, 1) := by decide +kernel
theorem dX5_go_53 : decode cX5_go 53 = .ok (.getfield 192, 3) := by decide +kernel
theorem dX5_go_56 : decode cX5_go 56 = .ok (.iconst 1, 1) := by decide +kernel
theorem dX5_go_57 : decode cX5_go 57 = .ok (.iadd, 1) := by decide +kernel
theorem dX5_go_58 : decode cX5_go 58 = .ok (.putfield 192, 3) := by decide +kernel
theorem dX5_go_61 : decode cX5_go 61 = .ok (.aload_n 0, 1) := by decide +kernel
theorem dX5_go_62 : decode cX5_go 62 = .ok (.invokevirtual 195, 3) := by decide +kernel
theorem dX5_go_65 : decode cX5_go 65 = .ok (.istore_n 3, 1) := by decide +kernel
theorem dX5_go_66 : decode cX5_go 66 = .ok (.goto (-55), 3) := by decide +kernel
theorem dX5_go_69 : decode cX5_go 69 = .ok (.iload_n 3, 1) := by decide +kernel
theorem dX5_go_70 : decode cX5_go 70 = .ok (.ireturn, 1) := by decide +kernel
theorem dX5_run_0 : decode cX5_run 0 = .ok (.aload_n 0, 1) := by decide +kernel
theorem dX5_run_1 : decode cX5_run 1 = .ok (.getfield 97, 3) := by decide +kernel
theorem dX5_run_4 : decode cX5_run 4 = .ok (.ifCond .eq 21, 3) := by decide +kernel
theorem dX5_run_7 : decode cX5_run 7 = .ok (.iload_n 1, 1) := by decide +kernel
theorem dX5_run_8 : decode cX5_run 8 = .ok (.invokestatic 101, 3) := by decide +kernel
theorem dX5_run_11 : decode cX5_run 11 = .ok (.ifCond .eq 14, 3) := by decide +kernel
theorem dX5_run_14 : decode cX5_run 14 = .ok (.iload_n 2, 1) := by decide +kernel
theorem dX5_run_15 : decode cX5_run 15 = .ok (.ifCond .lt 10, 3) := by decide +kernel
theorem dX5_run_18 : decode cX5_run 18 = .ok (.iload_n 2, 1) := by decide +kernel
theorem dX5_run_19 : decode cX5_run 19 = .ok (.sipush 5000, 3) := by decide +kernel
theorem dX5_run_22 : decode cX5_run 22 = .ok (.if_icmp .le 5, 3) := by decide +kernel
theorem dX5_run_25 : decode cX5_run 25 = .ok (.iconst (-1), 1) := by decide +kernel
theorem dX5_run_26 : decode cX5_run 26 = .ok (.ireturn, 1) := by decide +kernel
theorem dX5_run_27 : decode cX5_run 27 = .ok (.aload_n 0, 1) := by decide +kernel
theorem dX5_run_28 : decode cX5_run 28 = .ok (.aload_n 0, 1) := by decide +kernel
theorem dX5_run_29 : decode cX5_run 29 = .ok (.getfield 44, 3) := by decide +kernel
theorem dX5_run_32 : decode cX5_run 32 = .ok (.aload_n 0, 1) := by decide +kernel
theorem dX5_run_33 : decode cX5_run 33 = .ok (.getfield 132, 3) := by decide +kernel
theorem dX5_run_36 : decode cX5_run 36 = .ok (.aload_n 0, 1) := by decide +kernel
theorem dX5_run_37 : decode cX5_run 37 = .ok (.getfield 129, 3) := by decide +kernel
theorem dX5_run_40 : decode cX5_run 40 = .ok (.iload_n 1, 1) := by decide +kernel
theorem dX5_run_41 : decode cX5_run 41 = .ok (.invokevirtual 121, 3) := by decide +kernel
theorem dX5_run_44 : decode cX5_run 44 = .ok (.istore_n 3, 1) := by decide +kernel
theorem dX5_run_45 : decode cX5_run 45 = .ok (.iload_n 3, 1) := by decide +kernel
theorem dX5_run_46 : decode cX5_run 46 = .ok (.iconst (-1), 1) := by decide +kernel
theorem dX5_run_47 : decode cX5_run 47 = .ok (.if_icmp .eq 12, 3) := by decide +kernel
theorem dX5_run_50 : decode cX5_run 50 = .ok (.aload_n 0, 1) := by decide +kernel
theorem dX5_run_51 : decode cX5_run 51 = .ok (.getfield 19, 3) := by decide +kernel
theorem dX5_run_54 : decode cX5_run 54 = .ok (.iload_n 3, 1) := by decide +kernel
theorem dX5_run_55 : decode cX5_run 55 = .ok (.iaload, 1) := by decide +kernel
theorem dX5_run_56 : decode cX5_run 56 = .ok (.ifCond .eq 5, 3) := by decide +kernel
theorem dX5_run_59 : decode cX5_run 59 = .ok (.iconst (-1), 1) := by decide +kernel
theorem dX5_run_60 : decode cX5_run 60 = .ok (.ireturn, 1) := by decide +kernel
theorem dX5_run_61 : decode cX5_run 61 = .ok (.aload_n 0, 1) := by decide +kernel
theorem dX5_run_62 : decode cX5_run 62 = .ok (.invokevirtual 156, 3) := by decide +kernel
theorem dX5_run_65 : decode cX5_run 65 = .ok (.iconst 0, 1) := by decide +kernel
theorem dX5_run_66 : decode cX5_run 66 = .ok (.istore 4, 2) := by decide +kernel
theorem dX5_run_68 : decode cX5_run 68 = .ok (.iload 4, 2) := by decide +kernel
theorem dX5_run_70 : decode cX5_run 70 = .ok (.bipush 8, 2) := by decide +kernel
theorem dX5_run_72 : decode cX5_run 72 = .ok (.if_icmp .ge 17, 3) := by decide +kernel
theorem dX5_run_75 : decode cX5_run 75 = .ok (.aload_n 0, 1) := by decide +kernel
theorem dX5_run_76 : decode cX5_run 76 = .ok (.getfield 78, 3) := by decide +kernel
theorem dX5_run_79 : decode cX5_run 79 = .ok (.iload 4, 2) := by decide +kernel
theorem dX5_run_81 : decode cX5_run 81 = .ok (.iconst 0, 1) := by decide +kernel
theorem dX5_run_82 : decode cX5_run 82 = .ok (.iastore, 1) := by decide +kernel
theorem dX5_run_83 : decode cX5_run 83 = .ok (.iinc 4 1, 3) := by decide +kernel
theorem dX5_run_86 : decode cX5_run 86 = .ok (.goto (-18), 3) := by decide +kernel
theorem dX5_run_89 : decode cX5_run 89 = .ok (.aload_n 0, 1) := by decide +kernel
theorem dX5_run_90 : decode cX5_run 90 = .ok (.iconst 0, 1) := by decide +kernel
theorem dX5_run_91 : decode cX5_run 91 = .ok (.putfield 192, 3) := by decide +kernel
theorem dX5_run_94 : decode cX5_run 94 = .ok (.aload_n 0, 1) := by decide +kernel
theorem dX5_run_95 : decode cX5_run 95 = .ok (.iconst 0, 1) := by decide +kernel
theorem dX5_run_96 : decode cX5_run 96 = .ok (.putfield 189, 3) := by decide +kernel
theorem dX5_run_99 : decode cX5_run 99 = .ok (.aload_n 0, 1) := by decide +kernel
theorem dX5_run_100 : decode cX5_run 100 = .ok (.iconst 0, 1) := by decide +kernel
theorem dX5_run_101 : decode cX5_run 101 = .ok (.putfield 174, 3) := by decide +kernel
theorem dX5_run_104 : decode cX5_run 104 = .ok (.aload_n 0, 1) := by decide +kernel
theorem dX5_run_105 : decode cX5_run 105 = .ok (.iconst 0, 1) := by decide +kernel
theorem dX5_run_106 : decode cX5_run 106 = .ok (.putfield 171, 3) := by decide +kernel
theorem dX5_run_109 : decode cX5_run 109 = .ok (.iconst (-1), 1) := by decide +kernel
theorem dX5_run_110 : decode cX5_run 110 = .ok (.istore 4, 2) := by decide +kernel
theorem dX5_run_112 : decode cX5_run 112 = .ok (.iconst 0, 1) := by decide +kernel
theorem dX5_run_113 : decode cX5_run 113 = .ok (.istore 5, 2) := by decide +kernel
theorem dX5_run_115 : decode cX5_run 115 = .ok (.iload 5, 2) := by decide +kernel
theorem dX5_run_117 : decode cX5_run 117 = .ok (.aload_n 0, 1) := by decide +kernel
theorem dX5_run_118 : decode cX5_run 118 = .ok (.getfield 132, 3) := by decide +kernel
theorem dX5_run_121 : decode cX5_run 121 = .ok (.if_icmp .ge 77, 3) := by decide +kernel
theorem dX5_run_124 : decode cX5_run 124 = .ok (.iload 4, 2) := by decide +kernel
theorem dX5_run_126 : decode cX5_run 126 = .ok (.iconst (-1), 1) := by decide +kernel
theorem dX5_run_127 : decode cX5_run 127 = .ok (.if_icmp .ne 71, 3) := by decide +kernel
theorem dX5_run_130 : decode cX5_run 130 = .ok (.aload_n 0, 1) := by decide +kernel
theorem dX5_run_131 : decode cX5_run 131 = .ok (.getfield 47, 3) := by decide +kernel
theorem dX5_run_134 : decode cX5_run 134 = .ok (.iload 5, 2) := by decide +kernel
theorem dX5_run_136 : decode cX5_run 136 = .ok (.iaload, 1) := by decide +kernel
theorem dX5_run_137 : decode cX5_run 137 = .ok (.istore 6, 2) := by decide +kernel
theorem dX5_run_139 : decode cX5_run 139 = .ok (.aload_n 0, 1) := by decide +kernel
theorem dX5_run_140 : decode cX5_run 140 = .ok (.getfield 41, 3) := by decide +kernel
theorem dX5_run_143 : decode cX5_run 143 = .ok (.iload 6, 2) := by decide +kernel
theorem dX5_run_145 : decode cX5_run 145 = .ok (.iaload, 1) := by decide +kernel
theorem dX5_run_146 : decode cX5_run 146 = .ok (.iconst (-1), 1) := by decide +kernel
theorem dX5_run_147 : decode cX5_run 147 = .ok (.if_icmp .ne 7, 3) := by decide +kernel
theorem dX5_run_150 : decode cX5_run 150 = .ok (.iconst (-1), 1) := by decide +kernel
theorem dX5_run_151 : decode cX5_run 151 = .ok (.goto 24, 3) := by decide +kernel
theorem dX5_run_154 : decode cX5_run 154 = .ok (.aload_n 0, 1) := by decide +kernel
theorem dX5_run_155 : decode cX5_run 155 = .ok (.aload_n 0, 1) := by decide +kernel
theorem dX5_run_156 : decode cX5_run 156 = .ok (.getfield 44, 3) := by decide +kernel
theorem dX5_run_159 : decode cX5_run 159 = .ok (.aload_n 0, 1) := by decide +kernel
theorem dX5_run_160 : decode cX5_run 160 = .ok (.getfield 132, 3) := by decide +kernel
theorem dX5_run_163 : decode cX5_run 163 = .ok (.iload 6, 2) := by decide +kernel
theorem dX5_run_165 : decode cX5_run 165 = .ok (.aload_n 0, 1) := by decide +kernel
theorem dX5_run_166 : decode cX5_run 166 = .ok (.getfield 41, 3) := by decide +kernel
theorem dX5_run_169 : decode cX5_run 169 = .ok (.iload 6, 2) := by decide +kernel
theorem dX5_run_171 : decode cX5_run 171 = .ok (.iaload, 1) := by decide +kernel
theorem dX5_run_172 : decode cX5_run 172 = .ok (.invokevirtual 121, 3) := by decide +kernel
theorem dX5_run_175 : decode cX5_run 175 = .ok (.istore 7, 2) := by decide +kernel
theorem dX5_run_177 : decode cX5_run 177 = .ok (.iload 7, 2) := by decide +kernel
theorem dX5_run_179 : decode cX5_run 179 = .ok (.iconst (-1), 1) := by decide +kernel
theorem dX5_run_180 : decode cX5_run 180 = .ok (.if_icmp .eq 12, 3) := by decide +kernel
theorem dX5_run_183 : decode cX5_run 183 = .ok (.aload_n 0, 1) := by decide +kernel
theorem dX5_run_184 : decode cX5_run 184 = .ok (.iload 7, 2) := by decide +kernel
theorem dX5_run_186 : decode cX5_run 186 = .ok (.iload_n 2, 1) := by decide +kernel
theorem dX5_run_187 : decode cX5_run 187 = .ok (.invokevirtual 199, 3) := by decide +kernel
theorem dX5_run_190 : decode cX5_run 190 = .ok (.istore 4, 2) := by decide +kernel
theorem dX5_run_192 : decode cX5_run 192 = .ok (.iinc 5 1, 3) := by decide +kernel
theorem dX5_run_195 : decode cX5_run 195 = .ok (.goto (-80), 3) := by decide +kernel
theorem dX5_run_198 : decode cX5_run 198 = .ok (.iload 4, 2) := by decide +kernel
theorem dX5_run_200 : decode cX5_run 200 = .ok (.iconst (-1), 1) := by decide +kernel
theorem dX5_run_201 : decode cX5_run 201 = .ok (.if_icmp .ne 12, 3) := by decide +kernel
theorem dX5_run_204 : decode cX5_run 204 = .ok (.aload_n 0, 1) := by decide +kernel
theorem dX5_run_205 : decode cX5_run 205 = .ok (.iload_n 3, 1) := by decide +kernel
theorem dX5_run_206 : decode cX5_run 206 = .ok (.iload_n 2, 1) := by decide +kernel
theorem dX5_run_207 : decode cX5_run 207 = .ok (.invokevirtual 199, 3) := by decide +kernel
theorem dX5_run_210 : decode cX5_run 210 = .ok (.goto 5, 3) := by decide +kernel
theorem dX5_run_213 : decode cX5_run 213 = .ok (.iload 4, 2) := by decide +kernel
theorem dX5_run_215 : decode cX5_run 215 = .ok (.istore 4, 2) := by decide +kernel
theorem dX5_run_217 : decode cX5_run 217 = .ok (.iload 4, 2) := by decide +kernel
theorem dX5_run_219 : decode cX5_run 219 = .ok (.iconst (-1), 1) := by decide +kernel
theorem dX5_run_220 : decode cX5_run 220 = .ok (.if_icmp .ne 7, 3) := by decide +kernel
theorem dX5_run_223 : decode cX5_run 223 = .ok (.iconst 0, 1) := by decide +kernel
theorem dX5_run_224 : decode cX5_run 224 = .ok (.goto 5, 3) := by decide +kernel
theorem dX5_run_227 : decode cX5_run 227 = .ok (.iload 4, 2) := by decide +kernel
theorem dX5_run_229 : decode cX5_run 229 = .ok (.ireturn, 1) := by decide +kernel
theorem dX5_count_0 : decode cX5_count 0 = .ok (.iload_n 1, 1) := by decide +kernel
theorem dX5_count_1 : decode cX5_count 1 = .ok (.tableswitch 80 0 5 #[39, 44, 49, 54, 59, 75], 39) := by decide +kernel
theorem dX5_count_40 : decode cX5_count 40 = .ok (.aload_n 0, 1) := by decide +kernel
theorem dX5_count_41 : decode cX5_count 41 = .ok (.getfield 192, 3) := by decide +kernel
theorem dX5_count_44 : decode cX5_count 44 = .ok (.ireturn, 1) := by decide +kernel
theorem dX5_count_45 : decode cX5_count 45 = .ok (.aload_n 0, 1) := by decide +kernel
theorem dX5_count_46 : decode cX5_count 46 = .ok (.getfield 189, 3) := by decide +kernel
theorem dX5_count_49 : decode cX5_count 49 = .ok (.ireturn, 1) := by decide +kernel
theorem dX5_count_50 : decode cX5_count 50 = .ok (.aload_n 0, 1) := by decide +kernel
theorem dX5_count_51 : decode cX5_count 51 = .ok (.getfield 174, 3) := by decide +kernel
theorem dX5_count_54 : decode cX5_count 54 = .ok (.ireturn, 1) := by decide +kernel
theorem dX5_count_55 : decode cX5_count 55 = .ok (.aload_n 0, 1) := by decide +kernel
theorem dX5_count_56 : decode cX5_count 56 = .ok (.getfield 171, 3) := by decide +kernel
theorem dX5_count_59 : decode cX5_count 59 = .ok (.ireturn, 1) := by decide +kernel
theorem dX5_count_60 : decode cX5_count 60 = .ok (.aload_n 0, 1) := by decide +kernel
theorem dX5_count_61 : decode cX5_count 61 = .ok (.getfield 97, 3) := by decide +kernel
theorem dX5_count_64 : decode cX5_count 64 = .ok (.ifCond .eq 10, 3) := by decide +kernel
theorem dX5_count_67 : decode cX5_count 67 = .ok (.aload_n 0, 1) := by decide +kernel
theorem dX5_count_68 : decode cX5_count 68 = .ok (.getfield 132, 3) := by decide +kernel
theorem dX5_count_71 : decode cX5_count 71 = .ok (.goto 4, 3) := by decide +kernel
theorem dX5_count_74 : decode cX5_count 74 = .ok (.iconst 0, 1) := by decide +kernel
theorem dX5_count_75 : decode cX5_count 75 = .ok (.ireturn, 1) := by decide +kernel
theorem dX5_count_76 : decode cX5_count 76 = .ok (.aload_n 0, 1) := by decide +kernel
theorem dX5_count_77 : decode cX5_count 77 = .ok (.getfield 90, 3) := by decide +kernel
theorem dX5_count_80 : decode cX5_count 80 = .ok (.ireturn, 1) := by decide +kernel
theorem dX5_count_81 : decode cX5_count 81 = .ok (.iconst (-1), 1) := by decide +kernel
theorem dX5_count_82 : decode cX5_count 82 = .ok (.ireturn, 1) := by decide +kernel
theorem dX5_said_0 : decode cX5_said 0 = .ok (.iload_n 1, 1) := by decide +kernel
theorem dX5_said_1 : decode cX5_said 1 = .ok (.ifCond .lt 17, 3) := by decide +kernel
theorem dX5_said_4 : decode cX5_said 4 = .ok (.iload_n 1, 1) := by decide +kernel
theorem dX5_said_5 : decode cX5_said 5 = .ok (.aload_n 0, 1) := by decide +kernel
theorem dX5_said_6 : decode cX5_said 6 = .ok (.getfield 189, 3) := by decide +kernel
theorem dX5_said_9 : decode cX5_said 9 = .ok (.if_icmp .ge 9, 3) := by decide +kernel
theorem dX5_said_12 : decode cX5_said 12 = .ok (.iload_n 1, 1) := by decide +kernel
theorem dX5_said_13 : decode cX5_said 13 = .ok (.bipush 60, 2) := by decide +kernel
theorem dX5_said_15 : decode cX5_said 15 = .ok (.if_icmp .lt 7, 3) := by decide +kernel
theorem dX5_said_18 : decode cX5_said 18 = .ok (.iconst 0, 1) := by decide +kernel
theorem dX5_said_19 : decode cX5_said 19 = .ok (.goto 9, 3) := by decide +kernel
theorem dX5_said_22 : decode cX5_said 22 = .ok (.aload_n 0, 1) := by decide +kernel
theorem dX5_said_23 : decode cX5_said 23 = .ok (.getfield 81, 3) := by decide +kernel
theorem dX5_said_26 : decode cX5_said 26 = .ok (.iload_n 1, 1) := by decide +kernel
theorem dX5_said_27 : decode cX5_said 27 = .ok (.iaload, 1) := by decide +kernel
theorem dX5_said_28 : decode cX5_said 28 = .ok (.ireturn, 1) := by decide +kernel
theorem dX5_register_0 : decode cX5_register 0 = .ok (.iload_n 1, 1) := by decide +kernel
theorem dX5_register_1 : decode cX5_register 1 = .ok (.invokestatic 111, 3) := by decide +kernel
theorem dX5_register_4 : decode cX5_register 4 = .ok (.ifCond .eq 12, 3) := by decide +kernel
theorem dX5_register_7 : decode cX5_register 7 = .ok (.aload_n 0, 1) := by decide +kernel
theorem dX5_register_8 : decode cX5_register 8 = .ok (.getfield 78, 3) := by decide +kernel
theorem dX5_register_11 : decode cX5_register 11 = .ok (.iload_n 1, 1) := by decide +kernel
theorem dX5_register_12 : decode cX5_register 12 = .ok (.iaload, 1) := by decide +kernel
theorem dX5_register_13 : decode cX5_register 13 = .ok (.goto 4, 3) := by decide +kernel
theorem dX5_register_16 : decode cX5_register 16 = .ok (.iconst 0, 1) := by decide +kernel
theorem dX5_register_17 : decode cX5_register 17 = .ok (.ireturn, 1) := by decide +kernel
theorem dX5_datum_0 : decode cX5_datum 0 = .ok (.aload_n 0, 1) := by decide +kernel
theorem dX5_datum_1 : decode cX5_datum 1 = .ok (.iload_n 1, 1) := by decide +kernel
theorem dX5_datum_2 : decode cX5_datum 2 = .ok (.invokevirtual 159, 3) := by decide +kernel
theorem dX5_datum_5 : decode cX5_datum 5 = .ok (.iconst (-1), 1) := by decide +kernel
theorem dX5_datum_6 : decode cX5_datum 6 = .ok (.if_icmp .ne 5, 3) := by decide +kernel
theorem dX5_datum_9 : decode cX5_datum 9 = .ok (.iconst (-1), 1) := by decide +kernel
theorem dX5_datum_10 : decode cX5_datum 10 = .ok (.ireturn, 1) := by decide +kernel
theorem dX5_datum_11 : decode cX5_datum 11 = .ok (.aload_n 0, 1) := by decide +kernel
theorem dX5_datum_12 : decode cX5_datum 12 = .ok (.iload_n 1, 1) := by decide +kernel
theorem dX5_datum_13 : decode cX5_datum 13 = .ok (.iload_n 2, 1) := by decide +kernel
theorem dX5_datum_14 : decode cX5_datum 14 = .ok (.invokevirtual 107, 3) := by decide +kernel
theorem dX5_datum_17 : decode cX5_datum 17 = .ok (.istore_n 3, 1) := by decide +kernel
theorem dX5_datum_18 : decode cX5_datum 18 = .ok (.iload_n 3, 1) := by decide +kernel
theorem dX5_datum_19 : decode cX5_datum 19 = .ok (.iconst (-1), 1) := by decide +kernel
theorem dX5_datum_20 : decode cX5_datum 20 = .ok (.if_icmp .eq 13, 3) := by decide +kernel
theorem dX5_datum_23 : decode cX5_datum 23 = .ok (.aload_n 0, 1) := by decide +kernel
theorem dX5_datum_24 : decode cX5_datum 24 = .ok (.getfield 19, 3) := by decide +kernel
theorem dX5_datum_27 : decode cX5_datum 27 = .ok (.iload_n 3, 1) := by decide +kernel
theorem dX5_datum_28 : decode cX5_datum 28 = .ok (.iaload, 1) := by decide +kernel
theorem dX5_datum_29 : decode cX5_datum 29 = .ok (.iconst 1, 1) := by decide +kernel
theorem dX5_datum_30 : decode cX5_datum 30 = .ok (.if_icmp .eq 7, 3) := by decide +kernel
theorem dX5_datum_33 : decode cX5_datum 33 = .ok (.iconst (-1), 1) := by decide +kernel
theorem dX5_datum_34 : decode cX5_datum 34 = .ok (.goto 9, 3) := by decide +kernel
theorem dX5_datum_37 : decode cX5_datum 37 = .ok (.aload_n 0, 1) := by decide +kernel
theorem dX5_datum_38 : decode cX5_datum 38 = .ok (.getfield 53, 3) := by decide +kernel
theorem dX5_datum_41 : decode cX5_datum 41 = .ok (.iload_n 3, 1) := by decide +kernel
theorem dX5_datum_42 : decode cX5_datum 42 = .ok (.iaload, 1) := by decide +kernel
theorem dX5_datum_43 : decode cX5_datum 43 = .ok (.ireturn, 1) := by decide +kernel
theorem dX5_check_0 : decode cX5_check 0 = .ok (.iconst 1, 1) := by decide +kernel
theorem dX5_check_1 : decode cX5_check 1 = .ok (.ireturn, 1) := by decide +kernel
end
section
theorem dJ7_fill_53178_0 : decode cJ7_fill_53178 0 = .ok (.iconst 0, 1) := by decide +kernel
theorem dJ7_fill_53178_1 : decode cJ7_fill_53178 1 = .ok (.istore_n 2, 1) := by decide +kernel
theorem dJ7_fill_53178_2 : decode cJ7_fill_53178 2 = .ok (.aload_n 0, 1) := by decide +kernel
theorem dJ7_fill_53178_3 : decode cJ7_fill_53178 3 = .ok (.arraylength, 1) := by decide +kernel
theorem dJ7_fill_53178_4 : decode cJ7_fill_53178 4 = .ok (.istore_n 3, 1) := by decide +kernel
theorem dJ7_fill_53178_5 : decode cJ7_fill_53178 5 = .ok (.iload_n 2, 1) := by decide +kernel
theorem dJ7_fill_53178_6 : decode cJ7_fill_53178 6 = .ok (.iload_n 3, 1) := by decide +kernel
theorem dJ7_fill_53178_7 : decode cJ7_fill_53178 7 = .ok (.if_icmp .ge 13, 3) := by decide +kernel
theorem dJ7_fill_53178_10 : decode cJ7_fill_53178 10 = .ok (.aload_n 0, 1) := by decide +kernel
theorem dJ7_fill_53178_11 : decode cJ7_fill_53178 11 = .ok (.iload_n 2, 1) := by decide +kernel
theorem dJ7_fill_53178_12 : decode cJ7_fill_53178 12 = .ok (.iload_n 1, 1) := by decide +kernel
theorem dJ7_fill_53178_13 : decode cJ7_fill_53178 13 = .ok (.iastore, 1) := by decide +kernel
theorem dJ7_fill_53178_14 : decode cJ7_fill_53178 14 = .ok (.iinc 2 1, 3) := by decide +kernel
theorem dJ7_fill_53178_17 : decode cJ7_fill_53178 17 = .ok (.goto (-12), 3) := by decide +kernel
theorem dJ7_fill_53178_20 : decode cJ7_fill_53178 20 = .ok (.return_, 1) := by decide +kernel
end
section
theorem dL_law_0 : decode cL_law 0 = .ok (.new 7, 3) := by decide +kernel
theorem dL_law_3 : decode cL_law 3 = .ok (.dup, 1) := by decide +kernel
theorem dL_law_4 : decode cL_law 4 = .ok (.invokespecial 9, 3) := by decide +kernel
theorem dL_law_7 : decode cL_law 7 = .ok (.astore_n 1, 1) := by decide +kernel
theorem dL_law_8 : decode cL_law 8 = .ok (.new 10, 3) := by decide +kernel
theorem dL_law_11 : decode cL_law 11 = .ok (.dup, 1) := by decide +kernel
theorem dL_law_12 : decode cL_law 12 = .ok (.invokespecial 12, 3) := by decide +kernel
theorem dL_law_15 : decode cL_law 15 = .ok (.astore_n 2, 1) := by decide +kernel
theorem dL_law_16 : decode cL_law 16 = .ok (.iconst 0, 1) := by decide +kernel
theorem dL_law_17 : decode cL_law 17 = .ok (.istore_n 3, 1) := by decide +kernel
theorem dL_law_18 : decode cL_law 18 = .ok (.iload_n 3, 1) := by decide +kernel
theorem dL_law_19 : decode cL_law 19 = .ok (.aload_n 0, 1) := by decide +kernel
theorem dL_law_20 : decode cL_law 20 = .ok (.arraylength, 1) := by decide +kernel
theorem dL_law_21 : decode cL_law 21 = .ok (.bipush 6, 2) := by decide +kernel
theorem dL_law_23 : decode cL_law 23 = .ok (.isub, 1) := by decide +kernel
theorem dL_law_24 : decode cL_law 24 = .ok (.if_icmp .gt 639, 3) := by decide +kernel
theorem dL_law_27 : decode cL_law 27 = .ok (.aload_n 0, 1) := by decide +kernel
theorem dL_law_28 : decode cL_law 28 = .ok (.iload_n 3, 1) := by decide +kernel
theorem dL_law_29 : decode cL_law 29 = .ok (.iaload, 1) := by decide +kernel
theorem dL_law_30 : decode cL_law 30 = .ok (.bipush 31, 2) := by decide +kernel
theorem dL_law_32 : decode cL_law 32 = .ok (.iand, 1) := by decide +kernel
theorem dL_law_33 : decode cL_law 33 = .ok (.tableswitch 624 0 16 #[83, 96, 129, 192, 225, 258, 321, 354, 377, 410, 443, 476, 509, 532, 555, 578, 611], 83) := by decide +kernel
theorem dL_law_116 : decode cL_law 116 = .ok (.aload_n 1, 1) := by decide +kernel
theorem dL_law_117 : decode cL_law 117 = .ok (.invokevirtual 13, 3) := by decide +kernel
theorem dL_law_120 : decode cL_law 120 = .ok (.aload_n 2, 1) := by decide +kernel
theorem dL_law_121 : decode cL_law 121 = .ok (.invokevirtual 17, 3) := by decide +kernel
theorem dL_law_124 : decode cL_law 124 = .ok (.if_icmp .eq 533, 3) := by decide +kernel
theorem dL_law_127 : decode cL_law 127 = .ok (.iconst 0, 1) := by decide +kernel
theorem dL_law_128 : decode cL_law 128 = .ok (.ireturn, 1) := by decide +kernel
theorem dL_law_129 : decode cL_law 129 = .ok (.aload_n 1, 1) := by decide +kernel
theorem dL_law_130 : decode cL_law 130 = .ok (.aload_n 0, 1) := by decide +kernel
theorem dL_law_131 : decode cL_law 131 = .ok (.iload_n 3, 1) := by decide +kernel
theorem dL_law_132 : decode cL_law 132 = .ok (.iconst 1, 1) := by decide +kernel
theorem dL_law_133 : decode cL_law 133 = .ok (.iadd, 1) := by decide +kernel
theorem dL_law_134 : decode cL_law 134 = .ok (.iaload, 1) := by decide +kernel
theorem dL_law_135 : decode cL_law 135 = .ok (.aload_n 0, 1) := by decide +kernel
theorem dL_law_136 : decode cL_law 136 = .ok (.iload_n 3, 1) := by decide +kernel
theorem dL_law_137 : decode cL_law 137 = .ok (.iconst 2, 1) := by decide +kernel
theorem dL_law_138 : decode cL_law 138 = .ok (.iadd, 1) := by decide +kernel
theorem dL_law_139 : decode cL_law 139 = .ok (.iaload, 1) := by decide +kernel
theorem dL_law_140 : decode cL_law 140 = .ok (.invokevirtual 18, 3) := by decide +kernel
theorem dL_law_143 : decode cL_law 143 = .ok (.aload_n 2, 1) := by decide +kernel
theorem dL_law_144 : decode cL_law 144 = .ok (.aload_n 0, 1) := by decide +kernel
theorem dL_law_145 : decode cL_law 145 = .ok (.iload_n 3, 1) := by decide +kernel
theorem dL_law_146 : decode cL_law 146 = .ok (.iconst 1, 1) := by decide +kernel
theorem dL_law_147 : decode cL_law 147 = .ok (.iadd, 1) := by decide +kernel
theorem dL_law_148 : decode cL_law 148 = .ok (.iaload, 1) := by decide +kernel
theorem dL_law_149 : decode cL_law 149 = .ok (.aload_n 0, 1) := by decide +kernel
theorem dL_law_150 : decode cL_law 150 = .ok (.iload_n 3, 1) := by decide +kernel
theorem dL_law_151 : decode cL_law 151 = .ok (.iconst 2, 1) := by decide +kernel
theorem dL_law_152 : decode cL_law 152 = .ok (.iadd, 1) := by decide +kernel
theorem dL_law_153 : decode cL_law 153 = .ok (.iaload, 1) := by decide +kernel
theorem dL_law_154 : decode cL_law 154 = .ok (.invokevirtual 22, 3) := by decide +kernel
theorem dL_law_157 : decode cL_law 157 = .ok (.if_icmp .eq 500, 3) := by decide +kernel
theorem dL_law_160 : decode cL_law 160 = .ok (.iconst 0, 1) := by decide +kernel
theorem dL_law_161 : decode cL_law 161 = .ok (.ireturn, 1) := by decide +kernel
theorem dL_law_162 : decode cL_law 162 = .ok (.aload_n 1, 1) := by decide +kernel
theorem dL_law_163 : decode cL_law 163 = .ok (.aload_n 0, 1) := by decide +kernel
theorem dL_law_164 : decode cL_law 164 = .ok (.iload_n 3, 1) := by decide +kernel
theorem dL_law_165 : decode cL_law 165 = .ok (.iconst 1, 1) := by decide +kernel
theorem dL_law_166 : decode cL_law 166 = .ok (.iadd, 1) := by decide +kernel
theorem dL_law_167 : decode cL_law 167 = .ok (.iaload, 1) := by decide +kernel
theorem dL_law_168 : decode cL_law 168 = .ok (.aload_n 0, 1) := by decide +kernel
theorem dL_law_169 : decode cL_law 169 = .ok (.iload_n 3, 1) := by decide +kernel
theorem dL_law_170 : decode cL_law 170 = .ok (.iconst 2, 1) := by decide +kernel
theorem dL_law_171 : decode cL_law 171 = .ok (.iadd, 1) := by decide +kernel
theorem dL_law_172 : decode cL_law 172 = .ok (.iaload, 1) := by decide +kernel
theorem dL_law_173 : decode cL_law 173 = .ok (.aload_n 0, 1) := by decide +kernel
theorem dL_law_174 : decode cL_law 174 = .ok (.iload_n 3, 1) := by decide +kernel
theorem dL_law_175 : decode cL_law 175 = .ok (.iconst 3, 1) := by decide +kernel
theorem dL_law_176 : decode cL_law 176 = .ok (.iadd, 1) := by decide +kernel
theorem dL_law_177 : decode cL_law 177 = .ok (.iaload, 1) := by decide +kernel
theorem dL_law_178 : decode cL_law 178 = .ok (.aload_n 0, 1) := by decide +kernel
theorem dL_law_179 : decode cL_law 179 = .ok (.iload_n 3, 1) := by decide +kernel
theorem dL_law_180 : decode cL_law 180 = .ok (.iconst 4, 1) := by decide +kernel
theorem dL_law_181 : decode cL_law 181 = .ok (.iadd, 1) := by decide +kernel
theorem dL_law_182 : decode cL_law 182 = .ok (.iaload, 1) := by decide +kernel
theorem dL_law_183 : decode cL_law 183 = .ok (.aload_n 0, 1) := by decide +kernel
theorem dL_law_184 : decode cL_law 184 = .ok (.iload_n 3, 1) := by decide +kernel
theorem dL_law_185 : decode cL_law 185 = .ok (.iconst 5, 1) := by decide +kernel
theorem dL_law_186 : decode cL_law 186 = .ok (.iadd, 1) := by decide +kernel
theorem dL_law_187 : decode cL_law 187 = .ok (.iaload, 1) := by decide +kernel
theorem dL_law_188 : decode cL_law 188 = .ok (.invokevirtual 23, 3) := by decide +kernel
theorem dL_law_191 : decode cL_law 191 = .ok (.aload_n 2, 1) := by decide +kernel
theorem dL_law_192 : decode cL_law 192 = .ok (.aload_n 0, 1) := by decide +kernel
theorem dL_law_193 : decode cL_law 193 = .ok (.iload_n 3, 1) := by decide +kernel
theorem dL_law_194 : decode cL_law 194 = .ok (.iconst 1, 1) := by decide +kernel
theorem dL_law_195 : decode cL_law 195 = .ok (.iadd, 1) := by decide +kernel
theorem dL_law_196 : decode cL_law 196 = .ok (.iaload, 1) := by decide +kernel
theorem dL_law_197 : decode cL_law 197 = .ok (.aload_n 0, 1) := by decide +kernel
theorem dL_law_198 : decode cL_law 198 = .ok (.iload_n 3, 1) := by decide +kernel
theorem dL_law_199 : decode cL_law 199 = .ok (.iconst 2, 1) := by decide +kernel
theorem dL_law_200 : decode cL_law 200 = .ok (.iadd, 1) := by decide +kernel
theorem dL_law_201 : decode cL_law 201 = .ok (.iaload, 1) := by decide +kernel
theorem dL_law_202 : decode cL_law 202 = .ok (.aload_n 0, 1) := by decide +kernel
theorem dL_law_203 : decode cL_law 203 = .ok (.iload_n 3, 1) := by decide +kernel
theorem dL_law_204 : decode cL_law 204 = .ok (.iconst 3, 1) := by decide +kernel
theorem dL_law_205 : decode cL_law 205 = .ok (.iadd, 1) := by decide +kernel
theorem dL_law_206 : decode cL_law 206 = .ok (.iaload, 1) := by decide +kernel
theorem dL_law_207 : decode cL_law 207 = .ok (.aload_n 0, 1) := by decide +kernel
theorem dL_law_208 : decode cL_law 208 = .ok (.iload_n 3, 1) := by decide +kernel
theorem dL_law_209 : decode cL_law 209 = .ok (.iconst 4, 1) := by decide +kernel
theorem dL_law_210 : decode cL_law 210 = .ok (.iadd, 1) := by decide +kernel
theorem dL_law_211 : decode cL_law 211 = .ok (.iaload, 1) := by decide +kernel
theorem dL_law_212 : decode cL_law 212 = .ok (.aload_n 0, 1) := by decide +kernel
theorem dL_law_213 : decode cL_law 213 = .ok (.iload_n 3, 1) := by decide +kernel
theorem dL_law_214 : decode cL_law 214 = .ok (.iconst 5, 1) := by decide +kernel
theorem dL_law_215 : decode cL_law 215 = .ok (.iadd, 1) := by decide +kernel
theorem dL_law_216 : decode cL_law 216 = .ok (.iaload, 1) := by decide +kernel
theorem dL_law_217 : decode cL_law 217 = .ok (.invokevirtual 27, 3) := by decide +kernel
theorem dL_law_220 : decode cL_law 220 = .ok (.if_icmp .eq 437, 3) := by decide +kernel
theorem dL_law_223 : decode cL_law 223 = .ok (.iconst 0, 1) := by decide +kernel
theorem dL_law_224 : decode cL_law 224 = .ok (.ireturn, 1) := by decide +kernel
theorem dL_law_225 : decode cL_law 225 = .ok (.aload_n 1, 1) := by decide +kernel
theorem dL_law_226 : decode cL_law 226 = .ok (.aload_n 0, 1) := by decide +kernel
theorem dL_law_227 : decode cL_law 227 = .ok (.iload_n 3, 1) := by decide +kernel
theorem dL_law_228 : decode cL_law 228 = .ok (.iconst 1, 1) := by decide +kernel
theorem dL_law_229 : decode cL_law 229 = .ok (.iadd, 1) := by decide +kernel
theorem dL_law_230 : decode cL_law 230 = .ok (.iaload, 1) := by decide +kernel
theorem dL_law_231 : decode cL_law 231 = .ok (.aload_n 0, 1) := by decide +kernel
theorem dL_law_232 : decode cL_law 232 = .ok (.iload_n 3, 1) := by decide +kernel
theorem dL_law_233 : decode cL_law 233 = .ok (.iconst 2, 1) := by decide +kernel
theorem dL_law_234 : decode cL_law 234 = .ok (.iadd, 1) := by decide +kernel
theorem dL_law_235 : decode cL_law 235 = .ok (.iaload, 1) := by decide +kernel
theorem dL_law_236 : decode cL_law 236 = .ok (.invokevirtual 28, 3) := by decide +kernel
theorem dL_law_239 : decode cL_law 239 = .ok (.aload_n 2, 1) := by decide +kernel
theorem dL_law_240 : decode cL_law 240 = .ok (.aload_n 0, 1) := by decide +kernel
theorem dL_law_241 : decode cL_law 241 = .ok (.iload_n 3, 1) := by decide +kernel
theorem dL_law_242 : decode cL_law 242 = .ok (.iconst 1, 1) := by decide +kernel
theorem dL_law_243 : decode cL_law 243 = .ok (.iadd, 1) := by decide +kernel
theorem dL_law_244 : decode cL_law 244 = .ok (.iaload, 1) := by decide +kernel
theorem dL_law_245 : decode cL_law 245 = .ok (.aload_n 0, 1) := by decide +kernel
theorem dL_law_246 : decode cL_law 246 = .ok (.iload_n 3, 1) := by decide +kernel
theorem dL_law_247 : decode cL_law 247 = .ok (.iconst 2, 1) := by decide +kernel
theorem dL_law_248 : decode cL_law 248 = .ok (.iadd, 1) := by decide +kernel
theorem dL_law_249 : decode cL_law 249 = .ok (.iaload, 1) := by decide +kernel
theorem dL_law_250 : decode cL_law 250 = .ok (.invokevirtual 31, 3) := by decide +kernel
theorem dL_law_253 : decode cL_law 253 = .ok (.if_icmp .eq 404, 3) := by decide +kernel
theorem dL_law_256 : decode cL_law 256 = .ok (.iconst 0, 1) := by decide +kernel
theorem dL_law_257 : decode cL_law 257 = .ok (.ireturn, 1) := by decide +kernel
theorem dL_law_258 : decode cL_law 258 = .ok (.aload_n 1, 1) := by decide +kernel
theorem dL_law_259 : decode cL_law 259 = .ok (.aload_n 0, 1) := by decide +kernel
theorem dL_law_260 : decode cL_law 260 = .ok (.iload_n 3, 1) := by decide +kernel
theorem dL_law_261 : decode cL_law 261 = .ok (.iconst 1, 1) := by decide +kernel
theorem dL_law_262 : decode cL_law 262 = .ok (.iadd, 1) := by decide +kernel
theorem dL_law_263 : decode cL_law 263 = .ok (.iaload, 1) := by decide +kernel
theorem dL_law_264 : decode cL_law 264 = .ok (.aload_n 0, 1) := by decide +kernel
theorem dL_law_265 : decode cL_law 265 = .ok (.iload_n 3, 1) := by decide +kernel
theorem dL_law_266 : decode cL_law 266 = .ok (.iconst 2, 1) := by decide +kernel
theorem dL_law_267 : decode cL_law 267 = .ok (.iadd, 1) := by decide +kernel
theorem dL_law_268 : decode cL_law 268 = .ok (.iaload, 1) := by decide +kernel
theorem dL_law_269 : decode cL_law 269 = .ok (.invokevirtual 32, 3) := by decide +kernel
theorem dL_law_272 : decode cL_law 272 = .ok (.aload_n 2, 1) := by decide +kernel
theorem dL_law_273 : decode cL_law 273 = .ok (.aload_n 0, 1) := by decide +kernel
theorem dL_law_274 : decode cL_law 274 = .ok (.iload_n 3, 1) := by decide +kernel
theorem dL_law_275 : decode cL_law 275 = .ok (.iconst 1, 1) := by decide +kernel
theorem dL_law_276 : decode cL_law 276 = .ok (.iadd, 1) := by decide +kernel
theorem dL_law_277 : decode cL_law 277 = .ok (.iaload, 1) := by decide +kernel
theorem dL_law_278 : decode cL_law 278 = .ok (.aload_n 0, 1) := by decide +kernel
theorem dL_law_279 : decode cL_law 279 = .ok (.iload_n 3, 1) := by decide +kernel
theorem dL_law_280 : decode cL_law 280 = .ok (.iconst 2, 1) := by decide +kernel
theorem dL_law_281 : decode cL_law 281 = .ok (.iadd, 1) := by decide +kernel
theorem dL_law_282 : decode cL_law 282 = .ok (.iaload, 1) := by decide +kernel
theorem dL_law_283 : decode cL_law 283 = .ok (.invokevirtual 35, 3) := by decide +kernel
theorem dL_law_286 : decode cL_law 286 = .ok (.if_icmp .eq 371, 3) := by decide +kernel
theorem dL_law_289 : decode cL_law 289 = .ok (.iconst 0, 1) := by decide +kernel
theorem dL_law_290 : decode cL_law 290 = .ok (.ireturn, 1) := by decide +kernel
theorem dL_law_291 : decode cL_law 291 = .ok (.aload_n 1, 1) := by decide +kernel
theorem dL_law_292 : decode cL_law 292 = .ok (.aload_n 0, 1) := by decide +kernel
theorem dL_law_293 : decode cL_law 293 = .ok (.iload_n 3, 1) := by decide +kernel
theorem dL_law_294 : decode cL_law 294 = .ok (.iconst 1, 1) := by decide +kernel
theorem dL_law_295 : decode cL_law 295 = .ok (.iadd, 1) := by decide +kernel
theorem dL_law_296 : decode cL_law 296 = .ok (.iaload, 1) := by decide +kernel
theorem dL_law_297 : decode cL_law 297 = .ok (.aload_n 0, 1) := by decide +kernel
theorem dL_law_298 : decode cL_law 298 = .ok (.iload_n 3, 1) := by decide +kernel
theorem dL_law_299 : decode cL_law 299 = .ok (.iconst 2, 1) := by decide +kernel
theorem dL_law_300 : decode cL_law 300 = .ok (.iadd, 1) := by decide +kernel
theorem dL_law_301 : decode cL_law 301 = .ok (.iaload, 1) := by decide +kernel
theorem dL_law_302 : decode cL_law 302 = .ok (.aload_n 0, 1) := by decide +kernel
theorem dL_law_303 : decode cL_law 303 = .ok (.iload_n 3, 1) := by decide +kernel
theorem dL_law_304 : decode cL_law 304 = .ok (.iconst 3, 1) := by decide +kernel
theorem dL_law_305 : decode cL_law 305 = .ok (.iadd, 1) := by decide +kernel
theorem dL_law_306 : decode cL_law 306 = .ok (.iaload, 1) := by decide +kernel
theorem dL_law_307 : decode cL_law 307 = .ok (.aload_n 0, 1) := by decide +kernel
theorem dL_law_308 : decode cL_law 308 = .ok (.iload_n 3, 1) := by decide +kernel
theorem dL_law_309 : decode cL_law 309 = .ok (.iconst 4, 1) := by decide +kernel
theorem dL_law_310 : decode cL_law 310 = .ok (.iadd, 1) := by decide +kernel
theorem dL_law_311 : decode cL_law 311 = .ok (.iaload, 1) := by decide +kernel
theorem dL_law_312 : decode cL_law 312 = .ok (.aload_n 0, 1) := by decide +kernel
theorem dL_law_313 : decode cL_law 313 = .ok (.iload_n 3, 1) := by decide +kernel
theorem dL_law_314 : decode cL_law 314 = .ok (.iconst 5, 1) := by decide +kernel
theorem dL_law_315 : decode cL_law 315 = .ok (.iadd, 1) := by decide +kernel
theorem dL_law_316 : decode cL_law 316 = .ok (.iaload, 1) := by decide +kernel
theorem dL_law_317 : decode cL_law 317 = .ok (.invokevirtual 36, 3) := by decide +kernel
theorem dL_law_320 : decode cL_law 320 = .ok (.aload_n 2, 1) := by decide +kernel
theorem dL_law_321 : decode cL_law 321 = .ok (.aload_n 0, 1) := by decide +kernel
theorem dL_law_322 : decode cL_law 322 = .ok (.iload_n 3, 1) := by decide +kernel
theorem dL_law_323 : decode cL_law 323 = .ok (.iconst 1, 1) := by decide +kernel
theorem dL_law_324 : decode cL_law 324 = .ok (.iadd, 1) := by decide +kernel
theorem dL_law_325 : decode cL_law 325 = .ok (.iaload, 1) := by decide +kernel
theorem dL_law_326 : decode cL_law 326 = .ok (.aload_n 0, 1) := by decide +kernel
theorem dL_law_327 : decode cL_law 327 = .ok (.iload_n 3, 1) := by decide +kernel
theorem dL_law_328 : decode cL_law 328 = .ok (.iconst 2, 1) := by decide +kernel
theorem dL_law_329 : decode cL_law 329 = .ok (.iadd, 1) := by decide +kernel
theorem dL_law_330 : decode cL_law 330 = .ok (.iaload, 1) := by decide +kernel
theorem dL_law_331 : decode cL_law 331 = .ok (.aload_n 0, 1) := by decide +kernel
theorem dL_law_332 : decode cL_law 332 = .ok (.iload_n 3, 1) := by decide +kernel
theorem dL_law_333 : decode cL_law 333 = .ok (.iconst 3, 1) := by decide +kernel
theorem dL_law_334 : decode cL_law 334 = .ok (.iadd, 1) := by decide +kernel
theorem dL_law_335 : decode cL_law 335 = .ok (.iaload, 1) := by decide +kernel
theorem dL_law_336 : decode cL_law 336 = .ok (.aload_n 0, 1) := by decide +kernel
theorem dL_law_337 : decode cL_law 337 = .ok (.iload_n 3, 1) := by decide +kernel
theorem dL_law_338 : decode cL_law 338 = .ok (.iconst 4, 1) := by decide +kernel
theorem dL_law_339 : decode cL_law 339 = .ok (.iadd, 1) := by decide +kernel
theorem dL_law_340 : decode cL_law 340 = .ok (.iaload, 1) := by decide +kernel
theorem dL_law_341 : decode cL_law 341 = .ok (.aload_n 0, 1) := by decide +kernel
theorem dL_law_342 : decode cL_law 342 = .ok (.iload_n 3, 1) := by decide +kernel
theorem dL_law_343 : decode cL_law 343 = .ok (.iconst 5, 1) := by decide +kernel
theorem dL_law_344 : decode cL_law 344 = .ok (.iadd, 1) := by decide +kernel
theorem dL_law_345 : decode cL_law 345 = .ok (.iaload, 1) := by decide +kernel
theorem dL_law_346 : decode cL_law 346 = .ok (.invokevirtual 39, 3) := by decide +kernel
theorem dL_law_349 : decode cL_law 349 = .ok (.if_icmp .eq 308, 3) := by decide +kernel
theorem dL_law_352 : decode cL_law 352 = .ok (.iconst 0, 1) := by decide +kernel
theorem dL_law_353 : decode cL_law 353 = .ok (.ireturn, 1) := by decide +kernel
theorem dL_law_354 : decode cL_law 354 = .ok (.aload_n 1, 1) := by decide +kernel
theorem dL_law_355 : decode cL_law 355 = .ok (.aload_n 0, 1) := by decide +kernel
theorem dL_law_356 : decode cL_law 356 = .ok (.iload_n 3, 1) := by decide +kernel
theorem dL_law_357 : decode cL_law 357 = .ok (.iconst 1, 1) := by decide +kernel
theorem dL_law_358 : decode cL_law 358 = .ok (.iadd, 1) := by decide +kernel
theorem dL_law_359 : decode cL_law 359 = .ok (.iaload, 1) := by decide +kernel
theorem dL_law_360 : decode cL_law 360 = .ok (.aload_n 0, 1) := by decide +kernel
theorem dL_law_361 : decode cL_law 361 = .ok (.iload_n 3, 1) := by decide +kernel
theorem dL_law_362 : decode cL_law 362 = .ok (.iconst 2, 1) := by decide +kernel
theorem dL_law_363 : decode cL_law 363 = .ok (.iadd, 1) := by decide +kernel
theorem dL_law_364 : decode cL_law 364 = .ok (.iaload, 1) := by decide +kernel
theorem dL_law_365 : decode cL_law 365 = .ok (.invokevirtual 40, 3) := by decide +kernel
theorem dL_law_368 : decode cL_law 368 = .ok (.aload_n 2, 1) := by decide +kernel
theorem dL_law_369 : decode cL_law 369 = .ok (.aload_n 0, 1) := by decide +kernel
theorem dL_law_370 : decode cL_law 370 = .ok (.iload_n 3, 1) := by decide +kernel
theorem dL_law_371 : decode cL_law 371 = .ok (.iconst 1, 1) := by decide +kernel
theorem dL_law_372 : decode cL_law 372 = .ok (.iadd, 1) := by decide +kernel
theorem dL_law_373 : decode cL_law 373 = .ok (.iaload, 1) := by decide +kernel
theorem dL_law_374 : decode cL_law 374 = .ok (.aload_n 0, 1) := by decide +kernel
theorem dL_law_375 : decode cL_law 375 = .ok (.iload_n 3, 1) := by decide +kernel
theorem dL_law_376 : decode cL_law 376 = .ok (.iconst 2, 1) := by decide +kernel
theorem dL_law_377 : decode cL_law 377 = .ok (.iadd, 1) := by decide +kernel
theorem dL_law_378 : decode cL_law 378 = .ok (.iaload, 1) := by decide +kernel
theorem dL_law_379 : decode cL_law 379 = .ok (.invokevirtual 43, 3) := by decide +kernel
theorem dL_law_382 : decode cL_law 382 = .ok (.if_icmp .eq 275, 3) := by decide +kernel
theorem dL_law_385 : decode cL_law 385 = .ok (.iconst 0, 1) := by decide +kernel
theorem dL_law_386 : decode cL_law 386 = .ok (.ireturn, 1) := by decide +kernel
theorem dL_law_387 : decode cL_law 387 = .ok (.aload_n 1, 1) := by decide +kernel
theorem dL_law_388 : decode cL_law 388 = .ok (.aload_n 0, 1) := by decide +kernel
theorem dL_law_389 : decode cL_law 389 = .ok (.iload_n 3, 1) := by decide +kernel
theorem dL_law_390 : decode cL_law 390 = .ok (.iconst 1, 1) := by decide +kernel
theorem dL_law_391 : decode cL_law 391 = .ok (.iadd, 1) := by decide +kernel
theorem dL_law_392 : decode cL_law 392 = .ok (.iaload, 1) := by decide +kernel
theorem dL_law_393 : decode cL_law 393 = .ok (.invokevirtual 44, 3) := by decide +kernel
theorem dL_law_396 : decode cL_law 396 = .ok (.aload_n 2, 1) := by decide +kernel
theorem dL_law_397 : decode cL_law 397 = .ok (.aload_n 0, 1) := by decide +kernel
theorem dL_law_398 : decode cL_law 398 = .ok (.iload_n 3, 1) := by decide +kernel
theorem dL_law_399 : decode cL_law 399 = .ok (.iconst 1, 1) := by decide +kernel
theorem dL_law_400 : decode cL_law 400 = .ok (.iadd, 1) := by decide +kernel
theorem dL_law_401 : decode cL_law 401 = .ok (.iaload, 1) := by decide +kernel
theorem dL_law_402 : decode cL_law 402 = .ok (.invokevirtual 48, 3) := by decide +kernel
theorem dL_law_405 : decode cL_law 405 = .ok (.if_icmp .eq 252, 3) := by decide +kernel
theorem dL_law_408 : decode cL_law 408 = .ok (.iconst 0, 1) := by decide +kernel
theorem dL_law_409 : decode cL_law 409 = .ok (.ireturn, 1) := by decide +kernel
theorem dL_law_410 : decode cL_law 410 = .ok (.aload_n 1, 1) := by decide +kernel
theorem dL_law_411 : decode cL_law 411 = .ok (.aload_n 0, 1) := by decide +kernel
theorem dL_law_412 : decode cL_law 412 = .ok (.iload_n 3, 1) := by decide +kernel
theorem dL_law_413 : decode cL_law 413 = .ok (.iconst 1, 1) := by decide +kernel
theorem dL_law_414 : decode cL_law 414 = .ok (.iadd, 1) := by decide +kernel
theorem dL_law_415 : decode cL_law 415 = .ok (.iaload, 1) := by decide +kernel
theorem dL_law_416 : decode cL_law 416 = .ok (.aload_n 0, 1) := by decide +kernel
theorem dL_law_417 : decode cL_law 417 = .ok (.iload_n 3, 1) := by decide +kernel
theorem dL_law_418 : decode cL_law 418 = .ok (.iconst 2, 1) := by decide +kernel
theorem dL_law_419 : decode cL_law 419 = .ok (.iadd, 1) := by decide +kernel
theorem dL_law_420 : decode cL_law 420 = .ok (.iaload, 1) := by decide +kernel
theorem dL_law_421 : decode cL_law 421 = .ok (.invokevirtual 49, 3) := by decide +kernel
theorem dL_law_424 : decode cL_law 424 = .ok (.aload_n 2, 1) := by decide +kernel
theorem dL_law_425 : decode cL_law 425 = .ok (.aload_n 0, 1) := by decide +kernel
theorem dL_law_426 : decode cL_law 426 = .ok (.iload_n 3, 1) := by decide +kernel
theorem dL_law_427 : decode cL_law 427 = .ok (.iconst 1, 1) := by decide +kernel
theorem dL_law_428 : decode cL_law 428 = .ok (.iadd, 1) := by decide +kernel
theorem dL_law_429 : decode cL_law 429 = .ok (.iaload, 1) := by decide +kernel
theorem dL_law_430 : decode cL_law 430 = .ok (.aload_n 0, 1) := by decide +kernel
theorem dL_law_431 : decode cL_law 431 = .ok (.iload_n 3, 1) := by decide +kernel
theorem dL_law_432 : decode cL_law 432 = .ok (.iconst 2, 1) := by decide +kernel
theorem dL_law_433 : decode cL_law 433 = .ok (.iadd, 1) := by decide +kernel
theorem dL_law_434 : decode cL_law 434 = .ok (.iaload, 1) := by decide +kernel
theorem dL_law_435 : decode cL_law 435 = .ok (.invokevirtual 52, 3) := by decide +kernel
theorem dL_law_438 : decode cL_law 438 = .ok (.if_icmp .eq 219, 3) := by decide +kernel
theorem dL_law_441 : decode cL_law 441 = .ok (.iconst 0, 1) := by decide +kernel
theorem dL_law_442 : decode cL_law 442 = .ok (.ireturn, 1) := by decide +kernel
theorem dL_law_443 : decode cL_law 443 = .ok (.aload_n 1, 1) := by decide +kernel
theorem dL_law_444 : decode cL_law 444 = .ok (.aload_n 0, 1) := by decide +kernel
theorem dL_law_445 : decode cL_law 445 = .ok (.iload_n 3, 1) := by decide +kernel
theorem dL_law_446 : decode cL_law 446 = .ok (.iconst 1, 1) := by decide +kernel
theorem dL_law_447 : decode cL_law 447 = .ok (.iadd, 1) := by decide +kernel
theorem dL_law_448 : decode cL_law 448 = .ok (.iaload, 1) := by decide +kernel
theorem dL_law_449 : decode cL_law 449 = .ok (.aload_n 0, 1) := by decide +kernel
theorem dL_law_450 : decode cL_law 450 = .ok (.iload_n 3, 1) := by decide +kernel
theorem dL_law_451 : decode cL_law 451 = .ok (.iconst 2, 1) := by decide +kernel
theorem dL_law_452 : decode cL_law 452 = .ok (.iadd, 1) := by decide +kernel
theorem dL_law_453 : decode cL_law 453 = .ok (.iaload, 1) := by decide +kernel
theorem dL_law_454 : decode cL_law 454 = .ok (.invokevirtual 53, 3) := by decide +kernel
theorem dL_law_457 : decode cL_law 457 = .ok (.aload_n 2, 1) := by decide +kernel
theorem dL_law_458 : decode cL_law 458 = .ok (.aload_n 0, 1) := by decide +kernel
theorem dL_law_459 : decode cL_law 459 = .ok (.iload_n 3, 1) := by decide +kernel
theorem dL_law_460 : decode cL_law 460 = .ok (.iconst 1, 1) := by decide +kernel
theorem dL_law_461 : decode cL_law 461 = .ok (.iadd, 1) := by decide +kernel
theorem dL_law_462 : decode cL_law 462 = .ok (.iaload, 1) := by decide +kernel
theorem dL_law_463 : decode cL_law 463 = .ok (.aload_n 0, 1) := by decide +kernel
theorem dL_law_464 : decode cL_law 464 = .ok (.iload_n 3, 1) := by decide +kernel
theorem dL_law_465 : decode cL_law 465 = .ok (.iconst 2, 1) := by decide +kernel
theorem dL_law_466 : decode cL_law 466 = .ok (.iadd, 1) := by decide +kernel
theorem dL_law_467 : decode cL_law 467 = .ok (.iaload, 1) := by decide +kernel
theorem dL_law_468 : decode cL_law 468 = .ok (.invokevirtual 56, 3) := by decide +kernel
theorem dL_law_471 : decode cL_law 471 = .ok (.if_icmp .eq 186, 3) := by decide +kernel
theorem dL_law_474 : decode cL_law 474 = .ok (.iconst 0, 1) := by decide +kernel
theorem dL_law_475 : decode cL_law 475 = .ok (.ireturn, 1) := by decide +kernel
theorem dL_law_476 : decode cL_law 476 = .ok (.aload_n 1, 1) := by decide +kernel
theorem dL_law_477 : decode cL_law 477 = .ok (.aload_n 0, 1) := by decide +kernel
theorem dL_law_478 : decode cL_law 478 = .ok (.iload_n 3, 1) := by decide +kernel
theorem dL_law_479 : decode cL_law 479 = .ok (.iconst 1, 1) := by decide +kernel
theorem dL_law_480 : decode cL_law 480 = .ok (.iadd, 1) := by decide +kernel
theorem dL_law_481 : decode cL_law 481 = .ok (.iaload, 1) := by decide +kernel
theorem dL_law_482 : decode cL_law 482 = .ok (.aload_n 0, 1) := by decide +kernel
theorem dL_law_483 : decode cL_law 483 = .ok (.iload_n 3, 1) := by decide +kernel
theorem dL_law_484 : decode cL_law 484 = .ok (.iconst 2, 1) := by decide +kernel
theorem dL_law_485 : decode cL_law 485 = .ok (.iadd, 1) := by decide +kernel
theorem dL_law_486 : decode cL_law 486 = .ok (.iaload, 1) := by decide +kernel
theorem dL_law_487 : decode cL_law 487 = .ok (.invokevirtual 57, 3) := by decide +kernel
theorem dL_law_490 : decode cL_law 490 = .ok (.aload_n 2, 1) := by decide +kernel
theorem dL_law_491 : decode cL_law 491 = .ok (.aload_n 0, 1) := by decide +kernel
theorem dL_law_492 : decode cL_law 492 = .ok (.iload_n 3, 1) := by decide +kernel
theorem dL_law_493 : decode cL_law 493 = .ok (.iconst 1, 1) := by decide +kernel
theorem dL_law_494 : decode cL_law 494 = .ok (.iadd, 1) := by decide +kernel
theorem dL_law_495 : decode cL_law 495 = .ok (.iaload, 1) := by decide +kernel
theorem dL_law_496 : decode cL_law 496 = .ok (.aload_n 0, 1) := by decide +kernel
theorem dL_law_497 : decode cL_law 497 = .ok (.iload_n 3, 1) := by decide +kernel
theorem dL_law_498 : decode cL_law 498 = .ok (.iconst 2, 1) := by decide +kernel
theorem dL_law_499 : decode cL_law 499 = .ok (.iadd, 1) := by decide +kernel
theorem dL_law_500 : decode cL_law 500 = .ok (.iaload, 1) := by decide +kernel
theorem dL_law_501 : decode cL_law 501 = .ok (.invokevirtual 60, 3) := by decide +kernel
theorem dL_law_504 : decode cL_law 504 = .ok (.if_icmp .eq 153, 3) := by decide +kernel
theorem dL_law_507 : decode cL_law 507 = .ok (.iconst 0, 1) := by decide +kernel
theorem dL_law_508 : decode cL_law 508 = .ok (.ireturn, 1) := by decide +kernel
theorem dL_law_509 : decode cL_law 509 = .ok (.aload_n 1, 1) := by decide +kernel
theorem dL_law_510 : decode cL_law 510 = .ok (.aload_n 0, 1) := by decide +kernel
theorem dL_law_511 : decode cL_law 511 = .ok (.iload_n 3, 1) := by decide +kernel
theorem dL_law_512 : decode cL_law 512 = .ok (.iconst 1, 1) := by decide +kernel
theorem dL_law_513 : decode cL_law 513 = .ok (.iadd, 1) := by decide +kernel
theorem dL_law_514 : decode cL_law 514 = .ok (.iaload, 1) := by decide +kernel
theorem dL_law_515 : decode cL_law 515 = .ok (.aload_n 0, 1) := by decide +kernel
theorem dL_law_516 : decode cL_law 516 = .ok (.iload_n 3, 1) := by decide +kernel
theorem dL_law_517 : decode cL_law 517 = .ok (.iconst 2, 1) := by decide +kernel
theorem dL_law_518 : decode cL_law 518 = .ok (.iadd, 1) := by decide +kernel
theorem dL_law_519 : decode cL_law 519 = .ok (.iaload, 1) := by decide +kernel
theorem dL_law_520 : decode cL_law 520 = .ok (.invokevirtual 61, 3) := by decide +kernel
theorem dL_law_523 : decode cL_law 523 = .ok (.aload_n 2, 1) := by decide +kernel
theorem dL_law_524 : decode cL_law 524 = .ok (.aload_n 0, 1) := by decide +kernel
theorem dL_law_525 : decode cL_law 525 = .ok (.iload_n 3, 1) := by decide +kernel
theorem dL_law_526 : decode cL_law 526 = .ok (.iconst 1, 1) := by decide +kernel
theorem dL_law_527 : decode cL_law 527 = .ok (.iadd, 1) := by decide +kernel
theorem dL_law_528 : decode cL_law 528 = .ok (.iaload, 1) := by decide +kernel
theorem dL_law_529 : decode cL_law 529 = .ok (.aload_n 0, 1) := by decide +kernel
theorem dL_law_530 : decode cL_law 530 = .ok (.iload_n 3, 1) := by decide +kernel
theorem dL_law_531 : decode cL_law 531 = .ok (.iconst 2, 1) := by decide +kernel
theorem dL_law_532 : decode cL_law 532 = .ok (.iadd, 1) := by decide +kernel
theorem dL_law_533 : decode cL_law 533 = .ok (.iaload, 1) := by decide +kernel
theorem dL_law_534 : decode cL_law 534 = .ok (.invokevirtual 64, 3) := by decide +kernel
theorem dL_law_537 : decode cL_law 537 = .ok (.if_icmp .eq 120, 3) := by decide +kernel
theorem dL_law_540 : decode cL_law 540 = .ok (.iconst 0, 1) := by decide +kernel
theorem dL_law_541 : decode cL_law 541 = .ok (.ireturn, 1) := by decide +kernel
theorem dL_law_542 : decode cL_law 542 = .ok (.aload_n 1, 1) := by decide +kernel
theorem dL_law_543 : decode cL_law 543 = .ok (.aload_n 0, 1) := by decide +kernel
theorem dL_law_544 : decode cL_law 544 = .ok (.iload_n 3, 1) := by decide +kernel
theorem dL_law_545 : decode cL_law 545 = .ok (.iconst 1, 1) := by decide +kernel
theorem dL_law_546 : decode cL_law 546 = .ok (.iadd, 1) := by decide +kernel
theorem dL_law_547 : decode cL_law 547 = .ok (.iaload, 1) := by decide +kernel
theorem dL_law_548 : decode cL_law 548 = .ok (.invokevirtual 65, 3) := by decide +kernel
theorem dL_law_551 : decode cL_law 551 = .ok (.aload_n 2, 1) := by decide +kernel
theorem dL_law_552 : decode cL_law 552 = .ok (.aload_n 0, 1) := by decide +kernel
theorem dL_law_553 : decode cL_law 553 = .ok (.iload_n 3, 1) := by decide +kernel
theorem dL_law_554 : decode cL_law 554 = .ok (.iconst 1, 1) := by decide +kernel
theorem dL_law_555 : decode cL_law 555 = .ok (.iadd, 1) := by decide +kernel
theorem dL_law_556 : decode cL_law 556 = .ok (.iaload, 1) := by decide +kernel
theorem dL_law_557 : decode cL_law 557 = .ok (.invokevirtual 68, 3) := by decide +kernel
theorem dL_law_560 : decode cL_law 560 = .ok (.if_icmp .eq 97, 3) := by decide +kernel
theorem dL_law_563 : decode cL_law 563 = .ok (.iconst 0, 1) := by decide +kernel
theorem dL_law_564 : decode cL_law 564 = .ok (.ireturn, 1) := by decide +kernel
theorem dL_law_565 : decode cL_law 565 = .ok (.aload_n 1, 1) := by decide +kernel
theorem dL_law_566 : decode cL_law 566 = .ok (.aload_n 0, 1) := by decide +kernel
theorem dL_law_567 : decode cL_law 567 = .ok (.iload_n 3, 1) := by decide +kernel
theorem dL_law_568 : decode cL_law 568 = .ok (.iconst 1, 1) := by decide +kernel
theorem dL_law_569 : decode cL_law 569 = .ok (.iadd, 1) := by decide +kernel
theorem dL_law_570 : decode cL_law 570 = .ok (.iaload, 1) := by decide +kernel
theorem dL_law_571 : decode cL_law 571 = .ok (.invokevirtual 69, 3) := by decide +kernel
theorem dL_law_574 : decode cL_law 574 = .ok (.aload_n 2, 1) := by decide +kernel
theorem dL_law_575 : decode cL_law 575 = .ok (.aload_n 0, 1) := by decide +kernel
theorem dL_law_576 : decode cL_law 576 = .ok (.iload_n 3, 1) := by decide +kernel
theorem dL_law_577 : decode cL_law 577 = .ok (.iconst 1, 1) := by decide +kernel
theorem dL_law_578 : decode cL_law 578 = .ok (.iadd, 1) := by decide +kernel
theorem dL_law_579 : decode cL_law 579 = .ok (.iaload, 1) := by decide +kernel
theorem dL_law_580 : decode cL_law 580 = .ok (.invokevirtual 72, 3) := by decide +kernel
theorem dL_law_583 : decode cL_law 583 = .ok (.if_icmp .eq 74, 3) := by decide +kernel
theorem dL_law_586 : decode cL_law 586 = .ok (.iconst 0, 1) := by decide +kernel
theorem dL_law_587 : decode cL_law 587 = .ok (.ireturn, 1) := by decide +kernel
theorem dL_law_588 : decode cL_law 588 = .ok (.aload_n 1, 1) := by decide +kernel
theorem dL_law_589 : decode cL_law 589 = .ok (.aload_n 0, 1) := by decide +kernel
theorem dL_law_590 : decode cL_law 590 = .ok (.iload_n 3, 1) := by decide +kernel
theorem dL_law_591 : decode cL_law 591 = .ok (.iconst 1, 1) := by decide +kernel
theorem dL_law_592 : decode cL_law 592 = .ok (.iadd, 1) := by decide +kernel
theorem dL_law_593 : decode cL_law 593 = .ok (.iaload, 1) := by decide +kernel
theorem dL_law_594 : decode cL_law 594 = .ok (.invokevirtual 73, 3) := by decide +kernel
theorem dL_law_597 : decode cL_law 597 = .ok (.aload_n 2, 1) := by decide +kernel
theorem dL_law_598 : decode cL_law 598 = .ok (.aload_n 0, 1) := by decide +kernel
theorem dL_law_599 : decode cL_law 599 = .ok (.iload_n 3, 1) := by decide +kernel
theorem dL_law_600 : decode cL_law 600 = .ok (.iconst 1, 1) := by decide +kernel
theorem dL_law_601 : decode cL_law 601 = .ok (.iadd, 1) := by decide +kernel
theorem dL_law_602 : decode cL_law 602 = .ok (.iaload, 1) := by decide +kernel
theorem dL_law_603 : decode cL_law 603 = .ok (.invokevirtual 76, 3) := by decide +kernel
theorem dL_law_606 : decode cL_law 606 = .ok (.if_icmp .eq 51, 3) := by decide +kernel
theorem dL_law_609 : decode cL_law 609 = .ok (.iconst 0, 1) := by decide +kernel
theorem dL_law_610 : decode cL_law 610 = .ok (.ireturn, 1) := by decide +kernel
theorem dL_law_611 : decode cL_law 611 = .ok (.aload_n 1, 1) := by decide +kernel
theorem dL_law_612 : decode cL_law 612 = .ok (.aload_n 0, 1) := by decide +kernel
theorem dL_law_613 : decode cL_law 613 = .ok (.iload_n 3, 1) := by decide +kernel
theorem dL_law_614 : decode cL_law 614 = .ok (.iconst 1, 1) := by decide +kernel
theorem dL_law_615 : decode cL_law 615 = .ok (.iadd, 1) := by decide +kernel
theorem dL_law_616 : decode cL_law 616 = .ok (.iaload, 1) := by decide +kernel
theorem dL_law_617 : decode cL_law 617 = .ok (.aload_n 0, 1) := by decide +kernel
theorem dL_law_618 : decode cL_law 618 = .ok (.iload_n 3, 1) := by decide +kernel
theorem dL_law_619 : decode cL_law 619 = .ok (.iconst 2, 1) := by decide +kernel
theorem dL_law_620 : decode cL_law 620 = .ok (.iadd, 1) := by decide +kernel
theorem dL_law_621 : decode cL_law 621 = .ok (.iaload, 1) := by decide +kernel
theorem dL_law_622 : decode cL_law 622 = .ok (.invokevirtual 77, 3) := by decide +kernel
theorem dL_law_625 : decode cL_law 625 = .ok (.aload_n 2, 1) := by decide +kernel
theorem dL_law_626 : decode cL_law 626 = .ok (.aload_n 0, 1) := by decide +kernel
theorem dL_law_627 : decode cL_law 627 = .ok (.iload_n 3, 1) := by decide +kernel
theorem dL_law_628 : decode cL_law 628 = .ok (.iconst 1, 1) := by decide +kernel
theorem dL_law_629 : decode cL_law 629 = .ok (.iadd, 1) := by decide +kernel
theorem dL_law_630 : decode cL_law 630 = .ok (.iaload, 1) := by decide +kernel
theorem dL_law_631 : decode cL_law 631 = .ok (.aload_n 0, 1) := by decide +kernel
theorem dL_law_632 : decode cL_law 632 = .ok (.iload_n 3, 1) := by decide +kernel
theorem dL_law_633 : decode cL_law 633 = .ok (.iconst 2, 1) := by decide +kernel
theorem dL_law_634 : decode cL_law 634 = .ok (.iadd, 1) := by decide +kernel
theorem dL_law_635 : decode cL_law 635 = .ok (.iaload, 1) := by decide +kernel
theorem dL_law_636 : decode cL_law 636 = .ok (.invokevirtual 80, 3) := by decide +kernel
theorem dL_law_639 : decode cL_law 639 = .ok (.if_icmp .eq 18, 3) := by decide +kernel
theorem dL_law_642 : decode cL_law 642 = .ok (.iconst 0, 1) := by decide +kernel
theorem dL_law_643 : decode cL_law 643 = .ok (.ireturn, 1) := by decide +kernel
theorem dL_law_644 : decode cL_law 644 = .ok (.aload_n 1, 1) := by decide +kernel
theorem dL_law_645 : decode cL_law 645 = .ok (.invokevirtual 81, 3) := by decide +kernel
theorem dL_law_648 : decode cL_law 648 = .ok (.aload_n 2, 1) := by decide +kernel
theorem dL_law_649 : decode cL_law 649 = .ok (.invokevirtual 84, 3) := by decide +kernel
theorem dL_law_652 : decode cL_law 652 = .ok (.if_icmp .eq 5, 3) := by decide +kernel
theorem dL_law_655 : decode cL_law 655 = .ok (.iconst 0, 1) := by decide +kernel
theorem dL_law_656 : decode cL_law 656 = .ok (.ireturn, 1) := by decide +kernel
theorem dL_law_657 : decode cL_law 657 = .ok (.iinc 3 6, 3) := by decide +kernel
theorem dL_law_660 : decode cL_law 660 = .ok (.goto (-642), 3) := by decide +kernel
theorem dL_law_663 : decode cL_law 663 = .ok (.iconst 1, 1) := by decide +kernel
theorem dL_law_664 : decode cL_law 664 = .ok (.ireturn, 1) := by decide +kernel
end
section
/-! the rules again, over a heap in its parts, with names for what is stored, and conditions as numbers -/
def xE (N0 S0 mc ms : Nat) (Pp : Option Value → xH → Prop) : Option Value → xH → Prop := fun r h' => h'.2.2.2.1 = N0 + mc ∧ h'.2.2.2.2 = S0 + ms ∧ Pp r h'
theorem y_met {d y : Nat} {A : List Value} {K : Nat → Nat × Nat} {I : Nat → Nat → Int32} {P : Nat → Nat → Option Nat} {N0 S0 : Nat} {Pp : Option Value → xH → Prop} (mc ms : Nat) (h : xB d (xM y).2.2.2.2.1 (xM y).2.1 (xM y).2.2.2.1 (decide ((xM y).2.2.2.2.2.1 = 1)) (xE N0 S0 mc ms Pp) 0 (A.map some ++ List.replicate ((xM y).2.2.1 - A.length) none) [] (K, I, P, N0, S0)) : xC d y A (K, I, P, N0, S0) Pp := (xC_eq d y A _ Pp).mpr ⟨mc, ms, h⟩
theorem zI_lt {x y : Int32} : x < y ↔ x.toInt < y.toInt := Int32.lt_iff_toInt_lt
theorem zI_le {x y : Int32} : x ≤ y ↔ x.toInt ≤ y.toInt := Int32.le_iff_toInt_le
section YR
variable {d own : Nat} {cc : ByteArray} {ret : Option FieldType} {ini : Bool} {Q : Option Value → xH → Prop} {pc : Nat} {ls : xL} {st : List Value} {K : Nat → Nat × Nat} {I : Nat → Nat → Int32} {P : Nat → Nat → Option Nat} {n s : Nat}
theorem y_iconst {v : Int32} {i : Int} (hd : decode cc pc = .ok (.iconst i, 1)) (hv : Int32.ofInt i = v) (k : xB d own cc ret ini Q (pc + 1) ls (.int v :: st) (K, I, P, n, s)) : xB d own cc ret ini Q pc ls st (K, I, P, n, s) := x_iconst hd (by rw [hv]; exact k)
theorem y_bipush {v : Int32} {i : Int} (hd : decode cc pc = .ok (.bipush i, 2)) (hv : (Int8.ofInt i).toInt32 = v) (k : xB d own cc ret ini Q (pc + 2) ls (.int v :: st) (K, I, P, n, s)) : xB d own cc ret ini Q pc ls st (K, I, P, n, s) := x_bipush hd (by rw [hv]; exact k)
theorem y_sipush {v : Int32} {i : Int} (hd : decode cc pc = .ok (.sipush i, 3)) (hv : (Int16.ofInt i).toInt32 = v) (k : xB d own cc ret ini Q (pc + 3) ls (.int v :: st) (K, I, P, n, s)) : xB d own cc ret ini Q pc ls st (K, I, P, n, s) := x_sipush hd (by rw [hv]; exact k)
theorem y_iload {j : Nat} {x : Int32} (hd : decode cc pc = .ok (.iload j, 2)) (hl : ls[j]? = some (some (.int x))) (k : xB d own cc ret ini Q (pc + 2) ls (.int x :: st) (K, I, P, n, s)) : xB d own cc ret ini Q pc ls st (K, I, P, n, s) := x_iload hd hl k
theorem y_iload_n {j : Fin 4} {x : Int32} (hd : decode cc pc = .ok (.iload_n j, 1)) (hl : ls[j.val]? = some (some (.int x))) (k : xB d own cc ret ini Q (pc + 1) ls (.int x :: st) (K, I, P, n, s)) : xB d own cc ret ini Q pc ls st (K, I, P, n, s) := x_iload_n hd hl k
theorem y_aload {j : Nat} {x : Nat} (hd : decode cc pc = .ok (.aload j, 2)) (hl : ls[j]? = some (some (.ref x))) (k : xB d own cc ret ini Q (pc + 2) ls (.ref x :: st) (K, I, P, n, s)) : xB d own cc ret ini Q pc ls st (K, I, P, n, s) := x_aload hd hl k
theorem y_aload_n {j : Fin 4} {x : Nat} (hd : decode cc pc = .ok (.aload_n j, 1)) (hl : ls[j.val]? = some (some (.ref x))) (k : xB d own cc ret ini Q (pc + 1) ls (.ref x :: st) (K, I, P, n, s)) : xB d own cc ret ini Q pc ls st (K, I, P, n, s) := x_aload_n hd hl k
theorem y_istore {j : Nat} {x : Int32} (hd : decode cc pc = .ok (.istore j, 2)) (hl : j < ls.length) (k : ∀ y, y = x → xB d own cc ret ini Q (pc + 2) (ls.set j (some (.int y))) st (K, I, P, n, s)) : xB d own cc ret ini Q pc ls (.int x :: st) (K, I, P, n, s) := x_istore hd hl (k x rfl)
theorem y_istore_n {j : Fin 4} {x : Int32} (hd : decode cc pc = .ok (.istore_n j, 1)) (hl : j.val < ls.length) (k : ∀ y, y = x → xB d own cc ret ini Q (pc + 1) (ls.set j.val (some (.int y))) st (K, I, P, n, s)) : xB d own cc ret ini Q pc ls (.int x :: st) (K, I, P, n, s) := x_istore_n hd hl (k x rfl)
theorem y_astore {j x : Nat} (hd : decode cc pc = .ok (.astore j, 2)) (hl : j < ls.length) (k : xB d own cc ret ini Q (pc + 2) (ls.set j (some (.ref x))) st (K, I, P, n, s)) : xB d own cc ret ini Q pc ls (.ref x :: st) (K, I, P, n, s) := x_astore hd hl k
theorem y_astore_n {j : Fin 4} {x : Nat} (hd : decode cc pc = .ok (.astore_n j, 1)) (hl : j.val < ls.length) (k : xB d own cc ret ini Q (pc + 1) (ls.set j.val (some (.ref x))) st (K, I, P, n, s)) : xB d own cc ret ini Q pc ls (.ref x :: st) (K, I, P, n, s) := x_astore_n hd hl k
theorem y_iinc {j : Nat} {c : Int} {x : Int32} (hd : decode cc pc = .ok (.iinc j c, 3)) (hl : ls[j]? = some (some (.int x))) (k : ∀ y, y = x + Int32.ofInt c → xB d own cc ret ini Q (pc + 3) (ls.set j (some (.int y))) st (K, I, P, n, s)) : xB d own cc ret ini Q pc ls st (K, I, P, n, s) := x_iinc hd hl (k _ rfl)
theorem y_iadd {x y : Int32} (hd : decode cc pc = .ok (.iadd, 1)) (k : xB d own cc ret ini Q (pc + 1) ls (.int (x + y) :: st) (K, I, P, n, s)) : xB d own cc ret ini Q pc ls (.int y :: .int x :: st) (K, I, P, n, s) := x_iadd hd k
theorem y_iaddv {x y : Int32} (v : Int32) (hd : decode cc pc = .ok (.iadd, 1)) (hv : x + y = v) (k : xB d own cc ret ini Q (pc + 1) ls (.int v :: st) (K, I, P, n, s)) : xB d own cc ret ini Q pc ls (.int y :: .int x :: st) (K, I, P, n, s) := x_iadd hd (by rw [hv]; exact k)
theorem y_isub {x y : Int32} (hd : decode cc pc = .ok (.isub, 1)) (k : xB d own cc ret ini Q (pc + 1) ls (.int (x - y) :: st) (K, I, P, n, s)) : xB d own cc ret ini Q pc ls (.int y :: .int x :: st) (K, I, P, n, s) := x_isub hd k
theorem y_isubv {x y : Int32} (v : Int32) (hd : decode cc pc = .ok (.isub, 1)) (hv : x - y = v) (k : xB d own cc ret ini Q (pc + 1) ls (.int v :: st) (K, I, P, n, s)) : xB d own cc ret ini Q pc ls (.int y :: .int x :: st) (K, I, P, n, s) := x_isub hd (by rw [hv]; exact k)
theorem y_imul {x y : Int32} (hd : decode cc pc = .ok (.imul, 1)) (k : xB d own cc ret ini Q (pc + 1) ls (.int (x * y) :: st) (K, I, P, n, s)) : xB d own cc ret ini Q pc ls (.int y :: .int x :: st) (K, I, P, n, s) := x_imul hd k
theorem y_imulv {x y : Int32} (v : Int32) (hd : decode cc pc = .ok (.imul, 1)) (hv : x * y = v) (k : xB d own cc ret ini Q (pc + 1) ls (.int v :: st) (K, I, P, n, s)) : xB d own cc ret ini Q pc ls (.int y :: .int x :: st) (K, I, P, n, s) := x_imul hd (by rw [hv]; exact k)
theorem y_iand {x y : Int32} (hd : decode cc pc = .ok (.iand, 1)) (k : xB d own cc ret ini Q (pc + 1) ls (.int (x &&& y) :: st) (K, I, P, n, s)) : xB d own cc ret ini Q pc ls (.int y :: .int x :: st) (K, I, P, n, s) := x_iand hd k
theorem y_iandv {x y : Int32} (v : Int32) (hd : decode cc pc = .ok (.iand, 1)) (hv : x &&& y = v) (k : xB d own cc ret ini Q (pc + 1) ls (.int v :: st) (K, I, P, n, s)) : xB d own cc ret ini Q pc ls (.int y :: .int x :: st) (K, I, P, n, s) := x_iand hd (by rw [hv]; exact k)
theorem y_idiv {x y : Int32} (hd : decode cc pc = .ok (.idiv, 1)) (hy : ¬ y = 0) (k : xB d own cc ret ini Q (pc + 1) ls (.int (x / y) :: st) (K, I, P, n, s)) : xB d own cc ret ini Q pc ls (.int y :: .int x :: st) (K, I, P, n, s) := x_idiv hd hy k
theorem y_idivv {x y : Int32} (v : Int32) (hd : decode cc pc = .ok (.idiv, 1)) (hy : ¬ y = 0) (hv : x / y = v) (k : xB d own cc ret ini Q (pc + 1) ls (.int v :: st) (K, I, P, n, s)) : xB d own cc ret ini Q pc ls (.int y :: .int x :: st) (K, I, P, n, s) := x_idiv hd hy (by rw [hv]; exact k)
theorem y_irem {x y : Int32} (hd : decode cc pc = .ok (.irem, 1)) (hy : ¬ y = 0) (k : xB d own cc ret ini Q (pc + 1) ls (.int (x - x / y * y) :: st) (K, I, P, n, s)) : xB d own cc ret ini Q pc ls (.int y :: .int x :: st) (K, I, P, n, s) := x_irem hd hy k
theorem y_iremv {x y : Int32} (v : Int32) (hd : decode cc pc = .ok (.irem, 1)) (hy : ¬ y = 0) (hv : x - x / y * y = v) (k : xB d own cc ret ini Q (pc + 1) ls (.int v :: st) (K, I, P, n, s)) : xB d own cc ret ini Q pc ls (.int y :: .int x :: st) (K, I, P, n, s) := x_irem hd hy (by rw [hv]; exact k)
theorem y_dup {v : Value} (hd : decode cc pc = .ok (.dup, 1)) (hv : v.category = 1) (k : xB d own cc ret ini Q (pc + 1) ls (v :: v :: st) (K, I, P, n, s)) : xB d own cc ret ini Q pc ls (v :: st) (K, I, P, n, s) := x_dup hd hv k
theorem y_dup2 {v w : Value} (hd : decode cc pc = .ok (.dup2, 1)) (hv : v.category = 1) (hw : w.category = 1) (k : xB d own cc ret ini Q (pc + 1) ls (v :: w :: v :: w :: st) (K, I, P, n, s)) : xB d own cc ret ini Q pc ls (v :: w :: st) (K, I, P, n, s) := x_dup2 hd hv hw k
theorem y_if_eq {x : Int32} {off : Int} (t : Nat) (hd : decode cc pc = .ok (.ifCond .eq off, 3)) (ht : (pc : Int) + off = (t : Int)) (kt : x = 0 → xB d own cc ret ini Q t ls st (K, I, P, n, s)) (kf : ¬ x = 0 → xB d own cc ret ini Q (pc + 3) ls st (K, I, P, n, s)) : xB d own cc ret ini Q pc ls (.int x :: st) (K, I, P, n, s) := x_if_eq t hd ht kt kf
theorem y_icmp_eq {x y : Int32} {off : Int} (t : Nat) (hd : decode cc pc = .ok (.if_icmp .eq off, 3)) (ht : (pc : Int) + off = (t : Int)) (kt : x = y → xB d own cc ret ini Q t ls st (K, I, P, n, s)) (kf : ¬ x = y → xB d own cc ret ini Q (pc + 3) ls st (K, I, P, n, s)) : xB d own cc ret ini Q pc ls (.int y :: .int x :: st) (K, I, P, n, s) := x_icmp_eq t hd ht kt kf
theorem y_icmpZ_eq {x y : Int32} {off : Int} (t : Nat) (a b : Int) (hd : decode cc pc = .ok (.if_icmp .eq off, 3)) (ht : (pc : Int) + off = (t : Int)) (hx : x.toInt = a) (hy : y.toInt = b) (kt : a = b → xB d own cc ret ini Q t ls st (K, I, P, n, s)) (kf : ¬ a = b → xB d own cc ret ini Q (pc + 3) ls st (K, I, P, n, s)) : xB d own cc ret ini Q pc ls (.int y :: .int x :: st) (K, I, P, n, s) := x_icmp_eq t hd ht (fun q => kt (by rw [← hx, ← hy]; rw [q])) (fun q => kf (by rw [← hx, ← hy]; exact fun w => q (Int32.toInt_inj.mp w)))
theorem y_ifZ_eq {x : Int32} {off : Int} (t : Nat) (a : Int) (hd : decode cc pc = .ok (.ifCond .eq off, 3)) (ht : (pc : Int) + off = (t : Int)) (hx : x.toInt = a) (kt : a = 0 → xB d own cc ret ini Q t ls st (K, I, P, n, s)) (kf : ¬ a = 0 → xB d own cc ret ini Q (pc + 3) ls st (K, I, P, n, s)) : xB d own cc ret ini Q pc ls (.int x :: st) (K, I, P, n, s) := have hy : (0 : Int32).toInt = 0 := rfl
  x_if_eq t hd ht (fun q => kt (by rw [← hx, ← hy]; rw [q])) (fun q => kf (by rw [← hx, ← hy]; exact fun w => q (Int32.toInt_inj.mp w)))
theorem y_icmpN_eq {x y : Int32} {off : Int} (t a b : Nat) (hd : decode cc pc = .ok (.if_icmp .eq off, 3)) (ht : (pc : Int) + off = (t : Int)) (hx : x = nI a) (hy : y = nI b) (ha : a < 2 ^ 31) (hb : b < 2 ^ 31) (kt : a = b → xB d own cc ret ini Q t ls st (K, I, P, n, s)) (kf : ¬ a = b → xB d own cc ret ini Q (pc + 3) ls st (K, I, P, n, s)) : xB d own cc ret ini Q pc ls (.int y :: .int x :: st) (K, I, P, n, s) := y_icmpZ_eq t (a : Int) (b : Int) hd ht (by rw [hx, nI_toInt ha]) (by rw [hy, nI_toInt hb]) (fun q => kt (by omega)) (fun q => kf (by omega))
theorem y_if_ne {x : Int32} {off : Int} (t : Nat) (hd : decode cc pc = .ok (.ifCond .ne off, 3)) (ht : (pc : Int) + off = (t : Int)) (kt : ¬ x = 0 → xB d own cc ret ini Q t ls st (K, I, P, n, s)) (kf : x = 0 → xB d own cc ret ini Q (pc + 3) ls st (K, I, P, n, s)) : xB d own cc ret ini Q pc ls (.int x :: st) (K, I, P, n, s) := x_if_ne t hd ht kt kf
theorem y_icmp_ne {x y : Int32} {off : Int} (t : Nat) (hd : decode cc pc = .ok (.if_icmp .ne off, 3)) (ht : (pc : Int) + off = (t : Int)) (kt : ¬ x = y → xB d own cc ret ini Q t ls st (K, I, P, n, s)) (kf : x = y → xB d own cc ret ini Q (pc + 3) ls st (K, I, P, n, s)) : xB d own cc ret ini Q pc ls (.int y :: .int x :: st) (K, I, P, n, s) := x_icmp_ne t hd ht kt kf
theorem y_icmpZ_ne {x y : Int32} {off : Int} (t : Nat) (a b : Int) (hd : decode cc pc = .ok (.if_icmp .ne off, 3)) (ht : (pc : Int) + off = (t : Int)) (hx : x.toInt = a) (hy : y.toInt = b) (kt : ¬ a = b → xB d own cc ret ini Q t ls st (K, I, P, n, s)) (kf : a = b → xB d own cc ret ini Q (pc + 3) ls st (K, I, P, n, s)) : xB d own cc ret ini Q pc ls (.int y :: .int x :: st) (K, I, P, n, s) := x_icmp_ne t hd ht (fun q => kt (by rw [← hx, ← hy]; exact fun w => q (Int32.toInt_inj.mp w))) (fun q => kf (by rw [← hx, ← hy]; rw [q]))
theorem y_ifZ_ne {x : Int32} {off : Int} (t : Nat) (a : Int) (hd : decode cc pc = .ok (.ifCond .ne off, 3)) (ht : (pc : Int) + off = (t : Int)) (hx : x.toInt = a) (kt : ¬ a = 0 → xB d own cc ret ini Q t ls st (K, I, P, n, s)) (kf : a = 0 → xB d own cc ret ini Q (pc + 3) ls st (K, I, P, n, s)) : xB d own cc ret ini Q pc ls (.int x :: st) (K, I, P, n, s) := have hy : (0 : Int32).toInt = 0 := rfl
  x_if_ne t hd ht (fun q => kt (by rw [← hx, ← hy]; exact fun w => q (Int32.toInt_inj.mp w))) (fun q => kf (by rw [← hx, ← hy]; rw [q]))
theorem y_icmpN_ne {x y : Int32} {off : Int} (t a b : Nat) (hd : decode cc pc = .ok (.if_icmp .ne off, 3)) (ht : (pc : Int) + off = (t : Int)) (hx : x = nI a) (hy : y = nI b) (ha : a < 2 ^ 31) (hb : b < 2 ^ 31) (kt : ¬ a = b → xB d own cc ret ini Q t ls st (K, I, P, n, s)) (kf : a = b → xB d own cc ret ini Q (pc + 3) ls st (K, I, P, n, s)) : xB d own cc ret ini Q pc ls (.int y :: .int x :: st) (K, I, P, n, s) := y_icmpZ_ne t (a : Int) (b : Int) hd ht (by rw [hx, nI_toInt ha]) (by rw [hy, nI_toInt hb]) (fun q => kt (by omega)) (fun q => kf (by omega))
theorem y_if_lt {x : Int32} {off : Int} (t : Nat) (hd : decode cc pc = .ok (.ifCond .lt off, 3)) (ht : (pc : Int) + off = (t : Int)) (kt : x < 0 → xB d own cc ret ini Q t ls st (K, I, P, n, s)) (kf : ¬ x < 0 → xB d own cc ret ini Q (pc + 3) ls st (K, I, P, n, s)) : xB d own cc ret ini Q pc ls (.int x :: st) (K, I, P, n, s) := x_if_lt t hd ht kt kf
theorem y_icmp_lt {x y : Int32} {off : Int} (t : Nat) (hd : decode cc pc = .ok (.if_icmp .lt off, 3)) (ht : (pc : Int) + off = (t : Int)) (kt : x < y → xB d own cc ret ini Q t ls st (K, I, P, n, s)) (kf : ¬ x < y → xB d own cc ret ini Q (pc + 3) ls st (K, I, P, n, s)) : xB d own cc ret ini Q pc ls (.int y :: .int x :: st) (K, I, P, n, s) := x_icmp_lt t hd ht kt kf
theorem y_icmpZ_lt {x y : Int32} {off : Int} (t : Nat) (a b : Int) (hd : decode cc pc = .ok (.if_icmp .lt off, 3)) (ht : (pc : Int) + off = (t : Int)) (hx : x.toInt = a) (hy : y.toInt = b) (kt : a < b → xB d own cc ret ini Q t ls st (K, I, P, n, s)) (kf : ¬ a < b → xB d own cc ret ini Q (pc + 3) ls st (K, I, P, n, s)) : xB d own cc ret ini Q pc ls (.int y :: .int x :: st) (K, I, P, n, s) := x_icmp_lt t hd ht (fun q => kt (by rw [← hx, ← hy]; exact zI_lt.mp q)) (fun q => kf (by rw [← hx, ← hy]; exact fun w => q (zI_lt.mpr w)))
theorem y_ifZ_lt {x : Int32} {off : Int} (t : Nat) (a : Int) (hd : decode cc pc = .ok (.ifCond .lt off, 3)) (ht : (pc : Int) + off = (t : Int)) (hx : x.toInt = a) (kt : a < 0 → xB d own cc ret ini Q t ls st (K, I, P, n, s)) (kf : ¬ a < 0 → xB d own cc ret ini Q (pc + 3) ls st (K, I, P, n, s)) : xB d own cc ret ini Q pc ls (.int x :: st) (K, I, P, n, s) := have hy : (0 : Int32).toInt = 0 := rfl
  x_if_lt t hd ht (fun q => kt (by rw [← hx, ← hy]; exact zI_lt.mp q)) (fun q => kf (by rw [← hx, ← hy]; exact fun w => q (zI_lt.mpr w)))
theorem y_icmpN_lt {x y : Int32} {off : Int} (t a b : Nat) (hd : decode cc pc = .ok (.if_icmp .lt off, 3)) (ht : (pc : Int) + off = (t : Int)) (hx : x = nI a) (hy : y = nI b) (ha : a < 2 ^ 31) (hb : b < 2 ^ 31) (kt : a < b → xB d own cc ret ini Q t ls st (K, I, P, n, s)) (kf : ¬ a < b → xB d own cc ret ini Q (pc + 3) ls st (K, I, P, n, s)) : xB d own cc ret ini Q pc ls (.int y :: .int x :: st) (K, I, P, n, s) := y_icmpZ_lt t (a : Int) (b : Int) hd ht (by rw [hx, nI_toInt ha]) (by rw [hy, nI_toInt hb]) (fun q => kt (by omega)) (fun q => kf (by omega))
theorem y_if_ge {x : Int32} {off : Int} (t : Nat) (hd : decode cc pc = .ok (.ifCond .ge off, 3)) (ht : (pc : Int) + off = (t : Int)) (kt : x ≥ 0 → xB d own cc ret ini Q t ls st (K, I, P, n, s)) (kf : ¬ x ≥ 0 → xB d own cc ret ini Q (pc + 3) ls st (K, I, P, n, s)) : xB d own cc ret ini Q pc ls (.int x :: st) (K, I, P, n, s) := x_if_ge t hd ht kt kf
theorem y_icmp_ge {x y : Int32} {off : Int} (t : Nat) (hd : decode cc pc = .ok (.if_icmp .ge off, 3)) (ht : (pc : Int) + off = (t : Int)) (kt : x ≥ y → xB d own cc ret ini Q t ls st (K, I, P, n, s)) (kf : ¬ x ≥ y → xB d own cc ret ini Q (pc + 3) ls st (K, I, P, n, s)) : xB d own cc ret ini Q pc ls (.int y :: .int x :: st) (K, I, P, n, s) := x_icmp_ge t hd ht kt kf
theorem y_icmpZ_ge {x y : Int32} {off : Int} (t : Nat) (a b : Int) (hd : decode cc pc = .ok (.if_icmp .ge off, 3)) (ht : (pc : Int) + off = (t : Int)) (hx : x.toInt = a) (hy : y.toInt = b) (kt : a ≥ b → xB d own cc ret ini Q t ls st (K, I, P, n, s)) (kf : ¬ a ≥ b → xB d own cc ret ini Q (pc + 3) ls st (K, I, P, n, s)) : xB d own cc ret ini Q pc ls (.int y :: .int x :: st) (K, I, P, n, s) := x_icmp_ge t hd ht (fun q => kt (by rw [← hx, ← hy]; exact zI_le.mp q)) (fun q => kf (by rw [← hx, ← hy]; exact fun w => q (zI_le.mpr w)))
theorem y_ifZ_ge {x : Int32} {off : Int} (t : Nat) (a : Int) (hd : decode cc pc = .ok (.ifCond .ge off, 3)) (ht : (pc : Int) + off = (t : Int)) (hx : x.toInt = a) (kt : a ≥ 0 → xB d own cc ret ini Q t ls st (K, I, P, n, s)) (kf : ¬ a ≥ 0 → xB d own cc ret ini Q (pc + 3) ls st (K, I, P, n, s)) : xB d own cc ret ini Q pc ls (.int x :: st) (K, I, P, n, s) := have hy : (0 : Int32).toInt = 0 := rfl
  x_if_ge t hd ht (fun q => kt (by rw [← hx, ← hy]; exact zI_le.mp q)) (fun q => kf (by rw [← hx, ← hy]; exact fun w => q (zI_le.mpr w)))
theorem y_icmpN_ge {x y : Int32} {off : Int} (t a b : Nat) (hd : decode cc pc = .ok (.if_icmp .ge off, 3)) (ht : (pc : Int) + off = (t : Int)) (hx : x = nI a) (hy : y = nI b) (ha : a < 2 ^ 31) (hb : b < 2 ^ 31) (kt : a ≥ b → xB d own cc ret ini Q t ls st (K, I, P, n, s)) (kf : ¬ a ≥ b → xB d own cc ret ini Q (pc + 3) ls st (K, I, P, n, s)) : xB d own cc ret ini Q pc ls (.int y :: .int x :: st) (K, I, P, n, s) := y_icmpZ_ge t (a : Int) (b : Int) hd ht (by rw [hx, nI_toInt ha]) (by rw [hy, nI_toInt hb]) (fun q => kt (by omega)) (fun q => kf (by omega))
theorem y_if_gt {x : Int32} {off : Int} (t : Nat) (hd : decode cc pc = .ok (.ifCond .gt off, 3)) (ht : (pc : Int) + off = (t : Int)) (kt : x > 0 → xB d own cc ret ini Q t ls st (K, I, P, n, s)) (kf : ¬ x > 0 → xB d own cc ret ini Q (pc + 3) ls st (K, I, P, n, s)) : xB d own cc ret ini Q pc ls (.int x :: st) (K, I, P, n, s) := x_if_gt t hd ht kt kf
theorem y_icmp_gt {x y : Int32} {off : Int} (t : Nat) (hd : decode cc pc = .ok (.if_icmp .gt off, 3)) (ht : (pc : Int) + off = (t : Int)) (kt : x > y → xB d own cc ret ini Q t ls st (K, I, P, n, s)) (kf : ¬ x > y → xB d own cc ret ini Q (pc + 3) ls st (K, I, P, n, s)) : xB d own cc ret ini Q pc ls (.int y :: .int x :: st) (K, I, P, n, s) := x_icmp_gt t hd ht kt kf
theorem y_icmpZ_gt {x y : Int32} {off : Int} (t : Nat) (a b : Int) (hd : decode cc pc = .ok (.if_icmp .gt off, 3)) (ht : (pc : Int) + off = (t : Int)) (hx : x.toInt = a) (hy : y.toInt = b) (kt : a > b → xB d own cc ret ini Q t ls st (K, I, P, n, s)) (kf : ¬ a > b → xB d own cc ret ini Q (pc + 3) ls st (K, I, P, n, s)) : xB d own cc ret ini Q pc ls (.int y :: .int x :: st) (K, I, P, n, s) := x_icmp_gt t hd ht (fun q => kt (by rw [← hx, ← hy]; exact zI_lt.mp q)) (fun q => kf (by rw [← hx, ← hy]; exact fun w => q (zI_lt.mpr w)))
theorem y_ifZ_gt {x : Int32} {off : Int} (t : Nat) (a : Int) (hd : decode cc pc = .ok (.ifCond .gt off, 3)) (ht : (pc : Int) + off = (t : Int)) (hx : x.toInt = a) (kt : a > 0 → xB d own cc ret ini Q t ls st (K, I, P, n, s)) (kf : ¬ a > 0 → xB d own cc ret ini Q (pc + 3) ls st (K, I, P, n, s)) : xB d own cc ret ini Q pc ls (.int x :: st) (K, I, P, n, s) := have hy : (0 : Int32).toInt = 0 := rfl
  x_if_gt t hd ht (fun q => kt (by rw [← hx, ← hy]; exact zI_lt.mp q)) (fun q => kf (by rw [← hx, ← hy]; exact fun w => q (zI_lt.mpr w)))
theorem y_icmpN_gt {x y : Int32} {off : Int} (t a b : Nat) (hd : decode cc pc = .ok (.if_icmp .gt off, 3)) (ht : (pc : Int) + off = (t : Int)) (hx : x = nI a) (hy : y = nI b) (ha : a < 2 ^ 31) (hb : b < 2 ^ 31) (kt : a > b → xB d own cc ret ini Q t ls st (K, I, P, n, s)) (kf : ¬ a > b → xB d own cc ret ini Q (pc + 3) ls st (K, I, P, n, s)) : xB d own cc ret ini Q pc ls (.int y :: .int x :: st) (K, I, P, n, s) := y_icmpZ_gt t (a : Int) (b : Int) hd ht (by rw [hx, nI_toInt ha]) (by rw [hy, nI_toInt hb]) (fun q => kt (by omega)) (fun q => kf (by omega))
theorem y_if_le {x : Int32} {off : Int} (t : Nat) (hd : decode cc pc = .ok (.ifCond .le off, 3)) (ht : (pc : Int) + off = (t : Int)) (kt : x ≤ 0 → xB d own cc ret ini Q t ls st (K, I, P, n, s)) (kf : ¬ x ≤ 0 → xB d own cc ret ini Q (pc + 3) ls st (K, I, P, n, s)) : xB d own cc ret ini Q pc ls (.int x :: st) (K, I, P, n, s) := x_if_le t hd ht kt kf
theorem y_icmp_le {x y : Int32} {off : Int} (t : Nat) (hd : decode cc pc = .ok (.if_icmp .le off, 3)) (ht : (pc : Int) + off = (t : Int)) (kt : x ≤ y → xB d own cc ret ini Q t ls st (K, I, P, n, s)) (kf : ¬ x ≤ y → xB d own cc ret ini Q (pc + 3) ls st (K, I, P, n, s)) : xB d own cc ret ini Q pc ls (.int y :: .int x :: st) (K, I, P, n, s) := x_icmp_le t hd ht kt kf
theorem y_icmpZ_le {x y : Int32} {off : Int} (t : Nat) (a b : Int) (hd : decode cc pc = .ok (.if_icmp .le off, 3)) (ht : (pc : Int) + off = (t : Int)) (hx : x.toInt = a) (hy : y.toInt = b) (kt : a ≤ b → xB d own cc ret ini Q t ls st (K, I, P, n, s)) (kf : ¬ a ≤ b → xB d own cc ret ini Q (pc + 3) ls st (K, I, P, n, s)) : xB d own cc ret ini Q pc ls (.int y :: .int x :: st) (K, I, P, n, s) := x_icmp_le t hd ht (fun q => kt (by rw [← hx, ← hy]; exact zI_le.mp q)) (fun q => kf (by rw [← hx, ← hy]; exact fun w => q (zI_le.mpr w)))
theorem y_ifZ_le {x : Int32} {off : Int} (t : Nat) (a : Int) (hd : decode cc pc = .ok (.ifCond .le off, 3)) (ht : (pc : Int) + off = (t : Int)) (hx : x.toInt = a) (kt : a ≤ 0 → xB d own cc ret ini Q t ls st (K, I, P, n, s)) (kf : ¬ a ≤ 0 → xB d own cc ret ini Q (pc + 3) ls st (K, I, P, n, s)) : xB d own cc ret ini Q pc ls (.int x :: st) (K, I, P, n, s) := have hy : (0 : Int32).toInt = 0 := rfl
  x_if_le t hd ht (fun q => kt (by rw [← hx, ← hy]; exact zI_le.mp q)) (fun q => kf (by rw [← hx, ← hy]; exact fun w => q (zI_le.mpr w)))
theorem y_icmpN_le {x y : Int32} {off : Int} (t a b : Nat) (hd : decode cc pc = .ok (.if_icmp .le off, 3)) (ht : (pc : Int) + off = (t : Int)) (hx : x = nI a) (hy : y = nI b) (ha : a < 2 ^ 31) (hb : b < 2 ^ 31) (kt : a ≤ b → xB d own cc ret ini Q t ls st (K, I, P, n, s)) (kf : ¬ a ≤ b → xB d own cc ret ini Q (pc + 3) ls st (K, I, P, n, s)) : xB d own cc ret ini Q pc ls (.int y :: .int x :: st) (K, I, P, n, s) := y_icmpZ_le t (a : Int) (b : Int) hd ht (by rw [hx, nI_toInt ha]) (by rw [hy, nI_toInt hb]) (fun q => kt (by omega)) (fun q => kf (by omega))
theorem y_goto {off : Int} (t : Nat) (hd : decode cc pc = .ok (.goto off, 3)) (ht : (pc : Int) + off = (t : Int)) (k : xB d own cc ret ini Q t ls st (K, I, P, n, s)) : xB d own cc ret ini Q pc ls st (K, I, P, n, s) := x_goto t hd ht k
theorem y_tsw {x : Int32} {dflt lo hi : Int} {offs : Array Int} {len : Nat} (hd : decode cc pc = .ok (.tableswitch dflt lo hi offs, len)) (ko : x.toInt < lo ∨ hi < x.toInt → ∃ t : Nat, (pc : Int) + dflt = (t : Int) ∧ xB d own cc ret ini Q t ls st (K, I, P, n, s)) (ki : ¬ x.toInt < lo → ¬ hi < x.toInt → ∃ (off : Int) (t : Nat), offs[(x.toInt - lo).toNat]? = some off ∧ (pc : Int) + off = (t : Int) ∧ xB d own cc ret ini Q t ls st (K, I, P, n, s)) : xB d own cc ret ini Q pc ls (.int x :: st) (K, I, P, n, s) := x_tsw hd ko ki
theorem y_geti {idx a : Nat} (c f : Nat) (hd : decode cc pc = .ok (.getfield idx, 3)) (hf : xfl own idx = some (c, f)) (ht : (xft c f == 2) = false) (ha : (K a).1 = c + 1) (k : xB d own cc ret ini Q (pc + 3) ls (.int (I a f) :: st) (K, I, P, n, s)) : xB d own cc ret ini Q pc ls (.ref a :: st) (K, I, P, n, s) := x_geti c f hd hf ht ha k
theorem y_getv {idx a : Nat} {v : Int32} (c f : Nat) (hd : decode cc pc = .ok (.getfield idx, 3)) (hf : xfl own idx = some (c, f)) (ht : (xft c f == 2) = false) (ha : (K a).1 = c + 1) (hv : I a f = v) (k : xB d own cc ret ini Q (pc + 3) ls (.int v :: st) (K, I, P, n, s)) : xB d own cc ret ini Q pc ls (.ref a :: st) (K, I, P, n, s) := x_geti c f hd hf ht ha (by subst hv; exact k)
theorem y_getr {idx a b : Nat} (c f : Nat) (hd : decode cc pc = .ok (.getfield idx, 3)) (hf : xfl own idx = some (c, f)) (ht : (xft c f == 2) = true) (ha : (K a).1 = c + 1) (hb : P a f = some b) (k : xB d own cc ret ini Q (pc + 3) ls (.ref b :: st) (K, I, P, n, s)) : xB d own cc ret ini Q pc ls (.ref a :: st) (K, I, P, n, s) := x_getr c f hd hf ht ha hb k
theorem y_puti {idx a : Nat} {x : Int32} (c f : Nat) (hd : decode cc pc = .ok (.putfield idx, 3)) (hf : xfl own idx = some (c, f)) (ht : (xft c f == 0) = true) (hn : ((xT c f).2.2.2 == false) = true) (ha : (K a).1 = c + 1) (k : xB d own cc ret ini Q (pc + 3) ls st (K, xuI I a f x, P, n, s)) : xB d own cc ret ini Q pc ls (.int x :: .ref a :: st) (K, I, P, n, s) := x_puti c f hd hf ht hn ha k
theorem y_putz {idx a : Nat} {x : Int32} (c f : Nat) (hd : decode cc pc = .ok (.putfield idx, 3)) (hf : xfl own idx = some (c, f)) (ht : (xft c f == 1) = true) (hn : ((xT c f).2.2.2 == false) = true) (ha : (K a).1 = c + 1) (hx : x = 0 ∨ x = 1) (k : xB d own cc ret ini Q (pc + 3) ls st (K, xuI I a f x, P, n, s)) : xB d own cc ret ini Q pc ls (.int x :: .ref a :: st) (K, I, P, n, s) := x_putz c f hd hf ht hn ha hx k
theorem y_putr {idx a b : Nat} (c f : Nat) (hd : decode cc pc = .ok (.putfield idx, 3)) (hf : xfl own idx = some (c, f)) (ht : (xft c f == 2) = true) (hn : ((xT c f).2.2.2 == false || (ini && own == c)) = true) (ha : (K a).1 = c + 1) (k : xB d own cc ret ini Q (pc + 3) ls st (K, I, xuP P a f (some b), n, s)) : xB d own cc ret ini Q pc ls (.ref b :: .ref a :: st) (K, I, P, n, s) := x_putr c f hd hf ht hn ha k
theorem y_iald {j : Int32} {a M : Nat} (hd : decode cc pc = .ok (.iaload, 1)) (ha : K a = (100, M)) (hj : vp_in j M) (k : xB d own cc ret ini Q (pc + 1) ls (.int (I a j.toNatClampNeg) :: st) (K, I, P, n, s)) : xB d own cc ret ini Q pc ls (.int j :: .ref a :: st) (K, I, P, n, s) := x_iald hd ha hj k
theorem y_ialdN {j v : Int32} {a M : Nat} (i : Nat) (hd : decode cc pc = .ok (.iaload, 1)) (ha : K a = (100, M)) (hj : j = nI i) (hi : i < M) (hM : M < 2 ^ 31) (hv : I a i = v) (k : xB d own cc ret ini Q (pc + 1) ls (.int v :: st) (K, I, P, n, s)) : xB d own cc ret ini Q pc ls (.int j :: .ref a :: st) (K, I, P, n, s) := x_iald hd ha (by rw [hj]; exact vp_in_nI hi hM) (by rw [hj, nI_clamp (by omega)]; subst hv; exact k)
theorem y_sald {j : Int32} {a M : Nat} (hd : decode cc pc = .ok (.iaload, 1)) (ha : K a = (103, M)) (hj : vp_in j M) (k : xB d own cc ret ini Q (pc + 1) ls (.int (I a j.toNatClampNeg) :: st) (K, I, P, n, s)) : xB d own cc ret ini Q pc ls (.int j :: .ref a :: st) (K, I, P, n, s) := x_sald hd ha hj k
theorem y_saldN {j v : Int32} {a M : Nat} (i : Nat) (hd : decode cc pc = .ok (.iaload, 1)) (ha : K a = (103, M)) (hj : j = nI i) (hi : i < M) (hM : M < 2 ^ 31) (hv : I a i = v) (k : xB d own cc ret ini Q (pc + 1) ls (.int v :: st) (K, I, P, n, s)) : xB d own cc ret ini Q pc ls (.int j :: .ref a :: st) (K, I, P, n, s) := x_sald hd ha (by rw [hj]; exact vp_in_nI hi hM) (by rw [hj, nI_clamp (by omega)]; subst hv; exact k)
theorem y_bald {j : Int32} {a M : Nat} (hd : decode cc pc = .ok (.baload, 1)) (ha : K a = (101, M)) (hj : vp_in j M) (k : xB d own cc ret ini Q (pc + 1) ls (.int (I a j.toNatClampNeg) :: st) (K, I, P, n, s)) : xB d own cc ret ini Q pc ls (.int j :: .ref a :: st) (K, I, P, n, s) := x_bald hd ha hj k
theorem y_baldN {j v : Int32} {a M : Nat} (i : Nat) (hd : decode cc pc = .ok (.baload, 1)) (ha : K a = (101, M)) (hj : j = nI i) (hi : i < M) (hM : M < 2 ^ 31) (hv : I a i = v) (k : xB d own cc ret ini Q (pc + 1) ls (.int v :: st) (K, I, P, n, s)) : xB d own cc ret ini Q pc ls (.int j :: .ref a :: st) (K, I, P, n, s) := x_bald hd ha (by rw [hj]; exact vp_in_nI hi hM) (by rw [hj, nI_clamp (by omega)]; subst hv; exact k)
theorem y_aald {j : Int32} {a b M : Nat} (i : Nat) (hd : decode cc pc = .ok (.aaload, 1)) (ha : K a = (102, M)) (hj : j = nI i) (hi : i < M) (hM : M < 2 ^ 31) (hb : P a i = some b) (k : xB d own cc ret ini Q (pc + 1) ls (.ref b :: st) (K, I, P, n, s)) : xB d own cc ret ini Q pc ls (.int j :: .ref a :: st) (K, I, P, n, s) := x_aald hd ha (by rw [hj]; exact vp_in_nI hi hM) (by rw [hj, nI_clamp (by omega)]; exact hb) k
theorem y_iast {x j : Int32} {a M : Nat} (i : Nat) (hd : decode cc pc = .ok (.iastore, 1)) (ha : K a = (100, M)) (hj : j = nI i) (hi : i < M) (hM : M < 2 ^ 31) (k : xB d own cc ret ini Q (pc + 1) ls st (K, xuI I a i x, P, n, s)) : xB d own cc ret ini Q pc ls (.int x :: .int j :: .ref a :: st) (K, I, P, n, s) := x_iast hd ha (by rw [hj]; exact vp_in_nI hi hM) (by rw [hj, nI_clamp (by omega)]; exact k)
theorem y_bast {x j : Int32} {a M : Nat} (i : Nat) (hd : decode cc pc = .ok (.bastore, 1)) (ha : K a = (101, M)) (hj : j = nI i) (hi : i < M) (hM : M < 2 ^ 31) (hx : x = 0 ∨ x = 1) (k : xB d own cc ret ini Q (pc + 1) ls st (K, xuI I a i x, P, n, s)) : xB d own cc ret ini Q pc ls (.int x :: .int j :: .ref a :: st) (K, I, P, n, s) := x_bast hd ha (by rw [hj]; exact vp_in_nI hi hM) hx (by rw [hj, nI_clamp (by omega)]; exact k)
theorem y_aast {j : Int32} {a b M : Nat} (i : Nat) (hd : decode cc pc = .ok (.aastore, 1)) (ha : K a = (102, M)) (hj : j = nI i) (hi : i < M) (hM : M < 2 ^ 31) (hb : (K b).1 = 3) (k : xB d own cc ret ini Q (pc + 1) ls st (K, I, xuP P a i (some b), n, s)) : xB d own cc ret ini Q pc ls (.ref b :: .int j :: .ref a :: st) (K, I, P, n, s) := x_aast hd ha (by rw [hj]; exact vp_in_nI hi hM) hb (by rw [hj, nI_clamp (by omega)]; exact k)
theorem y_alen {a M : Nat} (hd : decode cc pc = .ok (.arraylength, 1)) (ha : K a = (100, M)) (k : xB d own cc ret ini Q (pc + 1) ls (.int (nI M) :: st) (K, I, P, n, s)) : xB d own cc ret ini Q pc ls (.ref a :: st) (K, I, P, n, s) := x_alen hd ha k
theorem y_slen {a M : Nat} (hd : decode cc pc = .ok (.arraylength, 1)) (ha : K a = (103, M)) (k : xB d own cc ret ini Q (pc + 1) ls (.int (nI M) :: st) (K, I, P, n, s)) : xB d own cc ret ini Q pc ls (.ref a :: st) (K, I, P, n, s) := x_slen hd ha k
theorem y_new {idx : Nat} (c : Nat) (hd : decode cc pc = .ok (.new idx, 3)) (hc : xcl own idx = some c) (k : xB d own cc ret ini Q (pc + 3) ls (.ref n :: st) (xuK K n (c + 1, 0), xuR I n (fun _ => 0), xuQ P n (fun _ => none), n + 1, s + xN c)) : xB d own cc ret ini Q pc ls st (K, I, P, n, s) := x_new c hd hc k
theorem y_newi {x : Int32} (m : Nat) (hd : decode cc pc = .ok (.newarray .int, 2)) (hx : x = nI m) (hm : m ≤ 100000) (k : xB d own cc ret ini Q (pc + 2) ls (.ref n :: st) (xuK K n (100, m), xuR I n (fun _ => 0), P, n + 1, s + m)) : xB d own cc ret ini Q pc ls (.int x :: st) (K, I, P, n, s) := x_newi m hd hx hm k
theorem y_newz {x : Int32} (m : Nat) (hd : decode cc pc = .ok (.newarray .boolean, 2)) (hx : x = nI m) (hm : m ≤ 100000) (k : xB d own cc ret ini Q (pc + 2) ls (.ref n :: st) (xuK K n (101, m), xuR I n (fun _ => 0), P, n + 1, s + m)) : xB d own cc ret ini Q pc ls (.int x :: st) (K, I, P, n, s) := x_newz m hd hx hm k
theorem y_newm {x : Int32} {idx : Nat} (m : Nat) (hd : decode cc pc = .ok (.anewarray idx, 3)) (hx : x = nI m) (hm : m ≤ 100000) (hc : xcl own idx = some 2) (k : xB d own cc ret ini Q (pc + 3) ls (.ref n :: st) (xuK K n (102, m), I, xuQ P n (fun _ => none), n + 1, s + m)) : xB d own cc ret ini Q pc ls (.int x :: st) (K, I, P, n, s) := x_newm m hd hx hm hc k
end YR
section YRC
variable {d own : Nat} {cc : ByteArray} {ret : Option FieldType} {ini : Bool} {Q : Option Value → xH → Prop} {pc : Nat} {ls : xL} {st : List Value} {K : Nat → Nat × Nat} {I : Nat → Nat → Int32} {P : Nat → Nat → Option Nat} {n s : Nat}
theorem y_callV0 {idx b : Nat} (y : Nat) (hd : decode cc pc = .ok (.invokevirtual idx, 3)) (hm : xml own idx = some (y, 0)) (hy : ((xM y).2.2.2.2.2.1 == 0 && decide ((xM y).2.2.2.2.1 < 6) && 0 == (xM y).2.2.2.2.2.2) = true) (hb : (K b).1 = (xM y).2.2.2.2.1 + 1) (hr : (st.map fun v => v.category).sum ≤ 8) (hc : xC d y [.ref b] (K, I, P, n, s) (fun v h' => xB (d + 1) own cc ret ini Q (pc + 3) ls (v.toList ++ st) h')) : xB (d + 1) own cc ret ini Q pc ls (.ref b :: st) (K, I, P, n, s) := x_callV y [] st _ hd hm hy rfl hb hr hc (fun _ _ q => q)
theorem y_callI0 {idx b : Nat} (y : Nat) (hd : decode cc pc = .ok (.invokespecial idx, 3)) (hm : xml own idx = some (y, 0)) (hy : ((xM y).2.2.2.2.2.1 == 1 && 0 == (xM y).2.2.2.2.2.2) = true) (hr : (st.map fun v => v.category).sum ≤ 8) (hc : xC d y [.ref b] (K, I, P, n, s) (fun v h' => v = none ∧ xB (d + 1) own cc ret ini Q (pc + 3) ls st h')) : xB (d + 1) own cc ret ini Q pc ls (.ref b :: st) (K, I, P, n, s) := x_callI y [] st _ hd hm hy rfl hr hc (fun _ _ q => q)
theorem y_callS0 {idx : Nat} (y nb : Nat) (hd : decode cc pc = .ok (.invokestatic idx, 3)) (hm : xml own idx = some (y, nb)) (hy : ((xM y).2.2.2.2.2.1 == 2 && 0 == (xM y).2.2.2.2.2.2) = true) (hr : (st.map fun v => v.category).sum ≤ 8) (hc : xC d y [] (K, I, P, n, s) (fun v h' => xB (d + 1) own cc ret ini Q (pc + 3) ls (v.toList ++ st) h')) : xB (d + 1) own cc ret ini Q pc ls (st) (K, I, P, n, s) := x_callS y nb [] st _ hd hm hy rfl hr hc (fun _ _ q => q)
theorem y_callV1 {idx b : Nat} {a1 : Value} (y : Nat) (hd : decode cc pc = .ok (.invokevirtual idx, 3)) (hm : xml own idx = some (y, 0)) (hy : ((xM y).2.2.2.2.2.1 == 0 && decide ((xM y).2.2.2.2.1 < 6) && 1 == (xM y).2.2.2.2.2.2) = true) (hb : (K b).1 = (xM y).2.2.2.2.1 + 1) (hr : (st.map fun v => v.category).sum ≤ 8) (hc : xC d y [.ref b, a1] (K, I, P, n, s) (fun v h' => xB (d + 1) own cc ret ini Q (pc + 3) ls (v.toList ++ st) h')) : xB (d + 1) own cc ret ini Q pc ls (a1 :: .ref b :: st) (K, I, P, n, s) := x_callV y [a1] st _ hd hm hy rfl hb hr hc (fun _ _ q => q)
theorem y_callI1 {idx b : Nat} {a1 : Value} (y : Nat) (hd : decode cc pc = .ok (.invokespecial idx, 3)) (hm : xml own idx = some (y, 0)) (hy : ((xM y).2.2.2.2.2.1 == 1 && 1 == (xM y).2.2.2.2.2.2) = true) (hr : (st.map fun v => v.category).sum ≤ 8) (hc : xC d y [.ref b, a1] (K, I, P, n, s) (fun v h' => v = none ∧ xB (d + 1) own cc ret ini Q (pc + 3) ls st h')) : xB (d + 1) own cc ret ini Q pc ls (a1 :: .ref b :: st) (K, I, P, n, s) := x_callI y [a1] st _ hd hm hy rfl hr hc (fun _ _ q => q)
theorem y_callS1 {idx : Nat} {a1 : Value} (y nb : Nat) (hd : decode cc pc = .ok (.invokestatic idx, 3)) (hm : xml own idx = some (y, nb)) (hy : ((xM y).2.2.2.2.2.1 == 2 && 1 == (xM y).2.2.2.2.2.2) = true) (hr : (st.map fun v => v.category).sum ≤ 8) (hc : xC d y [a1] (K, I, P, n, s) (fun v h' => xB (d + 1) own cc ret ini Q (pc + 3) ls (v.toList ++ st) h')) : xB (d + 1) own cc ret ini Q pc ls (a1 :: st) (K, I, P, n, s) := x_callS y nb [a1] st _ hd hm hy rfl hr hc (fun _ _ q => q)
theorem y_callV2 {idx b : Nat} {a1 a2 : Value} (y : Nat) (hd : decode cc pc = .ok (.invokevirtual idx, 3)) (hm : xml own idx = some (y, 0)) (hy : ((xM y).2.2.2.2.2.1 == 0 && decide ((xM y).2.2.2.2.1 < 6) && 2 == (xM y).2.2.2.2.2.2) = true) (hb : (K b).1 = (xM y).2.2.2.2.1 + 1) (hr : (st.map fun v => v.category).sum ≤ 8) (hc : xC d y [.ref b, a1, a2] (K, I, P, n, s) (fun v h' => xB (d + 1) own cc ret ini Q (pc + 3) ls (v.toList ++ st) h')) : xB (d + 1) own cc ret ini Q pc ls (a2 :: a1 :: .ref b :: st) (K, I, P, n, s) := x_callV y [a1, a2] st _ hd hm hy rfl hb hr hc (fun _ _ q => q)
theorem y_callI2 {idx b : Nat} {a1 a2 : Value} (y : Nat) (hd : decode cc pc = .ok (.invokespecial idx, 3)) (hm : xml own idx = some (y, 0)) (hy : ((xM y).2.2.2.2.2.1 == 1 && 2 == (xM y).2.2.2.2.2.2) = true) (hr : (st.map fun v => v.category).sum ≤ 8) (hc : xC d y [.ref b, a1, a2] (K, I, P, n, s) (fun v h' => v = none ∧ xB (d + 1) own cc ret ini Q (pc + 3) ls st h')) : xB (d + 1) own cc ret ini Q pc ls (a2 :: a1 :: .ref b :: st) (K, I, P, n, s) := x_callI y [a1, a2] st _ hd hm hy rfl hr hc (fun _ _ q => q)
theorem y_callS2 {idx : Nat} {a1 a2 : Value} (y nb : Nat) (hd : decode cc pc = .ok (.invokestatic idx, 3)) (hm : xml own idx = some (y, nb)) (hy : ((xM y).2.2.2.2.2.1 == 2 && 2 == (xM y).2.2.2.2.2.2) = true) (hr : (st.map fun v => v.category).sum ≤ 8) (hc : xC d y [a1, a2] (K, I, P, n, s) (fun v h' => xB (d + 1) own cc ret ini Q (pc + 3) ls (v.toList ++ st) h')) : xB (d + 1) own cc ret ini Q pc ls (a2 :: a1 :: st) (K, I, P, n, s) := x_callS y nb [a1, a2] st _ hd hm hy rfl hr hc (fun _ _ q => q)
theorem y_callV3 {idx b : Nat} {a1 a2 a3 : Value} (y : Nat) (hd : decode cc pc = .ok (.invokevirtual idx, 3)) (hm : xml own idx = some (y, 0)) (hy : ((xM y).2.2.2.2.2.1 == 0 && decide ((xM y).2.2.2.2.1 < 6) && 3 == (xM y).2.2.2.2.2.2) = true) (hb : (K b).1 = (xM y).2.2.2.2.1 + 1) (hr : (st.map fun v => v.category).sum ≤ 8) (hc : xC d y [.ref b, a1, a2, a3] (K, I, P, n, s) (fun v h' => xB (d + 1) own cc ret ini Q (pc + 3) ls (v.toList ++ st) h')) : xB (d + 1) own cc ret ini Q pc ls (a3 :: a2 :: a1 :: .ref b :: st) (K, I, P, n, s) := x_callV y [a1, a2, a3] st _ hd hm hy rfl hb hr hc (fun _ _ q => q)
theorem y_callI3 {idx b : Nat} {a1 a2 a3 : Value} (y : Nat) (hd : decode cc pc = .ok (.invokespecial idx, 3)) (hm : xml own idx = some (y, 0)) (hy : ((xM y).2.2.2.2.2.1 == 1 && 3 == (xM y).2.2.2.2.2.2) = true) (hr : (st.map fun v => v.category).sum ≤ 8) (hc : xC d y [.ref b, a1, a2, a3] (K, I, P, n, s) (fun v h' => v = none ∧ xB (d + 1) own cc ret ini Q (pc + 3) ls st h')) : xB (d + 1) own cc ret ini Q pc ls (a3 :: a2 :: a1 :: .ref b :: st) (K, I, P, n, s) := x_callI y [a1, a2, a3] st _ hd hm hy rfl hr hc (fun _ _ q => q)
theorem y_callS3 {idx : Nat} {a1 a2 a3 : Value} (y nb : Nat) (hd : decode cc pc = .ok (.invokestatic idx, 3)) (hm : xml own idx = some (y, nb)) (hy : ((xM y).2.2.2.2.2.1 == 2 && 3 == (xM y).2.2.2.2.2.2) = true) (hr : (st.map fun v => v.category).sum ≤ 8) (hc : xC d y [a1, a2, a3] (K, I, P, n, s) (fun v h' => xB (d + 1) own cc ret ini Q (pc + 3) ls (v.toList ++ st) h')) : xB (d + 1) own cc ret ini Q pc ls (a3 :: a2 :: a1 :: st) (K, I, P, n, s) := x_callS y nb [a1, a2, a3] st _ hd hm hy rfl hr hc (fun _ _ q => q)
theorem y_callV4 {idx b : Nat} {a1 a2 a3 a4 : Value} (y : Nat) (hd : decode cc pc = .ok (.invokevirtual idx, 3)) (hm : xml own idx = some (y, 0)) (hy : ((xM y).2.2.2.2.2.1 == 0 && decide ((xM y).2.2.2.2.1 < 6) && 4 == (xM y).2.2.2.2.2.2) = true) (hb : (K b).1 = (xM y).2.2.2.2.1 + 1) (hr : (st.map fun v => v.category).sum ≤ 8) (hc : xC d y [.ref b, a1, a2, a3, a4] (K, I, P, n, s) (fun v h' => xB (d + 1) own cc ret ini Q (pc + 3) ls (v.toList ++ st) h')) : xB (d + 1) own cc ret ini Q pc ls (a4 :: a3 :: a2 :: a1 :: .ref b :: st) (K, I, P, n, s) := x_callV y [a1, a2, a3, a4] st _ hd hm hy rfl hb hr hc (fun _ _ q => q)
theorem y_callI4 {idx b : Nat} {a1 a2 a3 a4 : Value} (y : Nat) (hd : decode cc pc = .ok (.invokespecial idx, 3)) (hm : xml own idx = some (y, 0)) (hy : ((xM y).2.2.2.2.2.1 == 1 && 4 == (xM y).2.2.2.2.2.2) = true) (hr : (st.map fun v => v.category).sum ≤ 8) (hc : xC d y [.ref b, a1, a2, a3, a4] (K, I, P, n, s) (fun v h' => v = none ∧ xB (d + 1) own cc ret ini Q (pc + 3) ls st h')) : xB (d + 1) own cc ret ini Q pc ls (a4 :: a3 :: a2 :: a1 :: .ref b :: st) (K, I, P, n, s) := x_callI y [a1, a2, a3, a4] st _ hd hm hy rfl hr hc (fun _ _ q => q)
theorem y_callS4 {idx : Nat} {a1 a2 a3 a4 : Value} (y nb : Nat) (hd : decode cc pc = .ok (.invokestatic idx, 3)) (hm : xml own idx = some (y, nb)) (hy : ((xM y).2.2.2.2.2.1 == 2 && 4 == (xM y).2.2.2.2.2.2) = true) (hr : (st.map fun v => v.category).sum ≤ 8) (hc : xC d y [a1, a2, a3, a4] (K, I, P, n, s) (fun v h' => xB (d + 1) own cc ret ini Q (pc + 3) ls (v.toList ++ st) h')) : xB (d + 1) own cc ret ini Q pc ls (a4 :: a3 :: a2 :: a1 :: st) (K, I, P, n, s) := x_callS y nb [a1, a2, a3, a4] st _ hd hm hy rfl hr hc (fun _ _ q => q)
theorem y_callV5 {idx b : Nat} {a1 a2 a3 a4 a5 : Value} (y : Nat) (hd : decode cc pc = .ok (.invokevirtual idx, 3)) (hm : xml own idx = some (y, 0)) (hy : ((xM y).2.2.2.2.2.1 == 0 && decide ((xM y).2.2.2.2.1 < 6) && 5 == (xM y).2.2.2.2.2.2) = true) (hb : (K b).1 = (xM y).2.2.2.2.1 + 1) (hr : (st.map fun v => v.category).sum ≤ 8) (hc : xC d y [.ref b, a1, a2, a3, a4, a5] (K, I, P, n, s) (fun v h' => xB (d + 1) own cc ret ini Q (pc + 3) ls (v.toList ++ st) h')) : xB (d + 1) own cc ret ini Q pc ls (a5 :: a4 :: a3 :: a2 :: a1 :: .ref b :: st) (K, I, P, n, s) := x_callV y [a1, a2, a3, a4, a5] st _ hd hm hy rfl hb hr hc (fun _ _ q => q)
theorem y_callI5 {idx b : Nat} {a1 a2 a3 a4 a5 : Value} (y : Nat) (hd : decode cc pc = .ok (.invokespecial idx, 3)) (hm : xml own idx = some (y, 0)) (hy : ((xM y).2.2.2.2.2.1 == 1 && 5 == (xM y).2.2.2.2.2.2) = true) (hr : (st.map fun v => v.category).sum ≤ 8) (hc : xC d y [.ref b, a1, a2, a3, a4, a5] (K, I, P, n, s) (fun v h' => v = none ∧ xB (d + 1) own cc ret ini Q (pc + 3) ls st h')) : xB (d + 1) own cc ret ini Q pc ls (a5 :: a4 :: a3 :: a2 :: a1 :: .ref b :: st) (K, I, P, n, s) := x_callI y [a1, a2, a3, a4, a5] st _ hd hm hy rfl hr hc (fun _ _ q => q)
theorem y_callS5 {idx : Nat} {a1 a2 a3 a4 a5 : Value} (y nb : Nat) (hd : decode cc pc = .ok (.invokestatic idx, 3)) (hm : xml own idx = some (y, nb)) (hy : ((xM y).2.2.2.2.2.1 == 2 && 5 == (xM y).2.2.2.2.2.2) = true) (hr : (st.map fun v => v.category).sum ≤ 8) (hc : xC d y [a1, a2, a3, a4, a5] (K, I, P, n, s) (fun v h' => xB (d + 1) own cc ret ini Q (pc + 3) ls (v.toList ++ st) h')) : xB (d + 1) own cc ret ini Q pc ls (a5 :: a4 :: a3 :: a2 :: a1 :: st) (K, I, P, n, s) := x_callS y nb [a1, a2, a3, a4, a5] st _ hd hm hy rfl hr hc (fun _ _ q => q)
theorem y_obj {idx a : Nat} (hd : decode cc pc = .ok (.invokespecial idx, 3)) (hm : xoi own idx = true) (hr : (st.map fun v => v.category).sum ≤ 8) (k : xB (d + 1) own cc ret ini Q (pc + 3) ls st (K, I, P, n, s)) : xB (d + 1) own cc ret ini Q pc ls (.ref a :: st) (K, I, P, n, s) := x_obj hd hm hr k
theorem y_max {idx : Nat} {x y : Int32} (hd : decode cc pc = .ok (.invokestatic idx, 3)) (hm : xmx own idx = true) (hr : (st.map fun v => v.category).sum ≤ 8) (k : xB (d + 1) own cc ret ini Q (pc + 3) ls (.int (if x < y then y else x) :: st) (K, I, P, n, s)) : xB (d + 1) own cc ret ini Q pc ls (.int y :: .int x :: st) (K, I, P, n, s) := x_max hd hm hr k
theorem y_copy {idx a b : Nat} {xn xd xs : Int32} (m dp sp N M : Nat) (hd : decode cc pc = .ok (.invokestatic idx, 3)) (hm : xac own idx = true) (hr : (st.map fun v => v.category).sum ≤ 8) (en : xn = nI m) (ed : xd = nI dp) (es : xs = nI sp) (ha : K a = (100, N)) (hb : K b = (100, M)) (hne : a ≠ b) (h1 : sp + m ≤ N) (h2 : dp + m ≤ M) (h3 : N ≤ 100000) (h4 : M ≤ 100000) (k : xB (d + 1) own cc ret ini Q (pc + 3) ls st (K, xuR I b (va_cpy (I a) (I b) sp dp m), P, n, s)) : xB (d + 1) own cc ret ini Q pc ls (.int xn :: .int xd :: .ref b :: .int xs :: .ref a :: st) (K, I, P, n, s) := x_copy m dp sp N M hd hm hr en ed es ha hb hne h1 h2 h3 h4 k
end YRC
section YRE
variable {d own : Nat} {cc : ByteArray} {ini : Bool} {Pp : Option Value → xH → Prop} {pc : Nat} {ls : xL} {K : Nat → Nat × Nat} {I : Nat → Nat → Int32} {P : Nat → Nat → Option Nat} {n s N0 S0 mc ms : Nat}
theorem y_ret {v : Int32} (hd : decode cc pc = .ok (.ireturn, 1)) (e1 : n = N0 + mc) (e2 : s = S0 + ms) (q : Pp (some (.int v)) (K, I, P, n, s)) : xB d own cc (some .int) ini (xE N0 S0 mc ms Pp) pc ls [.int v] (K, I, P, n, s) := x_ret hd ⟨e1, e2, q⟩
theorem y_retz {v : Int32} (hd : decode cc pc = .ok (.ireturn, 1)) (e1 : n = N0 + mc) (e2 : s = S0 + ms) (hv : v = 0 ∨ v = 1) (q : Pp (some (.int v)) (K, I, P, n, s)) : xB d own cc (some .boolean) ini (xE N0 S0 mc ms Pp) pc ls [.int v] (K, I, P, n, s) := x_retz hd hv ⟨e1, e2, q⟩
theorem y_retv (hd : decode cc pc = .ok (.return_, 1)) (e1 : n = N0 + mc) (e2 : s = S0 + ms) (q : Pp none (K, I, P, n, s)) : xB d own cc none ini (xE N0 S0 mc ms Pp) pc ls [] (K, I, P, n, s) := x_retv hd ⟨e1, e2, q⟩
end YRE
end
section
/-! where a class's own arrays lie behind an object; numbers in a range; small methods -/
def xLay (c : Nat) : List (Nat × Nat × Nat × Nat) := match c with
  | 0 => []
  | 1 => [(1, 1, 100, 12), (2, 2, 100, 12), (4, 3, 100, 12), (5, 4, 101, 12), (7, 5, 100, 64)]
  | 2 => [(0, 1, 100, 6), (2, 2, 100, 64), (3, 3, 100, 64), (4, 4, 100, 64), (6, 5, 101, 100), (7, 6, 101, 64), (9, 7, 100, 100), (10, 8, 100, 100), (11, 9, 100, 100), (12, 10, 100, 100), (14, 11, 100, 64), (15, 12, 100, 64)]
  | 3 => [(0, 1, 100, 8), (1, 2, 100, 60), (6, 3, 100, 13), (7, 4, 100, 13), (10, 5, 100, 100), (11, 6, 100, 100)]
  | 4 => []
  | 5 => [(1, 1, 100, 72), (2, 2, 100, 12), (3, 3, 100, 240), (4, 4, 100, 240), (5, 5, 100, 240), (6, 6, 100, 240), (7, 7, 100, 12), (8, 8, 100, 4800), (9, 9, 100, 12), (10, 10, 101, 768), (11, 11, 100, 12), (16, 12, 100, 12), (17, 13, 100, 12), (18, 14, 100, 768), (19, 15, 100, 240), (21, 16, 100, 12), (22, 17, 101, 12), (23, 18, 100, 12), (24, 19, 100, 12), (28, 20, 100, 8), (33, 21, 100, 60), (34, 22, 100, 101), (35, 23, 100, 101)]
  | _ => []
/-- an object of class c at q, with its own arrays right behind it -/
def xAt (K : Nat → Nat × Nat) (P : Nat → Nat → Option Nat) (q c : Nat) : Prop := (K q).1 = c + 1 ∧ ∀ e ∈ xLay c, P q e.1 = some (q + e.2.1) ∧ K (q + e.2.1) = (e.2.2.1, e.2.2.2)
section LA
variable {K : Nat → Nat × Nat} {P : Nat → Nat → Option Nat} {q : Nat}
theorem r1_1 (h : xAt K P q 1) : P q 1 = some (q + 1) := (h.2 (1, 1, 100, 12) (by decide)).1
theorem k1_1 (h : xAt K P q 1) : K (q + 1) = (100, 12) := (h.2 (1, 1, 100, 12) (by decide)).2
theorem r1_2 (h : xAt K P q 1) : P q 2 = some (q + 2) := (h.2 (2, 2, 100, 12) (by decide)).1
theorem k1_2 (h : xAt K P q 1) : K (q + 2) = (100, 12) := (h.2 (2, 2, 100, 12) (by decide)).2
theorem r1_4 (h : xAt K P q 1) : P q 4 = some (q + 3) := (h.2 (4, 3, 100, 12) (by decide)).1
theorem k1_4 (h : xAt K P q 1) : K (q + 3) = (100, 12) := (h.2 (4, 3, 100, 12) (by decide)).2
theorem r1_5 (h : xAt K P q 1) : P q 5 = some (q + 4) := (h.2 (5, 4, 101, 12) (by decide)).1
theorem k1_5 (h : xAt K P q 1) : K (q + 4) = (101, 12) := (h.2 (5, 4, 101, 12) (by decide)).2
theorem r1_7 (h : xAt K P q 1) : P q 7 = some (q + 5) := (h.2 (7, 5, 100, 64) (by decide)).1
theorem k1_7 (h : xAt K P q 1) : K (q + 5) = (100, 64) := (h.2 (7, 5, 100, 64) (by decide)).2
theorem r2_0 (h : xAt K P q 2) : P q 0 = some (q + 1) := (h.2 (0, 1, 100, 6) (by decide)).1
theorem k2_0 (h : xAt K P q 2) : K (q + 1) = (100, 6) := (h.2 (0, 1, 100, 6) (by decide)).2
theorem r2_2 (h : xAt K P q 2) : P q 2 = some (q + 2) := (h.2 (2, 2, 100, 64) (by decide)).1
theorem k2_2 (h : xAt K P q 2) : K (q + 2) = (100, 64) := (h.2 (2, 2, 100, 64) (by decide)).2
theorem r2_3 (h : xAt K P q 2) : P q 3 = some (q + 3) := (h.2 (3, 3, 100, 64) (by decide)).1
theorem k2_3 (h : xAt K P q 2) : K (q + 3) = (100, 64) := (h.2 (3, 3, 100, 64) (by decide)).2
theorem r2_4 (h : xAt K P q 2) : P q 4 = some (q + 4) := (h.2 (4, 4, 100, 64) (by decide)).1
theorem k2_4 (h : xAt K P q 2) : K (q + 4) = (100, 64) := (h.2 (4, 4, 100, 64) (by decide)).2
theorem r2_6 (h : xAt K P q 2) : P q 6 = some (q + 5) := (h.2 (6, 5, 101, 100) (by decide)).1
theorem k2_6 (h : xAt K P q 2) : K (q + 5) = (101, 100) := (h.2 (6, 5, 101, 100) (by decide)).2
theorem r2_7 (h : xAt K P q 2) : P q 7 = some (q + 6) := (h.2 (7, 6, 101, 64) (by decide)).1
theorem k2_7 (h : xAt K P q 2) : K (q + 6) = (101, 64) := (h.2 (7, 6, 101, 64) (by decide)).2
theorem r2_9 (h : xAt K P q 2) : P q 9 = some (q + 7) := (h.2 (9, 7, 100, 100) (by decide)).1
theorem k2_9 (h : xAt K P q 2) : K (q + 7) = (100, 100) := (h.2 (9, 7, 100, 100) (by decide)).2
theorem r2_10 (h : xAt K P q 2) : P q 10 = some (q + 8) := (h.2 (10, 8, 100, 100) (by decide)).1
theorem k2_10 (h : xAt K P q 2) : K (q + 8) = (100, 100) := (h.2 (10, 8, 100, 100) (by decide)).2
theorem r2_11 (h : xAt K P q 2) : P q 11 = some (q + 9) := (h.2 (11, 9, 100, 100) (by decide)).1
theorem k2_11 (h : xAt K P q 2) : K (q + 9) = (100, 100) := (h.2 (11, 9, 100, 100) (by decide)).2
theorem r2_12 (h : xAt K P q 2) : P q 12 = some (q + 10) := (h.2 (12, 10, 100, 100) (by decide)).1
theorem k2_12 (h : xAt K P q 2) : K (q + 10) = (100, 100) := (h.2 (12, 10, 100, 100) (by decide)).2
theorem r2_14 (h : xAt K P q 2) : P q 14 = some (q + 11) := (h.2 (14, 11, 100, 64) (by decide)).1
theorem k2_14 (h : xAt K P q 2) : K (q + 11) = (100, 64) := (h.2 (14, 11, 100, 64) (by decide)).2
theorem r2_15 (h : xAt K P q 2) : P q 15 = some (q + 12) := (h.2 (15, 12, 100, 64) (by decide)).1
theorem k2_15 (h : xAt K P q 2) : K (q + 12) = (100, 64) := (h.2 (15, 12, 100, 64) (by decide)).2
theorem r3_0 (h : xAt K P q 3) : P q 0 = some (q + 1) := (h.2 (0, 1, 100, 8) (by decide)).1
theorem k3_0 (h : xAt K P q 3) : K (q + 1) = (100, 8) := (h.2 (0, 1, 100, 8) (by decide)).2
theorem r3_1 (h : xAt K P q 3) : P q 1 = some (q + 2) := (h.2 (1, 2, 100, 60) (by decide)).1
theorem k3_1 (h : xAt K P q 3) : K (q + 2) = (100, 60) := (h.2 (1, 2, 100, 60) (by decide)).2
theorem r3_6 (h : xAt K P q 3) : P q 6 = some (q + 3) := (h.2 (6, 3, 100, 13) (by decide)).1
theorem k3_6 (h : xAt K P q 3) : K (q + 3) = (100, 13) := (h.2 (6, 3, 100, 13) (by decide)).2
theorem r3_7 (h : xAt K P q 3) : P q 7 = some (q + 4) := (h.2 (7, 4, 100, 13) (by decide)).1
theorem k3_7 (h : xAt K P q 3) : K (q + 4) = (100, 13) := (h.2 (7, 4, 100, 13) (by decide)).2
theorem r3_10 (h : xAt K P q 3) : P q 10 = some (q + 5) := (h.2 (10, 5, 100, 100) (by decide)).1
theorem k3_10 (h : xAt K P q 3) : K (q + 5) = (100, 100) := (h.2 (10, 5, 100, 100) (by decide)).2
theorem r3_11 (h : xAt K P q 3) : P q 11 = some (q + 6) := (h.2 (11, 6, 100, 100) (by decide)).1
theorem k3_11 (h : xAt K P q 3) : K (q + 6) = (100, 100) := (h.2 (11, 6, 100, 100) (by decide)).2
theorem r5_1 (h : xAt K P q 5) : P q 1 = some (q + 1) := (h.2 (1, 1, 100, 72) (by decide)).1
theorem k5_1 (h : xAt K P q 5) : K (q + 1) = (100, 72) := (h.2 (1, 1, 100, 72) (by decide)).2
theorem r5_2 (h : xAt K P q 5) : P q 2 = some (q + 2) := (h.2 (2, 2, 100, 12) (by decide)).1
theorem k5_2 (h : xAt K P q 5) : K (q + 2) = (100, 12) := (h.2 (2, 2, 100, 12) (by decide)).2
theorem r5_3 (h : xAt K P q 5) : P q 3 = some (q + 3) := (h.2 (3, 3, 100, 240) (by decide)).1
theorem k5_3 (h : xAt K P q 5) : K (q + 3) = (100, 240) := (h.2 (3, 3, 100, 240) (by decide)).2
theorem r5_4 (h : xAt K P q 5) : P q 4 = some (q + 4) := (h.2 (4, 4, 100, 240) (by decide)).1
theorem k5_4 (h : xAt K P q 5) : K (q + 4) = (100, 240) := (h.2 (4, 4, 100, 240) (by decide)).2
theorem r5_5 (h : xAt K P q 5) : P q 5 = some (q + 5) := (h.2 (5, 5, 100, 240) (by decide)).1
theorem k5_5 (h : xAt K P q 5) : K (q + 5) = (100, 240) := (h.2 (5, 5, 100, 240) (by decide)).2
theorem r5_6 (h : xAt K P q 5) : P q 6 = some (q + 6) := (h.2 (6, 6, 100, 240) (by decide)).1
theorem k5_6 (h : xAt K P q 5) : K (q + 6) = (100, 240) := (h.2 (6, 6, 100, 240) (by decide)).2
theorem r5_7 (h : xAt K P q 5) : P q 7 = some (q + 7) := (h.2 (7, 7, 100, 12) (by decide)).1
theorem k5_7 (h : xAt K P q 5) : K (q + 7) = (100, 12) := (h.2 (7, 7, 100, 12) (by decide)).2
theorem r5_8 (h : xAt K P q 5) : P q 8 = some (q + 8) := (h.2 (8, 8, 100, 4800) (by decide)).1
theorem k5_8 (h : xAt K P q 5) : K (q + 8) = (100, 4800) := (h.2 (8, 8, 100, 4800) (by decide)).2
theorem r5_9 (h : xAt K P q 5) : P q 9 = some (q + 9) := (h.2 (9, 9, 100, 12) (by decide)).1
theorem k5_9 (h : xAt K P q 5) : K (q + 9) = (100, 12) := (h.2 (9, 9, 100, 12) (by decide)).2
theorem r5_10 (h : xAt K P q 5) : P q 10 = some (q + 10) := (h.2 (10, 10, 101, 768) (by decide)).1
theorem k5_10 (h : xAt K P q 5) : K (q + 10) = (101, 768) := (h.2 (10, 10, 101, 768) (by decide)).2
theorem r5_11 (h : xAt K P q 5) : P q 11 = some (q + 11) := (h.2 (11, 11, 100, 12) (by decide)).1
theorem k5_11 (h : xAt K P q 5) : K (q + 11) = (100, 12) := (h.2 (11, 11, 100, 12) (by decide)).2
theorem r5_16 (h : xAt K P q 5) : P q 16 = some (q + 12) := (h.2 (16, 12, 100, 12) (by decide)).1
theorem k5_16 (h : xAt K P q 5) : K (q + 12) = (100, 12) := (h.2 (16, 12, 100, 12) (by decide)).2
theorem r5_17 (h : xAt K P q 5) : P q 17 = some (q + 13) := (h.2 (17, 13, 100, 12) (by decide)).1
theorem k5_17 (h : xAt K P q 5) : K (q + 13) = (100, 12) := (h.2 (17, 13, 100, 12) (by decide)).2
theorem r5_18 (h : xAt K P q 5) : P q 18 = some (q + 14) := (h.2 (18, 14, 100, 768) (by decide)).1
theorem k5_18 (h : xAt K P q 5) : K (q + 14) = (100, 768) := (h.2 (18, 14, 100, 768) (by decide)).2
theorem r5_19 (h : xAt K P q 5) : P q 19 = some (q + 15) := (h.2 (19, 15, 100, 240) (by decide)).1
theorem k5_19 (h : xAt K P q 5) : K (q + 15) = (100, 240) := (h.2 (19, 15, 100, 240) (by decide)).2
theorem r5_21 (h : xAt K P q 5) : P q 21 = some (q + 16) := (h.2 (21, 16, 100, 12) (by decide)).1
theorem k5_21 (h : xAt K P q 5) : K (q + 16) = (100, 12) := (h.2 (21, 16, 100, 12) (by decide)).2
theorem r5_22 (h : xAt K P q 5) : P q 22 = some (q + 17) := (h.2 (22, 17, 101, 12) (by decide)).1
theorem k5_22 (h : xAt K P q 5) : K (q + 17) = (101, 12) := (h.2 (22, 17, 101, 12) (by decide)).2
theorem r5_23 (h : xAt K P q 5) : P q 23 = some (q + 18) := (h.2 (23, 18, 100, 12) (by decide)).1
theorem k5_23 (h : xAt K P q 5) : K (q + 18) = (100, 12) := (h.2 (23, 18, 100, 12) (by decide)).2
theorem r5_24 (h : xAt K P q 5) : P q 24 = some (q + 19) := (h.2 (24, 19, 100, 12) (by decide)).1
theorem k5_24 (h : xAt K P q 5) : K (q + 19) = (100, 12) := (h.2 (24, 19, 100, 12) (by decide)).2
theorem r5_28 (h : xAt K P q 5) : P q 28 = some (q + 20) := (h.2 (28, 20, 100, 8) (by decide)).1
theorem k5_28 (h : xAt K P q 5) : K (q + 20) = (100, 8) := (h.2 (28, 20, 100, 8) (by decide)).2
theorem r5_33 (h : xAt K P q 5) : P q 33 = some (q + 21) := (h.2 (33, 21, 100, 60) (by decide)).1
theorem k5_33 (h : xAt K P q 5) : K (q + 21) = (100, 60) := (h.2 (33, 21, 100, 60) (by decide)).2
theorem r5_34 (h : xAt K P q 5) : P q 34 = some (q + 22) := (h.2 (34, 22, 100, 101) (by decide)).1
theorem k5_34 (h : xAt K P q 5) : K (q + 22) = (100, 101) := (h.2 (34, 22, 100, 101) (by decide)).2
theorem r5_35 (h : xAt K P q 5) : P q 35 = some (q + 23) := (h.2 (35, 23, 100, 101) (by decide)).1
theorem k5_35 (h : xAt K P q 5) : K (q + 23) = (100, 101) := (h.2 (35, 23, 100, 101) (by decide)).2
end LA
theorem zN {x : Int32} (h : ¬ x.toInt < 0) : x = nI x.toInt.toNat := by
  apply Int32.toInt_inj.mp
  have h1 := Int32.toInt_lt x
  rw [nI_toInt (by omega)]
  omega
theorem zof {x : Int32} {M : Nat} (h0 : ¬ x.toInt < 0) (h1 : ¬ x.toInt ≥ (M : Int)) : ∃ k, k < M ∧ x = nI k := ⟨x.toInt.toNat, by omega, zN h0⟩
theorem znot {x : Int32} {M : Nat} (hM : M ≤ 2 ^ 31) (h : x.toInt < 0 ∨ x.toInt ≥ (M : Int)) : ∀ k, k < M → x ≠ nI k := by
  intro k hk e
  have := nI_toInt (n := k) (by omega)
  rw [← e] at this
  omega
theorem nI_inj {a b : Nat} (ha : a < 2 ^ 31) (hb : b < 2 ^ 31) (h : nI a = nI b) : a = b := (nI_eq ha hb).mp h
theorem nI_m1 {k : Nat} (hk : k < 2 ^ 31) : nI k ≠ -1 := fun e => by
  have := nI_toInt hk
  rw [e] at this
  have h2 : (-1 : Int32).toInt = -1 := rfl
  omega
theorem xuI_s {I : Nat → Nat → Int32} {a j : Nat} {x : Int32} : xuI I a j x a j = x := by simp [xuI]
theorem xuI_o {I : Nat → Nat → Int32} {a j b i : Nat} {x : Int32} (h : b ≠ a ∨ i ≠ j) : xuI I a j x b i = I b i := by
  unfold xuI
  rw [if_neg]
  rintro ⟨rfl, rfl⟩
  rcases h with h | h <;> exact h rfl
theorem kX4_isName {d : Nat} {Pp : Option Value → xH → Prop} {K : Nat → Nat × Nat} {I : Nat → Nat → Int32} {P : Nat → Nat → Option Nat} {n s : Nat} {x : Int32} (h1 : ∀ k : Nat, k < 64 → x = nI k → Pp (some (.int 1)) (K, I, P, n, s)) (h0 : (∀ k : Nat, k < 64 → x ≠ nI k) → Pp (some (.int 0)) (K, I, P, n, s)) : xC d mX4_isName [(.int x)] (K, I, P, n, s) Pp := by
  refine y_met 0 0 ?_
  show xB d 4 cX4_isName (some .boolean) false (xE n s 0 0 Pp) 0 [some (.int x)] [] (K, I, P, n, s)
  refine y_iload_n dX4_isName_0 rfl ?_
  refine y_ifZ_lt 14 (x.toInt) dX4_isName_1 (by decide) rfl (fun c1 => ?_) (fun c1 => ?_)
  · refine y_iconst (v := 0) dX4_isName_14 (by decide) ?_
    exact y_retz dX4_isName_15 rfl rfl (Or.inl rfl) (h0 (znot (by decide) (Or.inl c1)))
  · refine y_iload_n dX4_isName_4 rfl ?_
    refine y_bipush (v := 64) dX4_isName_5 (by decide) ?_
    refine y_icmpZ_ge 14 (x.toInt) (64) dX4_isName_7 (by decide) rfl rfl (fun c7 => ?_) (fun c7 => ?_)
    · refine y_iconst (v := 0) dX4_isName_14 (by decide) ?_
      exact y_retz dX4_isName_15 rfl rfl (Or.inl rfl) (h0 (znot (by decide) (Or.inr c7)))
    · refine y_iconst (v := 1) dX4_isName_10 (by decide) ?_
      refine y_goto 15 dX4_isName_11 (by decide) ?_
      obtain ⟨k, hk, ek⟩ := zof (M := 64) c1 c7
      exact y_retz dX4_isName_15 rfl rfl (Or.inr rfl) (h1 k hk ek)
theorem kX4_isStep {d : Nat} {Pp : Option Value → xH → Prop} {K : Nat → Nat × Nat} {I : Nat → Nat → Int32} {P : Nat → Nat → Option Nat} {n s : Nat} {x : Int32} (h1 : ∀ k : Nat, k < 100 → x = nI k → Pp (some (.int 1)) (K, I, P, n, s)) (h0 : (∀ k : Nat, k < 100 → x ≠ nI k) → Pp (some (.int 0)) (K, I, P, n, s)) : xC d mX4_isStep [(.int x)] (K, I, P, n, s) Pp := by
  refine y_met 0 0 ?_
  show xB d 4 cX4_isStep (some .boolean) false (xE n s 0 0 Pp) 0 [some (.int x)] [] (K, I, P, n, s)
  refine y_iload_n dX4_isStep_0 rfl ?_
  refine y_ifZ_lt 14 (x.toInt) dX4_isStep_1 (by decide) rfl (fun c1 => ?_) (fun c1 => ?_)
  · refine y_iconst (v := 0) dX4_isStep_14 (by decide) ?_
    exact y_retz dX4_isStep_15 rfl rfl (Or.inl rfl) (h0 (znot (by decide) (Or.inl c1)))
  · refine y_iload_n dX4_isStep_4 rfl ?_
    refine y_bipush (v := 100) dX4_isStep_5 (by decide) ?_
    refine y_icmpZ_ge 14 (x.toInt) (100) dX4_isStep_7 (by decide) rfl rfl (fun c7 => ?_) (fun c7 => ?_)
    · refine y_iconst (v := 0) dX4_isStep_14 (by decide) ?_
      exact y_retz dX4_isStep_15 rfl rfl (Or.inl rfl) (h0 (znot (by decide) (Or.inr c7)))
    · refine y_iconst (v := 1) dX4_isStep_10 (by decide) ?_
      refine y_goto 15 dX4_isStep_11 (by decide) ?_
      obtain ⟨k, hk, ek⟩ := zof (M := 100) c1 c7
      exact y_retz dX4_isStep_15 rfl rfl (Or.inr rfl) (h1 k hk ek)
theorem kX4_isRegister {d : Nat} {Pp : Option Value → xH → Prop} {K : Nat → Nat × Nat} {I : Nat → Nat → Int32} {P : Nat → Nat → Option Nat} {n s : Nat} {x : Int32} (h1 : ∀ k : Nat, k < 8 → x = nI k → Pp (some (.int 1)) (K, I, P, n, s)) (h0 : (∀ k : Nat, k < 8 → x ≠ nI k) → Pp (some (.int 0)) (K, I, P, n, s)) : xC d mX4_isRegister [(.int x)] (K, I, P, n, s) Pp := by
  refine y_met 0 0 ?_
  show xB d 4 cX4_isRegister (some .boolean) false (xE n s 0 0 Pp) 0 [some (.int x)] [] (K, I, P, n, s)
  refine y_iload_n dX4_isRegister_0 rfl ?_
  refine y_ifZ_lt 14 (x.toInt) dX4_isRegister_1 (by decide) rfl (fun c1 => ?_) (fun c1 => ?_)
  · refine y_iconst (v := 0) dX4_isRegister_14 (by decide) ?_
    exact y_retz dX4_isRegister_15 rfl rfl (Or.inl rfl) (h0 (znot (by decide) (Or.inl c1)))
  · refine y_iload_n dX4_isRegister_4 rfl ?_
    refine y_bipush (v := 8) dX4_isRegister_5 (by decide) ?_
    refine y_icmpZ_ge 14 (x.toInt) (8) dX4_isRegister_7 (by decide) rfl rfl (fun c7 => ?_) (fun c7 => ?_)
    · refine y_iconst (v := 0) dX4_isRegister_14 (by decide) ?_
      exact y_retz dX4_isRegister_15 rfl rfl (Or.inl rfl) (h0 (znot (by decide) (Or.inr c7)))
    · refine y_iconst (v := 1) dX4_isRegister_10 (by decide) ?_
      refine y_goto 15 dX4_isRegister_11 (by decide) ?_
      obtain ⟨k, hk, ek⟩ := zof (M := 8) c1 c7
      exact y_retz dX4_isRegister_15 rfl rfl (Or.inr rfl) (h1 k hk ek)
theorem kX5_isName {d : Nat} {Pp : Option Value → xH → Prop} {K : Nat → Nat × Nat} {I : Nat → Nat → Int32} {P : Nat → Nat → Option Nat} {n s : Nat} {x : Int32} (h1 : ∀ k : Nat, k < 64 → x = nI k → Pp (some (.int 1)) (K, I, P, n, s)) (h0 : (∀ k : Nat, k < 64 → x ≠ nI k) → Pp (some (.int 0)) (K, I, P, n, s)) : xC d mX5_isName [(.int x)] (K, I, P, n, s) Pp := by
  refine y_met 0 0 ?_
  show xB d 5 cX5_isName (some .boolean) false (xE n s 0 0 Pp) 0 [some (.int x)] [] (K, I, P, n, s)
  refine y_iload_n dX5_isName_0 rfl ?_
  refine y_ifZ_lt 14 (x.toInt) dX5_isName_1 (by decide) rfl (fun c1 => ?_) (fun c1 => ?_)
  · refine y_iconst (v := 0) dX5_isName_14 (by decide) ?_
    exact y_retz dX5_isName_15 rfl rfl (Or.inl rfl) (h0 (znot (by decide) (Or.inl c1)))
  · refine y_iload_n dX5_isName_4 rfl ?_
    refine y_bipush (v := 64) dX5_isName_5 (by decide) ?_
    refine y_icmpZ_ge 14 (x.toInt) (64) dX5_isName_7 (by decide) rfl rfl (fun c7 => ?_) (fun c7 => ?_)
    · refine y_iconst (v := 0) dX5_isName_14 (by decide) ?_
      exact y_retz dX5_isName_15 rfl rfl (Or.inl rfl) (h0 (znot (by decide) (Or.inr c7)))
    · refine y_iconst (v := 1) dX5_isName_10 (by decide) ?_
      refine y_goto 15 dX5_isName_11 (by decide) ?_
      obtain ⟨k, hk, ek⟩ := zof (M := 64) c1 c7
      exact y_retz dX5_isName_15 rfl rfl (Or.inr rfl) (h1 k hk ek)
theorem kX5_isStep {d : Nat} {Pp : Option Value → xH → Prop} {K : Nat → Nat × Nat} {I : Nat → Nat → Int32} {P : Nat → Nat → Option Nat} {n s : Nat} {x : Int32} (h1 : ∀ k : Nat, k < 100 → x = nI k → Pp (some (.int 1)) (K, I, P, n, s)) (h0 : (∀ k : Nat, k < 100 → x ≠ nI k) → Pp (some (.int 0)) (K, I, P, n, s)) : xC d mX5_isStep [(.int x)] (K, I, P, n, s) Pp := by
  refine y_met 0 0 ?_
  show xB d 5 cX5_isStep (some .boolean) false (xE n s 0 0 Pp) 0 [some (.int x)] [] (K, I, P, n, s)
  refine y_iload_n dX5_isStep_0 rfl ?_
  refine y_ifZ_lt 14 (x.toInt) dX5_isStep_1 (by decide) rfl (fun c1 => ?_) (fun c1 => ?_)
  · refine y_iconst (v := 0) dX5_isStep_14 (by decide) ?_
    exact y_retz dX5_isStep_15 rfl rfl (Or.inl rfl) (h0 (znot (by decide) (Or.inl c1)))
  · refine y_iload_n dX5_isStep_4 rfl ?_
    refine y_bipush (v := 100) dX5_isStep_5 (by decide) ?_
    refine y_icmpZ_ge 14 (x.toInt) (100) dX5_isStep_7 (by decide) rfl rfl (fun c7 => ?_) (fun c7 => ?_)
    · refine y_iconst (v := 0) dX5_isStep_14 (by decide) ?_
      exact y_retz dX5_isStep_15 rfl rfl (Or.inl rfl) (h0 (znot (by decide) (Or.inr c7)))
    · refine y_iconst (v := 1) dX5_isStep_10 (by decide) ?_
      refine y_goto 15 dX5_isStep_11 (by decide) ?_
      obtain ⟨k, hk, ek⟩ := zof (M := 100) c1 c7
      exact y_retz dX5_isStep_15 rfl rfl (Or.inr rfl) (h1 k hk ek)
theorem kX5_isRegister {d : Nat} {Pp : Option Value → xH → Prop} {K : Nat → Nat × Nat} {I : Nat → Nat → Int32} {P : Nat → Nat → Option Nat} {n s : Nat} {x : Int32} (h1 : ∀ k : Nat, k < 8 → x = nI k → Pp (some (.int 1)) (K, I, P, n, s)) (h0 : (∀ k : Nat, k < 8 → x ≠ nI k) → Pp (some (.int 0)) (K, I, P, n, s)) : xC d mX5_isRegister [(.int x)] (K, I, P, n, s) Pp := by
  refine y_met 0 0 ?_
  show xB d 5 cX5_isRegister (some .boolean) false (xE n s 0 0 Pp) 0 [some (.int x)] [] (K, I, P, n, s)
  refine y_iload_n dX5_isRegister_0 rfl ?_
  refine y_ifZ_lt 14 (x.toInt) dX5_isRegister_1 (by decide) rfl (fun c1 => ?_) (fun c1 => ?_)
  · refine y_iconst (v := 0) dX5_isRegister_14 (by decide) ?_
    exact y_retz dX5_isRegister_15 rfl rfl (Or.inl rfl) (h0 (znot (by decide) (Or.inl c1)))
  · refine y_iload_n dX5_isRegister_4 rfl ?_
    refine y_bipush (v := 8) dX5_isRegister_5 (by decide) ?_
    refine y_icmpZ_ge 14 (x.toInt) (8) dX5_isRegister_7 (by decide) rfl rfl (fun c7 => ?_) (fun c7 => ?_)
    · refine y_iconst (v := 0) dX5_isRegister_14 (by decide) ?_
      exact y_retz dX5_isRegister_15 rfl rfl (Or.inl rfl) (h0 (znot (by decide) (Or.inr c7)))
    · refine y_iconst (v := 1) dX5_isRegister_10 (by decide) ?_
      refine y_goto 15 dX5_isRegister_11 (by decide) ?_
      obtain ⟨k, hk, ek⟩ := zof (M := 8) c1 c7
      exact y_retz dX5_isRegister_15 rfl rfl (Or.inr rfl) (h1 k hk ek)
theorem kX4_isModule {d : Nat} {Pp : Option Value → xH → Prop} {K : Nat → Nat × Nat} {I : Nat → Nat → Int32} {P : Nat → Nat → Option Nat} {n s : Nat} {q c : Nat} {x : Int32} (hq : (K q).1 = 5) (hc : I q 1 = nI c) (hc2 : c ≤ 12) (h1 : ∀ k : Nat, k < c → x = nI k → Pp (some (.int 1)) (K, I, P, n, s)) (h0 : (∀ k : Nat, k < c → x ≠ nI k) → Pp (some (.int 0)) (K, I, P, n, s)) : xC d mX4_isModule [(.ref q), (.int x)] (K, I, P, n, s) Pp := by
  refine y_met 0 0 ?_
  show xB d 4 cX4_isModule (some .boolean) false (xE n s 0 0 Pp) 0 [some (.ref q), some (.int x)] [] (K, I, P, n, s)
  refine y_iload_n dX4_isModule_0 rfl ?_
  refine y_ifZ_lt 16 (x.toInt) dX4_isModule_1 (by decide) rfl (fun c1 => ?_) (fun c1 => ?_)
  · refine y_iconst (v := 0) dX4_isModule_16 (by decide) ?_
    exact y_retz dX4_isModule_17 rfl rfl (Or.inl rfl) (h0 (znot (by omega) (Or.inl c1)))
  · refine y_iload_n dX4_isModule_4 rfl ?_
    refine y_aload_n dX4_isModule_5 rfl ?_
    refine y_getv 4 1 dX4_isModule_6 rfl rfl hq hc ?_
    refine y_icmpZ_ge 16 (x.toInt) ((c : Int)) dX4_isModule_9 (by decide) rfl (nI_toInt (by omega)) (fun c9 => ?_) (fun c9 => ?_)
    · refine y_iconst (v := 0) dX4_isModule_16 (by decide) ?_
      exact y_retz dX4_isModule_17 rfl rfl (Or.inl rfl) (h0 (znot (by omega) (Or.inr c9)))
    · refine y_iconst (v := 1) dX4_isModule_12 (by decide) ?_
      refine y_goto 17 dX4_isModule_13 (by decide) ?_
      obtain ⟨k, hk, ek⟩ := zof (M := c) c1 c9
      exact y_retz dX4_isModule_17 rfl rfl (Or.inr rfl) (h1 k hk ek)
theorem kX5_isModule {d : Nat} {Pp : Option Value → xH → Prop} {K : Nat → Nat × Nat} {I : Nat → Nat → Int32} {P : Nat → Nat → Option Nat} {n s : Nat} {q c : Nat} {x : Int32} (hq : (K q).1 = 6) (hc : I q 0 = nI c) (hc2 : c ≤ 12) (h1 : ∀ k : Nat, k < c → x = nI k → Pp (some (.int 1)) (K, I, P, n, s)) (h0 : (∀ k : Nat, k < c → x ≠ nI k) → Pp (some (.int 0)) (K, I, P, n, s)) : xC d mX5_isModule [(.ref q), (.int x)] (K, I, P, n, s) Pp := by
  refine y_met 0 0 ?_
  show xB d 5 cX5_isModule (some .boolean) false (xE n s 0 0 Pp) 0 [some (.ref q), some (.int x)] [] (K, I, P, n, s)
  refine y_iload_n dX5_isModule_0 rfl ?_
  refine y_ifZ_lt 16 (x.toInt) dX5_isModule_1 (by decide) rfl (fun c1 => ?_) (fun c1 => ?_)
  · refine y_iconst (v := 0) dX5_isModule_16 (by decide) ?_
    exact y_retz dX5_isModule_17 rfl rfl (Or.inl rfl) (h0 (znot (by omega) (Or.inl c1)))
  · refine y_iload_n dX5_isModule_4 rfl ?_
    refine y_aload_n dX5_isModule_5 rfl ?_
    refine y_getv 5 0 dX5_isModule_6 rfl rfl hq hc ?_
    refine y_icmpZ_ge 16 (x.toInt) ((c : Int)) dX5_isModule_9 (by decide) rfl (nI_toInt (by omega)) (fun c9 => ?_) (fun c9 => ?_)
    · refine y_iconst (v := 0) dX5_isModule_16 (by decide) ?_
      exact y_retz dX5_isModule_17 rfl rfl (Or.inl rfl) (h0 (znot (by omega) (Or.inr c9)))
    · refine y_iconst (v := 1) dX5_isModule_12 (by decide) ?_
      refine y_goto 17 dX5_isModule_13 (by decide) ?_
      obtain ⟨k, hk, ek⟩ := zof (M := c) c1 c9
      exact y_retz dX5_isModule_17 rfl rfl (Or.inr rfl) (h1 k hk ek)
theorem kX0_become {d : Nat} {Pp : Option Value → xH → Prop} {K : Nat → Nat × Nat} {I : Nat → Nat → Int32} {P : Nat → Nat → Option Nat} {n s : Nat} {q : Nat} {x1 x2 x3 x4 : Int32} (hq : (K q).1 = 1) (hp : Pp none (K, xuI (xuI (xuI (xuI I q 0 x1) q 1 x2) q 2 x3) q 3 x4, P, n, s)) : xC d mX0_become [(.ref q), (.int x1), (.int x2), (.int x3), (.int x4)] (K, I, P, n, s) Pp := by
  refine y_met 0 0 ?_
  show xB d 0 cX0_become none false (xE n s 0 0 Pp) 0 [some (.ref q), some (.int x1), some (.int x2), some (.int x3), some (.int x4)] [] (K, I, P, n, s)
  refine y_aload_n dX0_become_0 rfl ?_
  refine y_iload_n dX0_become_1 rfl ?_
  refine y_puti 0 0 dX0_become_2 rfl rfl rfl hq ?_
  refine y_aload_n dX0_become_5 rfl ?_
  refine y_iload_n dX0_become_6 rfl ?_
  refine y_puti 0 1 dX0_become_7 rfl rfl rfl hq ?_
  refine y_aload_n dX0_become_10 rfl ?_
  refine y_iload_n dX0_become_11 rfl ?_
  refine y_puti 0 2 dX0_become_12 rfl rfl rfl hq ?_
  refine y_aload_n dX0_become_15 rfl ?_
  refine y_iload dX0_become_16 rfl ?_
  refine y_puti 0 3 dX0_become_18 rfl rfl rfl hq ?_
  exact y_retv dX0_become_21 rfl rfl hp
def xfil (f : Nat → Int32) (x : Int32) (k : Nat) : Nat → Int32 := fun j => if j < k then x else f j
theorem kfill_loop {d a M : Nat} {x : Int32} {Q : Option Value → xH → Prop} {K : Nat → Nat × Nat} {P : Nat → Nat → Option Nat} {n s : Nat} (ha : K a = (100, M)) (hM : M < 2 ^ 31) : ∀ (t i : Nat) (I : Nat → Nat → Int32), i ≤ M → M - i = t → (∀ I2 x2 x3, (∀ b, b ≠ a → I2 b = I b) → (∀ j, j < M → I2 a j = if i ≤ j then x else I a j) → xB d 8 cJ7_fill_53178 none false Q 20 [some (.ref a), some (.int x), some (.int x2), some (.int x3)] [] (K, I2, P, n, s)) → xB d 8 cJ7_fill_53178 none false Q 5 [some (.ref a), some (.int x), some (.int (nI i)), some (.int (nI M))] [] (K, I, P, n, s) := by
  intro t
  induction t with
  | zero =>
    intro i I hi ht k
    refine y_iload_n dJ7_fill_53178_5 rfl ?_
    refine y_iload_n dJ7_fill_53178_6 rfl ?_
    refine y_icmpN_ge 20 (i) (M) dJ7_fill_53178_7 (by decide) rfl rfl (by omega) (by omega) (fun _ => ?_) (fun c7 => absurd c7 (by omega))
    exact k I _ _ (fun _ _ => rfl) (fun j hj => by rw [if_neg (by omega)])
  | succ t ih =>
    intro i I hi ht k
    refine y_iload_n dJ7_fill_53178_5 rfl ?_
    refine y_iload_n dJ7_fill_53178_6 rfl ?_
    refine y_icmpN_ge 20 (i) (M) dJ7_fill_53178_7 (by decide) rfl rfl (by omega) (by omega) (fun c7 => absurd c7 (by omega)) (fun _ => ?_)
    refine y_aload_n dJ7_fill_53178_10 rfl ?_
    refine y_iload_n dJ7_fill_53178_11 rfl ?_
    refine y_iload_n dJ7_fill_53178_12 rfl ?_
    refine y_iast (i) dJ7_fill_53178_13 ha rfl (by omega) (by omega) ?_
    refine y_iinc dJ7_fill_53178_14 rfl (fun z e_z => ?_)
    refine y_goto 5 dJ7_fill_53178_17 (by decide) ?_
    have e : z = nI (i + 1) := by rw [e_z]; exact nI_1 i
    subst e
    refine ih (i + 1) _ (by omega) (by omega) (fun I2 x2 x3 g1 g2 => k I2 x2 x3 (fun b hb => by rw [g1 b hb]; exact xuI_ne hb) (fun j hj => ?_))
    rw [g2 j hj]
    by_cases h1 : i + 1 ≤ j
    · rw [if_pos h1, if_pos (by omega)]
    · by_cases h2 : i = j
      · subst h2; rw [if_neg h1, if_pos (Nat.le_refl _), xuI_s]
      · rw [if_neg h1, if_neg (by omega), xuI_o (Or.inr (by omega))]
theorem kfill {d : Nat} {Pp : Option Value → xH → Prop} {K : Nat → Nat × Nat} {I : Nat → Nat → Int32} {P : Nat → Nat → Option Nat} {n s : Nat} {a M : Nat} {x : Int32} (ha : K a = (100, M)) (hM : M < 2 ^ 31) (hp : ∀ I2, (∀ b, b ≠ a → I2 b = I b) → (∀ j, j < M → I2 a j = x) → Pp none (K, I2, P, n, s)) : xC d mJ7_fill_53178 [(.ref a), (.int x)] (K, I, P, n, s) Pp := by
  refine y_met 0 0 ?_
  show xB d 8 cJ7_fill_53178 none false (xE n s 0 0 Pp) 0 [some (.ref a), some (.int x), none, none] [] (K, I, P, n, s)
  refine y_iconst (v := nI 0) dJ7_fill_53178_0 (by decide) ?_
  refine y_istore_n dJ7_fill_53178_1 (by simp) (fun z e_z => ?_)
  subst e_z
  refine y_aload_n dJ7_fill_53178_2 rfl ?_
  refine y_alen dJ7_fill_53178_3 ha ?_
  refine y_istore_n dJ7_fill_53178_4 (by simp) (fun z3 e_z3 => ?_)
  subst e_z3
  refine kfill_loop ha hM M 0 I (Nat.zero_le _) rfl (fun I2 x2 x3 g1 g2 => ?_)
  exact y_retv dJ7_fill_53178_20 rfl rfl (hp I2 g1 (fun j hj => by rw [g2 j hj, if_pos (Nat.zero_le _)]))
end
section
/-! the reference's memory as a function of two numbers, and what is computed from it -/
abbrev xX : Type := Nat → Nat → Int32
/-- the memory of the reference at R: 0 its own fields, 1 .. 23 its arrays -/
def xRf (I : Nat → Nat → Int32) (R : Nat) : xX := fun i j => I (R + i) j
def gC (X : xX) : Nat := (X 0 0).toNatClampNeg
def gN (X : xX) (m : Nat) : Nat := (X 2 m).toNatClampNeg
def gD (X : xX) (m k : Nat) : Nat := (X 1 (6 * m + k)).toNatClampNeg
def gF (X : xX) (m : Nat) : Nat := (X 7 m).toNatClampNeg
def gS (X : xX) (m : Nat) : Nat := (X 9 m).toNatClampNeg
def sOfF (X : xX) (m : Nat) (x : Int32) : Nat → Nat → Option Nat
  | 0, _ => none
  | t + 1, k => if X 3 (20 * m + k) = x then some (20 * m + k) else sOfF X m x t (k + 1)
/-- the definition of a name in a module -/
def sOf (X : xX) (m : Nat) (x : Int32) : Option Nat := sOfF X m x (gF X m) 0
def sAm (X : xX) (x : Int32) : List Nat → Option Nat → Option Nat
  | [], w => w
  | p :: r, w => match sOf X p x with
    | none => sAm X x r w
    | some d => if X 6 d &&& 4 = 0 then (if X 6 d &&& 1 = 0 then some d else sAm X x r (match w with
        | none => some d
        | some e => some e)) else sAm X x r w
/-- the definition that a name comes to -/
def sFi (X : xX) (ord : List Nat) (m : Nat) (x : Int32) : Option Nat := match sOf X m x with
  | none => sAm X x ord none
  | some d => if X 6 d &&& 6 = 0 then sAm X x ord none else some d
def oI (o : Option Nat) : Int32 := match o with
  | none => -1
  | some d => nI d
def oM (o : Option Nat) : Int32 := match o with
  | none => 20
  | some d => nI (d / 20)
def sAdd (l : List Nat) (m : Nat) : List Nat := if m ∈ l then l else l ++ [m]
def sAdds (X : xX) (m : Nat) : Nat → Nat → List Nat → List Nat
  | 0, _, l => l
  | t + 1, k, l => sAdds X m t (k + 1) (sAdd l (gD X m k))
def sBfs (X : xX) : Nat → Nat → List Nat → List Nat
  | 0, _, l => l
  | t + 1, p, l => match l[p]? with
    | none => l
    | some m => sBfs X t (p + 1) (sAdds X m (gN X m) 0 l)
/-- the order of loading -/
def sOrd (X : xX) (root : Nat) : List Nat := sBfs X 12 0 [root]
def sLp (g : Nat → List Nat × List Nat → List Nat × List Nat) (X : xX) (m : Nat) : Nat → Nat → List Nat × List Nat → List Nat × List Nat
  | 0, _, z => z
  | t + 1, k, z => sLp g X m t (k + 1) (g (gD X m k) z)
def sDfs (X : xX) : Nat → Nat → List Nat × List Nat → List Nat × List Nat
  | 0 => fun _ z => z
  | f + 1 => fun m z => if m ∈ z.1 then z else ((sLp (sDfs X f) X m (gN X m) 0 (z.1 ++ [m], z.2)).1, (sLp (sDfs X f) X m (gN X m) 0 (z.1 ++ [m], z.2)).2 ++ [m])
/-- the order of beginning -/
def sBeg (X : xX) (root : Nat) : List Nat := (sDfs X 12 root ([], [])).2
/-- a use of a name: 0 as it should be, 1 missing, 2 of the wrong kind -/
def sUse (X : xX) (ord : List Nat) (m : Nat) (x : Int32) (fn : Bool) : Int32 := match sFi X ord m x with
  | none => if X 10 (64 * m + x.toNatClampNeg) = 0 then 1 else 0
  | some d => if decide (X 4 d = 0) = fn then 0 else 2
def sOp (X : xX) (m k : Nat) : Int32 := X 8 (4 * (100 * m + k))
def sAr (X : xX) (m k i : Nat) : Int32 := X 8 (4 * (100 * m + k) + i)
/-- a step's use: its name, and whether a function is wanted -/
def sNm (X : xX) (m k : Nat) : Int32 := if sOp X m k = 7 ∨ sOp X m k = 9 then sAr X m k 1 else sAr X m k 2
def sLkS (X : xX) (ord : List Nat) (m : Nat) : Nat → Nat → Int32 × Int32 × Int32
  | 0, _ => (0, -1, -1)
  | t + 1, k => if 6 < (sOp X m k).toInt ∧ (sOp X m k).toInt < 11 then
      (if sUse X ord m (sNm X m k) (decide (sOp X m k = 7 ∨ sOp X m k = 10)) = 0 then sLkS X ord m t (k + 1) else (sUse X ord m (sNm X m k) (decide (sOp X m k = 7 ∨ sOp X m k = 10)), nI k, sNm X m k))
    else sLkS X ord m t (k + 1)
def sLk (X : xX) (ord : List Nat) (m : Nat) : Int32 × Int32 × Int32 := if X 11 m = -1 then sLkS X ord m (gS X m) 0 else
  if sUse X ord m (X 11 m) true = 0 then sLkS X ord m (gS X m) 0 else (sUse X ord m (X 11 m) true, -1, X 11 m)
def sFt (X : xX) (ord : List Nat) : List Nat → Int32 × Int32 × Int32 × Int32
  | [] => (0, -1, -1, -1)
  | m :: r => if (sLk X ord m).1 = 0 then sFt X ord r else ((sLk X ord m).1, nI m, (sLk X ord m).2.1, (sLk X ord m).2.2)
/-- the reference's memory is as the calls leave it: counts, names, kinds, steps in their ranges -/
def xStep (op a b c : Int32) : Prop :=
  let rg := fun x : Int32 => ∃ k : Nat, k < 8 ∧ x = nI k
  let sp := fun x : Int32 => ∃ k : Nat, k < 100 ∧ x = nI k
  let nm := fun x : Int32 => ∃ k : Nat, k < 64 ∧ x = nI k
  (op = 0 ∧ rg a) ∨ (op = 1 ∧ rg a ∧ rg b) ∨ (op = 2 ∧ rg a ∧ rg b ∧ rg c) ∨ (op = 3 ∧ rg a ∧ rg b ∧ rg c) ∨ (op = 4 ∧ rg a ∧ rg b ∧ rg c) ∨ (op = 5 ∧ rg a ∧ rg b ∧ sp c) ∨ (op = 6 ∧ sp a) ∨ (op = 7 ∧ nm a) ∨ (op = 8 ∧ rg a ∧ nm b) ∨ (op = 9 ∧ nm a ∧ rg b) ∨ (op = 10 ∧ rg a ∧ nm b) ∨ (op = 11 ∧ rg a) ∨ op = 12 ∨ (op = 13 ∧ rg a) ∨ op = 14
def wfM (X : xX) (m : Nat) : Prop :=
  (X 2 m = nI (gN X m) ∧ gN X m ≤ 6) ∧ (∀ k, k < gN X m → X 1 (6 * m + k) = nI (gD X m k) ∧ gD X m k < gC X) ∧ (X 7 m = nI (gF X m) ∧ gF X m ≤ 20) ∧
  (∀ k, k < gF X m → (∃ v : Nat, v < 64 ∧ X 3 (20 * m + k) = nI v) ∧ (X 4 (20 * m + k) = 0 ∨ X 4 (20 * m + k) = 1) ∧ (X 4 (20 * m + k) = 0 → ∃ v : Nat, v < 100 ∧ X 5 (20 * m + k) = nI v)) ∧
  (∀ j k, j < gF X m → k < gF X m → X 3 (20 * m + j) = X 3 (20 * m + k) → j = k) ∧
  (X 9 m = nI (gS X m) ∧ gS X m ≤ 100) ∧ (∀ k, k < gS X m → xStep (sOp X m k) (sAr X m k 1) (sAr X m k 2) (sAr X m k 3)) ∧ (X 11 m = -1 ∨ ∃ v : Nat, v < 64 ∧ X 11 m = nI v) ∧ (∀ j, j < 64 → X 10 (64 * m + j) = 0 ∨ X 10 (64 * m + j) = 1)
def wfX (X : xX) : Prop := (X 0 0 = nI (gC X) ∧ gC X ≤ 12) ∧ ∀ m, m < 12 → wfM X m
theorem sOfF_some {X : xX} {m : Nat} {x : Int32} : ∀ {t k d : Nat}, sOfF X m x t k = some d → ∃ j, k ≤ j ∧ j < k + t ∧ d = 20 * m + j ∧ X 3 d = x
  | 0, k, d, h => by cases h
  | t + 1, k, d, h => by
    unfold sOfF at h
    by_cases e : X 3 (20 * m + k) = x
    · rw [if_pos e] at h
      cases h
      exact ⟨k, Nat.le_refl _, by omega, rfl, e⟩
    · rw [if_neg e] at h
      obtain ⟨j, h1, h2, h3, h4⟩ := sOfF_some h
      exact ⟨j, by omega, by omega, h3, h4⟩
theorem sOfF_none {X : xX} {m : Nat} {x : Int32} : ∀ {t k : Nat}, sOfF X m x t k = none → ∀ j, k ≤ j → j < k + t → X 3 (20 * m + j) ≠ x
  | 0, k, h => fun j h1 h2 => by omega
  | t + 1, k, h => fun j h1 h2 e => by
    unfold sOfF at h
    by_cases e2 : X 3 (20 * m + k) = x
    · rw [if_pos e2] at h; cases h
    · rw [if_neg e2] at h
      by_cases hj : j = k
      · subst hj; exact e2 e
      · exact sOfF_none h j (by omega) (by omega) e
theorem sOf_some {X : xX} {m d : Nat} {x : Int32} (h : sOf X m x = some d) : ∃ j, j < gF X m ∧ d = 20 * m + j ∧ X 3 d = x := by
  obtain ⟨j, h1, h2, h3, h4⟩ := sOfF_some h
  exact ⟨j, by omega, h3, h4⟩
theorem sOf_none {X : xX} {m : Nat} {x : Int32} (h : sOf X m x = none) : ∀ j, j < gF X m → X 3 (20 * m + j) ≠ x := fun j hj => sOfF_none h j (Nat.zero_le _) (by omega)
theorem sOf_lt {X : xX} {m d : Nat} {x : Int32} (hf : gF X m ≤ 20) (hm : m < 12) (h : sOf X m x = some d) : d < 240 ∧ d / 20 = m := by
  obtain ⟨j, h1, h2, -⟩ := sOf_some h
  omega
end
section
/-! the reference: names, orders, uses -/
/-- the program in the reference's memory is X's -/
def xPg (I : Nat → Nat → Int32) (R : Nat) (X : xX) : Prop := ∀ i, 1 ≤ i → i ≤ 11 → I (R + i) = X i
/-- an array holds a list of modules -/
def xHl (I : Nat → Nat → Int32) (a : Nat) (ord : List Nat) : Prop := ∀ p m, ord[p]? = some m → I a p = nI m
def bI (b : Bool) : Int32 := if b then 1 else 0
def sPlc (x : Int32) : List Nat → Nat → Option Nat
  | [], _ => none
  | q :: r, p => if nI q = x then some p else sPlc x r (p + 1)
def sUC (X : xX) (m : Nat) (x : Int32) : Nat → Nat → Bool
  | 0, _ => false
  | t + 1, k => (decide (sOp X m k = 7) && decide (sAr X m k 1 = x)) || sUC X m x t (k + 1)
theorem drop_get {l : List Nat} {p q : Nat} {r : List Nat} (h : l.drop p = q :: r) : p < l.length ∧ l[p]? = some q ∧ l.drop (p + 1) = r := by
  have h1 : p < l.length := by
    rcases Nat.lt_or_ge p l.length with z | z
    · exact z
    · rw [List.drop_eq_nil_of_le z] at h; cases h
  rw [List.drop_eq_getElem_cons h1] at h
  cases h
  exact ⟨h1, List.getElem?_eq_getElem h1, rfl⟩
theorem drop_nil {l : List Nat} {p : Nat} (h : l.drop p = []) : l.length ≤ p := List.drop_eq_nil_iff.mp h
theorem kofName_loop {d R : Nat} {X : xX} {Q : Option Value → xH → Prop} {K : Nat → Nat × Nat} {I : Nat → Nat → Int32} {P : Nat → Nat → Option Nat} {n s : Nat} (hR : xAt K P R 5) (hA : xPg I R X) {m : Nat} {x : Int32} (hm : m < 12) (hw : wfM X m) : ∀ (t k : Nat), k + t = gF X m → (sOfF X m x t k = none → ∀ y, xB d 5 cX5_ofName (some .int) false Q 40 [some (.ref R), some (.int (nI m)), some (.int x), some (.int y)] [] (K, I, P, n, s)) → (∀ e y, sOfF X m x t k = some e → xB d 5 cX5_ofName (some .int) false Q 33 [some (.ref R), some (.int (nI m)), some (.int x), some (.int y)] [.int (nI e)] (K, I, P, n, s)) → xB d 5 cX5_ofName (some .int) false Q 2 [some (.ref R), some (.int (nI m)), some (.int x), some (.int (nI k))] [] (K, I, P, n, s) := by
  obtain ⟨-, -, ⟨w1, w2⟩, -⟩ := hw
  intro t
  induction t with
  | zero =>
    intro k hk h1 h2
    refine y_iload_n dX5_ofName_2 rfl ?_
    refine y_aload_n dX5_ofName_3 rfl ?_
    refine y_getr 5 7 dX5_ofName_4 rfl rfl hR.1 (r5_7 hR) ?_
    refine y_iload_n dX5_ofName_7 rfl ?_
    refine y_ialdN (m) dX5_ofName_8 (k5_7 hR) rfl (by omega) (by omega) ((congrFun (hA 7 (by decide) (by decide)) m).trans w1) ?_
    refine y_icmpN_ge 40 (k) ((gF X m)) dX5_ofName_9 (by decide) rfl rfl (by omega) (by omega) (fun _ => ?_) (fun c9 => absurd c9 (by omega))
    exact h1 rfl _
  | succ t ih =>
    intro k hk h1 h2
    refine y_iload_n dX5_ofName_2 rfl ?_
    refine y_aload_n dX5_ofName_3 rfl ?_
    refine y_getr 5 7 dX5_ofName_4 rfl rfl hR.1 (r5_7 hR) ?_
    refine y_iload_n dX5_ofName_7 rfl ?_
    refine y_ialdN (m) dX5_ofName_8 (k5_7 hR) rfl (by omega) (by omega) ((congrFun (hA 7 (by decide) (by decide)) m).trans w1) ?_
    refine y_icmpN_ge 40 (k) ((gF X m)) dX5_ofName_9 (by decide) rfl rfl (by omega) (by omega) (fun c9 => absurd c9 (by omega)) (fun _ => ?_)
    refine y_aload_n dX5_ofName_12 rfl ?_
    refine y_getr 5 3 dX5_ofName_13 rfl rfl hR.1 (r5_3 hR) ?_
    refine y_bipush (v := 20) dX5_ofName_16 (by decide) ?_
    refine y_iload_n dX5_ofName_18 rfl ?_
    refine y_imulv (nI (20 * m)) dX5_ofName_19 (pk_mul (20) (m)) ?_
    refine y_iload_n dX5_ofName_20 rfl ?_
    refine y_iaddv (nI (((20 * m)) + k)) dX5_ofName_21 (nI_add ((20 * m)) (k)) ?_
    refine y_ialdN ((((20 * m)) + k)) dX5_ofName_22 (k5_3 hR) rfl (by omega) (by omega) (congrFun (hA 3 (by decide) (by decide)) ((((20 * m)) + k))) ?_
    refine y_iload_n dX5_ofName_23 rfl ?_
    refine y_icmp_ne 34 dX5_ofName_24 (by decide) (fun c24 => ?_) (fun c24 => ?_)
    · unfold sOfF at h1 h2
      rw [if_neg c24] at h1 h2
      refine y_iinc dX5_ofName_34 rfl (fun x1 e_x1 => ?_)
      obtain rfl : x1 = nI (k + 1) := by rw [e_x1]; exact nI_1 (k)
      refine y_goto 2 dX5_ofName_37 (by decide) ?_
      exact ih (k + 1) (by omega) h1 h2
    · unfold sOfF at h1 h2
      rw [if_pos c24] at h1 h2
      refine y_bipush (v := 20) dX5_ofName_27 (by decide) ?_
      refine y_iload_n dX5_ofName_29 rfl ?_
      refine y_imulv (nI (20 * m)) dX5_ofName_30 (pk_mul (20) (m)) ?_
      refine y_iload_n dX5_ofName_31 rfl ?_
      refine y_iaddv (nI (((20 * m)) + k)) dX5_ofName_32 (nI_add ((20 * m)) (k)) ?_
      exact h2 _ _ rfl
theorem kofName {d : Nat} {Pp : Option Value → xH → Prop} {K : Nat → Nat × Nat} {I : Nat → Nat → Int32} {P : Nat → Nat → Option Nat} {n s : Nat} {R m : Nat} {X : xX} {x : Int32} (hR : xAt K P R 5) (hA : xPg I R X) (hm : m < 12) (hw : wfM X m) (hn : sOf X m x = none → Pp (some (.int (-1))) (K, I, P, n, s)) (hs : ∀ e, sOf X m x = some e → Pp (some (.int (nI e))) (K, I, P, n, s)) : xC d mX5_ofName [(.ref R), (.int (nI m)), (.int x)] (K, I, P, n, s) Pp := by
  refine y_met 0 0 ?_
  show xB d 5 cX5_ofName (some .int) false (xE n s 0 0 Pp) 0 [some (.ref R), some (.int (nI m)), some (.int x), none] [] (K, I, P, n, s)
  refine y_iconst (v := nI 0) dX5_ofName_0 (by decide) ?_
  refine y_istore_n dX5_ofName_1 (by simp) (fun x1 e_x1 => ?_)
  subst e_x1
  refine kofName_loop hR hA hm hw _ 0 (Nat.zero_add _) (fun q y => ?_) (fun e y q => ?_)
  · refine y_iconst (v := (-1)) dX5_ofName_40 (by decide) ?_
    exact y_ret dX5_ofName_41 rfl rfl (hn q)
  · exact y_ret dX5_ofName_33 rfl rfl (hs e q)
theorem kmoduleOf {d : Nat} {Pp : Option Value → xH → Prop} {K : Nat → Nat × Nat} {I : Nat → Nat → Int32} {P : Nat → Nat → Option Nat} {n s : Nat} {R : Nat} {o : Option Nat} (ho : ∀ e, o = some e → e < 240) (hp : Pp (some (.int (oM o))) (K, I, P, n, s)) : xC d mX5_moduleOf [(.ref R), (.int (oI o))] (K, I, P, n, s) Pp := by
  refine y_met 0 0 ?_
  show xB d 5 cX5_moduleOf (some .int) false (xE n s 0 0 Pp) 0 [some (.ref R), some (.int (oI o))] [] (K, I, P, n, s)
  cases o with
  | none =>
    show xB d 5 cX5_moduleOf (some .int) false (xE n s 0 0 Pp) 0 [some (.ref R), some (.int (-1))] [] (K, I, P, n, s)
    refine y_iload_n dX5_moduleOf_0 rfl ?_
    refine y_iconst (v := (-1)) dX5_moduleOf_1 (by decide) ?_
    refine y_icmp_ne 10 dX5_moduleOf_2 (by decide) (fun q => absurd q (by decide)) (fun _ => ?_)
    refine y_bipush (v := 20) dX5_moduleOf_5 (by decide) ?_
    refine y_goto 14 dX5_moduleOf_7 (by decide) ?_
    exact y_ret dX5_moduleOf_14 rfl rfl hp
  | some e =>
    have he := ho e rfl
    show xB d 5 cX5_moduleOf (some .int) false (xE n s 0 0 Pp) 0 [some (.ref R), some (.int (nI e))] [] (K, I, P, n, s)
    refine y_iload_n dX5_moduleOf_0 rfl ?_
    refine y_iconst (v := (-1)) dX5_moduleOf_1 (by decide) ?_
    refine y_icmp_ne 10 dX5_moduleOf_2 (by decide) (fun _ => ?_) (fun c2 => absurd c2 (nI_m1 (by omega)))
    refine y_iload_n dX5_moduleOf_10 rfl ?_
    refine y_bipush (v := 20) dX5_moduleOf_11 (by decide) ?_
    refine y_idivv (nI (e / 20)) dX5_moduleOf_13 (by decide) (pk_div (by omega) (by decide) (by decide)) ?_
    exact y_ret dX5_moduleOf_14 rfl rfl hp
theorem sAm_lt {X : xX} {x : Int32} (hw : ∀ m, m < 12 → wfM X m) : ∀ {ord : List Nat} {w : Option Nat}, (∀ m ∈ ord, m < 12) → (∀ e, w = some e → e < 240) → ∀ e, sAm X x ord w = some e → e < 240
  | [], w, _, hw2, e, h => hw2 e h
  | p :: r, w, ho, hw2, e, h => by
    unfold sAm at h
    have hp := ho p List.mem_cons_self
    have hr := fun m hm => ho m (List.mem_cons_of_mem _ hm)
    cases hq : sOf X p x with
    | none => rw [hq] at h; exact sAm_lt hw hr hw2 e h
    | some z =>
      have hz := (sOf_lt (hw p hp).2.2.1.2 hp hq).1
      rw [hq] at h
      simp only at h
      split at h
      · split at h
        · cases h; exact hz
        · refine sAm_lt hw hr (fun e2 h2 => ?_) e h
          cases w with
          | none => cases h2; exact hz
          | some z2 => cases h2; exact hw2 _ rfl
      · exact sAm_lt hw hr hw2 e h
theorem sFi_lt {X : xX} {x : Int32} {ord : List Nat} {m : Nat} (hw : ∀ m, m < 12 → wfM X m) (hm : m < 12) (ho : ∀ m ∈ ord, m < 12) : ∀ e, sFi X ord m x = some e → e < 240 := by
  intro e h
  unfold sFi at h
  cases hq : sOf X m x with
  | none => rw [hq] at h; exact sAm_lt hw ho (fun e h => by cases h) e h
  | some z =>
    rw [hq] at h
    simp only at h
    split at h
    · exact sAm_lt hw ho (fun e h => by cases h) e h
    · cases h; exact (sOf_lt (hw m hm).2.2.1.2 hm hq).1
set_option maxHeartbeats 1000000 in
theorem kfind_loop {d R : Nat} {X : xX} {Q : Option Value → xH → Prop} {K : Nat → Nat × Nat} {I : Nat → Nat → Int32} {P : Nat → Nat → Option Nat} {n s : Nat} (hR : xAt K P R 5) (hA : xPg I R X) {a m : Nat} {x : Int32} {ord : List Nat} (ha : K a = (100, 12)) (ho : xHl I a ord) (ho2 : ∀ q ∈ ord, q < 12) (ho3 : ord.length ≤ 12) (hm : m < 12) (hw : ∀ m, m < 12 → wfM X m) {v5 : Option Value} : ∀ (l : List Nat) (p : Nat) (w : Option Nat) (v8 : Option Value), p ≤ ord.length → ord.drop p = l → (∀ e, w = some e → e < 240) → (∀ ls r, oI (sAm X x l w) = r → xB (d + 1) 5 cX5_find (some .int) false Q 111 ls [.int r] (K, I, P, n, s) ∧ xB (d + 1) 5 cX5_find (some .int) false Q 87 ls [.int r] (K, I, P, n, s)) → xB (d + 1) 5 cX5_find (some .int) false Q 37 [some (.ref R), some (.ref a), some (.int (nI ord.length)), some (.int (nI m)), some (.int x), v5, some (.int (oI w)), some (.int (nI p)), v8] [] (K, I, P, n, s) := by
  intro l
  induction l with
  | nil =>
    intro p w v8 hp hl hw2 k
    have h1 := drop_nil hl
    refine y_iload dX5_find_37 rfl ?_
    refine y_iload_n dX5_find_39 rfl ?_
    refine y_icmpN_ge 109 (p) (ord.length) dX5_find_40 (by decide) rfl rfl (by omega) (by omega) (fun _ => ?_) (fun c40 => absurd c40 (by omega))
    refine y_iload dX5_find_109 rfl ?_
    exact (k _ _ rfl).1
  | cons q r ih =>
    intro p w v8 hp hl hw2 k
    obtain ⟨h1, h2, h3⟩ := drop_get hl
    have hq : q < 12 := ho2 q (List.mem_of_getElem? h2)
    unfold sAm at k
    refine y_iload dX5_find_37 rfl ?_
    refine y_iload_n dX5_find_39 rfl ?_
    refine y_icmpN_ge 109 (p) (ord.length) dX5_find_40 (by decide) rfl rfl (by omega) (by omega) (fun c40 => absurd c40 (by omega)) (fun _ => ?_)
    refine y_aload_n dX5_find_43 rfl ?_
    refine y_aload_n dX5_find_44 rfl ?_
    refine y_iload dX5_find_45 rfl ?_
    refine y_ialdN (p) dX5_find_47 ha rfl (by omega) (by omega) (ho p q h2) ?_
    refine y_iload dX5_find_48 rfl ?_
    refine y_callV2 mX5_ofName dX5_find_50 rfl rfl hR.1 (Nat.le_of_ble_eq_true rfl) (kofName hR hA hq (hw q hq) (fun eq => ?_) (fun e eq => ?_))
    · rw [eq] at k
      refine y_istore dX5_find_53 (by simp) (fun x1 e_x1 => ?_)
      subst e_x1
      refine y_iload dX5_find_55 rfl ?_
      refine y_iconst (v := (-1)) dX5_find_57 (by decide) ?_
      refine y_icmp_eq 103 dX5_find_58 (by decide) (fun _ => ?_) (fun q => absurd q (by decide))
      refine y_iinc dX5_find_103 rfl (fun x2 e_x2 => ?_)
      obtain rfl : x2 = nI (p + 1) := by rw [e_x2]; exact nI_1 (p)
      refine y_goto 37 dX5_find_106 (by decide) ?_
      exact ih (p + 1) w _ h1 h3 hw2 k
    · rw [eq] at k
      simp only at k
      have he := (sOf_lt (hw q hq).2.2.1.2 hq eq).1
      refine y_istore dX5_find_53 (by simp) (fun x3 e_x3 => ?_)
      subst e_x3
      refine y_iload dX5_find_55 rfl ?_
      refine y_iconst (v := (-1)) dX5_find_57 (by decide) ?_
      refine y_icmp_eq 103 dX5_find_58 (by decide) (fun c58 => absurd c58 (nI_m1 (by omega))) (fun _ => ?_)
      refine y_aload_n dX5_find_61 rfl ?_
      refine y_getr 5 6 dX5_find_62 rfl rfl hR.1 (r5_6 hR) ?_
      refine y_iload dX5_find_65 rfl ?_
      refine y_ialdN (e) dX5_find_67 (k5_6 hR) rfl (by omega) (by omega) (congrFun (hA 6 (by decide) (by decide)) (e)) ?_
      refine y_iconst (v := 4) dX5_find_68 (by decide) ?_
      refine y_iand dX5_find_69 ?_
      refine y_if_ne 103 dX5_find_70 (by decide) (fun c70 => ?_) (fun c70 => ?_)
      · rw [if_neg c70] at k
        refine y_iinc dX5_find_103 rfl (fun x4 e_x4 => ?_)
        obtain rfl : x4 = nI (p + 1) := by rw [e_x4]; exact nI_1 (p)
        refine y_goto 37 dX5_find_106 (by decide) ?_
        exact ih (p + 1) w _ h1 h3 hw2 k
      · rw [if_pos c70] at k
        refine y_aload_n dX5_find_73 rfl ?_
        refine y_getr 5 6 dX5_find_74 rfl rfl hR.1 (r5_6 hR) ?_
        refine y_iload dX5_find_77 rfl ?_
        refine y_ialdN (e) dX5_find_79 (k5_6 hR) rfl (by omega) (by omega) (congrFun (hA 6 (by decide) (by decide)) (e)) ?_
        refine y_iconst (v := 1) dX5_find_80 (by decide) ?_
        refine y_iand dX5_find_81 ?_
        refine y_if_ne 88 dX5_find_82 (by decide) (fun c82 => ?_) (fun c82 => ?_)
        · rw [if_neg c82] at k
          cases w with
          | none =>
            refine y_iload dX5_find_88 rfl ?_
            refine y_iconst (v := (-1)) dX5_find_90 (by decide) ?_
            refine y_icmp_ne 99 dX5_find_91 (by decide) (fun q => absurd q (by decide)) (fun _ => ?_)
            refine y_iload dX5_find_94 rfl ?_
            refine y_goto 101 dX5_find_96 (by decide) ?_
            refine y_istore dX5_find_101 (by simp) (fun x5 e_x5 => ?_)
            subst e_x5
            refine y_iinc dX5_find_103 rfl (fun x6 e_x6 => ?_)
            obtain rfl : x6 = nI (p + 1) := by rw [e_x6]; exact nI_1 (p)
            refine y_goto 37 dX5_find_106 (by decide) ?_
            exact ih (p + 1) (some e) _ h1 h3 (fun _ h => by cases h; exact he) k
          | some z =>
            refine y_iload dX5_find_88 rfl ?_
            refine y_iconst (v := (-1)) dX5_find_90 (by decide) ?_
            refine y_icmp_ne 99 dX5_find_91 (by decide) (fun _ => ?_) (fun c91 => absurd c91 (nI_m1 (by have := hw2 z rfl; omega)))
            refine y_iload dX5_find_99 rfl ?_
            refine y_istore dX5_find_101 (by simp) (fun x7 e_x7 => ?_)
            subst e_x7
            refine y_iinc dX5_find_103 rfl (fun x8 e_x8 => ?_)
            obtain rfl : x8 = nI (p + 1) := by rw [e_x8]; exact nI_1 (p)
            refine y_goto 37 dX5_find_106 (by decide) ?_
            exact ih (p + 1) (some z) _ h1 h3 hw2 k
        · rw [if_pos c82] at k
          refine y_iload dX5_find_85 rfl ?_
          exact (k _ _ rfl).2
theorem kfind {d : Nat} {Pp : Option Value → xH → Prop} {K : Nat → Nat × Nat} {I : Nat → Nat → Int32} {P : Nat → Nat → Option Nat} {n s : Nat} {R : Nat} {X : xX} {a m : Nat} {x : Int32} {ord : List Nat}  (hR : xAt K P R 5) (hA : xPg I R X) (ha : K a = (100, 12)) (ho : xHl I a ord) (ho2 : ∀ q ∈ ord, q < 12) (ho3 : ord.length ≤ 12) (hm : m < 12) (hw : ∀ m, m < 12 → wfM X m) (hn : sFi X ord m x = none → Pp (some (.int (-1))) (K, I, P, n, s)) (hs : ∀ e, sFi X ord m x = some e → e < 240 → Pp (some (.int (nI e))) (K, I, P, n, s)) : xC (d + 1) mX5_find [(.ref R), (.ref a), (.int (nI ord.length)), (.int (nI m)), (.int x)] (K, I, P, n, s) Pp := by
  refine y_met 0 0 ?_
  show xB (d + 1) 5 cX5_find (some .int) false (xE n s 0 0 Pp) 0 [some (.ref R), some (.ref a), some (.int (nI ord.length)), some (.int (nI m)), some (.int x), none, none, none, none] [] (K, I, P, n, s)
  have hlt := sFi_lt (x := x) hw hm ho2
  unfold sFi at hn hs hlt
  refine y_aload_n dX5_find_0 rfl ?_
  refine y_iload_n dX5_find_1 rfl ?_
  refine y_iload dX5_find_2 rfl ?_
  refine y_callV2 mX5_ofName dX5_find_4 rfl rfl hR.1 (Nat.le_of_ble_eq_true rfl) (kofName hR hA hm (hw m hm) (fun eq => ?_) (fun e eq => ?_))
  · rw [eq] at hn hs hlt
    simp only at hn hs hlt
    refine y_istore dX5_find_7 (by simp) (fun x1 e_x1 => ?_)
    subst e_x1
    refine y_iload dX5_find_9 rfl ?_
    refine y_iconst (v := (-1)) dX5_find_11 (by decide) ?_
    refine y_icmp_eq 31 dX5_find_12 (by decide) (fun _ => ?_) (fun q => absurd q (by decide))
    refine y_iconst (v := (-1)) dX5_find_31 (by decide) ?_
    refine y_istore dX5_find_32 (by simp) (fun x2 e_x2 => ?_)
    subst e_x2
    refine y_iconst (v := nI 0) dX5_find_34 (by decide) ?_
    refine y_istore dX5_find_35 (by simp) (fun x3 e_x3 => ?_)
    subst e_x3
    refine kfind_loop hR hA ha ho ho2 ho3 hm hw ord 0 none _ (Nat.zero_le _) rfl (fun _ h => by cases h) (fun ls r er => ?_)
    subst er
    cases hz : sAm X x ord none with
    | none => exact ⟨y_ret dX5_find_111 rfl rfl (hn hz), y_ret dX5_find_87 rfl rfl (hn hz)⟩
    | some z => exact ⟨y_ret dX5_find_111 rfl rfl (hs z hz (hlt z hz)), y_ret dX5_find_87 rfl rfl (hs z hz (hlt z hz))⟩
  · rw [eq] at hn hs hlt
    simp only at hn hs hlt
    have he := (sOf_lt (hw m hm).2.2.1.2 hm eq).1
    refine y_istore dX5_find_7 (by simp) (fun x4 e_x4 => ?_)
    subst e_x4
    refine y_iload dX5_find_9 rfl ?_
    refine y_iconst (v := (-1)) dX5_find_11 (by decide) ?_
    refine y_icmp_eq 31 dX5_find_12 (by decide) (fun c12 => absurd c12 (nI_m1 (by omega))) (fun _ => ?_)
    refine y_aload_n dX5_find_15 rfl ?_
    refine y_getr 5 6 dX5_find_16 rfl rfl hR.1 (r5_6 hR) ?_
    refine y_iload dX5_find_19 rfl ?_
    refine y_ialdN (e) dX5_find_21 (k5_6 hR) rfl (by omega) (by omega) (congrFun (hA 6 (by decide) (by decide)) (e)) ?_
    refine y_bipush (v := 6) dX5_find_22 (by decide) ?_
    refine y_iand dX5_find_24 ?_
    refine y_if_eq 31 dX5_find_25 (by decide) (fun c25 => ?_) (fun c25 => ?_)
    · rw [if_pos c25] at hn hs hlt
      refine y_iconst (v := (-1)) dX5_find_31 (by decide) ?_
      refine y_istore dX5_find_32 (by simp) (fun x5 e_x5 => ?_)
      subst e_x5
      refine y_iconst (v := nI 0) dX5_find_34 (by decide) ?_
      refine y_istore dX5_find_35 (by simp) (fun x6 e_x6 => ?_)
      subst e_x6
      refine kfind_loop hR hA ha ho ho2 ho3 hm hw ord 0 none _ (Nat.zero_le _) rfl (fun _ h => by cases h) (fun ls r er => ?_)
      subst er
      cases hz : sAm X x ord none with
      | none => exact ⟨y_ret dX5_find_111 rfl rfl (hn hz), y_ret dX5_find_87 rfl rfl (hn hz)⟩
      | some z => exact ⟨y_ret dX5_find_111 rfl rfl (hs z hz (hlt z hz)), y_ret dX5_find_87 rfl rfl (hs z hz (hlt z hz))⟩
    · rw [if_neg c25] at hs
      refine y_iload dX5_find_28 rfl ?_
      exact y_ret dX5_find_30 rfl rfl (hs e rfl he)
end
section
theorem kplaceOf0 {d : Nat} {Pp : Option Value → xH → Prop} {K : Nat → Nat × Nat} {I : Nat → Nat → Int32} {P : Nat → Nat → Option Nat} {n s : Nat} {R c : Nat} {x : Int32} (hR : xAt K P R 5) (hl : I R 12 = 0) (hc : I R 15 = nI c) (hc2 : c ≤ 12) (hp : Pp (some (.int (-1))) (K, I, P, n, s)) : xC d mX5_placeOf [(.ref R), (.int x)] (K, I, P, n, s) Pp := by
  refine y_met 0 0 ?_
  show xB d 5 cX5_placeOf (some .int) false (xE n s 0 0 Pp) 0 [some (.ref R), some (.int x), none] [] (K, I, P, n, s)
  refine y_iconst (v := nI 0) dX5_placeOf_0 (by decide) ?_
  refine y_istore_n dX5_placeOf_1 (by first | (simp; done) | (simp; decide)) (fun x1 e_x1 => ?_)
  subst e_x1
  refine y_iload_n dX5_placeOf_2 rfl ?_
  refine y_aload_n dX5_placeOf_3 rfl ?_
  refine y_getv 5 15 dX5_placeOf_4 rfl rfl hR.1 hc ?_
  refine y_icmpN_ge 35 (0) (c) dX5_placeOf_7 (by decide) rfl rfl (by omega) (by omega) (fun _ => ?_) (fun _ => ?_)
  · refine y_iconst (v := (-1)) dX5_placeOf_35 (by decide) ?_
    exact y_ret dX5_placeOf_36 rfl rfl hp
  · refine y_aload_n dX5_placeOf_10 rfl ?_
    refine y_getv 5 12 dX5_placeOf_11 rfl rfl hR.1 hl ?_
    refine y_if_eq 35 dX5_placeOf_14 (by decide) (fun _ => ?_) (fun c14 => absurd rfl c14)
    refine y_iconst (v := (-1)) dX5_placeOf_35 (by decide) ?_
    exact y_ret dX5_placeOf_36 rfl rfl hp
theorem kplaceOf_loop {d R : Nat} {Q : Option Value → xH → Prop} {K : Nat → Nat × Nat} {I : Nat → Nat → Int32} {P : Nat → Nat → Option Nat} {n s : Nat} (hR : xAt K P R 5) {x : Int32} {ord : List Nat} (hl : I R 12 = 1) (hc : I R 15 = nI ord.length) (ho : xHl I (R + 12) ord) (ho3 : ord.length ≤ 12) : ∀ (l : List Nat) (p : Nat), p ≤ ord.length → ord.drop p = l → (sPlc x l p = none → ∀ y, xB d 5 cX5_placeOf (some .int) false Q 35 [some (.ref R), some (.int x), some (.int y)] [] (K, I, P, n, s)) → (∀ e y, sPlc x l p = some e → xB d 5 cX5_placeOf (some .int) false Q 28 [some (.ref R), some (.int x), some (.int y)] [.int (nI e)] (K, I, P, n, s)) → xB d 5 cX5_placeOf (some .int) false Q 2 [some (.ref R), some (.int x), some (.int (nI p))] [] (K, I, P, n, s) := by
  intro l
  induction l with
  | nil =>
    intro p hp hd h1 h2
    have h3 := drop_nil hd
    refine y_iload_n dX5_placeOf_2 rfl ?_
    refine y_aload_n dX5_placeOf_3 rfl ?_
    refine y_getv 5 15 dX5_placeOf_4 rfl rfl hR.1 hc ?_
    refine y_icmpN_ge 35 (p) (ord.length) dX5_placeOf_7 (by decide) rfl rfl (by omega) (by omega) (fun _ => ?_) (fun c7 => absurd c7 (by omega))
    exact h1 rfl _
  | cons q r ih =>
    intro p hp hd h1 h2
    obtain ⟨g1, g2, g3⟩ := drop_get hd
    unfold sPlc at h1 h2
    refine y_iload_n dX5_placeOf_2 rfl ?_
    refine y_aload_n dX5_placeOf_3 rfl ?_
    refine y_getv 5 15 dX5_placeOf_4 rfl rfl hR.1 hc ?_
    refine y_icmpN_ge 35 (p) (ord.length) dX5_placeOf_7 (by decide) rfl rfl (by omega) (by omega) (fun c7 => absurd c7 (by omega)) (fun _ => ?_)
    refine y_aload_n dX5_placeOf_10 rfl ?_
    refine y_getv 5 12 dX5_placeOf_11 rfl rfl hR.1 hl ?_
    refine y_if_eq 35 dX5_placeOf_14 (by decide) (fun c14 => absurd c14 (by decide)) (fun _ => ?_)
    refine y_aload_n dX5_placeOf_17 rfl ?_
    refine y_getr 5 16 dX5_placeOf_18 rfl rfl hR.1 (r5_16 hR) ?_
    refine y_iload_n dX5_placeOf_21 rfl ?_
    refine y_ialdN (p) dX5_placeOf_22 (k5_16 hR) rfl (by omega) (by omega) (ho p q g2) ?_
    refine y_iload_n dX5_placeOf_23 rfl ?_
    refine y_icmp_ne 29 dX5_placeOf_24 (by decide) (fun c24 => ?_) (fun c24 => ?_)
    · rw [if_neg c24] at h1 h2
      refine y_iinc dX5_placeOf_29 rfl (fun x1 e_x1 => ?_)
      obtain rfl : x1 = nI (p + 1) := by rw [e_x1]; exact nI_1 (p)
      refine y_goto 2 dX5_placeOf_32 (by decide) ?_
      exact ih (p + 1) g1 g3 h1 h2
    · rw [if_pos c24] at h1 h2
      refine y_iload_n dX5_placeOf_27 rfl ?_
      exact h2 _ _ rfl
theorem kplaceOf1 {d : Nat} {Pp : Option Value → xH → Prop} {K : Nat → Nat × Nat} {I : Nat → Nat → Int32} {P : Nat → Nat → Option Nat} {n s : Nat} {R : Nat} {x : Int32} {ord : List Nat} (hR : xAt K P R 5) (hl : I R 12 = 1) (hc : I R 15 = nI ord.length) (ho : xHl I (R + 12) ord) (ho3 : ord.length ≤ 12) (hn : sPlc x ord 0 = none → Pp (some (.int (-1))) (K, I, P, n, s)) (hs : ∀ e, sPlc x ord 0 = some e → Pp (some (.int (nI e))) (K, I, P, n, s)) : xC d mX5_placeOf [(.ref R), (.int x)] (K, I, P, n, s) Pp := by
  refine y_met 0 0 ?_
  show xB d 5 cX5_placeOf (some .int) false (xE n s 0 0 Pp) 0 [some (.ref R), some (.int x), none] [] (K, I, P, n, s)
  refine y_iconst (v := nI 0) dX5_placeOf_0 (by decide) ?_
  refine y_istore_n dX5_placeOf_1 (by first | (simp; done) | (simp; decide)) (fun x1 e_x1 => ?_)
  subst e_x1
  refine kplaceOf_loop hR hl hc ho ho3 ord 0 (Nat.zero_le _) rfl (fun q y => ?_) (fun e y q => ?_)
  · refine y_iconst (v := (-1)) dX5_placeOf_35 (by decide) ?_
    exact y_ret dX5_placeOf_36 rfl rfl (hn q)
  · exact y_ret dX5_placeOf_28 rfl rfl (hs e q)
theorem kusesCall_loop {d R : Nat} {X : xX} {Q : Option Value → xH → Prop} {K : Nat → Nat × Nat} {I : Nat → Nat → Int32} {P : Nat → Nat → Option Nat} {n s : Nat} (hR : xAt K P R 5) (hA : xPg I R X) {m : Nat} {x : Int32} (hm : m < 12) (hw : wfM X m) : ∀ (t k : Nat) (u : Bool) (v5 : Option Value), k + t = gS X m → (∀ ls, xB d 5 cX5_usesCall (some .boolean) false Q 69 ls [.int (bI (u || sUC X m x t k))] (K, I, P, n, s)) → xB d 5 cX5_usesCall (some .boolean) false Q 5 [some (.ref R), some (.int (nI m)), some (.int x), some (.int (bI u)), some (.int (nI k)), v5] [] (K, I, P, n, s) := by
  obtain ⟨-, -, -, -, -, ⟨w1, w2⟩, -⟩ := hw
  intro t
  induction t with
  | zero =>
    intro k u v5 hk k1
    rw [show sUC X m x 0 k = false from rfl, Bool.or_false] at k1
    refine y_iload dX5_usesCall_5 rfl ?_
    refine y_aload_n dX5_usesCall_7 rfl ?_
    refine y_getr 5 9 dX5_usesCall_8 rfl rfl hR.1 (r5_9 hR) ?_
    refine y_iload_n dX5_usesCall_11 rfl ?_
    refine y_ialdN (m) dX5_usesCall_12 (k5_9 hR) rfl (by omega) (by omega) ((congrFun (hA 9 (by decide) (by decide)) m).trans w1) ?_
    refine y_icmpN_ge 68 (k) ((gS X m)) dX5_usesCall_13 (by decide) rfl rfl (by omega) (by omega) (fun _ => ?_) (fun c13 => absurd c13 (by omega))
    refine y_iload_n dX5_usesCall_68 rfl ?_
    exact k1 _
  | succ t ih =>
    intro k u v5 hk k1
    unfold sUC at k1
    refine y_iload dX5_usesCall_5 rfl ?_
    refine y_aload_n dX5_usesCall_7 rfl ?_
    refine y_getr 5 9 dX5_usesCall_8 rfl rfl hR.1 (r5_9 hR) ?_
    refine y_iload_n dX5_usesCall_11 rfl ?_
    refine y_ialdN (m) dX5_usesCall_12 (k5_9 hR) rfl (by omega) (by omega) ((congrFun (hA 9 (by decide) (by decide)) m).trans w1) ?_
    refine y_icmpN_ge 68 (k) ((gS X m)) dX5_usesCall_13 (by decide) rfl rfl (by omega) (by omega) (fun c13 => absurd c13 (by omega)) (fun _ => ?_)
    refine y_iconst (v := 4) dX5_usesCall_16 (by decide) ?_
    refine y_bipush (v := 100) dX5_usesCall_17 (by decide) ?_
    refine y_iload_n dX5_usesCall_19 rfl ?_
    refine y_imulv (nI (100 * m)) dX5_usesCall_20 (pk_mul (100) (m)) ?_
    refine y_iload dX5_usesCall_21 rfl ?_
    refine y_iaddv (nI (((100 * m)) + k)) dX5_usesCall_23 (nI_add ((100 * m)) (k)) ?_
    refine y_imulv (nI (4 * ((((100 * m)) + k)))) dX5_usesCall_24 (pk_mul (4) ((((100 * m)) + k))) ?_
    refine y_istore dX5_usesCall_25 (by first | (simp; done) | (simp; decide)) (fun x1 e_x1 => ?_)
    subst e_x1
    cases u with
    | true =>
      refine y_iload_n dX5_usesCall_27 rfl ?_
      refine y_if_ne 56 dX5_usesCall_28 (by decide) (fun _ => ?_) (fun q => absurd q (by decide))
      refine y_iconst (v := 1) dX5_usesCall_56 (by decide) ?_
      refine y_goto 61 dX5_usesCall_57 (by decide) ?_
      refine y_istore_n dX5_usesCall_61 (by first | (simp; done) | (simp; decide)) (fun x2 e_x2 => ?_)
      subst e_x2
      refine y_iinc dX5_usesCall_62 rfl (fun x3 e_x3 => ?_)
      obtain rfl : x3 = nI (k + 1) := by rw [e_x3]; exact nI_1 (k)
      refine y_goto 5 dX5_usesCall_65 (by decide) ?_
      rw [Bool.true_or] at k1
      exact ih (k + 1) true _ (by omega) (fun ls => by rw [Bool.true_or]; exact k1 ls)
    | false =>
      refine y_iload_n dX5_usesCall_27 rfl ?_
      refine y_if_ne 56 dX5_usesCall_28 (by decide) (fun q => absurd q (by decide)) (fun _ => ?_)
      refine y_aload_n dX5_usesCall_31 rfl ?_
      refine y_getr 5 8 dX5_usesCall_32 rfl rfl hR.1 (r5_8 hR) ?_
      refine y_iload dX5_usesCall_35 rfl ?_
      refine y_ialdN ((4 * ((((100 * m)) + k)))) dX5_usesCall_37 (k5_8 hR) rfl (by omega) (by omega) (congrFun (hA 8 (by decide) (by decide)) ((4 * ((((100 * m)) + k))))) ?_
      refine y_bipush (v := 7) dX5_usesCall_38 (by decide) ?_
      refine y_icmp_ne 60 dX5_usesCall_40 (by decide) (fun c40 => ?_) (fun c40 => ?_)
      · refine y_iconst (v := 0) dX5_usesCall_60 (by decide) ?_
        refine y_istore_n dX5_usesCall_61 (by first | (simp; done) | (simp; decide)) (fun x4 e_x4 => ?_)
        subst e_x4
        refine y_iinc dX5_usesCall_62 rfl (fun x5 e_x5 => ?_)
        obtain rfl : x5 = nI (k + 1) := by rw [e_x5]; exact nI_1 (k)
        refine y_goto 5 dX5_usesCall_65 (by decide) ?_
        rw [Bool.false_or, show decide (sOp X m k = 7) = false from decide_eq_false c40, Bool.false_and, Bool.false_or] at k1
        exact ih (k + 1) false _ (by omega) (fun ls => by rw [Bool.false_or]; exact k1 ls)
      · refine y_aload_n dX5_usesCall_43 rfl ?_
        refine y_getr 5 8 dX5_usesCall_44 rfl rfl hR.1 (r5_8 hR) ?_
        refine y_iload dX5_usesCall_47 rfl ?_
        refine y_iconst (v := 1) dX5_usesCall_49 (by decide) ?_
        refine y_iaddv (nI (((4 * ((((100 * m)) + k)))) + 1)) dX5_usesCall_50 (nI_add ((4 * ((((100 * m)) + k)))) (1)) ?_
        refine y_ialdN ((((4 * ((((100 * m)) + k)))) + 1)) dX5_usesCall_51 (k5_8 hR) rfl (by omega) (by omega) (congrFun (hA 8 (by decide) (by decide)) ((((4 * ((((100 * m)) + k)))) + 1))) ?_
        refine y_iload_n dX5_usesCall_52 rfl ?_
        refine y_icmp_ne 60 dX5_usesCall_53 (by decide) (fun c53 => ?_) (fun c53 => ?_)
        · refine y_iconst (v := 0) dX5_usesCall_60 (by decide) ?_
          refine y_istore_n dX5_usesCall_61 (by first | (simp; done) | (simp; decide)) (fun x6 e_x6 => ?_)
          subst e_x6
          refine y_iinc dX5_usesCall_62 rfl (fun x7 e_x7 => ?_)
          obtain rfl : x7 = nI (k + 1) := by rw [e_x7]; exact nI_1 (k)
          refine y_goto 5 dX5_usesCall_65 (by decide) ?_
          rw [Bool.false_or, show decide (sAr X m k 1 = x) = false from decide_eq_false c53, Bool.and_false, Bool.false_or] at k1
          exact ih (k + 1) false _ (by omega) (fun ls => by rw [Bool.false_or]; exact k1 ls)
        · refine y_iconst (v := 1) dX5_usesCall_56 (by decide) ?_
          refine y_goto 61 dX5_usesCall_57 (by decide) ?_
          refine y_istore_n dX5_usesCall_61 (by first | (simp; done) | (simp; decide)) (fun x8 e_x8 => ?_)
          subst e_x8
          refine y_iinc dX5_usesCall_62 rfl (fun x9 e_x9 => ?_)
          obtain rfl : x9 = nI (k + 1) := by rw [e_x9]; exact nI_1 (k)
          refine y_goto 5 dX5_usesCall_65 (by decide) ?_
          rw [Bool.false_or, show decide (sOp X m k = 7) = true from decide_eq_true c40, show decide (sAr X m k 1 = x) = true from decide_eq_true c53, Bool.and_self, Bool.true_or] at k1
          exact ih (k + 1) true _ (by omega) (fun ls => by rw [Bool.true_or]; exact k1 ls)
theorem kusesCall {d : Nat} {Pp : Option Value → xH → Prop} {K : Nat → Nat × Nat} {I : Nat → Nat → Int32} {P : Nat → Nat → Option Nat} {n s : Nat} {R m : Nat} {X : xX} {x : Int32} (hR : xAt K P R 5) (hA : xPg I R X) (hm : m < 12) (hw : wfM X m) (h1 : sUC X m x (gS X m) 0 = true → Pp (some (.int 1)) (K, I, P, n, s)) (h0 : sUC X m x (gS X m) 0 = false → Pp (some (.int 0)) (K, I, P, n, s)) : xC d mX5_usesCall [(.ref R), (.int (nI m)), (.int x)] (K, I, P, n, s) Pp := by
  refine y_met 0 0 ?_
  show xB d 5 cX5_usesCall (some .boolean) false (xE n s 0 0 Pp) 0 [some (.ref R), some (.int (nI m)), some (.int x), none, none, none] [] (K, I, P, n, s)
  refine y_iconst (v := 0) dX5_usesCall_0 (by decide) ?_
  refine y_istore_n dX5_usesCall_1 (by first | (simp; done) | (simp; decide)) (fun x1 e_x1 => ?_)
  subst e_x1
  refine y_iconst (v := nI 0) dX5_usesCall_2 (by decide) ?_
  refine y_istore dX5_usesCall_3 (by first | (simp; done) | (simp; decide)) (fun x2 e_x2 => ?_)
  subst e_x2
  refine kusesCall_loop hR hA hm hw _ 0 false _ (Nat.zero_add _) (fun ls => ?_)
  rw [Bool.false_or]
  cases hz : sUC X m x (gS X m) 0 with
  | true => exact y_retz dX5_usesCall_69 rfl rfl (Or.inr rfl) (h1 hz)
  | false => exact y_retz dX5_usesCall_69 rfl rfl (Or.inl rfl) (h0 hz)
theorem klook {d : Nat} {Pp : Option Value → xH → Prop} {K : Nat → Nat × Nat} {I : Nat → Nat → Int32} {P : Nat → Nat → Option Nat} {n s : Nat} {R m v : Nat} {X : xX} {y : Int32} {fn : Bool} {ord : List Nat} (hR : xAt K P R 5) (hA : xPg I R X) (hc : I R 20 = nI ord.length) (ho : xHl I (R + 16) ord) (ho2 : ∀ q ∈ ord, q < 12) (ho3 : ord.length ≤ 12) (hm : m < 12) (hw : ∀ m, m < 12 → wfM X m) (hv : v < 64) (h0 : sUse X ord m (nI v) fn = 0 → Pp (some (.int 0)) (K, I, P, n, s)) (h1 : ∀ e, sUse X ord m (nI v) fn = e → e = 1 ∨ e = 2 → Pp (some (.int e)) (K, xuI (xuI (xuI I R 25 (nI m)) R 26 y) R 27 (nI v), P, n, s)) : xC (d + 2) mX5_look [(.ref R), (.int (nI m)), (.int y), (.int (nI v)), (.int (bI fn))] (K, I, P, n, s) Pp := by
  refine y_met 0 0 ?_
  show xB (d + 2) 5 cX5_look (some .int) false (xE n s 0 0 Pp) 0 [some (.ref R), some (.int (nI m)), some (.int y), some (.int (nI v)), some (.int (bI fn)), none, none] [] (K, I, P, n, s)
  have hz : 64 * m + v < 768 := by omega
  unfold sUse at h0 h1
  rw [nI_clamp (show v < 2 ^ 31 by omega)] at h0 h1
  have hopt := (hw m hm).2.2.2.2.2.2.2.2 v hv
  cases fn with
  | true =>
    refine y_aload_n dX5_look_0 rfl ?_
    refine y_aload_n dX5_look_1 rfl ?_
    refine y_getr 5 21 dX5_look_2 rfl rfl hR.1 (r5_21 hR) ?_
    refine y_aload_n dX5_look_5 rfl ?_
    refine y_getv 5 20 dX5_look_6 rfl rfl hR.1 hc ?_
    refine y_iload_n dX5_look_9 rfl ?_
    refine y_iload_n dX5_look_10 rfl ?_
    refine y_callV4 mX5_find dX5_look_11 rfl rfl hR.1 (Nat.le_of_ble_eq_true rfl) (kfind (d := d) hR hA (k5_21 hR) ho ho2 ho3 hm hw (fun eq => ?_) (fun e eq he => ?_))
    · rw [eq] at h0 h1
      simp only at h0 h1
      refine y_istore dX5_look_14 (by first | (simp; done) | (simp; decide)) (fun x1 e_x1 => ?_)
      subst e_x1
      refine y_iload dX5_look_16 rfl ?_
      refine y_iconst (v := (-1)) dX5_look_18 (by decide) ?_
      refine y_icmp_ne 44 dX5_look_19 (by decide) (fun q => absurd q (by decide)) (fun _ => ?_)
      refine y_aload_n dX5_look_22 rfl ?_
      refine y_getr 5 10 dX5_look_23 rfl rfl hR.1 (r5_10 hR) ?_
      refine y_bipush (v := 64) dX5_look_26 (by decide) ?_
      refine y_iload_n dX5_look_28 rfl ?_
      refine y_imulv (nI (64 * m)) dX5_look_29 (pk_mul (64) (m)) ?_
      refine y_iload_n dX5_look_30 rfl ?_
      refine y_iaddv (nI (((64 * m)) + v)) dX5_look_31 (nI_add ((64 * m)) (v)) ?_
      refine y_baldN ((((64 * m)) + v)) dX5_look_32 (k5_10 hR) rfl (by omega) (by omega) (congrFun (hA 10 (by decide) (by decide)) ((((64 * m)) + v))) ?_
      refine y_if_eq 40 dX5_look_33 (by decide) (fun c33 => ?_) (fun c33 => ?_)
      · rw [if_pos c33] at h0 h1
        refine y_iconst (v := 1) dX5_look_40 (by decide) ?_
        refine y_goto 69 dX5_look_41 (by decide) ?_
        refine y_istore dX5_look_69 (by first | (simp; done) | (simp; decide)) (fun x2 e_x2 => ?_)
        subst e_x2
        refine y_iload dX5_look_71 rfl ?_
        refine y_if_le 91 dX5_look_73 (by decide) (fun q => absurd q (by decide)) (fun _ => ?_)
        refine y_aload_n dX5_look_76 rfl ?_
        refine y_iload_n dX5_look_77 rfl ?_
        refine y_puti 5 25 dX5_look_78 rfl rfl rfl hR.1 ?_
        refine y_aload_n dX5_look_81 rfl ?_
        refine y_iload_n dX5_look_82 rfl ?_
        refine y_puti 5 26 dX5_look_83 rfl rfl rfl hR.1 ?_
        refine y_aload_n dX5_look_86 rfl ?_
        refine y_iload_n dX5_look_87 rfl ?_
        refine y_puti 5 27 dX5_look_88 rfl rfl rfl hR.1 ?_
        refine y_iload dX5_look_91 rfl ?_
        exact y_ret dX5_look_93 rfl rfl (h1 1 rfl (by decide))
      · rw [if_neg c33] at h0 h1
        refine y_iconst (v := 0) dX5_look_36 (by decide) ?_
        refine y_goto 69 dX5_look_37 (by decide) ?_
        refine y_istore dX5_look_69 (by first | (simp; done) | (simp; decide)) (fun x3 e_x3 => ?_)
        subst e_x3
        refine y_iload dX5_look_71 rfl ?_
        refine y_if_le 91 dX5_look_73 (by decide) (fun _ => ?_) (fun q => absurd q (by decide))
        refine y_iload dX5_look_91 rfl ?_
        exact y_ret dX5_look_93 rfl rfl (h0 rfl)
    · rw [eq] at h0 h1
      simp only at h0 h1
      refine y_istore dX5_look_14 (by first | (simp; done) | (simp; decide)) (fun x4 e_x4 => ?_)
      subst e_x4
      refine y_iload dX5_look_16 rfl ?_
      refine y_iconst (v := (-1)) dX5_look_18 (by decide) ?_
      refine y_icmp_ne 44 dX5_look_19 (by decide) (fun _ => ?_) (fun c19 => absurd c19 (nI_m1 (by omega)))
      refine y_aload_n dX5_look_44 rfl ?_
      refine y_getr 5 4 dX5_look_45 rfl rfl hR.1 (r5_4 hR) ?_
      refine y_iload dX5_look_48 rfl ?_
      refine y_ialdN (e) dX5_look_50 (k5_4 hR) rfl (by omega) (by omega) (congrFun (hA 4 (by decide) (by decide)) (e)) ?_
      refine y_if_ne 58 dX5_look_51 (by decide) (fun c51 => ?_) (fun c51 => ?_)
      · rw [show decide (X 4 e = 0) = false from decide_eq_false c51] at h0 h1
        refine y_iconst (v := 0) dX5_look_58 (by decide) ?_
        refine y_iload dX5_look_59 rfl ?_
        refine y_icmp_ne 68 dX5_look_61 (by decide) (fun _ => ?_) (fun q => absurd q (by decide))
        refine y_iconst (v := 2) dX5_look_68 (by decide) ?_
        refine y_istore dX5_look_69 (by first | (simp; done) | (simp; decide)) (fun x5 e_x5 => ?_)
        subst e_x5
        refine y_iload dX5_look_71 rfl ?_
        refine y_if_le 91 dX5_look_73 (by decide) (fun q => absurd q (by decide)) (fun _ => ?_)
        refine y_aload_n dX5_look_76 rfl ?_
        refine y_iload_n dX5_look_77 rfl ?_
        refine y_puti 5 25 dX5_look_78 rfl rfl rfl hR.1 ?_
        refine y_aload_n dX5_look_81 rfl ?_
        refine y_iload_n dX5_look_82 rfl ?_
        refine y_puti 5 26 dX5_look_83 rfl rfl rfl hR.1 ?_
        refine y_aload_n dX5_look_86 rfl ?_
        refine y_iload_n dX5_look_87 rfl ?_
        refine y_puti 5 27 dX5_look_88 rfl rfl rfl hR.1 ?_
        refine y_iload dX5_look_91 rfl ?_
        exact y_ret dX5_look_93 rfl rfl (h1 2 rfl (by decide))
      · rw [show decide (X 4 e = 0) = true from decide_eq_true c51] at h0 h1
        refine y_iconst (v := 1) dX5_look_54 (by decide) ?_
        refine y_goto 59 dX5_look_55 (by decide) ?_
        refine y_iload dX5_look_59 rfl ?_
        refine y_icmp_ne 68 dX5_look_61 (by decide) (fun q => absurd q (by decide)) (fun _ => ?_)
        refine y_iconst (v := 0) dX5_look_64 (by decide) ?_
        refine y_goto 69 dX5_look_65 (by decide) ?_
        refine y_istore dX5_look_69 (by first | (simp; done) | (simp; decide)) (fun x6 e_x6 => ?_)
        subst e_x6
        refine y_iload dX5_look_71 rfl ?_
        refine y_if_le 91 dX5_look_73 (by decide) (fun _ => ?_) (fun q => absurd q (by decide))
        refine y_iload dX5_look_91 rfl ?_
        exact y_ret dX5_look_93 rfl rfl (h0 rfl)
  | false =>
    refine y_aload_n dX5_look_0 rfl ?_
    refine y_aload_n dX5_look_1 rfl ?_
    refine y_getr 5 21 dX5_look_2 rfl rfl hR.1 (r5_21 hR) ?_
    refine y_aload_n dX5_look_5 rfl ?_
    refine y_getv 5 20 dX5_look_6 rfl rfl hR.1 hc ?_
    refine y_iload_n dX5_look_9 rfl ?_
    refine y_iload_n dX5_look_10 rfl ?_
    refine y_callV4 mX5_find dX5_look_11 rfl rfl hR.1 (Nat.le_of_ble_eq_true rfl) (kfind (d := d) hR hA (k5_21 hR) ho ho2 ho3 hm hw (fun eq => ?_) (fun e eq he => ?_))
    · rw [eq] at h0 h1
      simp only at h0 h1
      refine y_istore dX5_look_14 (by first | (simp; done) | (simp; decide)) (fun x1 e_x1 => ?_)
      subst e_x1
      refine y_iload dX5_look_16 rfl ?_
      refine y_iconst (v := (-1)) dX5_look_18 (by decide) ?_
      refine y_icmp_ne 44 dX5_look_19 (by decide) (fun q => absurd q (by decide)) (fun _ => ?_)
      refine y_aload_n dX5_look_22 rfl ?_
      refine y_getr 5 10 dX5_look_23 rfl rfl hR.1 (r5_10 hR) ?_
      refine y_bipush (v := 64) dX5_look_26 (by decide) ?_
      refine y_iload_n dX5_look_28 rfl ?_
      refine y_imulv (nI (64 * m)) dX5_look_29 (pk_mul (64) (m)) ?_
      refine y_iload_n dX5_look_30 rfl ?_
      refine y_iaddv (nI (((64 * m)) + v)) dX5_look_31 (nI_add ((64 * m)) (v)) ?_
      refine y_baldN ((((64 * m)) + v)) dX5_look_32 (k5_10 hR) rfl (by omega) (by omega) (congrFun (hA 10 (by decide) (by decide)) ((((64 * m)) + v))) ?_
      refine y_if_eq 40 dX5_look_33 (by decide) (fun c33 => ?_) (fun c33 => ?_)
      · rw [if_pos c33] at h0 h1
        refine y_iconst (v := 1) dX5_look_40 (by decide) ?_
        refine y_goto 69 dX5_look_41 (by decide) ?_
        refine y_istore dX5_look_69 (by first | (simp; done) | (simp; decide)) (fun x2 e_x2 => ?_)
        subst e_x2
        refine y_iload dX5_look_71 rfl ?_
        refine y_if_le 91 dX5_look_73 (by decide) (fun q => absurd q (by decide)) (fun _ => ?_)
        refine y_aload_n dX5_look_76 rfl ?_
        refine y_iload_n dX5_look_77 rfl ?_
        refine y_puti 5 25 dX5_look_78 rfl rfl rfl hR.1 ?_
        refine y_aload_n dX5_look_81 rfl ?_
        refine y_iload_n dX5_look_82 rfl ?_
        refine y_puti 5 26 dX5_look_83 rfl rfl rfl hR.1 ?_
        refine y_aload_n dX5_look_86 rfl ?_
        refine y_iload_n dX5_look_87 rfl ?_
        refine y_puti 5 27 dX5_look_88 rfl rfl rfl hR.1 ?_
        refine y_iload dX5_look_91 rfl ?_
        exact y_ret dX5_look_93 rfl rfl (h1 1 rfl (by decide))
      · rw [if_neg c33] at h0 h1
        refine y_iconst (v := 0) dX5_look_36 (by decide) ?_
        refine y_goto 69 dX5_look_37 (by decide) ?_
        refine y_istore dX5_look_69 (by first | (simp; done) | (simp; decide)) (fun x3 e_x3 => ?_)
        subst e_x3
        refine y_iload dX5_look_71 rfl ?_
        refine y_if_le 91 dX5_look_73 (by decide) (fun _ => ?_) (fun q => absurd q (by decide))
        refine y_iload dX5_look_91 rfl ?_
        exact y_ret dX5_look_93 rfl rfl (h0 rfl)
    · rw [eq] at h0 h1
      simp only at h0 h1
      refine y_istore dX5_look_14 (by first | (simp; done) | (simp; decide)) (fun x4 e_x4 => ?_)
      subst e_x4
      refine y_iload dX5_look_16 rfl ?_
      refine y_iconst (v := (-1)) dX5_look_18 (by decide) ?_
      refine y_icmp_ne 44 dX5_look_19 (by decide) (fun _ => ?_) (fun c19 => absurd c19 (nI_m1 (by omega)))
      refine y_aload_n dX5_look_44 rfl ?_
      refine y_getr 5 4 dX5_look_45 rfl rfl hR.1 (r5_4 hR) ?_
      refine y_iload dX5_look_48 rfl ?_
      refine y_ialdN (e) dX5_look_50 (k5_4 hR) rfl (by omega) (by omega) (congrFun (hA 4 (by decide) (by decide)) (e)) ?_
      refine y_if_ne 58 dX5_look_51 (by decide) (fun c51 => ?_) (fun c51 => ?_)
      · rw [show decide (X 4 e = 0) = false from decide_eq_false c51] at h0 h1
        refine y_iconst (v := 0) dX5_look_58 (by decide) ?_
        refine y_iload dX5_look_59 rfl ?_
        refine y_icmp_ne 68 dX5_look_61 (by decide) (fun q => absurd q (by decide)) (fun _ => ?_)
        refine y_iconst (v := 0) dX5_look_64 (by decide) ?_
        refine y_goto 69 dX5_look_65 (by decide) ?_
        refine y_istore dX5_look_69 (by first | (simp; done) | (simp; decide)) (fun x5 e_x5 => ?_)
        subst e_x5
        refine y_iload dX5_look_71 rfl ?_
        refine y_if_le 91 dX5_look_73 (by decide) (fun _ => ?_) (fun q => absurd q (by decide))
        refine y_iload dX5_look_91 rfl ?_
        exact y_ret dX5_look_93 rfl rfl (h0 rfl)
      · rw [show decide (X 4 e = 0) = true from decide_eq_true c51] at h0 h1
        refine y_iconst (v := 1) dX5_look_54 (by decide) ?_
        refine y_goto 59 dX5_look_55 (by decide) ?_
        refine y_iload dX5_look_59 rfl ?_
        refine y_icmp_ne 68 dX5_look_61 (by decide) (fun _ => ?_) (fun q => absurd q (by decide))
        refine y_iconst (v := 2) dX5_look_68 (by decide) ?_
        refine y_istore dX5_look_69 (by first | (simp; done) | (simp; decide)) (fun x6 e_x6 => ?_)
        subst e_x6
        refine y_iload dX5_look_71 rfl ?_
        refine y_if_le 91 dX5_look_73 (by decide) (fun q => absurd q (by decide)) (fun _ => ?_)
        refine y_aload_n dX5_look_76 rfl ?_
        refine y_iload_n dX5_look_77 rfl ?_
        refine y_puti 5 25 dX5_look_78 rfl rfl rfl hR.1 ?_
        refine y_aload_n dX5_look_81 rfl ?_
        refine y_iload_n dX5_look_82 rfl ?_
        refine y_puti 5 26 dX5_look_83 rfl rfl rfl hR.1 ?_
        refine y_aload_n dX5_look_86 rfl ?_
        refine y_iload_n dX5_look_87 rfl ?_
        refine y_puti 5 27 dX5_look_88 rfl rfl rfl hR.1 ?_
        refine y_iload dX5_look_91 rfl ?_
        exact y_ret dX5_look_93 rfl rfl (h1 2 rfl (by decide))
end
section
theorem e12 {e : Int32} (he : e = 1 ∨ e = 2) : e ≠ 0 := by rcases he with rfl | rfl <;> decide
theorem xPg_R {I : Nat → Nat → Int32} {R k : Nat} {X : xX} {x : Int32} (h : xPg I R X) : xPg (xuI I R k x) R X := fun i h1 h2 => by rw [xuI_ne (by omega)]; exact h i h1 h2
theorem xStep_use {op a b c : Int32} (h : xStep op a b c) (h1 : 6 < op.toInt) (h2 : op.toInt < 11) : (op = 7 ∧ ∃ k : Nat, k < 64 ∧ a = nI k) ∨ (op = 8 ∧ ∃ k : Nat, k < 64 ∧ b = nI k) ∨ (op = 9 ∧ ∃ k : Nat, k < 64 ∧ a = nI k) ∨ (op = 10 ∧ ∃ k : Nat, k < 64 ∧ b = nI k) := by
  unfold xStep at h
  rcases h with ⟨e, -⟩ | ⟨e, -⟩ | ⟨e, -⟩ | ⟨e, -⟩ | ⟨e, -⟩ | ⟨e, -⟩ | ⟨e, -⟩ | ⟨e, q⟩ | ⟨e, -, q⟩ | ⟨e, q, -⟩ | ⟨e, -, q⟩ | ⟨e, -⟩ | e | ⟨e, -⟩ | e
  · subst e; exact absurd h1 (by decide)
  · subst e; exact absurd h1 (by decide)
  · subst e; exact absurd h1 (by decide)
  · subst e; exact absurd h1 (by decide)
  · subst e; exact absurd h1 (by decide)
  · subst e; exact absurd h1 (by decide)
  · subst e; exact absurd h1 (by decide)
  · exact Or.inl ⟨e, q⟩
  · exact Or.inr (Or.inl ⟨e, q⟩)
  · exact Or.inr (Or.inr (Or.inl ⟨e, q⟩))
  · exact Or.inr (Or.inr (Or.inr ⟨e, q⟩))
  · subst e; exact absurd h2 (by decide)
  · subst e; exact absurd h2 (by decide)
  · subst e; exact absurd h2 (by decide)
  · subst e; exact absurd h2 (by decide)
theorem klookAt_out {d R : Nat} {X : xX} {Q : Option Value → xH → Prop} {K : Nat → Nat × Nat} {I : Nat → Nat → Int32} {P : Nat → Nat → Option Nat} {n s : Nat} (hR : xAt K P R 5) (hA : xPg I R X) {m k : Nat} {e : Int32} (hm : m < 12) (w1 : X 9 m = nI (gS X m)) (w2 : gS X m ≤ 100) (hk : k ≤ gS X m) (he : e = 1 ∨ e = 2) {v4 v5 : Option Value} (k1 : ∀ ls, xB d 5 cX5_lookAt (some .int) false Q 145 ls [.int e] (K, I, P, n, s)) : xB d 5 cX5_lookAt (some .int) false Q 30 [some (.ref R), some (.int (nI m)), some (.int e), some (.int (nI k)), v4, v5] [] (K, I, P, n, s) := by
  refine y_iload_n dX5_lookAt_30 rfl ?_
  refine y_aload_n dX5_lookAt_31 rfl ?_
  refine y_getr 5 9 dX5_lookAt_32 rfl rfl hR.1 (r5_9 hR) ?_
  refine y_iload_n dX5_lookAt_35 rfl ?_
  refine y_ialdN (m) dX5_lookAt_36 (k5_9 hR) rfl (by omega) (by omega) ((congrFun (hA 9 (by decide) (by decide)) m).trans w1) ?_
  refine y_icmpN_ge 144 (k) ((gS X m)) dX5_lookAt_37 (by decide) rfl rfl (by omega) (by omega) (fun c37 => ?_) (fun c37 => ?_)
  · refine y_iload_n dX5_lookAt_144 rfl ?_
    exact k1 _
  · refine y_iload_n dX5_lookAt_40 rfl ?_
    refine y_if_ne 144 dX5_lookAt_41 (by decide) (fun _ => ?_) (fun c41 => absurd c41 (by rcases he with rfl | rfl <;> decide))
    refine y_iload_n dX5_lookAt_144 rfl ?_
    exact k1 _
set_option maxHeartbeats 2000000 in
theorem klookAt_loop {d R : Nat} {X : xX} {Q : Option Value → xH → Prop} {K : Nat → Nat × Nat} {I : Nat → Nat → Int32} {P : Nat → Nat → Option Nat} {n s : Nat} (hR : xAt K P R 5) (hA : xPg I R X) {m : Nat} {ord : List Nat} (hc : I R 20 = nI ord.length) (ho : xHl I (R + 16) ord) (ho2 : ∀ q ∈ ord, q < 12) (ho3 : ord.length ≤ 12) (hm : m < 12) (hw : ∀ m, m < 12 → wfM X m) : ∀ (t k : Nat) (v4 v5 : Option Value), k + t = gS X m → ((sLkS X ord m t k).1 = 0 → ∀ ls, xB (d + 3) 5 cX5_lookAt (some .int) false Q 145 ls [.int 0] (K, I, P, n, s)) → ((sLkS X ord m t k).1 ≠ 0 → ∀ ls, xB (d + 3) 5 cX5_lookAt (some .int) false Q 145 ls [.int (sLkS X ord m t k).1] (K, xuI (xuI (xuI I R 25 (nI m)) R 26 (sLkS X ord m t k).2.1) R 27 (sLkS X ord m t k).2.2, P, n, s)) → xB (d + 3) 5 cX5_lookAt (some .int) false Q 30 [some (.ref R), some (.int (nI m)), some (.int 0), some (.int (nI k)), v4, v5] [] (K, I, P, n, s) := by
  obtain ⟨w1, w2⟩ := (hw m hm).2.2.2.2.2.1
  intro t
  induction t with
  | zero =>
    intro k v4 v5 hk h0 h1
    refine y_iload_n dX5_lookAt_30 rfl ?_
    refine y_aload_n dX5_lookAt_31 rfl ?_
    refine y_getr 5 9 dX5_lookAt_32 rfl rfl hR.1 (r5_9 hR) ?_
    refine y_iload_n dX5_lookAt_35 rfl ?_
    refine y_ialdN (m) dX5_lookAt_36 (k5_9 hR) rfl (by omega) (by omega) ((congrFun (hA 9 (by decide) (by decide)) m).trans w1) ?_
    refine y_icmpN_ge 144 (k) ((gS X m)) dX5_lookAt_37 (by decide) rfl rfl (by omega) (by omega) (fun _ => ?_) (fun c37 => absurd c37 (by omega))
    refine y_iload_n dX5_lookAt_144 rfl ?_
    exact h0 rfl _
  | succ t ih =>
    intro k v4 v5 hk h0 h1
    unfold sLkS at h0 h1
    refine y_iload_n dX5_lookAt_30 rfl ?_
    refine y_aload_n dX5_lookAt_31 rfl ?_
    refine y_getr 5 9 dX5_lookAt_32 rfl rfl hR.1 (r5_9 hR) ?_
    refine y_iload_n dX5_lookAt_35 rfl ?_
    refine y_ialdN (m) dX5_lookAt_36 (k5_9 hR) rfl (by omega) (by omega) ((congrFun (hA 9 (by decide) (by decide)) m).trans w1) ?_
    refine y_icmpN_ge 144 (k) ((gS X m)) dX5_lookAt_37 (by decide) rfl rfl (by omega) (by omega) (fun c37 => absurd c37 (by omega)) (fun _ => ?_)
    refine y_iload_n dX5_lookAt_40 rfl ?_
    refine y_if_ne 144 dX5_lookAt_41 (by decide) (fun q => absurd q (by decide)) (fun _ => ?_)
    refine y_iconst (v := 4) dX5_lookAt_44 (by decide) ?_
    refine y_bipush (v := 100) dX5_lookAt_45 (by decide) ?_
    refine y_iload_n dX5_lookAt_47 rfl ?_
    refine y_imulv (nI (100 * m)) dX5_lookAt_48 (pk_mul (100) (m)) ?_
    refine y_iload_n dX5_lookAt_49 rfl ?_
    refine y_iaddv (nI (((100 * m)) + k)) dX5_lookAt_50 (nI_add ((100 * m)) (k)) ?_
    refine y_imulv (nI (4 * ((((100 * m)) + k)))) dX5_lookAt_51 (pk_mul (4) ((((100 * m)) + k))) ?_
    refine y_istore dX5_lookAt_52 (by first | (simp; done) | (simp; decide)) (fun x1 e_x1 => ?_)
    subst e_x1
    refine y_aload_n dX5_lookAt_54 rfl ?_
    refine y_getr 5 8 dX5_lookAt_55 rfl rfl hR.1 (r5_8 hR) ?_
    refine y_iload dX5_lookAt_58 rfl ?_
    refine y_ialdN ((4 * ((((100 * m)) + k)))) dX5_lookAt_60 (k5_8 hR) rfl (by omega) (by omega) (congrFun (hA 8 (by decide) (by decide)) ((4 * ((((100 * m)) + k))))) ?_
    refine y_istore dX5_lookAt_61 (by first | (simp; done) | (simp; decide)) (fun op e_op => ?_)
    rw [show sOp X m k = op from e_op.symm] at h0 h1
    refine y_iload dX5_lookAt_63 rfl ?_
    refine y_bipush (v := 6) dX5_lookAt_65 (by decide) ?_
    refine y_icmpZ_le 138 (op.toInt) (6) dX5_lookAt_67 (by decide) rfl rfl (fun c67 => ?_) (fun c67 => ?_)
    · rw [if_neg (by omega)] at h0 h1
      refine y_iinc dX5_lookAt_138 rfl (fun x2 e_x2 => ?_)
      obtain rfl : x2 = nI (k + 1) := by rw [e_x2]; exact nI_1 (k)
      refine y_goto 30 dX5_lookAt_141 (by decide) ?_
      exact ih (k + 1) _ _ (by omega) h0 h1
    · refine y_iload dX5_lookAt_70 rfl ?_
      refine y_bipush (v := 11) dX5_lookAt_72 (by decide) ?_
      refine y_icmpZ_ge 138 (op.toInt) (11) dX5_lookAt_74 (by decide) rfl rfl (fun c74 => ?_) (fun c74 => ?_)
      · rw [if_neg (by omega)] at h0 h1
        refine y_iinc dX5_lookAt_138 rfl (fun x3 e_x3 => ?_)
        obtain rfl : x3 = nI (k + 1) := by rw [e_x3]; exact nI_1 (k)
        refine y_goto 30 dX5_lookAt_141 (by decide) ?_
        exact ih (k + 1) _ _ (by omega) h0 h1
      · rw [if_pos ⟨by omega, by omega⟩] at h0 h1
        have hst := (hw m hm).2.2.2.2.2.2.1 k (by omega)
        rw [show sOp X m k = op from e_op.symm] at hst
        rcases xStep_use hst (by omega) (by omega) with ⟨eo, v, hv, ev⟩ | ⟨eo, v, hv, ev⟩ | ⟨eo, v, hv, ev⟩ | ⟨eo, v, hv, ev⟩
        · subst eo
          rw [show sNm X m k = nI v from by unfold sNm; rw [show sOp X m k = 7 from e_op.symm, if_pos (by decide)]; exact ev, show decide ((7 : Int32) = 7 ∨ (7 : Int32) = 10) = true from by decide] at h0 h1
          refine y_aload_n dX5_lookAt_77 rfl ?_
          refine y_iload_n dX5_lookAt_78 rfl ?_
          refine y_iload_n dX5_lookAt_79 rfl ?_
          refine y_iload dX5_lookAt_80 rfl ?_
          refine y_bipush (v := 7) dX5_lookAt_82 (by decide) ?_
          refine y_icmp_eq 94 dX5_lookAt_84 (by decide) (fun _ => ?_) (fun q => absurd q (by decide))
          refine y_aload_n dX5_lookAt_94 rfl ?_
          refine y_getr 5 8 dX5_lookAt_95 rfl rfl hR.1 (r5_8 hR) ?_
          refine y_iload dX5_lookAt_98 rfl ?_
          refine y_iconst (v := 1) dX5_lookAt_100 (by decide) ?_
          refine y_iaddv (nI (((4 * ((((100 * m)) + k)))) + 1)) dX5_lookAt_101 (nI_add ((4 * ((((100 * m)) + k)))) (1)) ?_
          refine y_ialdN ((((4 * ((((100 * m)) + k)))) + 1)) dX5_lookAt_102 (k5_8 hR) rfl (by omega) (by omega) ((congrFun (hA 8 (by decide) (by decide)) (4 * (100 * m + k) + 1)).trans ev) ?_
          refine y_goto 115 dX5_lookAt_103 (by decide) ?_
          refine y_iload dX5_lookAt_115 rfl ?_
          refine y_bipush (v := 7) dX5_lookAt_117 (by decide) ?_
          refine y_icmp_eq 129 dX5_lookAt_119 (by decide) (fun _ => ?_) (fun q => absurd q (by decide))
          refine y_iconst (v := 1) dX5_lookAt_129 (by decide) ?_
          refine y_goto 134 dX5_lookAt_130 (by decide) ?_
          refine y_callV4 mX5_look dX5_lookAt_134 rfl rfl hR.1 (Nat.le_of_ble_eq_true rfl) (klook (d := d) (fn := true) hR hA hc ho ho2 ho3 hm hw hv (fun eq => ?_) (fun e eq he => ?_))
          · rw [if_pos eq] at h0 h1
            refine y_istore_n dX5_lookAt_137 (by first | (simp; done) | (simp; decide)) (fun x4 e_x4 => ?_)
            subst e_x4
            refine y_iinc dX5_lookAt_138 rfl (fun x5 e_x5 => ?_)
            obtain rfl : x5 = nI (k + 1) := by rw [e_x5]; exact nI_1 (k)
            refine y_goto 30 dX5_lookAt_141 (by decide) ?_
            exact ih (k + 1) _ _ (by omega) h0 h1
          · rw [if_neg (by rw [eq]; rcases he with rfl | rfl <;> decide), eq] at h1
            refine y_istore_n dX5_lookAt_137 (by first | (simp; done) | (simp; decide)) (fun x6 e_x6 => ?_)
            subst e_x6
            refine y_iinc dX5_lookAt_138 rfl (fun x7 e_x7 => ?_)
            obtain rfl : x7 = nI (k + 1) := by rw [e_x7]; exact nI_1 (k)
            refine y_goto 30 dX5_lookAt_141 (by decide) ?_
            exact klookAt_out hR (xPg_R (xPg_R (xPg_R hA))) hm w1 w2 (by omega) he (h1 (e12 he))
        · subst eo
          rw [show sNm X m k = nI v from by unfold sNm; rw [show sOp X m k = 8 from e_op.symm, if_neg (by decide)]; exact ev, show decide ((8 : Int32) = 7 ∨ (8 : Int32) = 10) = false from by decide] at h0 h1
          refine y_aload_n dX5_lookAt_77 rfl ?_
          refine y_iload_n dX5_lookAt_78 rfl ?_
          refine y_iload_n dX5_lookAt_79 rfl ?_
          refine y_iload dX5_lookAt_80 rfl ?_
          refine y_bipush (v := 7) dX5_lookAt_82 (by decide) ?_
          refine y_icmp_eq 94 dX5_lookAt_84 (by decide) (fun q => absurd q (by decide)) (fun _ => ?_)
          refine y_iload dX5_lookAt_87 rfl ?_
          refine y_bipush (v := 9) dX5_lookAt_89 (by decide) ?_
          refine y_icmp_ne 106 dX5_lookAt_91 (by decide) (fun _ => ?_) (fun q => absurd q (by decide))
          refine y_aload_n dX5_lookAt_106 rfl ?_
          refine y_getr 5 8 dX5_lookAt_107 rfl rfl hR.1 (r5_8 hR) ?_
          refine y_iload dX5_lookAt_110 rfl ?_
          refine y_iconst (v := 2) dX5_lookAt_112 (by decide) ?_
          refine y_iaddv (nI (((4 * ((((100 * m)) + k)))) + 2)) dX5_lookAt_113 (nI_add ((4 * ((((100 * m)) + k)))) (2)) ?_
          refine y_ialdN ((((4 * ((((100 * m)) + k)))) + 2)) dX5_lookAt_114 (k5_8 hR) rfl (by omega) (by omega) ((congrFun (hA 8 (by decide) (by decide)) (4 * (100 * m + k) + 2)).trans ev) ?_
          refine y_iload dX5_lookAt_115 rfl ?_
          refine y_bipush (v := 7) dX5_lookAt_117 (by decide) ?_
          refine y_icmp_eq 129 dX5_lookAt_119 (by decide) (fun q => absurd q (by decide)) (fun _ => ?_)
          refine y_iload dX5_lookAt_122 rfl ?_
          refine y_bipush (v := 10) dX5_lookAt_124 (by decide) ?_
          refine y_icmp_ne 133 dX5_lookAt_126 (by decide) (fun _ => ?_) (fun q => absurd q (by decide))
          refine y_iconst (v := 0) dX5_lookAt_133 (by decide) ?_
          refine y_callV4 mX5_look dX5_lookAt_134 rfl rfl hR.1 (Nat.le_of_ble_eq_true rfl) (klook (d := d) (fn := false) hR hA hc ho ho2 ho3 hm hw hv (fun eq => ?_) (fun e eq he => ?_))
          · rw [if_pos eq] at h0 h1
            refine y_istore_n dX5_lookAt_137 (by first | (simp; done) | (simp; decide)) (fun x8 e_x8 => ?_)
            subst e_x8
            refine y_iinc dX5_lookAt_138 rfl (fun x9 e_x9 => ?_)
            obtain rfl : x9 = nI (k + 1) := by rw [e_x9]; exact nI_1 (k)
            refine y_goto 30 dX5_lookAt_141 (by decide) ?_
            exact ih (k + 1) _ _ (by omega) h0 h1
          · rw [if_neg (by rw [eq]; rcases he with rfl | rfl <;> decide), eq] at h1
            refine y_istore_n dX5_lookAt_137 (by first | (simp; done) | (simp; decide)) (fun x10 e_x10 => ?_)
            subst e_x10
            refine y_iinc dX5_lookAt_138 rfl (fun x11 e_x11 => ?_)
            obtain rfl : x11 = nI (k + 1) := by rw [e_x11]; exact nI_1 (k)
            refine y_goto 30 dX5_lookAt_141 (by decide) ?_
            exact klookAt_out hR (xPg_R (xPg_R (xPg_R hA))) hm w1 w2 (by omega) he (h1 (e12 he))
        · subst eo
          rw [show sNm X m k = nI v from by unfold sNm; rw [show sOp X m k = 9 from e_op.symm, if_pos (by decide)]; exact ev, show decide ((9 : Int32) = 7 ∨ (9 : Int32) = 10) = false from by decide] at h0 h1
          refine y_aload_n dX5_lookAt_77 rfl ?_
          refine y_iload_n dX5_lookAt_78 rfl ?_
          refine y_iload_n dX5_lookAt_79 rfl ?_
          refine y_iload dX5_lookAt_80 rfl ?_
          refine y_bipush (v := 7) dX5_lookAt_82 (by decide) ?_
          refine y_icmp_eq 94 dX5_lookAt_84 (by decide) (fun q => absurd q (by decide)) (fun _ => ?_)
          refine y_iload dX5_lookAt_87 rfl ?_
          refine y_bipush (v := 9) dX5_lookAt_89 (by decide) ?_
          refine y_icmp_ne 106 dX5_lookAt_91 (by decide) (fun q => absurd q (by decide)) (fun _ => ?_)
          refine y_aload_n dX5_lookAt_94 rfl ?_
          refine y_getr 5 8 dX5_lookAt_95 rfl rfl hR.1 (r5_8 hR) ?_
          refine y_iload dX5_lookAt_98 rfl ?_
          refine y_iconst (v := 1) dX5_lookAt_100 (by decide) ?_
          refine y_iaddv (nI (((4 * ((((100 * m)) + k)))) + 1)) dX5_lookAt_101 (nI_add ((4 * ((((100 * m)) + k)))) (1)) ?_
          refine y_ialdN ((((4 * ((((100 * m)) + k)))) + 1)) dX5_lookAt_102 (k5_8 hR) rfl (by omega) (by omega) ((congrFun (hA 8 (by decide) (by decide)) (4 * (100 * m + k) + 1)).trans ev) ?_
          refine y_goto 115 dX5_lookAt_103 (by decide) ?_
          refine y_iload dX5_lookAt_115 rfl ?_
          refine y_bipush (v := 7) dX5_lookAt_117 (by decide) ?_
          refine y_icmp_eq 129 dX5_lookAt_119 (by decide) (fun q => absurd q (by decide)) (fun _ => ?_)
          refine y_iload dX5_lookAt_122 rfl ?_
          refine y_bipush (v := 10) dX5_lookAt_124 (by decide) ?_
          refine y_icmp_ne 133 dX5_lookAt_126 (by decide) (fun _ => ?_) (fun q => absurd q (by decide))
          refine y_iconst (v := 0) dX5_lookAt_133 (by decide) ?_
          refine y_callV4 mX5_look dX5_lookAt_134 rfl rfl hR.1 (Nat.le_of_ble_eq_true rfl) (klook (d := d) (fn := false) hR hA hc ho ho2 ho3 hm hw hv (fun eq => ?_) (fun e eq he => ?_))
          · rw [if_pos eq] at h0 h1
            refine y_istore_n dX5_lookAt_137 (by first | (simp; done) | (simp; decide)) (fun x12 e_x12 => ?_)
            subst e_x12
            refine y_iinc dX5_lookAt_138 rfl (fun x13 e_x13 => ?_)
            obtain rfl : x13 = nI (k + 1) := by rw [e_x13]; exact nI_1 (k)
            refine y_goto 30 dX5_lookAt_141 (by decide) ?_
            exact ih (k + 1) _ _ (by omega) h0 h1
          · rw [if_neg (by rw [eq]; rcases he with rfl | rfl <;> decide), eq] at h1
            refine y_istore_n dX5_lookAt_137 (by first | (simp; done) | (simp; decide)) (fun x14 e_x14 => ?_)
            subst e_x14
            refine y_iinc dX5_lookAt_138 rfl (fun x15 e_x15 => ?_)
            obtain rfl : x15 = nI (k + 1) := by rw [e_x15]; exact nI_1 (k)
            refine y_goto 30 dX5_lookAt_141 (by decide) ?_
            exact klookAt_out hR (xPg_R (xPg_R (xPg_R hA))) hm w1 w2 (by omega) he (h1 (e12 he))
        · subst eo
          rw [show sNm X m k = nI v from by unfold sNm; rw [show sOp X m k = 10 from e_op.symm, if_neg (by decide)]; exact ev, show decide ((10 : Int32) = 7 ∨ (10 : Int32) = 10) = true from by decide] at h0 h1
          refine y_aload_n dX5_lookAt_77 rfl ?_
          refine y_iload_n dX5_lookAt_78 rfl ?_
          refine y_iload_n dX5_lookAt_79 rfl ?_
          refine y_iload dX5_lookAt_80 rfl ?_
          refine y_bipush (v := 7) dX5_lookAt_82 (by decide) ?_
          refine y_icmp_eq 94 dX5_lookAt_84 (by decide) (fun q => absurd q (by decide)) (fun _ => ?_)
          refine y_iload dX5_lookAt_87 rfl ?_
          refine y_bipush (v := 9) dX5_lookAt_89 (by decide) ?_
          refine y_icmp_ne 106 dX5_lookAt_91 (by decide) (fun _ => ?_) (fun q => absurd q (by decide))
          refine y_aload_n dX5_lookAt_106 rfl ?_
          refine y_getr 5 8 dX5_lookAt_107 rfl rfl hR.1 (r5_8 hR) ?_
          refine y_iload dX5_lookAt_110 rfl ?_
          refine y_iconst (v := 2) dX5_lookAt_112 (by decide) ?_
          refine y_iaddv (nI (((4 * ((((100 * m)) + k)))) + 2)) dX5_lookAt_113 (nI_add ((4 * ((((100 * m)) + k)))) (2)) ?_
          refine y_ialdN ((((4 * ((((100 * m)) + k)))) + 2)) dX5_lookAt_114 (k5_8 hR) rfl (by omega) (by omega) ((congrFun (hA 8 (by decide) (by decide)) (4 * (100 * m + k) + 2)).trans ev) ?_
          refine y_iload dX5_lookAt_115 rfl ?_
          refine y_bipush (v := 7) dX5_lookAt_117 (by decide) ?_
          refine y_icmp_eq 129 dX5_lookAt_119 (by decide) (fun q => absurd q (by decide)) (fun _ => ?_)
          refine y_iload dX5_lookAt_122 rfl ?_
          refine y_bipush (v := 10) dX5_lookAt_124 (by decide) ?_
          refine y_icmp_ne 133 dX5_lookAt_126 (by decide) (fun q => absurd q (by decide)) (fun _ => ?_)
          refine y_iconst (v := 1) dX5_lookAt_129 (by decide) ?_
          refine y_goto 134 dX5_lookAt_130 (by decide) ?_
          refine y_callV4 mX5_look dX5_lookAt_134 rfl rfl hR.1 (Nat.le_of_ble_eq_true rfl) (klook (d := d) (fn := true) hR hA hc ho ho2 ho3 hm hw hv (fun eq => ?_) (fun e eq he => ?_))
          · rw [if_pos eq] at h0 h1
            refine y_istore_n dX5_lookAt_137 (by first | (simp; done) | (simp; decide)) (fun x16 e_x16 => ?_)
            subst e_x16
            refine y_iinc dX5_lookAt_138 rfl (fun x17 e_x17 => ?_)
            obtain rfl : x17 = nI (k + 1) := by rw [e_x17]; exact nI_1 (k)
            refine y_goto 30 dX5_lookAt_141 (by decide) ?_
            exact ih (k + 1) _ _ (by omega) h0 h1
          · rw [if_neg (by rw [eq]; rcases he with rfl | rfl <;> decide), eq] at h1
            refine y_istore_n dX5_lookAt_137 (by first | (simp; done) | (simp; decide)) (fun x18 e_x18 => ?_)
            subst e_x18
            refine y_iinc dX5_lookAt_138 rfl (fun x19 e_x19 => ?_)
            obtain rfl : x19 = nI (k + 1) := by rw [e_x19]; exact nI_1 (k)
            refine y_goto 30 dX5_lookAt_141 (by decide) ?_
            exact klookAt_out hR (xPg_R (xPg_R (xPg_R hA))) hm w1 w2 (by omega) he (h1 (e12 he))
theorem klookAt {d : Nat} {Pp : Option Value → xH → Prop} {K : Nat → Nat × Nat} {I : Nat → Nat → Int32} {P : Nat → Nat → Option Nat} {n s : Nat} {R m : Nat} {X : xX} {ord : List Nat} (hR : xAt K P R 5) (hA : xPg I R X) (hc : I R 20 = nI ord.length) (ho : xHl I (R + 16) ord) (ho2 : ∀ q ∈ ord, q < 12) (ho3 : ord.length ≤ 12) (hm : m < 12) (hw : ∀ m, m < 12 → wfM X m) (h0 : (sLk X ord m).1 = 0 → Pp (some (.int 0)) (K, I, P, n, s)) (h1 : (sLk X ord m).1 ≠ 0 → Pp (some (.int (sLk X ord m).1)) (K, xuI (xuI (xuI I R 25 (nI m)) R 26 (sLk X ord m).2.1) R 27 (sLk X ord m).2.2, P, n, s)) : xC (d + 3) mX5_lookAt [(.ref R), (.int (nI m))] (K, I, P, n, s) Pp := by
  refine y_met 0 0 ?_
  show xB (d + 3) 5 cX5_lookAt (some .int) false (xE n s 0 0 Pp) 0 [some (.ref R), some (.int (nI m)), none, none, none, none] [] (K, I, P, n, s)
  obtain ⟨w1, w2⟩ := (hw m hm).2.2.2.2.2.1
  unfold sLk at h0 h1
  refine y_aload_n dX5_lookAt_0 rfl ?_
  refine y_getr 5 11 dX5_lookAt_1 rfl rfl hR.1 (r5_11 hR) ?_
  refine y_iload_n dX5_lookAt_4 rfl ?_
  refine y_ialdN (m) dX5_lookAt_5 (k5_11 hR) rfl (by omega) (by omega) (congrFun (hA 11 (by decide) (by decide)) (m)) ?_
  refine y_iconst (v := (-1)) dX5_lookAt_6 (by decide) ?_
  refine y_icmp_ne 14 dX5_lookAt_7 (by decide) (fun c7 => ?_) (fun c7 => ?_)
  · rw [if_neg c7] at h0 h1
    obtain ⟨v, hv, ev⟩ := (hw m hm).2.2.2.2.2.2.2.1.resolve_left c7
    rw [ev] at h0 h1
    refine y_aload_n dX5_lookAt_14 rfl ?_
    refine y_iload_n dX5_lookAt_15 rfl ?_
    refine y_iconst (v := (-1)) dX5_lookAt_16 (by decide) ?_
    refine y_aload_n dX5_lookAt_17 rfl ?_
    refine y_getr 5 11 dX5_lookAt_18 rfl rfl hR.1 (r5_11 hR) ?_
    refine y_iload_n dX5_lookAt_21 rfl ?_
    refine y_ialdN (m) dX5_lookAt_22 (k5_11 hR) rfl (by omega) (by omega) ((congrFun (hA 11 (by decide) (by decide)) m).trans ev) ?_
    refine y_iconst (v := 1) dX5_lookAt_23 (by decide) ?_
    refine y_callV4 mX5_look dX5_lookAt_24 rfl rfl hR.1 (Nat.le_of_ble_eq_true rfl) (klook (d := d) (fn := true) hR hA hc ho ho2 ho3 hm hw hv (fun eq => ?_) (fun e eq he => ?_))
    · rw [if_pos eq] at h0 h1
      refine y_istore_n dX5_lookAt_27 (by first | (simp; done) | (simp; decide)) (fun x1 e_x1 => ?_)
      subst e_x1
      refine y_iconst (v := nI 0) dX5_lookAt_28 (by decide) ?_
      refine y_istore_n dX5_lookAt_29 (by first | (simp; done) | (simp; decide)) (fun x2 e_x2 => ?_)
      subst e_x2
      exact klookAt_loop hR hA hc ho ho2 ho3 hm hw _ 0 _ _ (Nat.zero_add _) (fun q ls => y_ret dX5_lookAt_145 rfl rfl (h0 q)) (fun q ls => y_ret dX5_lookAt_145 rfl rfl (h1 q))
    · rw [if_neg (by rw [eq]; rcases he with rfl | rfl <;> decide), eq] at h1
      refine y_istore_n dX5_lookAt_27 (by first | (simp; done) | (simp; decide)) (fun x3 e_x3 => ?_)
      subst e_x3
      refine y_iconst (v := nI 0) dX5_lookAt_28 (by decide) ?_
      refine y_istore_n dX5_lookAt_29 (by first | (simp; done) | (simp; decide)) (fun x4 e_x4 => ?_)
      subst e_x4
      exact klookAt_out hR (xPg_R (xPg_R (xPg_R hA))) hm w1 w2 (Nat.zero_le _) he (fun ls => y_ret dX5_lookAt_145 rfl rfl (h1 (e12 he)))
  · rw [if_pos c7] at h0 h1
    refine y_iconst (v := 0) dX5_lookAt_10 (by decide) ?_
    refine y_goto 27 dX5_lookAt_11 (by decide) ?_
    refine y_istore_n dX5_lookAt_27 (by first | (simp; done) | (simp; decide)) (fun x5 e_x5 => ?_)
    subst e_x5
    refine y_iconst (v := nI 0) dX5_lookAt_28 (by decide) ?_
    refine y_istore_n dX5_lookAt_29 (by first | (simp; done) | (simp; decide)) (fun x6 e_x6 => ?_)
    subst e_x6
    exact klookAt_loop hR hA hc ho ho2 ho3 hm hw _ 0 _ _ (Nat.zero_add _) (fun q ls => y_ret dX5_lookAt_145 rfl rfl (h0 q)) (fun q ls => y_ret dX5_lookAt_145 rfl rfl (h1 q))
end
section
def okl (c : Nat) (l : List Nat) : Prop := l.Nodup ∧ ∀ q ∈ l, q < c
theorem okl_len {c : Nat} {l : List Nat} (h : okl c l) : l.length ≤ c := by
  have := h.1.length_le_of_subset (l₂ := List.range c) (fun q hq => List.mem_range.mpr (h.2 q hq))
  simpa using this
theorem okl_add {c o : Nat} {l : List Nat} (h : okl c l) (ho : o < c) (hn : o ∉ l) : okl c (l ++ [o]) := by
  refine ⟨List.nodup_append.mpr ⟨h.1, by simp, fun a ha b hb e => ?_⟩, fun q hq => ?_⟩
  · rw [List.mem_singleton.mp hb] at e
    exact hn (e ▸ ha)
  · rcases List.mem_append.mp hq with z | z
    · exact h.2 q z
    · rw [List.mem_singleton.mp z]; exact ho
theorem sAdd_len (l : List Nat) (m : Nat) : l.length ≤ (sAdd l m).length := by
  unfold sAdd
  split
  · exact Nat.le_refl _
  · simp
theorem sAdds_len {X : xX} {m : Nat} : ∀ (t k : Nat) (l : List Nat), l.length ≤ (sAdds X m t k l).length
  | 0, _, l => Nat.le_refl _
  | t + 1, k, l => Nat.le_trans (sAdd_len l _) (sAdds_len t (k + 1) _)
/-- what the search of the order may change -/
def xFo (R : Nat) (I I' : Nat → Nat → Int32) : Prop := ∀ a j, a ≠ R + 16 → a ≠ R + 17 → (a ≠ R ∨ j ≠ 20) → I' a j = I a j
theorem xFo.rf {R : Nat} {I : Nat → Nat → Int32} : xFo R I I := fun _ _ _ _ _ => rfl
theorem xFo.tr {R : Nat} {I I' I2 : Nat → Nat → Int32} (h : xFo R I I') (h2 : xFo R I' I2) : xFo R I I2 := fun a j p q r => (h2 a j p q r).trans (h a j p q r)
theorem xFo.pg {R : Nat} {X : xX} {I I' : Nat → Nat → Int32} (h : xFo R I I') (hA : xPg I R X) : xPg I' R X := fun i h1 h2 => by
  funext j
  rw [h (R + i) j (by omega) (by omega) (Or.inl (by omega))]
  exact congrFun (hA i h1 h2) j
theorem xFo.u {R a i : Nat} {I : Nat → Nat → Int32} {x : Int32} (h : a = R + 16 ∨ a = R + 17 ∨ (a = R ∧ i = 20)) : xFo R I (xuI I a i x) := fun b j p q r => xuI_o (by
  rcases h with h | h | ⟨h, h2⟩
  · exact Or.inl (by omega)
  · exact Or.inl (by omega)
  · subst h h2; exact r)
/-- the search stands at the list l -/
def xBF (X : xX) (I : Nat → Nat → Int32) (R : Nat) (l : List Nat) : Prop := I R 20 = nI l.length ∧ xHl I (R + 16) l ∧ (∀ q, q < 12 → I (R + 17) q = bI (decide (q ∈ l))) ∧ okl (gC X) l
theorem xHl_add {I : Nat → Nat → Int32} {a o : Nat} {l : List Nat} (h : xHl I a l) (h2 : I a l.length = nI o) : xHl I a (l ++ [o]) := fun p m hp => by
  rcases Nat.lt_trichotomy p l.length with z | z | z
  · rw [List.getElem?_append_left z] at hp; exact h p m hp
  · subst z
    rw [List.getElem?_append_right (Nat.le_refl _), Nat.sub_self] at hp
    simp at hp
    rw [← hp]; exact h2
  · rw [List.getElem?_eq_none (by simp; omega)] at hp; cases hp
theorem xHl_put {I : Nat → Nat → Int32} {a b i : Nat} {x : Int32} {l : List Nat} (h : xHl I a l) (h2 : a ≠ b ∨ l.length ≤ i) : xHl (xuI I b i x) a l := fun p m hp => by
  have hl : p < l.length := (List.getElem?_eq_some_iff.mp hp).1
  rw [xuI_o (by rcases h2 with h2 | h2
                · exact Or.inl h2
                · exact Or.inr (by omega))]
  exact h p m hp
theorem xBF_add {X : xX} {I : Nat → Nat → Int32} {R o : Nat} {l : List Nat} (h : xBF X I R l) (ho : o < gC X) (hg : gC X ≤ 12) (hn : o ∉ l) : xBF X (xuI (xuI (xuI I (R + 17) o 1) (R + 16) l.length (nI o)) R 20 (nI (l.length + 1))) R (l ++ [o]) := by
  obtain ⟨h1, h2, h3, h4⟩ := h
  refine ⟨by rw [xuI_s]; simp, ?_, fun q hq => ?_, okl_add h4 ho hn⟩
  · refine xHl_put (xHl_add (xHl_put (xHl_put h2 (Or.inl (by omega))) (Or.inr (Nat.le_refl _))) (by rw [xuI_s])) (Or.inl (by omega))
  · rw [xuI_o (Or.inl (by omega)), xuI_o (Or.inl (by omega))]
    by_cases e : q = o
    · subst e
      rw [xuI_s, decide_eq_true (by simp)]; rfl
    · rw [xuI_o (Or.inr e), h3 q hq]
      congr 1
      simp [e]
theorem kfo_in {d R : Nat} {X : xX} {Q : Option Value → xH → Prop} {K : Nat → Nat × Nat} {P : Nat → Nat → Option Nat} {n s : Nat} (hR : xAt K P R 5) {m p : Nat} {x1 : Int32} (hm : m < 12) (hw : wfM X m) (hg : gC X ≤ 12) : ∀ (t k : Nat) (I : Nat → Nat → Int32) (l : List Nat) (v5 : Option Value), xPg I R X → k + t = gN X m → xBF X I R l → (∀ I' x4 v5', xFo R I I' → xBF X I' R (sAdds X m t k l) → xB d 5 cX5_findOrder none false Q 132 [some (.ref R), some (.int x1), some (.int (nI p)), some (.int (nI m)), some (.int x4), v5'] [] (K, I', P, n, s)) → xB d 5 cX5_findOrder none false Q 62 [some (.ref R), some (.int x1), some (.int (nI p)), some (.int (nI m)), some (.int (nI k)), v5] [] (K, I, P, n, s) := by
  obtain ⟨⟨w1, w2⟩, w3, -⟩ := hw
  intro t
  induction t with
  | zero =>
    intro k I l v5 hA hk hb k1
    refine y_iload dX5_findOrder_62 rfl ?_
    refine y_aload_n dX5_findOrder_64 rfl ?_
    refine y_getr 5 2 dX5_findOrder_65 rfl rfl hR.1 (r5_2 hR) ?_
    refine y_iload_n dX5_findOrder_68 rfl ?_
    refine y_ialdN (m) dX5_findOrder_69 (k5_2 hR) rfl (by omega) (by omega) ((congrFun (hA 2 (by decide) (by decide)) m).trans w1) ?_
    refine y_icmpN_ge 132 (k) ((gN X m)) dX5_findOrder_70 (by decide) rfl rfl (by omega) (by omega) (fun _ => ?_) (fun c70 => absurd c70 (by omega))
    exact k1 I _ _ xFo.rf hb
  | succ t ih =>
    intro k I l v5 hA hk hb k1
    obtain ⟨w4, w5⟩ := w3 k (by omega)
    unfold sAdds at k1
    refine y_iload dX5_findOrder_62 rfl ?_
    refine y_aload_n dX5_findOrder_64 rfl ?_
    refine y_getr 5 2 dX5_findOrder_65 rfl rfl hR.1 (r5_2 hR) ?_
    refine y_iload_n dX5_findOrder_68 rfl ?_
    refine y_ialdN (m) dX5_findOrder_69 (k5_2 hR) rfl (by omega) (by omega) ((congrFun (hA 2 (by decide) (by decide)) m).trans w1) ?_
    refine y_icmpN_ge 132 (k) ((gN X m)) dX5_findOrder_70 (by decide) rfl rfl (by omega) (by omega) (fun c70 => absurd c70 (by omega)) (fun _ => ?_)
    refine y_aload_n dX5_findOrder_73 rfl ?_
    refine y_getr 5 1 dX5_findOrder_74 rfl rfl hR.1 (r5_1 hR) ?_
    refine y_bipush (v := 6) dX5_findOrder_77 (by decide) ?_
    refine y_iload_n dX5_findOrder_79 rfl ?_
    refine y_imulv (nI (6 * m)) dX5_findOrder_80 (pk_mul (6) (m)) ?_
    refine y_iload dX5_findOrder_81 rfl ?_
    refine y_iaddv (nI (((6 * m)) + k)) dX5_findOrder_83 (nI_add ((6 * m)) (k)) ?_
    refine y_ialdN ((((6 * m)) + k)) dX5_findOrder_84 (k5_1 hR) rfl (by omega) (by omega) ((congrFun (hA 1 (by decide) (by decide)) (6 * m + k)).trans w4) ?_
    refine y_istore dX5_findOrder_85 (by first | (simp; done) | (simp; decide)) (fun x1 e_x1 => ?_)
    subst e_x1
    by_cases hin : gD X m k ∈ l
    · rw [show sAdd l (gD X m k) = l from if_pos hin] at k1
      refine y_aload_n dX5_findOrder_87 rfl ?_
      refine y_getr 5 22 dX5_findOrder_88 rfl rfl hR.1 (r5_22 hR) ?_
      refine y_iload dX5_findOrder_91 rfl ?_
      refine y_baldN ((gD X m k)) dX5_findOrder_93 (k5_22 hR) rfl (by omega) (by omega) (show I (R + 17) (gD X m k) = 1 by rw [hb.2.2.1 _ (by omega), decide_eq_true hin]; rfl) ?_
      refine y_if_ne 126 dX5_findOrder_94 (by decide) (fun _ => ?_) (fun q => absurd q (by decide))
      refine y_iinc dX5_findOrder_126 rfl (fun x2 e_x2 => ?_)
      obtain rfl : x2 = nI (k + 1) := by rw [e_x2]; exact nI_1 (k)
      refine y_goto 62 dX5_findOrder_129 (by decide) ?_
      exact ih (k + 1) I l _ hA (by omega) hb k1
    · rw [show sAdd l (gD X m k) = l ++ [gD X m k] from if_neg hin] at k1
      have hl := okl_len (okl_add hb.2.2.2 w5 hin)
      rw [List.length_append] at hl
      simp only [List.length_cons, List.length_nil] at hl
      refine y_aload_n dX5_findOrder_87 rfl ?_
      refine y_getr 5 22 dX5_findOrder_88 rfl rfl hR.1 (r5_22 hR) ?_
      refine y_iload dX5_findOrder_91 rfl ?_
      refine y_baldN ((gD X m k)) dX5_findOrder_93 (k5_22 hR) rfl (by omega) (by omega) (show I (R + 17) (gD X m k) = 0 by rw [hb.2.2.1 _ (by omega), decide_eq_false hin]; rfl) ?_
      refine y_if_ne 126 dX5_findOrder_94 (by decide) (fun q => absurd q (by decide)) (fun _ => ?_)
      refine y_aload_n dX5_findOrder_97 rfl ?_
      refine y_getr 5 22 dX5_findOrder_98 rfl rfl hR.1 (r5_22 hR) ?_
      refine y_iload dX5_findOrder_101 rfl ?_
      refine y_iconst (v := 1) dX5_findOrder_103 (by decide) ?_
      refine y_bast ((gD X m k)) dX5_findOrder_104 (k5_22 hR) rfl (by omega) (by omega) (by decide) ?_
      refine y_aload_n dX5_findOrder_105 rfl ?_
      refine y_getr 5 21 dX5_findOrder_106 rfl rfl hR.1 (r5_21 hR) ?_
      refine y_aload_n dX5_findOrder_109 rfl ?_
      refine y_getv 5 20 dX5_findOrder_110 rfl rfl hR.1 (show xuI I (R + 17) (gD X m k) 1 R 20 = nI l.length by rw [xuI_o (Or.inl (by omega))]; exact hb.1) ?_
      refine y_iload dX5_findOrder_113 rfl ?_
      refine y_iast (l.length) dX5_findOrder_115 (k5_21 hR) rfl (by omega) (by omega) ?_
      refine y_aload_n dX5_findOrder_116 rfl ?_
      refine y_dup dX5_findOrder_117 rfl ?_
      refine y_getv 5 20 dX5_findOrder_118 rfl rfl hR.1 (show xuI (xuI I (R + 17) (gD X m k) 1) (R + 16) l.length (nI (gD X m k)) R 20 = nI l.length by rw [xuI_o (Or.inl (by omega)), xuI_o (Or.inl (by omega))]; exact hb.1) ?_
      refine y_iconst (v := 1) dX5_findOrder_121 (by decide) ?_
      refine y_iaddv (nI (l.length + 1)) dX5_findOrder_122 (nI_add (l.length) (1)) ?_
      refine y_puti 5 20 dX5_findOrder_123 rfl rfl rfl hR.1 ?_
      have hf : xFo R I (xuI (xuI (xuI I (R + 17) (gD X m k) 1) (R + 16) l.length (nI (gD X m k))) R 20 (nI (l.length + 1))) := (xFo.u (Or.inr (Or.inl rfl))).tr ((xFo.u (Or.inl rfl)).tr (xFo.u (Or.inr (Or.inr ⟨rfl, rfl⟩))))
      refine y_iinc dX5_findOrder_126 rfl (fun x3 e_x3 => ?_)
      obtain rfl : x3 = nI (k + 1) := by rw [e_x3]; exact nI_1 (k)
      refine y_goto 62 dX5_findOrder_129 (by decide) ?_
      exact ih (k + 1) _ _ _ (hf.pg hA) (by omega) (xBF_add hb w5 hg hin) (fun I2 x4 v5' q1 q2 => k1 I2 x4 v5' (hf.tr q1) q2)
theorem kfo_out {d R : Nat} {X : xX} {Q : Option Value → xH → Prop} {K : Nat → Nat × Nat} {P : Nat → Nat → Option Nat} {n s : Nat} (hR : xAt K P R 5) {x1 : Int32} (hw : ∀ m, m < 12 → wfM X m) (hg : gC X ≤ 12) : ∀ (t p : Nat) (I : Nat → Nat → Int32) (l : List Nat) (v3 v4 v5 : Option Value), xPg I R X → p + t = 12 → p ≤ l.length → xBF X I R l → (∀ I' ls, xFo R I I' → xBF X I' R (sBfs X t p l) → xB d 5 cX5_findOrder none false Q 138 ls [] (K, I', P, n, s)) → xB d 5 cX5_findOrder none false Q 44 [some (.ref R), some (.int x1), some (.int (nI p)), v3, v4, v5] [] (K, I, P, n, s) := by
  intro t
  induction t with
  | zero =>
    intro p I l v3 v4 v5 hA hp hpl hb k1
    have hl := okl_len hb.2.2.2
    refine y_iload_n dX5_findOrder_44 rfl ?_
    refine y_aload_n dX5_findOrder_45 rfl ?_
    refine y_getv 5 20 dX5_findOrder_46 rfl rfl hR.1 hb.1 ?_
    refine y_icmpN_ge 138 (p) (l.length) dX5_findOrder_49 (by decide) rfl rfl (by omega) (by omega) (fun _ => ?_) (fun c49 => absurd c49 (by omega))
    exact k1 I _ xFo.rf hb
  | succ t ih =>
    intro p I l v3 v4 v5 hA hp hpl hb k1
    have hl := okl_len hb.2.2.2
    unfold sBfs at k1
    refine y_iload_n dX5_findOrder_44 rfl ?_
    refine y_aload_n dX5_findOrder_45 rfl ?_
    refine y_getv 5 20 dX5_findOrder_46 rfl rfl hR.1 hb.1 ?_
    refine y_icmpN_ge 138 (p) (l.length) dX5_findOrder_49 (by decide) rfl rfl (by omega) (by omega) (fun c49 => ?_) (fun c49 => ?_)
    · rw [List.getElem?_eq_none (by omega)] at k1
      exact k1 I _ xFo.rf hb
    · obtain ⟨q, hq⟩ : ∃ q, l[p]? = some q := ⟨_, List.getElem?_eq_getElem (by omega)⟩
      have hq2 := hb.2.2.2.2 q (List.mem_of_getElem? hq)
      rw [hq] at k1
      simp only at k1
      refine y_aload_n dX5_findOrder_52 rfl ?_
      refine y_getr 5 21 dX5_findOrder_53 rfl rfl hR.1 (r5_21 hR) ?_
      refine y_iload_n dX5_findOrder_56 rfl ?_
      refine y_ialdN (p) dX5_findOrder_57 (k5_21 hR) rfl (by omega) (by omega) (hb.2.1 p q hq) ?_
      refine y_istore_n dX5_findOrder_58 (by first | (simp; done) | (simp; decide)) (fun x1 e_x1 => ?_)
      subst e_x1
      refine y_iconst (v := nI 0) dX5_findOrder_59 (by decide) ?_
      refine y_istore dX5_findOrder_60 (by first | (simp; done) | (simp; decide)) (fun x2 e_x2 => ?_)
      subst e_x2
      refine kfo_in hR (by omega) (hw q (by omega)) hg _ 0 I l _ hA (Nat.zero_add _) hb (fun I2 x4 v5' f1 b1 => ?_)
      have hl2 := sAdds_len (X := X) (m := q) (gN X q) 0 l
      refine y_iinc dX5_findOrder_132 rfl (fun x3 e_x3 => ?_)
      obtain rfl : x3 = nI (p + 1) := by rw [e_x3]; exact nI_1 (p)
      refine y_goto 44 dX5_findOrder_135 (by decide) ?_
      exact ih (p + 1) I2 _ _ _ _ (f1.pg hA) (by omega) (by omega) b1 (fun I3 ls q1 q2 => k1 I3 ls (f1.tr q1) q2)
theorem kfo_met {d R : Nat} {X : xX} {Q : Option Value → xH → Prop} {K : Nat → Nat × Nat} {P : Nat → Nat → Option Nat} {n s : Nat} (hR : xAt K P R 5) {r : Nat} (hr : r < 12) : ∀ (t i : Nat) (I : Nat → Nat → Int32), i + t = 12 → (∀ q, q < i → I (R + 17) q = bI (decide (q ∈ [r]))) → (∀ I' y, xFo R I I' → (∀ q, q < 12 → I' (R + 17) q = bI (decide (q ∈ [r]))) → xB d 5 cX5_findOrder none false Q 30 [some (.ref R), some (.int (nI r)), some (.int y), none, none, none] [] (K, I', P, n, s)) → xB d 5 cX5_findOrder none false Q 2 [some (.ref R), some (.int (nI r)), some (.int (nI i)), none, none, none] [] (K, I, P, n, s) := by
  intro t
  induction t with
  | zero =>
    intro i I hi hq k1
    refine y_iload_n dX5_findOrder_2 rfl ?_
    refine y_bipush (v := 12) dX5_findOrder_3 (by decide) ?_
    refine y_icmpN_ge 30 (i) (12) dX5_findOrder_5 (by decide) rfl rfl (by omega) (by omega) (fun _ => ?_) (fun c5 => absurd c5 (by omega))
    exact k1 I _ xFo.rf (fun q h => hq q (by omega))
  | succ t ih =>
    intro i I hi hq k1
    refine y_iload_n dX5_findOrder_2 rfl ?_
    refine y_bipush (v := 12) dX5_findOrder_3 (by decide) ?_
    refine y_icmpN_ge 30 (i) (12) dX5_findOrder_5 (by decide) rfl rfl (by omega) (by omega) (fun c5 => absurd c5 (by omega)) (fun _ => ?_)
    refine y_aload_n dX5_findOrder_8 rfl ?_
    refine y_getr 5 22 dX5_findOrder_9 rfl rfl hR.1 (r5_22 hR) ?_
    refine y_iload_n dX5_findOrder_12 rfl ?_
    refine y_iload_n dX5_findOrder_13 rfl ?_
    refine y_iload_n dX5_findOrder_14 rfl ?_
    refine y_icmpN_ne 22 (i) (r) dX5_findOrder_15 (by decide) rfl rfl (by omega) (by omega) (fun c15 => ?_) (fun c15 => ?_)
    · refine y_iconst (v := 0) dX5_findOrder_22 (by decide) ?_
      refine y_bast (i) dX5_findOrder_23 (k5_22 hR) rfl (by omega) (by omega) (by decide) ?_
      refine y_iinc dX5_findOrder_24 rfl (fun x1 e_x1 => ?_)
      obtain rfl : x1 = nI (i + 1) := by rw [e_x1]; exact nI_1 (i)
      refine y_goto 2 dX5_findOrder_27 (by decide) ?_
      refine ih (i + 1) _ (by omega) (fun q h => ?_) (fun I2 y q1 q2 => k1 I2 y ((xFo.u (Or.inr (Or.inl rfl))).tr q1) q2)
      by_cases e : q = i
      · subst e
        rw [xuI_s, decide_eq_false (by simp; omega)]; rfl
      · rw [xuI_o (Or.inr e)]; exact hq q (by omega)
    · refine y_iconst (v := 1) dX5_findOrder_18 (by decide) ?_
      refine y_goto 23 dX5_findOrder_19 (by decide) ?_
      refine y_bast (i) dX5_findOrder_23 (k5_22 hR) rfl (by omega) (by omega) (by decide) ?_
      refine y_iinc dX5_findOrder_24 rfl (fun x2 e_x2 => ?_)
      obtain rfl : x2 = nI (i + 1) := by rw [e_x2]; exact nI_1 (i)
      refine y_goto 2 dX5_findOrder_27 (by decide) ?_
      refine ih (i + 1) _ (by omega) (fun q h => ?_) (fun I2 y q1 q2 => k1 I2 y ((xFo.u (Or.inr (Or.inl rfl))).tr q1) q2)
      by_cases e : q = i
      · subst e
        rw [xuI_s, decide_eq_true (by simp; omega)]; rfl
      · rw [xuI_o (Or.inr e)]; exact hq q (by omega)
theorem kfindOrder {d : Nat} {Pp : Option Value → xH → Prop} {K : Nat → Nat × Nat} {I : Nat → Nat → Int32} {P : Nat → Nat → Option Nat} {n s : Nat} {R r : Nat} {X : xX} (hR : xAt K P R 5) (hA : xPg I R X) (hw : ∀ m, m < 12 → wfM X m) (hg : gC X ≤ 12) (hr : r < gC X) (hp : ∀ I', xFo R I I' → xBF X I' R (sOrd X r) → Pp none (K, I', P, n, s)) : xC d mX5_findOrder [(.ref R), (.int (nI r))] (K, I, P, n, s) Pp := by
  refine y_met 0 0 ?_
  show xB d 5 cX5_findOrder none false (xE n s 0 0 Pp) 0 [some (.ref R), some (.int (nI r)), none, none, none, none] [] (K, I, P, n, s)
  refine y_iconst (v := nI 0) dX5_findOrder_0 (by decide) ?_
  refine y_istore_n dX5_findOrder_1 (by first | (simp; done) | (simp; decide)) (fun x1 e_x1 => ?_)
  subst e_x1
  refine kfo_met (X := X) hR (by omega) 12 0 I rfl (fun q h => absurd h (by omega)) (fun I2 y f1 g1 => ?_)
  refine y_aload_n dX5_findOrder_30 rfl ?_
  refine y_getr 5 21 dX5_findOrder_31 rfl rfl hR.1 (r5_21 hR) ?_
  refine y_iconst (v := nI 0) dX5_findOrder_34 (by decide) ?_
  refine y_iload_n dX5_findOrder_35 rfl ?_
  refine y_iast (0) dX5_findOrder_36 (k5_21 hR) rfl (by omega) (by omega) ?_
  refine y_aload_n dX5_findOrder_37 rfl ?_
  refine y_iconst (v := 1) dX5_findOrder_38 (by decide) ?_
  refine y_puti 5 20 dX5_findOrder_39 rfl rfl rfl hR.1 ?_
  refine y_iconst (v := nI 0) dX5_findOrder_42 (by decide) ?_
  refine y_istore_n dX5_findOrder_43 (by first | (simp; done) | (simp; decide)) (fun x2 e_x2 => ?_)
  subst e_x2
  have f2 : xFo R I (xuI (xuI I2 (R + 16) 0 (nI r)) R 20 1) := f1.tr ((xFo.u (Or.inl rfl)).tr (xFo.u (Or.inr (Or.inr ⟨rfl, rfl⟩))))
  refine kfo_out hR hw hg 12 0 _ [r] _ _ _ (f2.pg hA) rfl (Nat.zero_le _) ⟨by rw [xuI_s]; rfl, fun p q h => ?_, fun q h => ?_, ⟨by simp, fun q h => by rw [List.mem_singleton.mp h]; exact hr⟩⟩ (fun I3 ls q1 q2 => y_retv dX5_findOrder_138 rfl rfl (hp I3 (f2.tr q1) q2))
  · rw [xuI_o (Or.inl (by omega))]
    cases p with
    | zero => simp at h; subst h; exact xuI_s
    | succ p => simp at h
  · rw [xuI_o (Or.inl (by omega)), xuI_o (Or.inl (by omega))]; exact g1 q h
end
section
/-- rows and fields of the reference that may change -/
def xF (R : Nat) (rows flds : List Nat) (I I' : Nat → Nat → Int32) : Prop := ∀ a j, (∀ i ∈ rows, a ≠ R + i) → (a = R → j ∉ flds) → I' a j = I a j
section XF
variable {R : Nat} {rows flds : List Nat} {I I' I2 : Nat → Nat → Int32}
theorem xF.rf : xF R rows flds I I := fun _ _ _ _ => rfl
theorem xF.tr (h : xF R rows flds I I') (h2 : xF R rows flds I' I2) : xF R rows flds I I2 := fun a j p q => (h2 a j p q).trans (h a j p q)
theorem xF.mono {rows' flds' : List Nat} (h : xF R rows flds I I') (hr : ∀ i ∈ rows, i ∈ rows') (hf : ∀ i ∈ flds, i ∈ flds') : xF R rows' flds' I I' := fun a j p q => h a j (fun i hi => p i (hr i hi)) (fun e hj => q e (hf j hj))
theorem xF.u (i : Nat) {j : Nat} {x : Int32} (h : i ∈ rows) : xF R rows flds I (xuI I (R + i) j x) := fun a k p _ => xuI_o (Or.inl (p i h))
theorem xF.f (k : Nat) {x : Int32} (h : k ∈ flds) : xF R rows flds I (xuI I R k x) := fun a j _ q => xuI_o (by
  by_cases e : a = R
  · exact Or.inr (fun ej => q e (ej ▸ h))
  · exact Or.inl e)
theorem xF.row (h : xF R rows flds I I') (i : Nat) (hi : i ∉ rows) (h0 : i ≠ 0) : I' (R + i) = I (R + i) := by
  funext j
  exact h (R + i) j (fun k hk e => hi (by rw [show i = k by omega]; exact hk)) (fun e => absurd e (by omega))
theorem xF.fld (h : xF R rows flds I I') (k : Nat) (hk : k ∉ flds) (h0 : 0 ∉ rows) : I' R k = I R k := h R k (fun i hi e => h0 (by rw [show 0 = i by omega]; exact hi)) (fun _ => hk)
theorem xF.pg {X : xX} (h : xF R rows flds I I') (hA : xPg I R X) (hr : ∀ i ∈ rows, 11 < i) : xPg I' R X := fun i h1 h2 => by
  rw [h.row i (fun hi => absurd (hr i hi) (by omega)) (by omega)]
  exact hA i h1 h2
theorem xFo.F (h : xFo R I I') : xF R [16, 17] [20] I I' := fun a j p q => h a j (p 16 (by decide)) (p 17 (by decide)) (by
  by_cases e : a = R
  · exact Or.inr (fun ej => q e (by rw [ej]; decide))
  · exact Or.inl e)
end XF
theorem xHl_F {R a i : Nat} {rows flds : List Nat} {I I' : Nat → Nat → Int32} {l : List Nat} (h : xHl I (R + i) l) (f : xF R rows flds I I') (hi : i ∉ rows) (h0 : i ≠ 0) : xHl I' (R + i) l := fun p m hp => by rw [f.row i hi h0]; exact h p m hp
/-- the rest of a search in depth: its stack, and what it has met and begun -/
def sRun (X : xX) : List (Nat × Nat) → List Nat × List Nat → List Nat × List Nat
  | [], z => z
  | (m, k) :: r, z => sRun X r ((sLp (sDfs X (11 - r.length)) X m (gN X m - k) k z).1, (sLp (sDfs X (11 - r.length)) X m (gN X m - k) k z).2 ++ [m])
def xSk (I : Nat → Nat → Int32) (R : Nat) : List (Nat × Nat) → Prop
  | [] => True
  | (m, k) :: r => I (R + 18) r.length = nI m ∧ I (R + 19) r.length = nI k ∧ xSk I R r
theorem xSk_put {I : Nat → Nat → Int32} {R a i : Nat} {x : Int32} : ∀ {r : List (Nat × Nat)}, xSk I R r → (r.length ≤ i ∨ (a ≠ R + 18 ∧ a ≠ R + 19)) → xSk (xuI I a i x) R r
  | [], _, _ => trivial
  | (m, k) :: r, h, hi => by
    obtain ⟨h1, h2, h3⟩ := h
    have hi2 : ∀ b, b = R + 18 ∨ b = R + 19 → b ≠ a ∨ r.length ≠ i := fun b hb => by
      rcases hi with z | ⟨z1, z2⟩
      · exact Or.inr (by simp only [List.length_cons] at z; omega)
      · exact Or.inl (by omega)
    refine ⟨by rw [xuI_o (hi2 _ (Or.inl rfl))]; exact h1, by rw [xuI_o (hi2 _ (Or.inr rfl))]; exact h2, xSk_put h3 ?_⟩
    rcases hi with z | z
    · exact Or.inl (by simp only [List.length_cons] at z; omega)
    · exact Or.inr z
/-- the depth search stands here -/
def xDF (X : xX) (I : Nat → Nat → Int32) (R : Nat) (stk : List (Nat × Nat)) (z : List Nat × List Nat) : Prop := xSk I R stk ∧ (∀ q ∈ stk, q.1 < gC X ∧ q.2 ≤ gN X q.1) ∧ (∀ q, q < 12 → I (R + 17) q = bI (decide (q ∈ z.1))) ∧ okl (gC X) z.1 ∧ xHl I (R + 13) z.2 ∧ z.2.length + stk.length = z.1.length
def sMu (X : xX) (stk : List (Nat × Nat)) (z : List Nat × List Nat) : Nat := 8 * (12 - z.1.length) + (stk.map (fun q => gN X q.1 - q.2 + 1)).sum
theorem sDfs_in {X : xX} {f m : Nat} {z : List Nat × List Nat} (h : m ∈ z.1) : sDfs X f m z = z := by
  cases f with
  | zero => rfl
  | succ f => exact if_pos h
theorem sDfs_out {X : xX} {f m : Nat} {z : List Nat × List Nat} (h : m ∉ z.1) : sDfs X (f + 1) m z = ((sLp (sDfs X f) X m (gN X m) 0 (z.1 ++ [m], z.2)).1, (sLp (sDfs X f) X m (gN X m) 0 (z.1 ++ [m], z.2)).2 ++ [m]) := if_neg h
set_option maxHeartbeats 1000000 in
theorem kfb_loop {d R : Nat} {X : xX} {Q : Option Value → xH → Prop} {K : Nat → Nat × Nat} {P : Nat → Nat → Option Nat} {n s : Nat} (hR : xAt K P R 5) (hw : ∀ m, m < 12 → wfM X m) (hg : gC X ≤ 12) : ∀ (T : Nat) (stk : List (Nat × Nat)) (z : List Nat × List Nat) (I : Nat → Nat → Int32) (v3 v4 v5 : Option Value), sMu X stk z < T → xPg I R X → xDF X I R stk z → (∀ I' ls, xF R [13, 17, 18, 19] [] I I' → xHl I' (R + 13) (sRun X stk z).2 → okl (gC X) (sRun X stk z).1 → (sRun X stk z).2.length = (sRun X stk z).1.length → xB d 5 cX5_findBegun none false Q 179 ls [] (K, I', P, n, s)) → xB d 5 cX5_findBegun none false Q 54 [some (.ref R), some (.int (nI z.2.length)), some (.int (nI stk.length)), v3, v4, v5] [] (K, I, P, n, s) := by
  intro T
  induction T with
  | zero =>
    intro stk z I v3 v4 v5 h
    exact absurd h (Nat.not_lt_zero _)
  | succ T ih =>
    intro stk z I v3 v4 v5 hT hA hb k1
    obtain ⟨b1, b2, b3, b4, b5, b6⟩ := hb
    have hzl := okl_len b4
    cases stk with
    | nil =>
      refine y_iload_n dX5_findBegun_54 rfl ?_
      refine y_ifZ_le 179 ((0 : Int)) dX5_findBegun_55 (by decide) (by rfl) (fun _ => ?_) (fun c55 => absurd c55 (by omega))
      exact k1 I _ xF.rf b5 b4 (by simpa [sRun] using b6)
    | cons top r =>
      obtain ⟨m, k⟩ := top
      obtain ⟨b11, b12, b13⟩ := b1
      obtain ⟨hm, hk⟩ := b2 (m, k) List.mem_cons_self
      simp only at hm hk
      obtain ⟨⟨w1, w2⟩, w3, -⟩ := hw m (by omega)
      have hlen : ((m, k) :: r).length = r.length + 1 := rfl
      simp only [List.length_cons] at b6
      unfold sRun at k1
      refine y_iload_n dX5_findBegun_54 rfl ?_
      refine y_ifZ_le 179 (((r.length + 1 : Nat) : Int)) dX5_findBegun_55 (by decide) (nI_toInt (by omega)) (fun c55 => absurd c55 (by omega)) (fun _ => ?_)
      refine y_aload_n dX5_findBegun_58 rfl ?_
      refine y_getr 5 23 dX5_findBegun_59 rfl rfl hR.1 (r5_23 hR) ?_
      refine y_iload_n dX5_findBegun_62 rfl ?_
      refine y_iconst (v := 1) dX5_findBegun_63 (by decide) ?_
      refine y_isubv ((nI r.length)) dX5_findBegun_64 (nI_pred r.length) ?_
      refine y_ialdN (r.length) dX5_findBegun_65 (k5_23 hR) rfl (by omega) (by omega) b11 ?_
      refine y_istore_n dX5_findBegun_66 (by first | (simp; done) | (simp; decide)) (fun x1 e_x1 => ?_)
      subst e_x1
      refine y_aload_n dX5_findBegun_67 rfl ?_
      refine y_getr 5 24 dX5_findBegun_68 rfl rfl hR.1 (r5_24 hR) ?_
      refine y_iload_n dX5_findBegun_71 rfl ?_
      refine y_iconst (v := 1) dX5_findBegun_72 (by decide) ?_
      refine y_isubv ((nI r.length)) dX5_findBegun_73 (nI_pred r.length) ?_
      refine y_ialdN (r.length) dX5_findBegun_74 (k5_24 hR) rfl (by omega) (by omega) b12 ?_
      refine y_istore dX5_findBegun_75 (by first | (simp; done) | (simp; decide)) (fun x2 e_x2 => ?_)
      subst e_x2
      refine y_aload_n dX5_findBegun_77 rfl ?_
      refine y_getr 5 24 dX5_findBegun_78 rfl rfl hR.1 (r5_24 hR) ?_
      refine y_iload_n dX5_findBegun_81 rfl ?_
      refine y_iconst (v := 1) dX5_findBegun_82 (by decide) ?_
      refine y_isubv ((nI r.length)) dX5_findBegun_83 (nI_pred r.length) ?_
      refine y_dup2 dX5_findBegun_84 rfl rfl ?_
      refine y_ialdN (r.length) dX5_findBegun_85 (k5_24 hR) rfl (by omega) (by omega) b12 ?_
      refine y_iconst (v := 1) dX5_findBegun_86 (by decide) ?_
      refine y_iaddv (nI (k + 1)) dX5_findBegun_87 (nI_add (k) (1)) ?_
      refine y_iast (r.length) dX5_findBegun_88 (k5_24 hR) rfl (by omega) (by omega) ?_
      have hf1 : xF R [13, 17, 18, 19] [] I (xuI I (R + 19) r.length (nI (k + 1))) := xF.u 19 (by decide)
      have hA1 := hf1.pg hA (by decide)
      refine y_iload dX5_findBegun_89 rfl ?_
      refine y_aload_n dX5_findBegun_91 rfl ?_
      refine y_getr 5 2 dX5_findBegun_92 rfl rfl hR.1 (r5_2 hR) ?_
      refine y_iload_n dX5_findBegun_95 rfl ?_
      refine y_ialdN (m) dX5_findBegun_96 (k5_2 hR) rfl (by omega) (by omega) ((congrFun (hA1 2 (by decide) (by decide)) m).trans w1) ?_
      refine y_icmpN_ne 116 (k) ((gN X m)) dX5_findBegun_97 (by decide) rfl rfl (by omega) (by omega) (fun c97 => ?_) (fun c97 => ?_)
      · have hk2 : k < gN X m := by omega
        obtain ⟨w4, w5⟩ := w3 k hk2
        rw [show gN X m - k = (gN X m - (k + 1)) + 1 by omega] at k1
        unfold sLp at k1
        have hneed := (congrFun (hA1 1 (by decide) (by decide)) (6 * m + k)).trans w4
        by_cases hin : gD X m k ∈ z.1
        · rw [show sDfs X (11 - r.length) (gD X m k) z = z from sDfs_in hin] at k1
          refine y_aload_n dX5_findBegun_116 rfl ?_
          refine y_getr 5 22 dX5_findBegun_117 rfl rfl hR.1 (r5_22 hR) ?_
          refine y_aload_n dX5_findBegun_120 rfl ?_
          refine y_getr 5 1 dX5_findBegun_121 rfl rfl hR.1 (r5_1 hR) ?_
          refine y_bipush (v := 6) dX5_findBegun_124 (by decide) ?_
          refine y_iload_n dX5_findBegun_126 rfl ?_
          refine y_imulv (nI (6 * m)) dX5_findBegun_127 (pk_mul (6) (m)) ?_
          refine y_iload dX5_findBegun_128 rfl ?_
          refine y_iaddv (nI (((6 * m)) + k)) dX5_findBegun_130 (nI_add ((6 * m)) (k)) ?_
          refine y_ialdN ((((6 * m)) + k)) dX5_findBegun_131 (k5_1 hR) rfl (by omega) (by omega) hneed ?_
          refine y_baldN ((gD X m k)) dX5_findBegun_132 (k5_22 hR) rfl (by omega) (by omega) (show (xuI I (R + 19) r.length (nI (k + 1))) (R + 17) (gD X m k) = 1 by rw [xuI_o (Or.inl (by omega)), b3 _ (by omega), decide_eq_true hin]; rfl) ?_
          refine y_if_ne 176 dX5_findBegun_133 (by decide) (fun _ => ?_) (fun q => absurd q (by decide))
          refine y_goto 54 dX5_findBegun_176 (by decide) ?_
          refine ih ((m, k + 1) :: r) z _ _ _ _ (by simp only [sMu, List.map_cons, List.sum_cons] at hT ⊢; omega) hA1 ⟨⟨by rw [xuI_o (Or.inl (by omega))]; exact b11, xuI_s, xSk_put b13 (Or.inl (Nat.le_refl _))⟩, fun q hq => ?_, fun q hq => ?_, b4, xHl_put b5 (Or.inl (by omega)), b6⟩ (fun I2 ls q1 q2 q3 q4 => k1 I2 ls (hf1.tr q1) q2 q3 q4)
          · rcases List.mem_cons.mp hq with rfl | hq
            · exact ⟨hm, hk2⟩
            · exact b2 q (List.mem_cons_of_mem _ hq)
          · rw [xuI_o (Or.inl (by omega))]; exact b3 q hq
        · have hl := okl_len (okl_add b4 w5 hin)
          rw [List.length_append] at hl
          simp only [List.length_cons, List.length_nil] at hl
          have hdo := sDfs_out (X := X) (f := 11 - (r.length + 1)) hin
          rw [show 11 - (r.length + 1) + 1 = 11 - r.length by omega] at hdo
          rw [hdo] at k1
          refine y_aload_n dX5_findBegun_116 rfl ?_
          refine y_getr 5 22 dX5_findBegun_117 rfl rfl hR.1 (r5_22 hR) ?_
          refine y_aload_n dX5_findBegun_120 rfl ?_
          refine y_getr 5 1 dX5_findBegun_121 rfl rfl hR.1 (r5_1 hR) ?_
          refine y_bipush (v := 6) dX5_findBegun_124 (by decide) ?_
          refine y_iload_n dX5_findBegun_126 rfl ?_
          refine y_imulv (nI (6 * m)) dX5_findBegun_127 (pk_mul (6) (m)) ?_
          refine y_iload dX5_findBegun_128 rfl ?_
          refine y_iaddv (nI (((6 * m)) + k)) dX5_findBegun_130 (nI_add ((6 * m)) (k)) ?_
          refine y_ialdN ((((6 * m)) + k)) dX5_findBegun_131 (k5_1 hR) rfl (by omega) (by omega) hneed ?_
          refine y_baldN ((gD X m k)) dX5_findBegun_132 (k5_22 hR) rfl (by omega) (by omega) (show (xuI I (R + 19) r.length (nI (k + 1))) (R + 17) (gD X m k) = 0 by rw [xuI_o (Or.inl (by omega)), b3 _ (by omega), decide_eq_false hin]; rfl) ?_
          refine y_if_ne 176 dX5_findBegun_133 (by decide) (fun q => absurd q (by decide)) (fun _ => ?_)
          refine y_aload_n dX5_findBegun_136 rfl ?_
          refine y_getr 5 1 dX5_findBegun_137 rfl rfl hR.1 (r5_1 hR) ?_
          refine y_bipush (v := 6) dX5_findBegun_140 (by decide) ?_
          refine y_iload_n dX5_findBegun_142 rfl ?_
          refine y_imulv (nI (6 * m)) dX5_findBegun_143 (pk_mul (6) (m)) ?_
          refine y_iload dX5_findBegun_144 rfl ?_
          refine y_iaddv (nI (((6 * m)) + k)) dX5_findBegun_146 (nI_add ((6 * m)) (k)) ?_
          refine y_ialdN ((((6 * m)) + k)) dX5_findBegun_147 (k5_1 hR) rfl (by omega) (by omega) hneed ?_
          refine y_istore dX5_findBegun_148 (by first | (simp; done) | (simp; decide)) (fun x3 e_x3 => ?_)
          subst e_x3
          refine y_aload_n dX5_findBegun_150 rfl ?_
          refine y_getr 5 22 dX5_findBegun_151 rfl rfl hR.1 (r5_22 hR) ?_
          refine y_iload dX5_findBegun_154 rfl ?_
          refine y_iconst (v := 1) dX5_findBegun_156 (by decide) ?_
          refine y_bast ((gD X m k)) dX5_findBegun_157 (k5_22 hR) rfl (by omega) (by omega) (by decide) ?_
          refine y_aload_n dX5_findBegun_158 rfl ?_
          refine y_getr 5 23 dX5_findBegun_159 rfl rfl hR.1 (r5_23 hR) ?_
          refine y_iload_n dX5_findBegun_162 rfl ?_
          refine y_iload dX5_findBegun_163 rfl ?_
          refine y_iast ((r.length + 1)) dX5_findBegun_165 (k5_23 hR) rfl (by omega) (by omega) ?_
          refine y_aload_n dX5_findBegun_166 rfl ?_
          refine y_getr 5 24 dX5_findBegun_167 rfl rfl hR.1 (r5_24 hR) ?_
          refine y_iload_n dX5_findBegun_170 rfl ?_
          refine y_iconst (v := 0) dX5_findBegun_171 (by decide) ?_
          refine y_iast ((r.length + 1)) dX5_findBegun_172 (k5_24 hR) rfl (by omega) (by omega) ?_
          have hf : xF R [13, 17, 18, 19] [] I (xuI (xuI (xuI (xuI I (R + 19) r.length (nI (k + 1))) (R + 17) (gD X m k) 1) (R + 18) (r.length + 1) (nI (gD X m k))) (R + 19) (r.length + 1) 0) := hf1.tr ((xF.u 17 (by decide)).tr ((xF.u 18 (by decide)).tr (xF.u 19 (by decide))))
          refine y_iinc dX5_findBegun_173 rfl (fun x4 e_x4 => ?_)
          obtain rfl : x4 = nI ((r.length + 1) + 1) := by rw [e_x4]; exact nI_1 ((r.length + 1))
          refine y_goto 54 dX5_findBegun_176 (by decide) ?_
          have hgo := (hw (gD X m k) (by omega)).1.2
          refine ih ((gD X m k, 0) :: (m, k + 1) :: r) (z.1 ++ [gD X m k], z.2) _ _ _ _ (by simp only [sMu, List.map_cons, List.sum_cons, List.length_append, List.length_cons, List.length_nil] at hT ⊢; omega) (hf.pg hA (by decide)) ⟨⟨by rw [xuI_o (Or.inl (by omega))]; exact xuI_s, xuI_s, by rw [xuI_o (Or.inl (by omega)), xuI_o (Or.inr (by simp)), xuI_o (Or.inl (by omega)), xuI_o (Or.inl (by omega))]; exact b11, by rw [xuI_o (Or.inr (by simp)), xuI_o (Or.inl (by omega)), xuI_o (Or.inl (by omega))]; exact xuI_s, xSk_put (xSk_put (xSk_put (xSk_put b13 (Or.inl (Nat.le_refl _))) (Or.inr ⟨by omega, by omega⟩)) (Or.inl (by simp))) (Or.inl (by simp))⟩, fun q hq => ?_, fun q hq => ?_, okl_add b4 w5 hin, xHl_put (xHl_put (xHl_put (xHl_put b5 (Or.inl (by omega))) (Or.inl (by omega))) (Or.inl (by omega))) (Or.inl (by omega)), by simp only [List.length_append, List.length_cons, List.length_nil]; omega⟩ (fun I2 ls q1 q2 q3 q4 => k1 I2 ls (hf.tr q1) q2 q3 q4)
          · rcases List.mem_cons.mp hq with rfl | hq
            · exact ⟨w5, Nat.zero_le _⟩
            · rcases List.mem_cons.mp hq with rfl | hq
              · exact ⟨hm, hk2⟩
              · exact b2 q (List.mem_cons_of_mem _ hq)
          · rw [xuI_o (Or.inl (by omega)), xuI_o (Or.inl (by omega))]
            by_cases e : q = gD X m k
            · subst e
              rw [xuI_s, decide_eq_true (by simp)]; rfl
            · rw [xuI_o (Or.inr e), xuI_o (Or.inl (by omega)), b3 q hq]
              congr 1
              simp [e]
      · refine y_aload_n dX5_findBegun_100 rfl ?_
        refine y_getr 5 17 dX5_findBegun_101 rfl rfl hR.1 (r5_17 hR) ?_
        refine y_iload_n dX5_findBegun_104 rfl ?_
        refine y_iload_n dX5_findBegun_105 rfl ?_
        refine y_iast (z.2.length) dX5_findBegun_106 (k5_17 hR) rfl (by omega) (by omega) ?_
        have hf : xF R [13, 17, 18, 19] [] I (xuI (xuI I (R + 19) r.length (nI (k + 1))) (R + 13) z.2.length (nI m)) := hf1.tr (xF.u 13 (by decide))
        refine y_iinc dX5_findBegun_107 rfl (fun x5 e_x5 => ?_)
        obtain rfl : x5 = nI (z.2.length + 1) := by rw [e_x5]; exact nI_1 (z.2.length)
        refine y_iinc dX5_findBegun_110 rfl (fun y2 e_y2 => ?_)
        refine y_goto 176 dX5_findBegun_113 (by decide) ?_
        refine y_goto 54 dX5_findBegun_176 (by decide) ?_
        obtain rfl : y2 = nI r.length := by rw [e_y2]; exact pk_m1 r.length
        subst c97
        rw [Nat.sub_self] at k1
        have e13 : z.2.length + 1 = (z.2 ++ [m]).length := by simp
        rw [e13]
        refine ih r (z.1, z.2 ++ [m]) _ _ _ _ (by simp only [sMu, List.map_cons, List.sum_cons] at hT ⊢; omega) (hf.pg hA (by decide)) ⟨xSk_put (xSk_put b13 (Or.inl (Nat.le_refl _))) (Or.inr ⟨by omega, by omega⟩), fun q hq => b2 q (List.mem_cons_of_mem _ hq), fun q hq => ?_, b4, ?_, by simp only [List.length_append, List.length_cons, List.length_nil]; omega⟩ (fun I2 ls q1 q2 q3 q4 => k1 I2 ls (hf.tr q1) q2 q3 q4)
        · rw [xuI_o (Or.inl (by omega)), xuI_o (Or.inl (by omega))]; exact b3 q hq
        · exact xHl_add (xHl_put (xHl_put b5 (Or.inl (by omega))) (Or.inr (Nat.le_refl _))) xuI_s
theorem kfb_met {d R : Nat} {Q : Option Value → xH → Prop} {K : Nat → Nat × Nat} {P : Nat → Nat → Option Nat} {n s : Nat} (hR : xAt K P R 5) {r : Nat} (hr : r < 12) : ∀ (t i : Nat) (I : Nat → Nat → Int32), i + t = 12 → I R 14 = nI r → (∀ q, q < i → I (R + 17) q = bI (decide (q ∈ [r]))) → (∀ I' y, xF R [13, 17, 18, 19] [] I I' → (∀ q, q < 12 → I' (R + 17) q = bI (decide (q ∈ [r]))) → xB d 5 cX5_findBegun none false Q 35 [some (.ref R), some (.int (nI 0)), some (.int y), none, none, none] [] (K, I', P, n, s)) → xB d 5 cX5_findBegun none false Q 4 [some (.ref R), some (.int (nI 0)), some (.int (nI i)), none, none, none] [] (K, I, P, n, s) := by
  intro t
  induction t with
  | zero =>
    intro i I hi h14 hq k1
    refine y_iload_n dX5_findBegun_4 rfl ?_
    refine y_bipush (v := 12) dX5_findBegun_5 (by decide) ?_
    refine y_icmpN_ge 35 (i) (12) dX5_findBegun_7 (by decide) rfl rfl (by omega) (by omega) (fun _ => ?_) (fun c7 => absurd c7 (by omega))
    exact k1 I _ xF.rf (fun q h => hq q (by omega))
  | succ t ih =>
    intro i I hi h14 hq k1
    refine y_iload_n dX5_findBegun_4 rfl ?_
    refine y_bipush (v := 12) dX5_findBegun_5 (by decide) ?_
    refine y_icmpN_ge 35 (i) (12) dX5_findBegun_7 (by decide) rfl rfl (by omega) (by omega) (fun c7 => absurd c7 (by omega)) (fun _ => ?_)
    refine y_aload_n dX5_findBegun_10 rfl ?_
    refine y_getr 5 22 dX5_findBegun_11 rfl rfl hR.1 (r5_22 hR) ?_
    refine y_iload_n dX5_findBegun_14 rfl ?_
    refine y_iload_n dX5_findBegun_15 rfl ?_
    refine y_aload_n dX5_findBegun_16 rfl ?_
    refine y_getv 5 14 dX5_findBegun_17 rfl rfl hR.1 h14 ?_
    refine y_icmpN_ne 27 (i) (r) dX5_findBegun_20 (by decide) rfl rfl (by omega) (by omega) (fun c20 => ?_) (fun c20 => ?_)
    · refine y_iconst (v := 0) dX5_findBegun_27 (by decide) ?_
      refine y_bast (i) dX5_findBegun_28 (k5_22 hR) rfl (by omega) (by omega) (by decide) ?_
      refine y_iinc dX5_findBegun_29 rfl (fun x1 e_x1 => ?_)
      obtain rfl : x1 = nI (i + 1) := by rw [e_x1]; exact nI_1 (i)
      refine y_goto 4 dX5_findBegun_32 (by decide) ?_
      refine ih (i + 1) _ (by omega) (by rw [xuI_o (Or.inl (by omega))]; exact h14) (fun q h => ?_) (fun I2 y q1 q2 => k1 I2 y ((xF.u 17 (by decide)).tr q1) q2)
      by_cases e : q = i
      · subst e
        rw [xuI_s, decide_eq_false (by simp; omega)]; rfl
      · rw [xuI_o (Or.inr e)]; exact hq q (by omega)
    · refine y_iconst (v := 1) dX5_findBegun_23 (by decide) ?_
      refine y_goto 28 dX5_findBegun_24 (by decide) ?_
      refine y_bast (i) dX5_findBegun_28 (k5_22 hR) rfl (by omega) (by omega) (by decide) ?_
      refine y_iinc dX5_findBegun_29 rfl (fun x2 e_x2 => ?_)
      obtain rfl : x2 = nI (i + 1) := by rw [e_x2]; exact nI_1 (i)
      refine y_goto 4 dX5_findBegun_32 (by decide) ?_
      refine ih (i + 1) _ (by omega) (by rw [xuI_o (Or.inl (by omega))]; exact h14) (fun q h => ?_) (fun I2 y q1 q2 => k1 I2 y ((xF.u 17 (by decide)).tr q1) q2)
      by_cases e : q = i
      · subst e
        rw [xuI_s, decide_eq_true (by simp; omega)]; rfl
      · rw [xuI_o (Or.inr e)]; exact hq q (by omega)
theorem kfindBegun {d : Nat} {Pp : Option Value → xH → Prop} {K : Nat → Nat × Nat} {I : Nat → Nat → Int32} {P : Nat → Nat → Option Nat} {n s : Nat} {R r : Nat} {X : xX} (hR : xAt K P R 5) (hA : xPg I R X) (hw : ∀ m, m < 12 → wfM X m) (hg : gC X ≤ 12) (hr : r < gC X) (h14 : I R 14 = nI r) (hp : ∀ I', xF R [13, 17, 18, 19] [] I I' → xHl I' (R + 13) (sBeg X r) → okl (gC X) (sDfs X 12 r ([], [])).1 → (sBeg X r).length = (sDfs X 12 r ([], [])).1.length → Pp none (K, I', P, n, s)) : xC d mX5_findBegun [(.ref R)] (K, I, P, n, s) Pp := by
  refine y_met 0 0 ?_
  show xB d 5 cX5_findBegun none false (xE n s 0 0 Pp) 0 [some (.ref R), none, none, none, none, none] [] (K, I, P, n, s)
  refine y_iconst (v := nI 0) dX5_findBegun_0 (by decide) ?_
  refine y_istore_n dX5_findBegun_1 (by first | (simp; done) | (simp; decide)) (fun x1 e_x1 => ?_)
  subst e_x1
  refine y_iconst (v := nI 0) dX5_findBegun_2 (by decide) ?_
  refine y_istore_n dX5_findBegun_3 (by first | (simp; done) | (simp; decide)) (fun x2 e_x2 => ?_)
  subst e_x2
  refine kfb_met hR (by omega) 12 0 I rfl h14 (fun q h => absurd h (by omega)) (fun I2 y f1 g1 => ?_)
  have h14b : I2 R 14 = nI r := (f1.fld 14 (by decide) (by decide)).trans h14
  refine y_iconst (v := nI 1) dX5_findBegun_35 (by decide) ?_
  refine y_istore_n dX5_findBegun_36 (by first | (simp; done) | (simp; decide)) (fun x3 e_x3 => ?_)
  subst e_x3
  refine y_aload_n dX5_findBegun_37 rfl ?_
  refine y_getr 5 23 dX5_findBegun_38 rfl rfl hR.1 (r5_23 hR) ?_
  refine y_iconst (v := nI 0) dX5_findBegun_41 (by decide) ?_
  refine y_aload_n dX5_findBegun_42 rfl ?_
  refine y_getv 5 14 dX5_findBegun_43 rfl rfl hR.1 h14b ?_
  refine y_iast (0) dX5_findBegun_46 (k5_23 hR) rfl (by omega) (by omega) ?_
  refine y_aload_n dX5_findBegun_47 rfl ?_
  refine y_getr 5 24 dX5_findBegun_48 rfl rfl hR.1 (r5_24 hR) ?_
  refine y_iconst (v := nI 0) dX5_findBegun_51 (by decide) ?_
  refine y_iconst (v := 0) dX5_findBegun_52 (by decide) ?_
  refine y_iast (0) dX5_findBegun_53 (k5_24 hR) rfl (by omega) (by omega) ?_
  have f2 : xF R [13, 17, 18, 19] [] I (xuI (xuI I2 (R + 18) 0 (nI r)) (R + 19) 0 0) := f1.tr ((xF.u 18 (by decide)).tr (xF.u 19 (by decide)))
  have e0 : sRun X [(r, 0)] ([r], []) = sDfs X 12 r ([], []) := by rw [sDfs_out (f := 11) (m := r) (z := ([], [])) List.not_mem_nil]; rfl
  refine kfb_loop hR hw hg _ [(r, 0)] ([r], []) _ _ _ _ (Nat.lt_succ_self _) (f2.pg hA (by decide)) ⟨⟨by rw [xuI_o (Or.inl (by omega))]; exact xuI_s, xuI_s, trivial⟩, fun q h => by rw [List.mem_singleton.mp h]; exact ⟨hr, Nat.zero_le _⟩, fun q h => ?_, ⟨by simp, fun q h => by rw [List.mem_singleton.mp h]; exact hr⟩, fun p q h => by simp at h, rfl⟩ (fun I3 ls q1 q2 q3 q4 => ?_)
  · rw [xuI_o (Or.inl (by omega)), xuI_o (Or.inl (by omega))]; exact g1 q h
  · rw [e0] at q2 q3 q4
    exact y_retv dX5_findBegun_179 rfl rfl (hp I3 (f2.tr q1) q2 q3 q4)
end
section
/-- a slot as loaded -/
def sSl (X : xX) (ord : List Nat) (lz : Bool) (m v : Nat) : Int32 := if sUC X m (nI v) (gS X m) 0 = true then (if lz = true then 21 else oM (sFi X ord m (nI v))) else -1
theorem sUse_val {X : xX} {ord : List Nat} {m : Nat} {x : Int32} {fn : Bool} : sUse X ord m x fn = 0 ∨ sUse X ord m x fn = 1 ∨ sUse X ord m x fn = 2 := by
  unfold sUse
  split
  · split
    · exact Or.inr (Or.inl rfl)
    · exact Or.inl rfl
  · split
    · exact Or.inl rfl
    · exact Or.inr (Or.inr rfl)
theorem sLkS_val {X : xX} {ord : List Nat} {m : Nat} : ∀ (t k : Nat), (sLkS X ord m t k).1 = 0 ∨ (sLkS X ord m t k).1 = 1 ∨ (sLkS X ord m t k).1 = 2
  | 0, _ => Or.inl rfl
  | t + 1, k => by
    unfold sLkS
    split
    · split
      · exact sLkS_val t (k + 1)
      · exact sUse_val
    · exact sLkS_val t (k + 1)
theorem sLk_val {X : xX} {ord : List Nat} {m : Nat} : (sLk X ord m).1 = 0 ∨ (sLk X ord m).1 = 1 ∨ (sLk X ord m).1 = 2 := by
  unfold sLk
  split
  · exact sLkS_val _ _
  · split
    · exact sLkS_val _ _
    · exact sUse_val
theorem take_mem {l : List Nat} {p q : Nat} (h : l[p]? = some q) (m : Nat) : m ∈ l.take (p + 1) ↔ m ∈ l.take p ∨ m = q := by
  rw [List.take_add_one, h]
  simp
theorem ksa_1 {d R : Nat} {Q : Option Value → xH → Prop} {K : Nat → Nat × Nat} {P : Nat → Nat → Option Nat} {n s : Nat} (hR : xAt K P R 5) : ∀ (t i : Nat) (I : Nat → Nat → Int32), i + t = 768 → (∀ q, q < i → I (R + 14) q = -1) → (∀ I' y, xF R [14, 15] [] I I' → (∀ q, q < 768 → I' (R + 14) q = -1) → xB d 5 cX5_setAll none false Q 22 [some (.ref R), some (.int y), none, none] [] (K, I', P, n, s)) → xB d 5 cX5_setAll none false Q 2 [some (.ref R), some (.int (nI i)), none, none] [] (K, I, P, n, s) := by
  intro t
  induction t with
  | zero =>
    intro i I hi hq k1
    refine y_iload_n dX5_setAll_2 rfl ?_
    refine y_sipush (v := 768) dX5_setAll_3 (by decide) ?_
    refine y_icmpN_ge 22 (i) (768) dX5_setAll_6 (by decide) rfl rfl (by omega) (by omega) (fun _ => ?_) (fun c6 => absurd c6 (by omega))
    exact k1 I _ xF.rf (fun q h => hq q (by omega))
  | succ t ih =>
    intro i I hi hq k1
    refine y_iload_n dX5_setAll_2 rfl ?_
    refine y_sipush (v := 768) dX5_setAll_3 (by decide) ?_
    refine y_icmpN_ge 22 (i) (768) dX5_setAll_6 (by decide) rfl rfl (by omega) (by omega) (fun c6 => absurd c6 (by omega)) (fun _ => ?_)
    refine y_aload_n dX5_setAll_9 rfl ?_
    refine y_getr 5 18 dX5_setAll_10 rfl rfl hR.1 (r5_18 hR) ?_
    refine y_iload_n dX5_setAll_13 rfl ?_
    refine y_iconst (v := (-1)) dX5_setAll_14 (by decide) ?_
    refine y_iast (i) dX5_setAll_15 (k5_18 hR) rfl (by omega) (by omega) ?_
    refine y_iinc dX5_setAll_16 rfl (fun x1 e_x1 => ?_)
    obtain rfl : x1 = nI (i + 1) := by rw [e_x1]; exact nI_1 (i)
    refine y_goto 2 dX5_setAll_19 (by decide) ?_
    refine ih (i + 1) _ (by omega) (fun q h => ?_) (fun I2 y q1 q2 => k1 I2 y ((xF.u 14 (by decide)).tr q1) q2)
    by_cases e : q = i
    · subst e; exact xuI_s
    · rw [xuI_o (Or.inr e)]; exact hq q (by omega)
set_option maxHeartbeats 1000000 in
theorem ksa_2 {d R : Nat} {X : xX} {Q : Option Value → xH → Prop} {K : Nat → Nat × Nat} {P : Nat → Nat → Option Nat} {n s : Nat} (hR : xAt K P R 5) {ord : List Nat} {lz : Bool} (ho2 : ∀ q ∈ ord, q < 12) (ho3 : ord.length ≤ 12) (hw : ∀ m, m < 12 → wfM X m) {p q : Nat} (hq : q < 12) (T : List Nat) : ∀ (t v : Nat) (I : Nat → Nat → Int32), v + t = 64 → xPg I R X → I R 15 = nI ord.length → I R 13 = bI lz → xHl I (R + 12) ord → (∀ a b, a < 12 → b < 64 → I (R + 14) (64 * a + b) = if a ∈ T ∨ (a = q ∧ b < v) then sSl X ord lz a b else -1) → (∀ I' y, xF R [14, 15] [] I I' → (∀ a b, a < 12 → b < 64 → I' (R + 14) (64 * a + b) = if a ∈ T ∨ a = q then sSl X ord lz a b else -1) → xB (d + 2) 5 cX5_setAll none false Q 103 [some (.ref R), some (.int (nI p)), some (.int (nI q)), some (.int y)] [] (K, I', P, n, s)) → xB (d + 2) 5 cX5_setAll none false Q 41 [some (.ref R), some (.int (nI p)), some (.int (nI q)), some (.int (nI v))] [] (K, I, P, n, s) := by
  intro t
  induction t with
  | zero =>
    intro v I hv hA h15 h13 ho hi k1
    refine y_iload_n dX5_setAll_41 rfl ?_
    refine y_bipush (v := 64) dX5_setAll_42 (by decide) ?_
    refine y_icmpN_ge 103 (v) (64) dX5_setAll_44 (by decide) rfl rfl (by omega) (by omega) (fun _ => ?_) (fun c44 => absurd c44 (by omega))
    refine k1 I _ xF.rf (fun a b h1 h2 => ?_)
    rw [hi a b h1 h2]
    by_cases e : a ∈ T ∨ a = q
    · rw [if_pos e, if_pos (e.imp id (fun z => ⟨z, by omega⟩))]
    · rw [if_neg e, if_neg (fun z => e (z.imp id (fun y => y.1)))]
  | succ t ih =>
    intro v I hv hA h15 h13 ho hi k1
    have key : ∀ x : Int32, x = sSl X ord lz q v → ∀ a b, a < 12 → b < 64 → xuI I (R + 14) (64 * q + v) x (R + 14) (64 * a + b) = if a ∈ T ∨ (a = q ∧ b < v + 1) then sSl X ord lz a b else -1 := by
      intro x ex a b h1 h2
      by_cases e : a = q ∧ b = v
      · obtain ⟨rfl, rfl⟩ := e
        rw [xuI_s, if_pos (Or.inr ⟨rfl, Nat.lt_succ_self _⟩), ex]
      · rw [xuI_o (Or.inr (by omega)), hi a b h1 h2]
        by_cases e2 : a ∈ T ∨ (a = q ∧ b < v)
        · rw [if_pos e2, if_pos (e2.imp id (fun z => ⟨z.1, by omega⟩))]
        · rw [if_neg e2, if_neg (fun z => e2 (z.imp id (fun y => ⟨y.1, by omega⟩)))]
    refine y_iload_n dX5_setAll_41 rfl ?_
    refine y_bipush (v := 64) dX5_setAll_42 (by decide) ?_
    refine y_icmpN_ge 103 (v) (64) dX5_setAll_44 (by decide) rfl rfl (by omega) (by omega) (fun c44 => absurd c44 (by omega)) (fun _ => ?_)
    refine y_aload_n dX5_setAll_47 rfl ?_
    refine y_iload_n dX5_setAll_48 rfl ?_
    refine y_iload_n dX5_setAll_49 rfl ?_
    refine y_callV2 mX5_usesCall dX5_setAll_50 rfl rfl hR.1 (Nat.le_of_ble_eq_true rfl) (kusesCall hR hA hq (hw q hq) (fun eu => ?_) (fun eu => ?_))
    · refine y_if_eq 97 dX5_setAll_53 (by decide) (fun q => absurd q (by decide)) (fun _ => ?_)
      refine y_aload_n dX5_setAll_56 rfl ?_
      refine y_getr 5 18 dX5_setAll_57 rfl rfl hR.1 (r5_18 hR) ?_
      refine y_bipush (v := 64) dX5_setAll_60 (by decide) ?_
      refine y_iload_n dX5_setAll_62 rfl ?_
      refine y_imulv (nI (64 * q)) dX5_setAll_63 (pk_mul (64) (q)) ?_
      refine y_iload_n dX5_setAll_64 rfl ?_
      refine y_iaddv (nI (((64 * q)) + v)) dX5_setAll_65 (nI_add ((64 * q)) (v)) ?_
      cases lz with
      | true =>
        refine y_aload_n dX5_setAll_66 rfl ?_
        refine y_getv 5 13 dX5_setAll_67 rfl rfl hR.1 h13 ?_
        refine y_if_eq 78 dX5_setAll_70 (by decide) (fun q => absurd q (by decide)) (fun _ => ?_)
        refine y_bipush (v := 21) dX5_setAll_73 (by decide) ?_
        refine y_goto 96 dX5_setAll_75 (by decide) ?_
        refine y_iast ((((64 * q)) + v)) dX5_setAll_96 (k5_18 hR) rfl (by omega) (by omega) ?_
        refine y_iinc dX5_setAll_97 rfl (fun x1 e_x1 => ?_)
        obtain rfl : x1 = nI (v + 1) := by rw [e_x1]; exact nI_1 (v)
        refine y_goto 41 dX5_setAll_100 (by decide) ?_
        exact ih (v + 1) _ (by omega) ((xF.u (flds := []) (rows := [14, 15]) 14 (by decide)).pg hA (by decide)) (by rw [xuI_o (Or.inl (by omega))]; exact h15) (by rw [xuI_o (Or.inl (by omega))]; exact h13) (xHl_put ho (Or.inl (by omega))) (key _ (by unfold sSl; rw [if_pos eu, if_pos rfl])) (fun I2 y q1 q2 => k1 I2 y ((xF.u 14 (by decide)).tr q1) q2)
      | false =>
        refine y_aload_n dX5_setAll_66 rfl ?_
        refine y_getv 5 13 dX5_setAll_67 rfl rfl hR.1 h13 ?_
        refine y_if_eq 78 dX5_setAll_70 (by decide) (fun _ => ?_) (fun q => absurd q (by decide))
        refine y_aload_n dX5_setAll_78 rfl ?_
        refine y_aload_n dX5_setAll_79 rfl ?_
        refine y_aload_n dX5_setAll_80 rfl ?_
        refine y_getr 5 16 dX5_setAll_81 rfl rfl hR.1 (r5_16 hR) ?_
        refine y_aload_n dX5_setAll_84 rfl ?_
        refine y_getv 5 15 dX5_setAll_85 rfl rfl hR.1 h15 ?_
        refine y_iload_n dX5_setAll_88 rfl ?_
        refine y_iload_n dX5_setAll_89 rfl ?_
        refine y_callV4 mX5_find dX5_setAll_90 rfl rfl hR.1 (Nat.le_of_ble_eq_true rfl) (kfind (d := d) hR hA (k5_16 hR) ho ho2 ho3 hq hw (fun ef => ?_) (fun e ef he => ?_))
        · refine y_callV1 mX5_moduleOf dX5_setAll_93 rfl rfl hR.1 (Nat.le_of_ble_eq_true rfl) (kmoduleOf (o := none) (fun _ h => by cases h) ?_)
          refine y_iast ((((64 * q)) + v)) dX5_setAll_96 (k5_18 hR) rfl (by omega) (by omega) ?_
          refine y_iinc dX5_setAll_97 rfl (fun x2 e_x2 => ?_)
          obtain rfl : x2 = nI (v + 1) := by rw [e_x2]; exact nI_1 (v)
          refine y_goto 41 dX5_setAll_100 (by decide) ?_
          exact ih (v + 1) _ (by omega) ((xF.u (flds := []) (rows := [14, 15]) 14 (by decide)).pg hA (by decide)) (by rw [xuI_o (Or.inl (by omega))]; exact h15) (by rw [xuI_o (Or.inl (by omega))]; exact h13) (xHl_put ho (Or.inl (by omega))) (key _ (by unfold sSl; rw [if_pos eu, if_neg (by decide), ef])) (fun I2 y q1 q2 => k1 I2 y ((xF.u 14 (by decide)).tr q1) q2)
        · refine y_callV1 mX5_moduleOf dX5_setAll_93 rfl rfl hR.1 (Nat.le_of_ble_eq_true rfl) (kmoduleOf (o := some e) (fun _ h => by cases h; exact he) ?_)
          refine y_iast ((((64 * q)) + v)) dX5_setAll_96 (k5_18 hR) rfl (by omega) (by omega) ?_
          refine y_iinc dX5_setAll_97 rfl (fun x3 e_x3 => ?_)
          obtain rfl : x3 = nI (v + 1) := by rw [e_x3]; exact nI_1 (v)
          refine y_goto 41 dX5_setAll_100 (by decide) ?_
          exact ih (v + 1) _ (by omega) ((xF.u (flds := []) (rows := [14, 15]) 14 (by decide)).pg hA (by decide)) (by rw [xuI_o (Or.inl (by omega))]; exact h15) (by rw [xuI_o (Or.inl (by omega))]; exact h13) (xHl_put ho (Or.inl (by omega))) (key _ (by unfold sSl; rw [if_pos eu, if_neg (by decide), ef])) (fun I2 y q1 q2 => k1 I2 y ((xF.u 14 (by decide)).tr q1) q2)
    · refine y_if_eq 97 dX5_setAll_53 (by decide) (fun _ => ?_) (fun q => absurd q (by decide))
      refine y_iinc dX5_setAll_97 rfl (fun x4 e_x4 => ?_)
      obtain rfl : x4 = nI (v + 1) := by rw [e_x4]; exact nI_1 (v)
      refine y_goto 41 dX5_setAll_100 (by decide) ?_
      refine ih (v + 1) I (by omega) hA h15 h13 ho (fun a b h1 h2 => ?_) k1
      rw [hi a b h1 h2]
      by_cases e : a = q ∧ b = v
      · obtain ⟨rfl, rfl⟩ := e
        rw [show sSl X ord lz a b = -1 from if_neg (by rw [eu]; decide), ite_self, ite_self]
      · by_cases e2 : a ∈ T ∨ (a = q ∧ b < v)
        · rw [if_pos e2, if_pos (e2.imp id (fun z => ⟨z.1, by omega⟩))]
        · rw [if_neg e2, if_neg (fun z => e2 (z.imp id (fun y => ⟨y.1, by omega⟩)))]
theorem ksa_3 {d R : Nat} {X : xX} {Q : Option Value → xH → Prop} {K : Nat → Nat × Nat} {P : Nat → Nat → Option Nat} {n s : Nat} (hR : xAt K P R 5) {ord : List Nat} {lz : Bool} (ho2 : ∀ q ∈ ord, q < 12) (ho3 : ord.length ≤ 12) (hw : ∀ m, m < 12 → wfM X m) : ∀ (l : List Nat) (p : Nat) (I : Nat → Nat → Int32) (v2 v3 : Option Value), p ≤ ord.length → ord.drop p = l → xPg I R X → I R 15 = nI ord.length → I R 13 = bI lz → xHl I (R + 12) ord → (∀ a b, a < 12 → b < 64 → I (R + 14) (64 * a + b) = if a ∈ ord.take p then sSl X ord lz a b else -1) → (∀ I' v1 v2 v3, xF R [14, 15] [] I I' → (∀ a b, a < 12 → b < 64 → I' (R + 14) (64 * a + b) = if a ∈ ord then sSl X ord lz a b else -1) → xB (d + 2) 5 cX5_setAll none false Q 109 [some (.ref R), v1, v2, v3] [] (K, I', P, n, s)) → xB (d + 2) 5 cX5_setAll none false Q 24 [some (.ref R), some (.int (nI p)), v2, v3] [] (K, I, P, n, s) := by
  intro l
  induction l with
  | nil =>
    intro p I v2 v3 hp hl hA h15 h13 ho hi k1
    have h1 := drop_nil hl
    refine y_iload_n dX5_setAll_24 rfl ?_
    refine y_aload_n dX5_setAll_25 rfl ?_
    refine y_getv 5 15 dX5_setAll_26 rfl rfl hR.1 h15 ?_
    refine y_icmpN_ge 109 (p) (ord.length) dX5_setAll_29 (by decide) rfl rfl (by omega) (by omega) (fun _ => ?_) (fun c29 => absurd c29 (by omega))
    refine k1 I _ _ _ xF.rf (fun a b h2 h3 => ?_)
    rw [hi a b h2 h3, List.take_of_length_le h1]
  | cons q r ih =>
    intro p I v2 v3 hp hl hA h15 h13 ho hi k1
    obtain ⟨g1, g2, g3⟩ := drop_get hl
    have hq : q < 12 := ho2 q (List.mem_of_getElem? g2)
    refine y_iload_n dX5_setAll_24 rfl ?_
    refine y_aload_n dX5_setAll_25 rfl ?_
    refine y_getv 5 15 dX5_setAll_26 rfl rfl hR.1 h15 ?_
    refine y_icmpN_ge 109 (p) (ord.length) dX5_setAll_29 (by decide) rfl rfl (by omega) (by omega) (fun c29 => absurd c29 (by omega)) (fun _ => ?_)
    refine y_aload_n dX5_setAll_32 rfl ?_
    refine y_getr 5 16 dX5_setAll_33 rfl rfl hR.1 (r5_16 hR) ?_
    refine y_iload_n dX5_setAll_36 rfl ?_
    refine y_ialdN (p) dX5_setAll_37 (k5_16 hR) rfl (by omega) (by omega) (ho p q g2) ?_
    refine y_istore_n dX5_setAll_38 (by first | (simp; done) | (simp; decide)) (fun x1 e_x1 => ?_)
    subst e_x1
    refine y_iconst (v := nI 0) dX5_setAll_39 (by decide) ?_
    refine y_istore_n dX5_setAll_40 (by first | (simp; done) | (simp; decide)) (fun x2 e_x2 => ?_)
    subst e_x2
    refine ksa_2 hR ho2 ho3 hw hq (ord.take p) 64 0 I rfl hA h15 h13 ho (fun a b h1 h2 => ?_) (fun I2 y f1 i1 => ?_)
    · rw [hi a b h1 h2]
      by_cases e : a ∈ ord.take p
      · rw [if_pos e, if_pos (Or.inl e)]
      · rw [if_neg e, if_neg (fun z => z.elim e (fun y => absurd y.2 (Nat.not_lt_zero _)))]
    · refine y_iinc dX5_setAll_103 rfl (fun x3 e_x3 => ?_)
      obtain rfl : x3 = nI (p + 1) := by rw [e_x3]; exact nI_1 (p)
      refine y_goto 24 dX5_setAll_106 (by decide) ?_
      refine ih (p + 1) I2 _ _ g1 g3 (f1.pg hA (by decide)) ((f1.fld 15 (by decide) (by decide)).trans h15) ((f1.fld 13 (by decide) (by decide)).trans h13) (xHl_F (a := 0) ho f1 (by decide) (by decide)) (fun a b h1 h2 => ?_) (fun I3 v1 v2 v3 q1 q2 => k1 I3 v1 v2 v3 (f1.tr q1) q2)
      rw [i1 a b h1 h2]
      by_cases e : a ∈ ord.take p ∨ a = q
      · rw [if_pos e, if_pos ((take_mem g2 a).mpr e)]
      · rw [if_neg e, if_neg (fun z => e ((take_mem g2 a).mp z))]
theorem ksa_4 {d R : Nat} {X : xX} {Q : Option Value → xH → Prop} {K : Nat → Nat × Nat} {P : Nat → Nat → Option Nat} {n s : Nat} (hR : xAt K P R 5) {v2 v3 : Option Value} : ∀ (t i : Nat) (I : Nat → Nat → Int32), i + t = 240 → xPg I R X → (∀ q, q < i → I (R + 15) q = X 5 q) → (∀ I' ls, xF R [15] [] I I' → (∀ q, q < 240 → I' (R + 15) q = X 5 q) → xB d 5 cX5_setAll none false Q 136 ls [] (K, I', P, n, s)) → xB d 5 cX5_setAll none false Q 111 [some (.ref R), some (.int (nI i)), v2, v3] [] (K, I, P, n, s) := by
  intro t
  induction t with
  | zero =>
    intro i I hi hA hq k1
    refine y_iload_n dX5_setAll_111 rfl ?_
    refine y_sipush (v := 240) dX5_setAll_112 (by decide) ?_
    refine y_icmpN_ge 136 (i) (240) dX5_setAll_115 (by decide) rfl rfl (by omega) (by omega) (fun _ => ?_) (fun c115 => absurd c115 (by omega))
    exact k1 I _ xF.rf (fun q h => hq q (by omega))
  | succ t ih =>
    intro i I hi hA hq k1
    refine y_iload_n dX5_setAll_111 rfl ?_
    refine y_sipush (v := 240) dX5_setAll_112 (by decide) ?_
    refine y_icmpN_ge 136 (i) (240) dX5_setAll_115 (by decide) rfl rfl (by omega) (by omega) (fun c115 => absurd c115 (by omega)) (fun _ => ?_)
    refine y_aload_n dX5_setAll_118 rfl ?_
    refine y_getr 5 19 dX5_setAll_119 rfl rfl hR.1 (r5_19 hR) ?_
    refine y_iload_n dX5_setAll_122 rfl ?_
    refine y_aload_n dX5_setAll_123 rfl ?_
    refine y_getr 5 5 dX5_setAll_124 rfl rfl hR.1 (r5_5 hR) ?_
    refine y_iload_n dX5_setAll_127 rfl ?_
    refine y_ialdN (i) dX5_setAll_128 (k5_5 hR) rfl (by omega) (by omega) (congrFun (hA 5 (by decide) (by decide)) (i)) ?_
    refine y_iast (i) dX5_setAll_129 (k5_19 hR) rfl (by omega) (by omega) ?_
    refine y_iinc dX5_setAll_130 rfl (fun x1 e_x1 => ?_)
    obtain rfl : x1 = nI (i + 1) := by rw [e_x1]; exact nI_1 (i)
    refine y_goto 111 dX5_setAll_133 (by decide) ?_
    refine ih (i + 1) _ (by omega) ((xF.u (rows := [15]) (flds := []) 15 (by decide)).pg hA (by decide)) (fun q h => ?_) (fun I2 ls q1 q2 => k1 I2 ls ((xF.u 15 (by decide)).tr q1) q2)
    by_cases e : q = i
    · subst e; exact xuI_s
    · rw [xuI_o (Or.inr e)]; exact hq q (by omega)
theorem ksetAll {d : Nat} {Pp : Option Value → xH → Prop} {K : Nat → Nat × Nat} {I : Nat → Nat → Int32} {P : Nat → Nat → Option Nat} {n s : Nat} {R : Nat} {X : xX} {ord : List Nat} {lz : Bool} (hR : xAt K P R 5) (hA : xPg I R X) (ho2 : ∀ q ∈ ord, q < 12) (ho3 : ord.length ≤ 12) (hw : ∀ m, m < 12 → wfM X m) (h15 : I R 15 = nI ord.length) (h13 : I R 13 = bI lz) (ho : xHl I (R + 12) ord) (hp : ∀ I', xF R [14, 15] [] I I' → (∀ a b, a < 12 → b < 64 → I' (R + 14) (64 * a + b) = if a ∈ ord then sSl X ord lz a b else -1) → (∀ q, q < 240 → I' (R + 15) q = X 5 q) → Pp none (K, I', P, n, s)) : xC (d + 2) mX5_setAll [(.ref R)] (K, I, P, n, s) Pp := by
  refine y_met 0 0 ?_
  show xB (d + 2) 5 cX5_setAll none false (xE n s 0 0 Pp) 0 [some (.ref R), none, none, none] [] (K, I, P, n, s)
  refine y_iconst (v := nI 0) dX5_setAll_0 (by decide) ?_
  refine y_istore_n dX5_setAll_1 (by first | (simp; done) | (simp; decide)) (fun x1 e_x1 => ?_)
  subst e_x1
  refine ksa_1 hR 768 0 I rfl (fun q h => absurd h (Nat.not_lt_zero _)) (fun I2 y f1 g1 => ?_)
  refine y_iconst (v := nI 0) dX5_setAll_22 (by decide) ?_
  refine y_istore_n dX5_setAll_23 (by first | (simp; done) | (simp; decide)) (fun x2 e_x2 => ?_)
  subst e_x2
  refine ksa_3 (lz := lz) hR ho2 ho3 hw ord 0 I2 _ _ (Nat.zero_le _) rfl (f1.pg hA (by decide)) ((f1.fld 15 (by decide) (by decide)).trans h15) ((f1.fld 13 (by decide) (by decide)).trans h13) (xHl_F (a := 0) ho f1 (by decide) (by decide)) (fun a b h1 h2 => ?_) (fun I3 v1 v2 v3 f2 g2 => ?_)
  · rw [g1 _ (by omega), if_neg (by simp)]
  · refine y_iconst (v := nI 0) dX5_setAll_109 (by decide) ?_
    refine y_istore_n dX5_setAll_110 (by first | (simp; done) | (simp; decide)) (fun x3 e_x3 => ?_)
    subst e_x3
    refine ksa_4 hR 240 0 I3 rfl ((f1.tr f2).pg hA (by decide)) (fun q h => absurd h (Nat.not_lt_zero _)) (fun I4 ls f3 g3 => ?_)
    exact y_retv dX5_setAll_136 rfl rfl (hp I4 ((f1.tr f2).tr (f3.mono (by decide) (by decide))) (fun a b h1 h2 => by rw [f3.row 14 (by decide) (by decide)]; exact g2 a b h1 h2) g3)
end
section
theorem z01 {x : Int32} (h0 : ¬ x.toInt < 0) (h1 : x.toInt ≤ 1) : ∃ b : Bool, x = bI b := by
  rcases (show x.toInt = 0 ∨ x.toInt = 1 by omega) with e | e
  · exact ⟨false, Int32.toInt_inj.mp e⟩
  · exact ⟨true, Int32.toInt_inj.mp e⟩
theorem zpos {e : Int32} (he : e = 1 ∨ e = 2) : ¬ e ≤ 0 := by rcases he with rfl | rfl <;> decide
theorem kld_1 {d R : Nat} {X : xX} {Q : Option Value → xH → Prop} {K : Nat → Nat × Nat} {P : Nat → Nat → Option Nat} {n s : Nat} (hR : xAt K P R 5) {ord : List Nat} (ho2 : ∀ q ∈ ord, q < 12) (ho3 : ord.length ≤ 12) (hw : ∀ m, m < 12 → wfM X m) {x1 x2 : Int32} {I : Nat → Nat → Int32} (hA : xPg I R X) (hc : I R 20 = nI ord.length) (ho : xHl I (R + 16) ord) : ∀ (l : List Nat) (p : Nat) (v4 : Option Value), p ≤ ord.length → ord.drop p = l → ((sFt X ord l).1 = 0 → ∀ v3 v4, xB (d + 4) 5 cX5_load (some .int) false Q 75 [some (.ref R), some (.int x1), some (.int x2), v3, v4] [] (K, I, P, n, s)) → ((sFt X ord l).1 ≠ 0 → ∀ ls, xB (d + 4) 5 cX5_load (some .int) false Q 68 ls [.int (sFt X ord l).1] (K, xuI (xuI (xuI I R 25 (sFt X ord l).2.1) R 26 (sFt X ord l).2.2.1) R 27 (sFt X ord l).2.2.2, P, n, s)) → xB (d + 4) 5 cX5_load (some .int) false Q 41 [some (.ref R), some (.int x1), some (.int x2), some (.int (nI p)), v4] [] (K, I, P, n, s) := by
  intro l
  induction l with
  | nil =>
    intro p v4 hp hl h0 h1
    have h2 := drop_nil hl
    refine y_iload_n dX5_load_41 rfl ?_
    refine y_aload_n dX5_load_42 rfl ?_
    refine y_getv 5 20 dX5_load_43 rfl rfl hR.1 hc ?_
    refine y_icmpN_ge 75 (p) (ord.length) dX5_load_46 (by decide) rfl rfl (by omega) (by omega) (fun _ => ?_) (fun c46 => absurd c46 (by omega))
    exact h0 rfl _ _
  | cons q r ih =>
    intro p v4 hp hl h0 h1
    obtain ⟨g1, g2, g3⟩ := drop_get hl
    have hq : q < 12 := ho2 q (List.mem_of_getElem? g2)
    unfold sFt at h0 h1
    refine y_iload_n dX5_load_41 rfl ?_
    refine y_aload_n dX5_load_42 rfl ?_
    refine y_getv 5 20 dX5_load_43 rfl rfl hR.1 hc ?_
    refine y_icmpN_ge 75 (p) (ord.length) dX5_load_46 (by decide) rfl rfl (by omega) (by omega) (fun c46 => absurd c46 (by omega)) (fun _ => ?_)
    refine y_aload_n dX5_load_49 rfl ?_
    refine y_aload_n dX5_load_50 rfl ?_
    refine y_getr 5 21 dX5_load_51 rfl rfl hR.1 (r5_21 hR) ?_
    refine y_iload_n dX5_load_54 rfl ?_
    refine y_ialdN (p) dX5_load_55 (k5_21 hR) rfl (by omega) (by omega) (ho p q g2) ?_
    refine y_callV1 mX5_lookAt dX5_load_56 rfl rfl hR.1 (Nat.le_of_ble_eq_true rfl) (klookAt (d := d) hR hA hc ho ho2 ho3 hq hw (fun eq => ?_) (fun eq => ?_))
    · rw [if_pos eq] at h0 h1
      refine y_istore dX5_load_59 (by first | (simp; done) | (simp; decide)) (fun x1 e_x1 => ?_)
      subst e_x1
      refine y_iload dX5_load_61 rfl ?_
      refine y_if_le 69 dX5_load_63 (by decide) (fun _ => ?_) (fun q => absurd q (by decide))
      refine y_iinc dX5_load_69 rfl (fun x2 e_x2 => ?_)
      obtain rfl : x2 = nI (p + 1) := by rw [e_x2]; exact nI_1 (p)
      refine y_goto 41 dX5_load_72 (by decide) ?_
      exact ih (p + 1) _ g1 g3 h0 h1
    · rw [if_neg eq] at h1
      have he := sLk_val.resolve_left eq
      refine y_istore dX5_load_59 (by first | (simp; done) | (simp; decide)) (fun z4 e_z4 => ?_)
      refine y_iload dX5_load_61 rfl ?_
      refine y_if_le 69 dX5_load_63 (by decide) (fun c63 => absurd c63 (by rw [e_z4]; exact zpos he)) (fun _ => ?_)
      refine y_iload dX5_load_66 rfl ?_
      subst e_z4
      exact h1 eq _
theorem kld_2 {d R : Nat} {Q : Option Value → xH → Prop} {K : Nat → Nat × Nat} {P : Nat → Nat → Option Nat} {n s : Nat} (hR : xAt K P R 5) {ord : List Nat} (ho3 : ord.length ≤ 12) {x1 x2 : Int32} {v4 : Option Value} : ∀ (t i : Nat) (I : Nat → Nat → Int32), i + t = ord.length → I R 15 = nI ord.length → xHl I (R + 16) ord → (∀ q a, q < i → ord[q]? = some a → I (R + 12) q = nI a) → (∀ I' v3, xF R [12] [] I I' → xHl I' (R + 12) ord → xB d 5 cX5_load (some .int) false Q 135 [some (.ref R), some (.int x1), some (.int x2), v3, v4] [] (K, I', P, n, s)) → xB d 5 cX5_load (some .int) false Q 109 [some (.ref R), some (.int x1), some (.int x2), some (.int (nI i)), v4] [] (K, I, P, n, s) := by
  intro t
  induction t with
  | zero =>
    intro i I hi h15 ho hq k1
    refine y_iload_n dX5_load_109 rfl ?_
    refine y_aload_n dX5_load_110 rfl ?_
    refine y_getv 5 15 dX5_load_111 rfl rfl hR.1 h15 ?_
    refine y_icmpN_ge 135 (i) (ord.length) dX5_load_114 (by decide) rfl rfl (by omega) (by omega) (fun _ => ?_) (fun c114 => absurd c114 (by omega))
    exact k1 I _ xF.rf (fun p a h => hq p a (by have := (List.getElem?_eq_some_iff.mp h).1; omega) h)
  | succ t ih =>
    intro i I hi h15 ho hq k1
    obtain ⟨b, hb⟩ : ∃ b, ord[i]? = some b := ⟨_, List.getElem?_eq_getElem (by omega)⟩
    refine y_iload_n dX5_load_109 rfl ?_
    refine y_aload_n dX5_load_110 rfl ?_
    refine y_getv 5 15 dX5_load_111 rfl rfl hR.1 h15 ?_
    refine y_icmpN_ge 135 (i) (ord.length) dX5_load_114 (by decide) rfl rfl (by omega) (by omega) (fun c114 => absurd c114 (by omega)) (fun _ => ?_)
    refine y_aload_n dX5_load_117 rfl ?_
    refine y_getr 5 16 dX5_load_118 rfl rfl hR.1 (r5_16 hR) ?_
    refine y_iload_n dX5_load_121 rfl ?_
    refine y_aload_n dX5_load_122 rfl ?_
    refine y_getr 5 21 dX5_load_123 rfl rfl hR.1 (r5_21 hR) ?_
    refine y_iload_n dX5_load_126 rfl ?_
    refine y_ialdN (i) dX5_load_127 (k5_21 hR) rfl (by omega) (by omega) (ho i b hb) ?_
    refine y_iast (i) dX5_load_128 (k5_16 hR) rfl (by omega) (by omega) ?_
    refine y_iinc dX5_load_129 rfl (fun x1 e_x1 => ?_)
    obtain rfl : x1 = nI (i + 1) := by rw [e_x1]; exact nI_1 (i)
    refine y_goto 109 dX5_load_132 (by decide) ?_
    refine ih (i + 1) _ (by omega) (by rw [xuI_o (Or.inl (by omega))]; exact h15) (xHl_put ho (Or.inl (by omega))) (fun q a h1 h2 => ?_) (fun I2 v3 q1 q2 => k1 I2 v3 ((xF.u 12 (by decide)).tr q1) q2)
    by_cases e : q = i
    · subst e; rw [hb] at h2; cases h2; exact xuI_s
    · rw [xuI_o (Or.inr e)]; exact hq q a (by omega) h2
/-- what the reference holds when something is loaded: the root, the orders -/
def xLd (X : xX) (I : Nat → Nat → Int32) (R r : Nat) (lz : Bool) : Prop := I R 12 = 1 ∧ I R 13 = bI lz ∧ I R 14 = nI r ∧ I R 15 = nI (sOrd X r).length ∧ xHl I (R + 12) (sOrd X r) ∧ xHl I (R + 13) (sBeg X r)
/-- slots and data as loaded -/
def xFresh (X : xX) (I : Nat → Nat → Int32) (R r : Nat) (lz : Bool) : Prop := (∀ a b, a < 12 → b < 64 → I (R + 14) (64 * a + b) = if a ∈ sOrd X r then sSl X (sOrd X r) lz a b else -1) ∧ (∀ q, q < 240 → I (R + 15) q = X 5 q)
theorem kload {d : Nat} {Pp : Option Value → xH → Prop} {K : Nat → Nat × Nat} {I : Nat → Nat → Int32} {P : Nat → Nat → Option Nat} {n s : Nat} {R : Nat} {X : xX} {x1 x2 : Int32} (hR : xAt K P R 5) (hA : xPg I R X) (hw : ∀ m, m < 12 → wfM X m) (h0 : I R 0 = nI (gC X)) (hg : gC X ≤ 12)
    (hb : ((∀ k, k < gC X → x1 ≠ nI k) ∨ ∀ b, x2 ≠ bI b) → Pp (some (.int (-1))) (K, I, P, n, s))
    (hf : ∀ (r : Nat) (lz : Bool) (I' : Nat → Nat → Int32), r < gC X → x1 = nI r → x2 = bI lz → (sFt X (sOrd X r) (sOrd X r)).1 ≠ 0 → xF R [16, 17] [20, 25, 26, 27] I I' → I' R 25 = (sFt X (sOrd X r) (sOrd X r)).2.1 → I' R 26 = (sFt X (sOrd X r) (sOrd X r)).2.2.1 → I' R 27 = (sFt X (sOrd X r) (sOrd X r)).2.2.2 → okl (gC X) (sOrd X r) → Pp (some (.int (sFt X (sOrd X r) (sOrd X r)).1)) (K, I', P, n, s))
    (hk : ∀ (r : Nat) (lz : Bool) (I' : Nat → Nat → Int32), r < gC X → x1 = nI r → x2 = bI lz → (sFt X (sOrd X r) (sOrd X r)).1 = 0 → xF R [12, 13, 14, 15, 16, 17, 18, 19] [12, 13, 14, 15, 20, 25, 26, 27] I I' → I' R 25 = -1 → I' R 26 = -1 → I' R 27 = -1 → okl (gC X) (sOrd X r) → xLd X I' R r lz → xFresh X I' R r lz → okl (gC X) (sDfs X 12 r ([], [])).1 → (sBeg X r).length = (sDfs X 12 r ([], [])).1.length → Pp (some (.int 0)) (K, I', P, n, s)) : xC (d + 4) mX5_load [(.ref R), (.int x1), (.int x2)] (K, I, P, n, s) Pp := by
  refine y_met 0 0 ?_
  show xB (d + 4) 5 cX5_load (some .int) false (xE n s 0 0 Pp) 0 [some (.ref R), some (.int x1), some (.int x2), none, none] [] (K, I, P, n, s)
  refine y_aload_n dX5_load_0 rfl ?_
  refine y_iload_n dX5_load_1 rfl ?_
  refine y_callV1 mX5_isModule dX5_load_2 rfl rfl hR.1 (Nat.le_of_ble_eq_true rfl) (kX5_isModule hR.1 h0 hg (fun r hr er => ?_) (fun e1 => ?_))
  · subst er
    refine y_if_eq 17 dX5_load_5 (by decide) (fun q => absurd q (by decide)) (fun _ => ?_)
    refine y_iload_n dX5_load_8 rfl ?_
    refine y_ifZ_lt 17 (x2.toInt) dX5_load_9 (by decide) rfl (fun c9 => ?_) (fun c9 => ?_)
    · refine y_iconst (v := (-1)) dX5_load_17 (by decide) ?_
      exact y_ret dX5_load_18 rfl rfl (hb (Or.inr (fun b e => by rw [e] at c9; cases b <;> exact absurd c9 (by decide))))
    · refine y_iload_n dX5_load_12 rfl ?_
      refine y_iconst (v := 1) dX5_load_13 (by decide) ?_
      refine y_icmpZ_le 19 (x2.toInt) (1) dX5_load_14 (by decide) rfl rfl (fun c14 => ?_) (fun c14 => ?_)
      · obtain ⟨lz, elz⟩ := z01 c9 c14
        subst elz
        refine y_aload_n dX5_load_19 rfl ?_
        refine y_iconst (v := (-1)) dX5_load_20 (by decide) ?_
        refine y_puti 5 25 dX5_load_21 rfl rfl rfl hR.1 ?_
        refine y_aload_n dX5_load_24 rfl ?_
        refine y_iconst (v := (-1)) dX5_load_25 (by decide) ?_
        refine y_puti 5 26 dX5_load_26 rfl rfl rfl hR.1 ?_
        refine y_aload_n dX5_load_29 rfl ?_
        refine y_iconst (v := (-1)) dX5_load_30 (by decide) ?_
        refine y_puti 5 27 dX5_load_31 rfl rfl rfl hR.1 ?_
        refine y_aload_n dX5_load_34 rfl ?_
        refine y_iload_n dX5_load_35 rfl ?_
        refine y_callV1 mX5_findOrder dX5_load_36 rfl rfl hR.1 (Nat.le_of_ble_eq_true rfl) (kfindOrder hR (xPg_R (xPg_R (xPg_R hA))) hw hg hr (fun I2 f1 b1 => ?_))
        refine y_iconst (v := nI 0) dX5_load_39 (by decide) ?_
        refine y_istore_n dX5_load_40 (by first | (simp; done) | (simp; decide)) (fun x1 e_x1 => ?_)
        subst e_x1
        have f2 : xF R [16, 17] [20, 25, 26, 27] I I2 := ((xF.f 25 (by decide)).tr ((xF.f 26 (by decide)).tr (xF.f 27 (by decide)))).tr (f1.F.mono (by decide) (by decide))
        have hA2 := f2.pg hA (by decide)
        have hol : ∀ q ∈ sOrd X r, q < 12 := fun q hq => by have := b1.2.2.2.2 q hq; omega
        have hol2 := okl_len b1.2.2.2
        have g25 : I2 R 25 = -1 := by rw [f1.F.fld 25 (by decide) (by decide), xuI_o (Or.inr (by decide)), xuI_o (Or.inr (by decide)), xuI_s]
        have g26 : I2 R 26 = -1 := by rw [f1.F.fld 26 (by decide) (by decide), xuI_o (Or.inr (by decide)), xuI_s]
        have g27 : I2 R 27 = -1 := by rw [f1.F.fld 27 (by decide) (by decide), xuI_s]
        refine kld_1 hR hol (by omega) hw hA2 b1.1 b1.2.1 (sOrd X r) 0 _ (Nat.zero_le _) rfl (fun q v3 v4 => ?_) (fun q ls => ?_)
        · refine y_aload_n dX5_load_75 rfl ?_
          refine y_iconst (v := 1) dX5_load_76 (by decide) ?_
          refine y_putz 5 12 dX5_load_77 rfl rfl rfl hR.1 (by decide) ?_
          cases lz with
          | true =>
            refine y_aload_n dX5_load_80 rfl ?_
            refine y_iload_n dX5_load_81 rfl ?_
            refine y_iconst (v := 1) dX5_load_82 (by decide) ?_
            refine y_icmp_ne 90 dX5_load_83 (by decide) (fun q => absurd q (by decide)) (fun _ => ?_)
            refine y_iconst (v := 1) dX5_load_86 (by decide) ?_
            refine y_goto 91 dX5_load_87 (by decide) ?_
            refine y_putz 5 13 dX5_load_91 rfl rfl rfl hR.1 (by decide) ?_
            refine y_aload_n dX5_load_94 rfl ?_
            refine y_iload_n dX5_load_95 rfl ?_
            refine y_puti 5 14 dX5_load_96 rfl rfl rfl hR.1 ?_
            refine y_aload_n dX5_load_99 rfl ?_
            refine y_aload_n dX5_load_100 rfl ?_
            refine y_getv 5 20 dX5_load_101 rfl rfl hR.1 (show xuI (xuI (xuI I2 R 12 1) R 13 1) R 14 (nI r) R 20 = nI (sOrd X r).length by rw [xuI_o (Or.inr (by decide)), xuI_o (Or.inr (by decide)), xuI_o (Or.inr (by decide))]; exact b1.1) ?_
            refine y_puti 5 15 dX5_load_104 rfl rfl rfl hR.1 ?_
            refine y_iconst (v := nI 0) dX5_load_107 (by decide) ?_
            refine y_istore_n dX5_load_108 (by first | (simp; done) | (simp; decide)) (fun x2 e_x2 => ?_)
            subst e_x2
            have f3 : xF R [] [12, 13, 14, 15] I2 (xuI (xuI (xuI (xuI I2 R 12 1) R 13 1) R 14 (nI r)) R 15 (nI (sOrd X r).length)) := (xF.f 12 (by decide)).tr ((xF.f 13 (by decide)).tr ((xF.f 14 (by decide)).tr (xF.f 15 (by decide))))
            refine kld_2 hR (by omega) (sOrd X r).length 0 _ (Nat.zero_add _) xuI_s (xHl_put (xHl_put (xHl_put (xHl_put b1.2.1 (Or.inl (by omega))) (Or.inl (by omega))) (Or.inl (by omega))) (Or.inl (by omega))) (fun q a h => absurd h (Nat.not_lt_zero _)) (fun I4 v3b f4 g4 => ?_)
            have f5 : xF R [12, 13, 14, 15, 16, 17, 18, 19] [12, 13, 14, 15, 20, 25, 26, 27] I I4 := (f2.mono (by decide) (by decide)).tr ((f3.mono (by decide) (by decide)).tr (f4.mono (by decide) (by decide)))
            have k12 : I4 R 12 = 1 := by rw [f4.fld 12 (by decide) (by decide), xuI_o (Or.inr (by decide)), xuI_o (Or.inr (by decide)), xuI_o (Or.inr (by decide)), xuI_s]
            have k13 : I4 R 13 = bI true := by rw [f4.fld 13 (by decide) (by decide), xuI_o (Or.inr (by decide)), xuI_o (Or.inr (by decide)), xuI_s]; rfl
            have k14 : I4 R 14 = nI r := by rw [f4.fld 14 (by decide) (by decide), xuI_o (Or.inr (by decide)), xuI_s]
            have k15 : I4 R 15 = nI (sOrd X r).length := by rw [f4.fld 15 (by decide) (by decide), xuI_s]
            refine y_aload_n dX5_load_135 rfl ?_
            refine y_callV0 mX5_findBegun dX5_load_136 rfl rfl hR.1 (Nat.le_of_ble_eq_true rfl) (kfindBegun hR (f5.pg hA (by decide)) hw hg hr k14 (fun I5 f6 g5 o1 o2 => ?_))
            refine y_aload_n dX5_load_139 rfl ?_
            refine y_callV0 mX5_setAll dX5_load_140 rfl rfl hR.1 (Nat.le_of_ble_eq_true rfl) (ksetAll (d := d + 1) (lz := true) (ord := sOrd X r) hR ((f5.tr (f6.mono (by decide) (by decide))).pg hA (by decide)) hol (by omega) hw ((f6.fld 15 (by decide) (by decide)).trans k15) ((f6.fld 13 (by decide) (by decide)).trans k13) (xHl_F (a := 0) g4 f6 (by decide) (by decide)) (fun I6 f7 g6 g7 => ?_))
            refine y_iconst (v := 0) dX5_load_143 (by decide) ?_
            exact y_ret dX5_load_144 rfl rfl (hk r true I6 hr rfl rfl q (f5.tr ((f6.mono (by decide) (by decide)).tr (f7.mono (by decide) (by decide)))) ((f7.fld 25 (by decide) (by decide)).trans ((f6.fld 25 (by decide) (by decide)).trans ((f4.fld 25 (by decide) (by decide)).trans ((f3.fld 25 (by decide) (by decide)).trans g25)))) ((f7.fld 26 (by decide) (by decide)).trans ((f6.fld 26 (by decide) (by decide)).trans ((f4.fld 26 (by decide) (by decide)).trans ((f3.fld 26 (by decide) (by decide)).trans g26)))) ((f7.fld 27 (by decide) (by decide)).trans ((f6.fld 27 (by decide) (by decide)).trans ((f4.fld 27 (by decide) (by decide)).trans ((f3.fld 27 (by decide) (by decide)).trans g27)))) b1.2.2.2 ⟨((f7.fld 12 (by decide) (by decide)).trans ((f6.fld 12 (by decide) (by decide)).trans (k12))), ((f7.fld 13 (by decide) (by decide)).trans ((f6.fld 13 (by decide) (by decide)).trans (k13))), ((f7.fld 14 (by decide) (by decide)).trans ((f6.fld 14 (by decide) (by decide)).trans (k14))), ((f7.fld 15 (by decide) (by decide)).trans ((f6.fld 15 (by decide) (by decide)).trans (k15))), xHl_F (a := 0) (xHl_F (a := 0) g4 f6 (by decide) (by decide)) f7 (by decide) (by decide), xHl_F (a := 0) g5 f7 (by decide) (by decide)⟩ ⟨g6, g7⟩ o1 o2)
          | false =>
            refine y_aload_n dX5_load_80 rfl ?_
            refine y_iload_n dX5_load_81 rfl ?_
            refine y_iconst (v := 1) dX5_load_82 (by decide) ?_
            refine y_icmp_ne 90 dX5_load_83 (by decide) (fun _ => ?_) (fun q => absurd q (by decide))
            refine y_iconst (v := 0) dX5_load_90 (by decide) ?_
            refine y_putz 5 13 dX5_load_91 rfl rfl rfl hR.1 (by decide) ?_
            refine y_aload_n dX5_load_94 rfl ?_
            refine y_iload_n dX5_load_95 rfl ?_
            refine y_puti 5 14 dX5_load_96 rfl rfl rfl hR.1 ?_
            refine y_aload_n dX5_load_99 rfl ?_
            refine y_aload_n dX5_load_100 rfl ?_
            refine y_getv 5 20 dX5_load_101 rfl rfl hR.1 (show xuI (xuI (xuI I2 R 12 1) R 13 0) R 14 (nI r) R 20 = nI (sOrd X r).length by rw [xuI_o (Or.inr (by decide)), xuI_o (Or.inr (by decide)), xuI_o (Or.inr (by decide))]; exact b1.1) ?_
            refine y_puti 5 15 dX5_load_104 rfl rfl rfl hR.1 ?_
            refine y_iconst (v := nI 0) dX5_load_107 (by decide) ?_
            refine y_istore_n dX5_load_108 (by first | (simp; done) | (simp; decide)) (fun x3 e_x3 => ?_)
            subst e_x3
            have f3 : xF R [] [12, 13, 14, 15] I2 (xuI (xuI (xuI (xuI I2 R 12 1) R 13 0) R 14 (nI r)) R 15 (nI (sOrd X r).length)) := (xF.f 12 (by decide)).tr ((xF.f 13 (by decide)).tr ((xF.f 14 (by decide)).tr (xF.f 15 (by decide))))
            refine kld_2 hR (by omega) (sOrd X r).length 0 _ (Nat.zero_add _) xuI_s (xHl_put (xHl_put (xHl_put (xHl_put b1.2.1 (Or.inl (by omega))) (Or.inl (by omega))) (Or.inl (by omega))) (Or.inl (by omega))) (fun q a h => absurd h (Nat.not_lt_zero _)) (fun I4 v3b f4 g4 => ?_)
            have f5 : xF R [12, 13, 14, 15, 16, 17, 18, 19] [12, 13, 14, 15, 20, 25, 26, 27] I I4 := (f2.mono (by decide) (by decide)).tr ((f3.mono (by decide) (by decide)).tr (f4.mono (by decide) (by decide)))
            have k12 : I4 R 12 = 1 := by rw [f4.fld 12 (by decide) (by decide), xuI_o (Or.inr (by decide)), xuI_o (Or.inr (by decide)), xuI_o (Or.inr (by decide)), xuI_s]
            have k13 : I4 R 13 = bI false := by rw [f4.fld 13 (by decide) (by decide), xuI_o (Or.inr (by decide)), xuI_o (Or.inr (by decide)), xuI_s]; rfl
            have k14 : I4 R 14 = nI r := by rw [f4.fld 14 (by decide) (by decide), xuI_o (Or.inr (by decide)), xuI_s]
            have k15 : I4 R 15 = nI (sOrd X r).length := by rw [f4.fld 15 (by decide) (by decide), xuI_s]
            refine y_aload_n dX5_load_135 rfl ?_
            refine y_callV0 mX5_findBegun dX5_load_136 rfl rfl hR.1 (Nat.le_of_ble_eq_true rfl) (kfindBegun hR (f5.pg hA (by decide)) hw hg hr k14 (fun I5 f6 g5 o1 o2 => ?_))
            refine y_aload_n dX5_load_139 rfl ?_
            refine y_callV0 mX5_setAll dX5_load_140 rfl rfl hR.1 (Nat.le_of_ble_eq_true rfl) (ksetAll (d := d + 1) (lz := false) (ord := sOrd X r) hR ((f5.tr (f6.mono (by decide) (by decide))).pg hA (by decide)) hol (by omega) hw ((f6.fld 15 (by decide) (by decide)).trans k15) ((f6.fld 13 (by decide) (by decide)).trans k13) (xHl_F (a := 0) g4 f6 (by decide) (by decide)) (fun I6 f7 g6 g7 => ?_))
            refine y_iconst (v := 0) dX5_load_143 (by decide) ?_
            exact y_ret dX5_load_144 rfl rfl (hk r false I6 hr rfl rfl q (f5.tr ((f6.mono (by decide) (by decide)).tr (f7.mono (by decide) (by decide)))) ((f7.fld 25 (by decide) (by decide)).trans ((f6.fld 25 (by decide) (by decide)).trans ((f4.fld 25 (by decide) (by decide)).trans ((f3.fld 25 (by decide) (by decide)).trans g25)))) ((f7.fld 26 (by decide) (by decide)).trans ((f6.fld 26 (by decide) (by decide)).trans ((f4.fld 26 (by decide) (by decide)).trans ((f3.fld 26 (by decide) (by decide)).trans g26)))) ((f7.fld 27 (by decide) (by decide)).trans ((f6.fld 27 (by decide) (by decide)).trans ((f4.fld 27 (by decide) (by decide)).trans ((f3.fld 27 (by decide) (by decide)).trans g27)))) b1.2.2.2 ⟨((f7.fld 12 (by decide) (by decide)).trans ((f6.fld 12 (by decide) (by decide)).trans (k12))), ((f7.fld 13 (by decide) (by decide)).trans ((f6.fld 13 (by decide) (by decide)).trans (k13))), ((f7.fld 14 (by decide) (by decide)).trans ((f6.fld 14 (by decide) (by decide)).trans (k14))), ((f7.fld 15 (by decide) (by decide)).trans ((f6.fld 15 (by decide) (by decide)).trans (k15))), xHl_F (a := 0) (xHl_F (a := 0) g4 f6 (by decide) (by decide)) f7 (by decide) (by decide), xHl_F (a := 0) g5 f7 (by decide) (by decide)⟩ ⟨g6, g7⟩ o1 o2)
        · refine y_ret dX5_load_68 rfl rfl (hf r lz _ hr rfl rfl q (f2.tr ((xF.f 25 (by decide)).tr ((xF.f 26 (by decide)).tr (xF.f 27 (by decide))))) ?_ ?_ ?_ b1.2.2.2)
          · rw [xuI_o (Or.inr (by decide)), xuI_o (Or.inr (by decide)), xuI_s]
          · rw [xuI_o (Or.inr (by decide)), xuI_s]
          · rw [xuI_s]
      · refine y_iconst (v := (-1)) dX5_load_17 (by decide) ?_
        exact y_ret dX5_load_18 rfl rfl (hb (Or.inr (fun b e => by rw [e] at c14; cases b <;> exact absurd c14 (by decide))))
  · refine y_if_eq 17 dX5_load_5 (by decide) (fun _ => ?_) (fun q => absurd q (by decide))
    refine y_iconst (v := (-1)) dX5_load_17 (by decide) ?_
    exact y_ret dX5_load_18 rfl rfl (hb (Or.inl e1))
end
section
theorem xs0 {a b c : Int32} : xStep 0 a b c ↔ (∃ k : Nat, k < 8 ∧ a = nI k) := by
  unfold xStep
  constructor
  · rintro (⟨e, q⟩ | ⟨e, q⟩ | ⟨e, q⟩ | ⟨e, q⟩ | ⟨e, q⟩ | ⟨e, q⟩ | ⟨e, q⟩ | ⟨e, q⟩ | ⟨e, q⟩ | ⟨e, q⟩ | ⟨e, q⟩ | ⟨e, q⟩ | e | ⟨e, q⟩ | e)
    · exact q
    · exact absurd e (by decide)
    · exact absurd e (by decide)
    · exact absurd e (by decide)
    · exact absurd e (by decide)
    · exact absurd e (by decide)
    · exact absurd e (by decide)
    · exact absurd e (by decide)
    · exact absurd e (by decide)
    · exact absurd e (by decide)
    · exact absurd e (by decide)
    · exact absurd e (by decide)
    · exact absurd e (by decide)
    · exact absurd e (by decide)
    · exact absurd e (by decide)
  · intro q
    exact Or.inl ⟨rfl, q⟩
theorem xs1 {a b c : Int32} : xStep 1 a b c ↔ (∃ k : Nat, k < 8 ∧ a = nI k) ∧ (∃ k : Nat, k < 8 ∧ b = nI k) := by
  unfold xStep
  constructor
  · rintro (⟨e, q⟩ | ⟨e, q⟩ | ⟨e, q⟩ | ⟨e, q⟩ | ⟨e, q⟩ | ⟨e, q⟩ | ⟨e, q⟩ | ⟨e, q⟩ | ⟨e, q⟩ | ⟨e, q⟩ | ⟨e, q⟩ | ⟨e, q⟩ | e | ⟨e, q⟩ | e)
    · exact absurd e (by decide)
    · exact q
    · exact absurd e (by decide)
    · exact absurd e (by decide)
    · exact absurd e (by decide)
    · exact absurd e (by decide)
    · exact absurd e (by decide)
    · exact absurd e (by decide)
    · exact absurd e (by decide)
    · exact absurd e (by decide)
    · exact absurd e (by decide)
    · exact absurd e (by decide)
    · exact absurd e (by decide)
    · exact absurd e (by decide)
    · exact absurd e (by decide)
  · intro q
    exact Or.inr (Or.inl ⟨rfl, q⟩)
theorem xs2 {a b c : Int32} : xStep 2 a b c ↔ (∃ k : Nat, k < 8 ∧ a = nI k) ∧ (∃ k : Nat, k < 8 ∧ b = nI k) ∧ (∃ k : Nat, k < 8 ∧ c = nI k) := by
  unfold xStep
  constructor
  · rintro (⟨e, q⟩ | ⟨e, q⟩ | ⟨e, q⟩ | ⟨e, q⟩ | ⟨e, q⟩ | ⟨e, q⟩ | ⟨e, q⟩ | ⟨e, q⟩ | ⟨e, q⟩ | ⟨e, q⟩ | ⟨e, q⟩ | ⟨e, q⟩ | e | ⟨e, q⟩ | e)
    · exact absurd e (by decide)
    · exact absurd e (by decide)
    · exact q
    · exact absurd e (by decide)
    · exact absurd e (by decide)
    · exact absurd e (by decide)
    · exact absurd e (by decide)
    · exact absurd e (by decide)
    · exact absurd e (by decide)
    · exact absurd e (by decide)
    · exact absurd e (by decide)
    · exact absurd e (by decide)
    · exact absurd e (by decide)
    · exact absurd e (by decide)
    · exact absurd e (by decide)
  · intro q
    exact Or.inr (Or.inr (Or.inl ⟨rfl, q⟩))
theorem xs3 {a b c : Int32} : xStep 3 a b c ↔ (∃ k : Nat, k < 8 ∧ a = nI k) ∧ (∃ k : Nat, k < 8 ∧ b = nI k) ∧ (∃ k : Nat, k < 8 ∧ c = nI k) := by
  unfold xStep
  constructor
  · rintro (⟨e, q⟩ | ⟨e, q⟩ | ⟨e, q⟩ | ⟨e, q⟩ | ⟨e, q⟩ | ⟨e, q⟩ | ⟨e, q⟩ | ⟨e, q⟩ | ⟨e, q⟩ | ⟨e, q⟩ | ⟨e, q⟩ | ⟨e, q⟩ | e | ⟨e, q⟩ | e)
    · exact absurd e (by decide)
    · exact absurd e (by decide)
    · exact absurd e (by decide)
    · exact q
    · exact absurd e (by decide)
    · exact absurd e (by decide)
    · exact absurd e (by decide)
    · exact absurd e (by decide)
    · exact absurd e (by decide)
    · exact absurd e (by decide)
    · exact absurd e (by decide)
    · exact absurd e (by decide)
    · exact absurd e (by decide)
    · exact absurd e (by decide)
    · exact absurd e (by decide)
  · intro q
    exact Or.inr (Or.inr (Or.inr (Or.inl ⟨rfl, q⟩)))
theorem xs4 {a b c : Int32} : xStep 4 a b c ↔ (∃ k : Nat, k < 8 ∧ a = nI k) ∧ (∃ k : Nat, k < 8 ∧ b = nI k) ∧ (∃ k : Nat, k < 8 ∧ c = nI k) := by
  unfold xStep
  constructor
  · rintro (⟨e, q⟩ | ⟨e, q⟩ | ⟨e, q⟩ | ⟨e, q⟩ | ⟨e, q⟩ | ⟨e, q⟩ | ⟨e, q⟩ | ⟨e, q⟩ | ⟨e, q⟩ | ⟨e, q⟩ | ⟨e, q⟩ | ⟨e, q⟩ | e | ⟨e, q⟩ | e)
    · exact absurd e (by decide)
    · exact absurd e (by decide)
    · exact absurd e (by decide)
    · exact absurd e (by decide)
    · exact q
    · exact absurd e (by decide)
    · exact absurd e (by decide)
    · exact absurd e (by decide)
    · exact absurd e (by decide)
    · exact absurd e (by decide)
    · exact absurd e (by decide)
    · exact absurd e (by decide)
    · exact absurd e (by decide)
    · exact absurd e (by decide)
    · exact absurd e (by decide)
  · intro q
    exact Or.inr (Or.inr (Or.inr (Or.inr (Or.inl ⟨rfl, q⟩))))
theorem xs5 {a b c : Int32} : xStep 5 a b c ↔ (∃ k : Nat, k < 8 ∧ a = nI k) ∧ (∃ k : Nat, k < 8 ∧ b = nI k) ∧ (∃ k : Nat, k < 100 ∧ c = nI k) := by
  unfold xStep
  constructor
  · rintro (⟨e, q⟩ | ⟨e, q⟩ | ⟨e, q⟩ | ⟨e, q⟩ | ⟨e, q⟩ | ⟨e, q⟩ | ⟨e, q⟩ | ⟨e, q⟩ | ⟨e, q⟩ | ⟨e, q⟩ | ⟨e, q⟩ | ⟨e, q⟩ | e | ⟨e, q⟩ | e)
    · exact absurd e (by decide)
    · exact absurd e (by decide)
    · exact absurd e (by decide)
    · exact absurd e (by decide)
    · exact absurd e (by decide)
    · exact q
    · exact absurd e (by decide)
    · exact absurd e (by decide)
    · exact absurd e (by decide)
    · exact absurd e (by decide)
    · exact absurd e (by decide)
    · exact absurd e (by decide)
    · exact absurd e (by decide)
    · exact absurd e (by decide)
    · exact absurd e (by decide)
  · intro q
    exact Or.inr (Or.inr (Or.inr (Or.inr (Or.inr (Or.inl ⟨rfl, q⟩)))))
theorem xs6 {a b c : Int32} : xStep 6 a b c ↔ (∃ k : Nat, k < 100 ∧ a = nI k) := by
  unfold xStep
  constructor
  · rintro (⟨e, q⟩ | ⟨e, q⟩ | ⟨e, q⟩ | ⟨e, q⟩ | ⟨e, q⟩ | ⟨e, q⟩ | ⟨e, q⟩ | ⟨e, q⟩ | ⟨e, q⟩ | ⟨e, q⟩ | ⟨e, q⟩ | ⟨e, q⟩ | e | ⟨e, q⟩ | e)
    · exact absurd e (by decide)
    · exact absurd e (by decide)
    · exact absurd e (by decide)
    · exact absurd e (by decide)
    · exact absurd e (by decide)
    · exact absurd e (by decide)
    · exact q
    · exact absurd e (by decide)
    · exact absurd e (by decide)
    · exact absurd e (by decide)
    · exact absurd e (by decide)
    · exact absurd e (by decide)
    · exact absurd e (by decide)
    · exact absurd e (by decide)
    · exact absurd e (by decide)
  · intro q
    exact Or.inr (Or.inr (Or.inr (Or.inr (Or.inr (Or.inr (Or.inl ⟨rfl, q⟩))))))
theorem xs7 {a b c : Int32} : xStep 7 a b c ↔ (∃ k : Nat, k < 64 ∧ a = nI k) := by
  unfold xStep
  constructor
  · rintro (⟨e, q⟩ | ⟨e, q⟩ | ⟨e, q⟩ | ⟨e, q⟩ | ⟨e, q⟩ | ⟨e, q⟩ | ⟨e, q⟩ | ⟨e, q⟩ | ⟨e, q⟩ | ⟨e, q⟩ | ⟨e, q⟩ | ⟨e, q⟩ | e | ⟨e, q⟩ | e)
    · exact absurd e (by decide)
    · exact absurd e (by decide)
    · exact absurd e (by decide)
    · exact absurd e (by decide)
    · exact absurd e (by decide)
    · exact absurd e (by decide)
    · exact absurd e (by decide)
    · exact q
    · exact absurd e (by decide)
    · exact absurd e (by decide)
    · exact absurd e (by decide)
    · exact absurd e (by decide)
    · exact absurd e (by decide)
    · exact absurd e (by decide)
    · exact absurd e (by decide)
  · intro q
    exact Or.inr (Or.inr (Or.inr (Or.inr (Or.inr (Or.inr (Or.inr (Or.inl ⟨rfl, q⟩)))))))
theorem xs8 {a b c : Int32} : xStep 8 a b c ↔ (∃ k : Nat, k < 8 ∧ a = nI k) ∧ (∃ k : Nat, k < 64 ∧ b = nI k) := by
  unfold xStep
  constructor
  · rintro (⟨e, q⟩ | ⟨e, q⟩ | ⟨e, q⟩ | ⟨e, q⟩ | ⟨e, q⟩ | ⟨e, q⟩ | ⟨e, q⟩ | ⟨e, q⟩ | ⟨e, q⟩ | ⟨e, q⟩ | ⟨e, q⟩ | ⟨e, q⟩ | e | ⟨e, q⟩ | e)
    · exact absurd e (by decide)
    · exact absurd e (by decide)
    · exact absurd e (by decide)
    · exact absurd e (by decide)
    · exact absurd e (by decide)
    · exact absurd e (by decide)
    · exact absurd e (by decide)
    · exact absurd e (by decide)
    · exact q
    · exact absurd e (by decide)
    · exact absurd e (by decide)
    · exact absurd e (by decide)
    · exact absurd e (by decide)
    · exact absurd e (by decide)
    · exact absurd e (by decide)
  · intro q
    exact Or.inr (Or.inr (Or.inr (Or.inr (Or.inr (Or.inr (Or.inr (Or.inr (Or.inl ⟨rfl, q⟩))))))))
theorem xs9 {a b c : Int32} : xStep 9 a b c ↔ (∃ k : Nat, k < 64 ∧ a = nI k) ∧ (∃ k : Nat, k < 8 ∧ b = nI k) := by
  unfold xStep
  constructor
  · rintro (⟨e, q⟩ | ⟨e, q⟩ | ⟨e, q⟩ | ⟨e, q⟩ | ⟨e, q⟩ | ⟨e, q⟩ | ⟨e, q⟩ | ⟨e, q⟩ | ⟨e, q⟩ | ⟨e, q⟩ | ⟨e, q⟩ | ⟨e, q⟩ | e | ⟨e, q⟩ | e)
    · exact absurd e (by decide)
    · exact absurd e (by decide)
    · exact absurd e (by decide)
    · exact absurd e (by decide)
    · exact absurd e (by decide)
    · exact absurd e (by decide)
    · exact absurd e (by decide)
    · exact absurd e (by decide)
    · exact absurd e (by decide)
    · exact q
    · exact absurd e (by decide)
    · exact absurd e (by decide)
    · exact absurd e (by decide)
    · exact absurd e (by decide)
    · exact absurd e (by decide)
  · intro q
    exact Or.inr (Or.inr (Or.inr (Or.inr (Or.inr (Or.inr (Or.inr (Or.inr (Or.inr (Or.inl ⟨rfl, q⟩)))))))))
theorem xs10 {a b c : Int32} : xStep 10 a b c ↔ (∃ k : Nat, k < 8 ∧ a = nI k) ∧ (∃ k : Nat, k < 64 ∧ b = nI k) := by
  unfold xStep
  constructor
  · rintro (⟨e, q⟩ | ⟨e, q⟩ | ⟨e, q⟩ | ⟨e, q⟩ | ⟨e, q⟩ | ⟨e, q⟩ | ⟨e, q⟩ | ⟨e, q⟩ | ⟨e, q⟩ | ⟨e, q⟩ | ⟨e, q⟩ | ⟨e, q⟩ | e | ⟨e, q⟩ | e)
    · exact absurd e (by decide)
    · exact absurd e (by decide)
    · exact absurd e (by decide)
    · exact absurd e (by decide)
    · exact absurd e (by decide)
    · exact absurd e (by decide)
    · exact absurd e (by decide)
    · exact absurd e (by decide)
    · exact absurd e (by decide)
    · exact absurd e (by decide)
    · exact q
    · exact absurd e (by decide)
    · exact absurd e (by decide)
    · exact absurd e (by decide)
    · exact absurd e (by decide)
  · intro q
    exact Or.inr (Or.inr (Or.inr (Or.inr (Or.inr (Or.inr (Or.inr (Or.inr (Or.inr (Or.inr (Or.inl ⟨rfl, q⟩))))))))))
theorem xs11 {a b c : Int32} : xStep 11 a b c ↔ (∃ k : Nat, k < 8 ∧ a = nI k) := by
  unfold xStep
  constructor
  · rintro (⟨e, q⟩ | ⟨e, q⟩ | ⟨e, q⟩ | ⟨e, q⟩ | ⟨e, q⟩ | ⟨e, q⟩ | ⟨e, q⟩ | ⟨e, q⟩ | ⟨e, q⟩ | ⟨e, q⟩ | ⟨e, q⟩ | ⟨e, q⟩ | e | ⟨e, q⟩ | e)
    · exact absurd e (by decide)
    · exact absurd e (by decide)
    · exact absurd e (by decide)
    · exact absurd e (by decide)
    · exact absurd e (by decide)
    · exact absurd e (by decide)
    · exact absurd e (by decide)
    · exact absurd e (by decide)
    · exact absurd e (by decide)
    · exact absurd e (by decide)
    · exact absurd e (by decide)
    · exact q
    · exact absurd e (by decide)
    · exact absurd e (by decide)
    · exact absurd e (by decide)
  · intro q
    exact Or.inr (Or.inr (Or.inr (Or.inr (Or.inr (Or.inr (Or.inr (Or.inr (Or.inr (Or.inr (Or.inr (Or.inl ⟨rfl, q⟩)))))))))))
theorem xs12 {a b c : Int32} : xStep 12 a b c ↔ True := by
  unfold xStep
  constructor
  · rintro (⟨e, q⟩ | ⟨e, q⟩ | ⟨e, q⟩ | ⟨e, q⟩ | ⟨e, q⟩ | ⟨e, q⟩ | ⟨e, q⟩ | ⟨e, q⟩ | ⟨e, q⟩ | ⟨e, q⟩ | ⟨e, q⟩ | ⟨e, q⟩ | e | ⟨e, q⟩ | e)
    · exact absurd e (by decide)
    · exact absurd e (by decide)
    · exact absurd e (by decide)
    · exact absurd e (by decide)
    · exact absurd e (by decide)
    · exact absurd e (by decide)
    · exact absurd e (by decide)
    · exact absurd e (by decide)
    · exact absurd e (by decide)
    · exact absurd e (by decide)
    · exact absurd e (by decide)
    · exact absurd e (by decide)
    · exact trivial
    · exact absurd e (by decide)
    · exact absurd e (by decide)
  · intro q
    exact Or.inr (Or.inr (Or.inr (Or.inr (Or.inr (Or.inr (Or.inr (Or.inr (Or.inr (Or.inr (Or.inr (Or.inr (Or.inl rfl))))))))))))
theorem xs13 {a b c : Int32} : xStep 13 a b c ↔ (∃ k : Nat, k < 8 ∧ a = nI k) := by
  unfold xStep
  constructor
  · rintro (⟨e, q⟩ | ⟨e, q⟩ | ⟨e, q⟩ | ⟨e, q⟩ | ⟨e, q⟩ | ⟨e, q⟩ | ⟨e, q⟩ | ⟨e, q⟩ | ⟨e, q⟩ | ⟨e, q⟩ | ⟨e, q⟩ | ⟨e, q⟩ | e | ⟨e, q⟩ | e)
    · exact absurd e (by decide)
    · exact absurd e (by decide)
    · exact absurd e (by decide)
    · exact absurd e (by decide)
    · exact absurd e (by decide)
    · exact absurd e (by decide)
    · exact absurd e (by decide)
    · exact absurd e (by decide)
    · exact absurd e (by decide)
    · exact absurd e (by decide)
    · exact absurd e (by decide)
    · exact absurd e (by decide)
    · exact absurd e (by decide)
    · exact q
    · exact absurd e (by decide)
  · intro q
    exact Or.inr (Or.inr (Or.inr (Or.inr (Or.inr (Or.inr (Or.inr (Or.inr (Or.inr (Or.inr (Or.inr (Or.inr (Or.inr (Or.inl ⟨rfl, q⟩)))))))))))))
theorem xs14 {a b c : Int32} : xStep 14 a b c ↔ True := by
  unfold xStep
  constructor
  · rintro (⟨e, q⟩ | ⟨e, q⟩ | ⟨e, q⟩ | ⟨e, q⟩ | ⟨e, q⟩ | ⟨e, q⟩ | ⟨e, q⟩ | ⟨e, q⟩ | ⟨e, q⟩ | ⟨e, q⟩ | ⟨e, q⟩ | ⟨e, q⟩ | e | ⟨e, q⟩ | e)
    · exact absurd e (by decide)
    · exact absurd e (by decide)
    · exact absurd e (by decide)
    · exact absurd e (by decide)
    · exact absurd e (by decide)
    · exact absurd e (by decide)
    · exact absurd e (by decide)
    · exact absurd e (by decide)
    · exact absurd e (by decide)
    · exact absurd e (by decide)
    · exact absurd e (by decide)
    · exact absurd e (by decide)
    · exact absurd e (by decide)
    · exact absurd e (by decide)
    · exact trivial
  · intro q
    exact Or.inr (Or.inr (Or.inr (Or.inr (Or.inr (Or.inr (Or.inr (Or.inr (Or.inr (Or.inr (Or.inr (Or.inr (Or.inr (Or.inr (rfl))))))))))))))
theorem xs_no {op a b c : Int32} (h : op.toInt < 0 ∨ 14 < op.toInt) : ¬ xStep op a b c := by
  unfold xStep
  rintro (⟨e, -⟩ | ⟨e, -⟩ | ⟨e, -⟩ | ⟨e, -⟩ | ⟨e, -⟩ | ⟨e, -⟩ | ⟨e, -⟩ | ⟨e, -⟩ | ⟨e, -⟩ | ⟨e, -⟩ | ⟨e, -⟩ | ⟨e, -⟩ | e | ⟨e, -⟩ | e) <;> subst e <;> revert h <;> decide
theorem z_eq {x : Int32} {k : Int32} {v : Int} (h : x.toInt = v) (hk : k.toInt = v) : x = k := Int32.toInt_inj.mp (h.trans hk.symm)
theorem zno14 {x : Int32} (h : x.toInt < 0 ∨ 13 < x.toInt) (h2 : ¬ x = 14) : x.toInt < 0 ∨ 14 < x.toInt := by
  have : x.toInt ≠ 14 := fun e => h2 (z_eq e rfl)
  omega
theorem kisGood {d : Nat} {Pp : Option Value → xH → Prop} {K : Nat → Nat × Nat} {I : Nat → Nat → Int32} {P : Nat → Nat → Option Nat} {n s : Nat} {x0 x1 x2 x3 : Int32} (h1 : xStep x0 x1 x2 x3 → Pp (some (.int 1)) (K, I, P, n, s)) (h0 : ¬ xStep x0 x1 x2 x3 → Pp (some (.int 0)) (K, I, P, n, s)) : xC (d + 1) mX5_isGood [(.int x0), (.int x1), (.int x2), (.int x3)] (K, I, P, n, s) Pp := by
  refine y_met 0 0 ?_
  show xB (d + 1) 5 cX5_isGood (some .boolean) false (xE n s 0 0 Pp) 0 [some (.int x0), some (.int x1), some (.int x2), some (.int x3)] [] (K, I, P, n, s)
  refine y_iload_n dX5_isGood_0 rfl ?_
  refine y_tsw dX5_isGood_1 (fun c1 => ⟨201, by decide, ?_⟩) (fun c1a c1b => ?_)
  · refine y_iload_n dX5_isGood_201 rfl ?_
    refine y_bipush (v := 12) dX5_isGood_202 (by decide) ?_
    refine y_icmp_eq 213 dX5_isGood_204 (by decide) (fun c204 => ?_) (fun c204 => ?_)
    · refine y_iconst (v := 1) dX5_isGood_213 (by decide) ?_
      refine y_goto 218 dX5_isGood_214 (by decide) ?_
      exact y_retz dX5_isGood_218 rfl rfl (Or.inr rfl) (h1 (by rw [c204]; exact xs12.mpr trivial))
    · refine y_iload_n dX5_isGood_207 rfl ?_
      refine y_bipush (v := 14) dX5_isGood_208 (by decide) ?_
      refine y_icmp_ne 217 dX5_isGood_210 (by decide) (fun c210 => ?_) (fun c210 => ?_)
      · refine y_iconst (v := 0) dX5_isGood_217 (by decide) ?_
        exact y_retz dX5_isGood_218 rfl rfl (Or.inl rfl) (h0 (xs_no (zno14 c1 c210)))
      · refine y_iconst (v := 1) dX5_isGood_213 (by decide) ?_
        refine y_goto 218 dX5_isGood_214 (by decide) ?_
        exact y_retz dX5_isGood_218 rfl rfl (Or.inr rfl) (h1 (by rw [c210]; exact xs14.mpr trivial))
  · have c1c : (x0).toInt = 0 ∨ (x0).toInt = 1 ∨ (x0).toInt = 2 ∨ (x0).toInt = 3 ∨ (x0).toInt = 4 ∨ (x0).toInt = 5 ∨ (x0).toInt = 6 ∨ (x0).toInt = 7 ∨ (x0).toInt = 8 ∨ (x0).toInt = 9 ∨ (x0).toInt = 10 ∨ (x0).toInt = 11 ∨ (x0).toInt = 12 ∨ (x0).toInt = 13 := by omega
    rcases c1c with e1 | e1 | e1 | e1 | e1 | e1 | e1 | e1 | e1 | e1 | e1 | e1 | e1 | e1
    · refine ⟨71, 72, by rw [e1]; rfl, by decide, ?_⟩
      obtain rfl : x0 = 0 := z_eq e1 rfl
      refine y_iload_n dX5_isGood_72 rfl ?_
      refine y_callS1 mX5_isRegister 0 dX5_isGood_73 rfl rfl (Nat.le_of_ble_eq_true rfl) (kX5_isRegister (fun k73 hk73 ek73 => ?_) (fun nk73 => ?_))
      · exact y_retz dX5_isGood_76 rfl rfl (Or.inr rfl) (h1 (xs0.mpr ⟨k73, hk73, ek73⟩))
      · exact y_retz dX5_isGood_76 rfl rfl (Or.inl rfl) (h0 (fun w => by
          have q := xs0.mp w
          obtain ⟨k, hk, ek⟩ := q
          exact nk73 k hk ek))
    · refine ⟨76, 77, by rw [e1]; rfl, by decide, ?_⟩
      obtain rfl : x0 = 1 := z_eq e1 rfl
      refine y_iload_n dX5_isGood_77 rfl ?_
      refine y_callS1 mX5_isRegister 0 dX5_isGood_78 rfl rfl (Nat.le_of_ble_eq_true rfl) (kX5_isRegister (fun k78 hk78 ek78 => ?_) (fun nk78 => ?_))
      · refine y_if_eq 95 dX5_isGood_81 (by decide) (fun q => absurd q (by decide)) (fun _ => ?_)
        refine y_iload_n dX5_isGood_84 rfl ?_
        refine y_callS1 mX5_isRegister 0 dX5_isGood_85 rfl rfl (Nat.le_of_ble_eq_true rfl) (kX5_isRegister (fun k85 hk85 ek85 => ?_) (fun nk85 => ?_))
        · refine y_if_eq 95 dX5_isGood_88 (by decide) (fun q => absurd q (by decide)) (fun _ => ?_)
          refine y_iconst (v := 1) dX5_isGood_91 (by decide) ?_
          refine y_goto 96 dX5_isGood_92 (by decide) ?_
          exact y_retz dX5_isGood_96 rfl rfl (Or.inr rfl) (h1 (xs1.mpr ⟨⟨k78, hk78, ek78⟩, ⟨k85, hk85, ek85⟩⟩))
        · refine y_if_eq 95 dX5_isGood_88 (by decide) (fun _ => ?_) (fun q => absurd q (by decide))
          refine y_iconst (v := 0) dX5_isGood_95 (by decide) ?_
          exact y_retz dX5_isGood_96 rfl rfl (Or.inl rfl) (h0 (fun w => by
            have q := xs1.mp w
            obtain ⟨k, hk, ek⟩ := q.2
            exact nk85 k hk ek))
      · refine y_if_eq 95 dX5_isGood_81 (by decide) (fun _ => ?_) (fun q => absurd q (by decide))
        refine y_iconst (v := 0) dX5_isGood_95 (by decide) ?_
        exact y_retz dX5_isGood_96 rfl rfl (Or.inl rfl) (h0 (fun w => by
          have q := xs1.mp w
          obtain ⟨k, hk, ek⟩ := q.1
          exact nk78 k hk ek))
    · refine ⟨96, 97, by rw [e1]; rfl, by decide, ?_⟩
      obtain rfl : x0 = 2 := z_eq e1 rfl
      refine y_iload_n dX5_isGood_97 rfl ?_
      refine y_callS1 mX5_isRegister 0 dX5_isGood_98 rfl rfl (Nat.le_of_ble_eq_true rfl) (kX5_isRegister (fun k98 hk98 ek98 => ?_) (fun nk98 => ?_))
      · refine y_if_eq 122 dX5_isGood_101 (by decide) (fun q => absurd q (by decide)) (fun _ => ?_)
        refine y_iload_n dX5_isGood_104 rfl ?_
        refine y_callS1 mX5_isRegister 0 dX5_isGood_105 rfl rfl (Nat.le_of_ble_eq_true rfl) (kX5_isRegister (fun k105 hk105 ek105 => ?_) (fun nk105 => ?_))
        · refine y_if_eq 122 dX5_isGood_108 (by decide) (fun q => absurd q (by decide)) (fun _ => ?_)
          refine y_iload_n dX5_isGood_111 rfl ?_
          refine y_callS1 mX5_isRegister 0 dX5_isGood_112 rfl rfl (Nat.le_of_ble_eq_true rfl) (kX5_isRegister (fun k112 hk112 ek112 => ?_) (fun nk112 => ?_))
          · refine y_if_eq 122 dX5_isGood_115 (by decide) (fun q => absurd q (by decide)) (fun _ => ?_)
            refine y_iconst (v := 1) dX5_isGood_118 (by decide) ?_
            refine y_goto 123 dX5_isGood_119 (by decide) ?_
            exact y_retz dX5_isGood_123 rfl rfl (Or.inr rfl) (h1 (xs2.mpr ⟨⟨k98, hk98, ek98⟩, ⟨k105, hk105, ek105⟩, ⟨k112, hk112, ek112⟩⟩))
          · refine y_if_eq 122 dX5_isGood_115 (by decide) (fun _ => ?_) (fun q => absurd q (by decide))
            refine y_iconst (v := 0) dX5_isGood_122 (by decide) ?_
            exact y_retz dX5_isGood_123 rfl rfl (Or.inl rfl) (h0 (fun w => by
              have q := xs2.mp w
              obtain ⟨k, hk, ek⟩ := q.2.2
              exact nk112 k hk ek))
        · refine y_if_eq 122 dX5_isGood_108 (by decide) (fun _ => ?_) (fun q => absurd q (by decide))
          refine y_iconst (v := 0) dX5_isGood_122 (by decide) ?_
          exact y_retz dX5_isGood_123 rfl rfl (Or.inl rfl) (h0 (fun w => by
            have q := xs2.mp w
            obtain ⟨k, hk, ek⟩ := q.2.1
            exact nk105 k hk ek))
      · refine y_if_eq 122 dX5_isGood_101 (by decide) (fun _ => ?_) (fun q => absurd q (by decide))
        refine y_iconst (v := 0) dX5_isGood_122 (by decide) ?_
        exact y_retz dX5_isGood_123 rfl rfl (Or.inl rfl) (h0 (fun w => by
          have q := xs2.mp w
          obtain ⟨k, hk, ek⟩ := q.1
          exact nk98 k hk ek))
    · refine ⟨96, 97, by rw [e1]; rfl, by decide, ?_⟩
      obtain rfl : x0 = 3 := z_eq e1 rfl
      refine y_iload_n dX5_isGood_97 rfl ?_
      refine y_callS1 mX5_isRegister 0 dX5_isGood_98 rfl rfl (Nat.le_of_ble_eq_true rfl) (kX5_isRegister (fun k98 hk98 ek98 => ?_) (fun nk98 => ?_))
      · refine y_if_eq 122 dX5_isGood_101 (by decide) (fun q => absurd q (by decide)) (fun _ => ?_)
        refine y_iload_n dX5_isGood_104 rfl ?_
        refine y_callS1 mX5_isRegister 0 dX5_isGood_105 rfl rfl (Nat.le_of_ble_eq_true rfl) (kX5_isRegister (fun k105 hk105 ek105 => ?_) (fun nk105 => ?_))
        · refine y_if_eq 122 dX5_isGood_108 (by decide) (fun q => absurd q (by decide)) (fun _ => ?_)
          refine y_iload_n dX5_isGood_111 rfl ?_
          refine y_callS1 mX5_isRegister 0 dX5_isGood_112 rfl rfl (Nat.le_of_ble_eq_true rfl) (kX5_isRegister (fun k112 hk112 ek112 => ?_) (fun nk112 => ?_))
          · refine y_if_eq 122 dX5_isGood_115 (by decide) (fun q => absurd q (by decide)) (fun _ => ?_)
            refine y_iconst (v := 1) dX5_isGood_118 (by decide) ?_
            refine y_goto 123 dX5_isGood_119 (by decide) ?_
            exact y_retz dX5_isGood_123 rfl rfl (Or.inr rfl) (h1 (xs3.mpr ⟨⟨k98, hk98, ek98⟩, ⟨k105, hk105, ek105⟩, ⟨k112, hk112, ek112⟩⟩))
          · refine y_if_eq 122 dX5_isGood_115 (by decide) (fun _ => ?_) (fun q => absurd q (by decide))
            refine y_iconst (v := 0) dX5_isGood_122 (by decide) ?_
            exact y_retz dX5_isGood_123 rfl rfl (Or.inl rfl) (h0 (fun w => by
              have q := xs3.mp w
              obtain ⟨k, hk, ek⟩ := q.2.2
              exact nk112 k hk ek))
        · refine y_if_eq 122 dX5_isGood_108 (by decide) (fun _ => ?_) (fun q => absurd q (by decide))
          refine y_iconst (v := 0) dX5_isGood_122 (by decide) ?_
          exact y_retz dX5_isGood_123 rfl rfl (Or.inl rfl) (h0 (fun w => by
            have q := xs3.mp w
            obtain ⟨k, hk, ek⟩ := q.2.1
            exact nk105 k hk ek))
      · refine y_if_eq 122 dX5_isGood_101 (by decide) (fun _ => ?_) (fun q => absurd q (by decide))
        refine y_iconst (v := 0) dX5_isGood_122 (by decide) ?_
        exact y_retz dX5_isGood_123 rfl rfl (Or.inl rfl) (h0 (fun w => by
          have q := xs3.mp w
          obtain ⟨k, hk, ek⟩ := q.1
          exact nk98 k hk ek))
    · refine ⟨96, 97, by rw [e1]; rfl, by decide, ?_⟩
      obtain rfl : x0 = 4 := z_eq e1 rfl
      refine y_iload_n dX5_isGood_97 rfl ?_
      refine y_callS1 mX5_isRegister 0 dX5_isGood_98 rfl rfl (Nat.le_of_ble_eq_true rfl) (kX5_isRegister (fun k98 hk98 ek98 => ?_) (fun nk98 => ?_))
      · refine y_if_eq 122 dX5_isGood_101 (by decide) (fun q => absurd q (by decide)) (fun _ => ?_)
        refine y_iload_n dX5_isGood_104 rfl ?_
        refine y_callS1 mX5_isRegister 0 dX5_isGood_105 rfl rfl (Nat.le_of_ble_eq_true rfl) (kX5_isRegister (fun k105 hk105 ek105 => ?_) (fun nk105 => ?_))
        · refine y_if_eq 122 dX5_isGood_108 (by decide) (fun q => absurd q (by decide)) (fun _ => ?_)
          refine y_iload_n dX5_isGood_111 rfl ?_
          refine y_callS1 mX5_isRegister 0 dX5_isGood_112 rfl rfl (Nat.le_of_ble_eq_true rfl) (kX5_isRegister (fun k112 hk112 ek112 => ?_) (fun nk112 => ?_))
          · refine y_if_eq 122 dX5_isGood_115 (by decide) (fun q => absurd q (by decide)) (fun _ => ?_)
            refine y_iconst (v := 1) dX5_isGood_118 (by decide) ?_
            refine y_goto 123 dX5_isGood_119 (by decide) ?_
            exact y_retz dX5_isGood_123 rfl rfl (Or.inr rfl) (h1 (xs4.mpr ⟨⟨k98, hk98, ek98⟩, ⟨k105, hk105, ek105⟩, ⟨k112, hk112, ek112⟩⟩))
          · refine y_if_eq 122 dX5_isGood_115 (by decide) (fun _ => ?_) (fun q => absurd q (by decide))
            refine y_iconst (v := 0) dX5_isGood_122 (by decide) ?_
            exact y_retz dX5_isGood_123 rfl rfl (Or.inl rfl) (h0 (fun w => by
              have q := xs4.mp w
              obtain ⟨k, hk, ek⟩ := q.2.2
              exact nk112 k hk ek))
        · refine y_if_eq 122 dX5_isGood_108 (by decide) (fun _ => ?_) (fun q => absurd q (by decide))
          refine y_iconst (v := 0) dX5_isGood_122 (by decide) ?_
          exact y_retz dX5_isGood_123 rfl rfl (Or.inl rfl) (h0 (fun w => by
            have q := xs4.mp w
            obtain ⟨k, hk, ek⟩ := q.2.1
            exact nk105 k hk ek))
      · refine y_if_eq 122 dX5_isGood_101 (by decide) (fun _ => ?_) (fun q => absurd q (by decide))
        refine y_iconst (v := 0) dX5_isGood_122 (by decide) ?_
        exact y_retz dX5_isGood_123 rfl rfl (Or.inl rfl) (h0 (fun w => by
          have q := xs4.mp w
          obtain ⟨k, hk, ek⟩ := q.1
          exact nk98 k hk ek))
    · refine ⟨123, 124, by rw [e1]; rfl, by decide, ?_⟩
      obtain rfl : x0 = 5 := z_eq e1 rfl
      refine y_iload_n dX5_isGood_124 rfl ?_
      refine y_callS1 mX5_isRegister 0 dX5_isGood_125 rfl rfl (Nat.le_of_ble_eq_true rfl) (kX5_isRegister (fun k125 hk125 ek125 => ?_) (fun nk125 => ?_))
      · refine y_if_eq 149 dX5_isGood_128 (by decide) (fun q => absurd q (by decide)) (fun _ => ?_)
        refine y_iload_n dX5_isGood_131 rfl ?_
        refine y_callS1 mX5_isRegister 0 dX5_isGood_132 rfl rfl (Nat.le_of_ble_eq_true rfl) (kX5_isRegister (fun k132 hk132 ek132 => ?_) (fun nk132 => ?_))
        · refine y_if_eq 149 dX5_isGood_135 (by decide) (fun q => absurd q (by decide)) (fun _ => ?_)
          refine y_iload_n dX5_isGood_138 rfl ?_
          refine y_callS1 mX5_isStep 0 dX5_isGood_139 rfl rfl (Nat.le_of_ble_eq_true rfl) (kX5_isStep (fun k139 hk139 ek139 => ?_) (fun nk139 => ?_))
          · refine y_if_eq 149 dX5_isGood_142 (by decide) (fun q => absurd q (by decide)) (fun _ => ?_)
            refine y_iconst (v := 1) dX5_isGood_145 (by decide) ?_
            refine y_goto 150 dX5_isGood_146 (by decide) ?_
            exact y_retz dX5_isGood_150 rfl rfl (Or.inr rfl) (h1 (xs5.mpr ⟨⟨k125, hk125, ek125⟩, ⟨k132, hk132, ek132⟩, ⟨k139, hk139, ek139⟩⟩))
          · refine y_if_eq 149 dX5_isGood_142 (by decide) (fun _ => ?_) (fun q => absurd q (by decide))
            refine y_iconst (v := 0) dX5_isGood_149 (by decide) ?_
            exact y_retz dX5_isGood_150 rfl rfl (Or.inl rfl) (h0 (fun w => by
              have q := xs5.mp w
              obtain ⟨k, hk, ek⟩ := q.2.2
              exact nk139 k hk ek))
        · refine y_if_eq 149 dX5_isGood_135 (by decide) (fun _ => ?_) (fun q => absurd q (by decide))
          refine y_iconst (v := 0) dX5_isGood_149 (by decide) ?_
          exact y_retz dX5_isGood_150 rfl rfl (Or.inl rfl) (h0 (fun w => by
            have q := xs5.mp w
            obtain ⟨k, hk, ek⟩ := q.2.1
            exact nk132 k hk ek))
      · refine y_if_eq 149 dX5_isGood_128 (by decide) (fun _ => ?_) (fun q => absurd q (by decide))
        refine y_iconst (v := 0) dX5_isGood_149 (by decide) ?_
        exact y_retz dX5_isGood_150 rfl rfl (Or.inl rfl) (h0 (fun w => by
          have q := xs5.mp w
          obtain ⟨k, hk, ek⟩ := q.1
          exact nk125 k hk ek))
    · refine ⟨150, 151, by rw [e1]; rfl, by decide, ?_⟩
      obtain rfl : x0 = 6 := z_eq e1 rfl
      refine y_iload_n dX5_isGood_151 rfl ?_
      refine y_callS1 mX5_isStep 0 dX5_isGood_152 rfl rfl (Nat.le_of_ble_eq_true rfl) (kX5_isStep (fun k152 hk152 ek152 => ?_) (fun nk152 => ?_))
      · exact y_retz dX5_isGood_155 rfl rfl (Or.inr rfl) (h1 (xs6.mpr ⟨k152, hk152, ek152⟩))
      · exact y_retz dX5_isGood_155 rfl rfl (Or.inl rfl) (h0 (fun w => by
          have q := xs6.mp w
          obtain ⟨k, hk, ek⟩ := q
          exact nk152 k hk ek))
    · refine ⟨155, 156, by rw [e1]; rfl, by decide, ?_⟩
      obtain rfl : x0 = 7 := z_eq e1 rfl
      refine y_iload_n dX5_isGood_156 rfl ?_
      refine y_callS1 mX5_isName 0 dX5_isGood_157 rfl rfl (Nat.le_of_ble_eq_true rfl) (kX5_isName (fun k157 hk157 ek157 => ?_) (fun nk157 => ?_))
      · exact y_retz dX5_isGood_160 rfl rfl (Or.inr rfl) (h1 (xs7.mpr ⟨k157, hk157, ek157⟩))
      · exact y_retz dX5_isGood_160 rfl rfl (Or.inl rfl) (h0 (fun w => by
          have q := xs7.mp w
          obtain ⟨k, hk, ek⟩ := q
          exact nk157 k hk ek))
    · refine ⟨160, 161, by rw [e1]; rfl, by decide, ?_⟩
      obtain rfl : x0 = 8 := z_eq e1 rfl
      refine y_iload_n dX5_isGood_161 rfl ?_
      refine y_callS1 mX5_isRegister 0 dX5_isGood_162 rfl rfl (Nat.le_of_ble_eq_true rfl) (kX5_isRegister (fun k162 hk162 ek162 => ?_) (fun nk162 => ?_))
      · refine y_if_eq 179 dX5_isGood_165 (by decide) (fun q => absurd q (by decide)) (fun _ => ?_)
        refine y_iload_n dX5_isGood_168 rfl ?_
        refine y_callS1 mX5_isName 0 dX5_isGood_169 rfl rfl (Nat.le_of_ble_eq_true rfl) (kX5_isName (fun k169 hk169 ek169 => ?_) (fun nk169 => ?_))
        · refine y_if_eq 179 dX5_isGood_172 (by decide) (fun q => absurd q (by decide)) (fun _ => ?_)
          refine y_iconst (v := 1) dX5_isGood_175 (by decide) ?_
          refine y_goto 180 dX5_isGood_176 (by decide) ?_
          exact y_retz dX5_isGood_180 rfl rfl (Or.inr rfl) (h1 (xs8.mpr ⟨⟨k162, hk162, ek162⟩, ⟨k169, hk169, ek169⟩⟩))
        · refine y_if_eq 179 dX5_isGood_172 (by decide) (fun _ => ?_) (fun q => absurd q (by decide))
          refine y_iconst (v := 0) dX5_isGood_179 (by decide) ?_
          exact y_retz dX5_isGood_180 rfl rfl (Or.inl rfl) (h0 (fun w => by
            have q := xs8.mp w
            obtain ⟨k, hk, ek⟩ := q.2
            exact nk169 k hk ek))
      · refine y_if_eq 179 dX5_isGood_165 (by decide) (fun _ => ?_) (fun q => absurd q (by decide))
        refine y_iconst (v := 0) dX5_isGood_179 (by decide) ?_
        exact y_retz dX5_isGood_180 rfl rfl (Or.inl rfl) (h0 (fun w => by
          have q := xs8.mp w
          obtain ⟨k, hk, ek⟩ := q.1
          exact nk162 k hk ek))
    · refine ⟨180, 181, by rw [e1]; rfl, by decide, ?_⟩
      obtain rfl : x0 = 9 := z_eq e1 rfl
      refine y_iload_n dX5_isGood_181 rfl ?_
      refine y_callS1 mX5_isName 0 dX5_isGood_182 rfl rfl (Nat.le_of_ble_eq_true rfl) (kX5_isName (fun k182 hk182 ek182 => ?_) (fun nk182 => ?_))
      · refine y_if_eq 199 dX5_isGood_185 (by decide) (fun q => absurd q (by decide)) (fun _ => ?_)
        refine y_iload_n dX5_isGood_188 rfl ?_
        refine y_callS1 mX5_isRegister 0 dX5_isGood_189 rfl rfl (Nat.le_of_ble_eq_true rfl) (kX5_isRegister (fun k189 hk189 ek189 => ?_) (fun nk189 => ?_))
        · refine y_if_eq 199 dX5_isGood_192 (by decide) (fun q => absurd q (by decide)) (fun _ => ?_)
          refine y_iconst (v := 1) dX5_isGood_195 (by decide) ?_
          refine y_goto 200 dX5_isGood_196 (by decide) ?_
          exact y_retz dX5_isGood_200 rfl rfl (Or.inr rfl) (h1 (xs9.mpr ⟨⟨k182, hk182, ek182⟩, ⟨k189, hk189, ek189⟩⟩))
        · refine y_if_eq 199 dX5_isGood_192 (by decide) (fun _ => ?_) (fun q => absurd q (by decide))
          refine y_iconst (v := 0) dX5_isGood_199 (by decide) ?_
          exact y_retz dX5_isGood_200 rfl rfl (Or.inl rfl) (h0 (fun w => by
            have q := xs9.mp w
            obtain ⟨k, hk, ek⟩ := q.2
            exact nk189 k hk ek))
      · refine y_if_eq 199 dX5_isGood_185 (by decide) (fun _ => ?_) (fun q => absurd q (by decide))
        refine y_iconst (v := 0) dX5_isGood_199 (by decide) ?_
        exact y_retz dX5_isGood_200 rfl rfl (Or.inl rfl) (h0 (fun w => by
          have q := xs9.mp w
          obtain ⟨k, hk, ek⟩ := q.1
          exact nk182 k hk ek))
    · refine ⟨160, 161, by rw [e1]; rfl, by decide, ?_⟩
      obtain rfl : x0 = 10 := z_eq e1 rfl
      refine y_iload_n dX5_isGood_161 rfl ?_
      refine y_callS1 mX5_isRegister 0 dX5_isGood_162 rfl rfl (Nat.le_of_ble_eq_true rfl) (kX5_isRegister (fun k162 hk162 ek162 => ?_) (fun nk162 => ?_))
      · refine y_if_eq 179 dX5_isGood_165 (by decide) (fun q => absurd q (by decide)) (fun _ => ?_)
        refine y_iload_n dX5_isGood_168 rfl ?_
        refine y_callS1 mX5_isName 0 dX5_isGood_169 rfl rfl (Nat.le_of_ble_eq_true rfl) (kX5_isName (fun k169 hk169 ek169 => ?_) (fun nk169 => ?_))
        · refine y_if_eq 179 dX5_isGood_172 (by decide) (fun q => absurd q (by decide)) (fun _ => ?_)
          refine y_iconst (v := 1) dX5_isGood_175 (by decide) ?_
          refine y_goto 180 dX5_isGood_176 (by decide) ?_
          exact y_retz dX5_isGood_180 rfl rfl (Or.inr rfl) (h1 (xs10.mpr ⟨⟨k162, hk162, ek162⟩, ⟨k169, hk169, ek169⟩⟩))
        · refine y_if_eq 179 dX5_isGood_172 (by decide) (fun _ => ?_) (fun q => absurd q (by decide))
          refine y_iconst (v := 0) dX5_isGood_179 (by decide) ?_
          exact y_retz dX5_isGood_180 rfl rfl (Or.inl rfl) (h0 (fun w => by
            have q := xs10.mp w
            obtain ⟨k, hk, ek⟩ := q.2
            exact nk169 k hk ek))
      · refine y_if_eq 179 dX5_isGood_165 (by decide) (fun _ => ?_) (fun q => absurd q (by decide))
        refine y_iconst (v := 0) dX5_isGood_179 (by decide) ?_
        exact y_retz dX5_isGood_180 rfl rfl (Or.inl rfl) (h0 (fun w => by
          have q := xs10.mp w
          obtain ⟨k, hk, ek⟩ := q.1
          exact nk162 k hk ek))
    · refine ⟨71, 72, by rw [e1]; rfl, by decide, ?_⟩
      obtain rfl : x0 = 11 := z_eq e1 rfl
      refine y_iload_n dX5_isGood_72 rfl ?_
      refine y_callS1 mX5_isRegister 0 dX5_isGood_73 rfl rfl (Nat.le_of_ble_eq_true rfl) (kX5_isRegister (fun k73 hk73 ek73 => ?_) (fun nk73 => ?_))
      · exact y_retz dX5_isGood_76 rfl rfl (Or.inr rfl) (h1 (xs11.mpr ⟨k73, hk73, ek73⟩))
      · exact y_retz dX5_isGood_76 rfl rfl (Or.inl rfl) (h0 (fun w => by
          have q := xs11.mp w
          obtain ⟨k, hk, ek⟩ := q
          exact nk73 k hk ek))
    · refine ⟨200, 201, by rw [e1]; rfl, by decide, ?_⟩
      obtain rfl : x0 = 12 := z_eq e1 rfl
      refine y_iload_n dX5_isGood_201 rfl ?_
      refine y_bipush (v := 12) dX5_isGood_202 (by decide) ?_
      refine y_icmp_eq 213 dX5_isGood_204 (by decide) (fun _ => ?_) (fun q => absurd q (by decide))
      refine y_iconst (v := 1) dX5_isGood_213 (by decide) ?_
      refine y_goto 218 dX5_isGood_214 (by decide) ?_
      exact y_retz dX5_isGood_218 rfl rfl (Or.inr rfl) (h1 (xs12.mpr trivial))
    · refine ⟨71, 72, by rw [e1]; rfl, by decide, ?_⟩
      obtain rfl : x0 = 13 := z_eq e1 rfl
      refine y_iload_n dX5_isGood_72 rfl ?_
      refine y_callS1 mX5_isRegister 0 dX5_isGood_73 rfl rfl (Nat.le_of_ble_eq_true rfl) (kX5_isRegister (fun k73 hk73 ek73 => ?_) (fun nk73 => ?_))
      · exact y_retz dX5_isGood_76 rfl rfl (Or.inr rfl) (h1 (xs13.mpr ⟨k73, hk73, ek73⟩))
      · exact y_retz dX5_isGood_76 rfl rfl (Or.inl rfl) (h0 (fun w => by
          have q := xs13.mp w
          obtain ⟨k, hk, ek⟩ := q
          exact nk73 k hk ek))
theorem kisWellFormed {d : Nat} {Pp : Option Value → xH → Prop} {K : Nat → Nat × Nat} {I : Nat → Nat → Int32} {P : Nat → Nat → Option Nat} {n s : Nat} {x0 x1 x2 x3 : Int32} (h1 : xStep x0 x1 x2 x3 → Pp (some (.int 1)) (K, I, P, n, s)) (h0 : ¬ xStep x0 x1 x2 x3 → Pp (some (.int 0)) (K, I, P, n, s)) : xC (d + 1) mX4_isWellFormed [(.int x0), (.int x1), (.int x2), (.int x3)] (K, I, P, n, s) Pp := by
  refine y_met 0 0 ?_
  show xB (d + 1) 4 cX4_isWellFormed (some .boolean) false (xE n s 0 0 Pp) 0 [some (.int x0), some (.int x1), some (.int x2), some (.int x3)] [] (K, I, P, n, s)
  refine y_iload_n dX4_isWellFormed_0 rfl ?_
  refine y_tsw dX4_isWellFormed_1 (fun c1 => ⟨207, by decide, ?_⟩) (fun c1a c1b => ?_)
  · refine y_iconst (v := 0) dX4_isWellFormed_207 (by decide) ?_
    exact y_retz dX4_isWellFormed_208 rfl rfl (Or.inl rfl) (h0 (xs_no c1))
  · have c1c : (x0).toInt = 0 ∨ (x0).toInt = 1 ∨ (x0).toInt = 2 ∨ (x0).toInt = 3 ∨ (x0).toInt = 4 ∨ (x0).toInt = 5 ∨ (x0).toInt = 6 ∨ (x0).toInt = 7 ∨ (x0).toInt = 8 ∨ (x0).toInt = 9 ∨ (x0).toInt = 10 ∨ (x0).toInt = 11 ∨ (x0).toInt = 12 ∨ (x0).toInt = 13 ∨ (x0).toInt = 14 := by omega
    rcases c1c with e1 | e1 | e1 | e1 | e1 | e1 | e1 | e1 | e1 | e1 | e1 | e1 | e1 | e1 | e1
    · refine ⟨75, 76, by rw [e1]; rfl, by decide, ?_⟩
      obtain rfl : x0 = 0 := z_eq e1 rfl
      refine y_iload_n dX4_isWellFormed_76 rfl ?_
      refine y_callS1 mX4_isRegister 0 dX4_isWellFormed_77 rfl rfl (Nat.le_of_ble_eq_true rfl) (kX4_isRegister (fun k77 hk77 ek77 => ?_) (fun nk77 => ?_))
      · exact y_retz dX4_isWellFormed_80 rfl rfl (Or.inr rfl) (h1 (xs0.mpr ⟨k77, hk77, ek77⟩))
      · exact y_retz dX4_isWellFormed_80 rfl rfl (Or.inl rfl) (h0 (fun w => by
          have q := xs0.mp w
          obtain ⟨k, hk, ek⟩ := q
          exact nk77 k hk ek))
    · refine ⟨80, 81, by rw [e1]; rfl, by decide, ?_⟩
      obtain rfl : x0 = 1 := z_eq e1 rfl
      refine y_iload_n dX4_isWellFormed_81 rfl ?_
      refine y_callS1 mX4_isRegister 0 dX4_isWellFormed_82 rfl rfl (Nat.le_of_ble_eq_true rfl) (kX4_isRegister (fun k82 hk82 ek82 => ?_) (fun nk82 => ?_))
      · refine y_if_eq 99 dX4_isWellFormed_85 (by decide) (fun q => absurd q (by decide)) (fun _ => ?_)
        refine y_iload_n dX4_isWellFormed_88 rfl ?_
        refine y_callS1 mX4_isRegister 0 dX4_isWellFormed_89 rfl rfl (Nat.le_of_ble_eq_true rfl) (kX4_isRegister (fun k89 hk89 ek89 => ?_) (fun nk89 => ?_))
        · refine y_if_eq 99 dX4_isWellFormed_92 (by decide) (fun q => absurd q (by decide)) (fun _ => ?_)
          refine y_iconst (v := 1) dX4_isWellFormed_95 (by decide) ?_
          refine y_goto 100 dX4_isWellFormed_96 (by decide) ?_
          exact y_retz dX4_isWellFormed_100 rfl rfl (Or.inr rfl) (h1 (xs1.mpr ⟨⟨k82, hk82, ek82⟩, ⟨k89, hk89, ek89⟩⟩))
        · refine y_if_eq 99 dX4_isWellFormed_92 (by decide) (fun _ => ?_) (fun q => absurd q (by decide))
          refine y_iconst (v := 0) dX4_isWellFormed_99 (by decide) ?_
          exact y_retz dX4_isWellFormed_100 rfl rfl (Or.inl rfl) (h0 (fun w => by
            have q := xs1.mp w
            obtain ⟨k, hk, ek⟩ := q.2
            exact nk89 k hk ek))
      · refine y_if_eq 99 dX4_isWellFormed_85 (by decide) (fun _ => ?_) (fun q => absurd q (by decide))
        refine y_iconst (v := 0) dX4_isWellFormed_99 (by decide) ?_
        exact y_retz dX4_isWellFormed_100 rfl rfl (Or.inl rfl) (h0 (fun w => by
          have q := xs1.mp w
          obtain ⟨k, hk, ek⟩ := q.1
          exact nk82 k hk ek))
    · refine ⟨100, 101, by rw [e1]; rfl, by decide, ?_⟩
      obtain rfl : x0 = 2 := z_eq e1 rfl
      refine y_iload_n dX4_isWellFormed_101 rfl ?_
      refine y_callS1 mX4_isRegister 0 dX4_isWellFormed_102 rfl rfl (Nat.le_of_ble_eq_true rfl) (kX4_isRegister (fun k102 hk102 ek102 => ?_) (fun nk102 => ?_))
      · refine y_if_eq 126 dX4_isWellFormed_105 (by decide) (fun q => absurd q (by decide)) (fun _ => ?_)
        refine y_iload_n dX4_isWellFormed_108 rfl ?_
        refine y_callS1 mX4_isRegister 0 dX4_isWellFormed_109 rfl rfl (Nat.le_of_ble_eq_true rfl) (kX4_isRegister (fun k109 hk109 ek109 => ?_) (fun nk109 => ?_))
        · refine y_if_eq 126 dX4_isWellFormed_112 (by decide) (fun q => absurd q (by decide)) (fun _ => ?_)
          refine y_iload_n dX4_isWellFormed_115 rfl ?_
          refine y_callS1 mX4_isRegister 0 dX4_isWellFormed_116 rfl rfl (Nat.le_of_ble_eq_true rfl) (kX4_isRegister (fun k116 hk116 ek116 => ?_) (fun nk116 => ?_))
          · refine y_if_eq 126 dX4_isWellFormed_119 (by decide) (fun q => absurd q (by decide)) (fun _ => ?_)
            refine y_iconst (v := 1) dX4_isWellFormed_122 (by decide) ?_
            refine y_goto 127 dX4_isWellFormed_123 (by decide) ?_
            exact y_retz dX4_isWellFormed_127 rfl rfl (Or.inr rfl) (h1 (xs2.mpr ⟨⟨k102, hk102, ek102⟩, ⟨k109, hk109, ek109⟩, ⟨k116, hk116, ek116⟩⟩))
          · refine y_if_eq 126 dX4_isWellFormed_119 (by decide) (fun _ => ?_) (fun q => absurd q (by decide))
            refine y_iconst (v := 0) dX4_isWellFormed_126 (by decide) ?_
            exact y_retz dX4_isWellFormed_127 rfl rfl (Or.inl rfl) (h0 (fun w => by
              have q := xs2.mp w
              obtain ⟨k, hk, ek⟩ := q.2.2
              exact nk116 k hk ek))
        · refine y_if_eq 126 dX4_isWellFormed_112 (by decide) (fun _ => ?_) (fun q => absurd q (by decide))
          refine y_iconst (v := 0) dX4_isWellFormed_126 (by decide) ?_
          exact y_retz dX4_isWellFormed_127 rfl rfl (Or.inl rfl) (h0 (fun w => by
            have q := xs2.mp w
            obtain ⟨k, hk, ek⟩ := q.2.1
            exact nk109 k hk ek))
      · refine y_if_eq 126 dX4_isWellFormed_105 (by decide) (fun _ => ?_) (fun q => absurd q (by decide))
        refine y_iconst (v := 0) dX4_isWellFormed_126 (by decide) ?_
        exact y_retz dX4_isWellFormed_127 rfl rfl (Or.inl rfl) (h0 (fun w => by
          have q := xs2.mp w
          obtain ⟨k, hk, ek⟩ := q.1
          exact nk102 k hk ek))
    · refine ⟨100, 101, by rw [e1]; rfl, by decide, ?_⟩
      obtain rfl : x0 = 3 := z_eq e1 rfl
      refine y_iload_n dX4_isWellFormed_101 rfl ?_
      refine y_callS1 mX4_isRegister 0 dX4_isWellFormed_102 rfl rfl (Nat.le_of_ble_eq_true rfl) (kX4_isRegister (fun k102 hk102 ek102 => ?_) (fun nk102 => ?_))
      · refine y_if_eq 126 dX4_isWellFormed_105 (by decide) (fun q => absurd q (by decide)) (fun _ => ?_)
        refine y_iload_n dX4_isWellFormed_108 rfl ?_
        refine y_callS1 mX4_isRegister 0 dX4_isWellFormed_109 rfl rfl (Nat.le_of_ble_eq_true rfl) (kX4_isRegister (fun k109 hk109 ek109 => ?_) (fun nk109 => ?_))
        · refine y_if_eq 126 dX4_isWellFormed_112 (by decide) (fun q => absurd q (by decide)) (fun _ => ?_)
          refine y_iload_n dX4_isWellFormed_115 rfl ?_
          refine y_callS1 mX4_isRegister 0 dX4_isWellFormed_116 rfl rfl (Nat.le_of_ble_eq_true rfl) (kX4_isRegister (fun k116 hk116 ek116 => ?_) (fun nk116 => ?_))
          · refine y_if_eq 126 dX4_isWellFormed_119 (by decide) (fun q => absurd q (by decide)) (fun _ => ?_)
            refine y_iconst (v := 1) dX4_isWellFormed_122 (by decide) ?_
            refine y_goto 127 dX4_isWellFormed_123 (by decide) ?_
            exact y_retz dX4_isWellFormed_127 rfl rfl (Or.inr rfl) (h1 (xs3.mpr ⟨⟨k102, hk102, ek102⟩, ⟨k109, hk109, ek109⟩, ⟨k116, hk116, ek116⟩⟩))
          · refine y_if_eq 126 dX4_isWellFormed_119 (by decide) (fun _ => ?_) (fun q => absurd q (by decide))
            refine y_iconst (v := 0) dX4_isWellFormed_126 (by decide) ?_
            exact y_retz dX4_isWellFormed_127 rfl rfl (Or.inl rfl) (h0 (fun w => by
              have q := xs3.mp w
              obtain ⟨k, hk, ek⟩ := q.2.2
              exact nk116 k hk ek))
        · refine y_if_eq 126 dX4_isWellFormed_112 (by decide) (fun _ => ?_) (fun q => absurd q (by decide))
          refine y_iconst (v := 0) dX4_isWellFormed_126 (by decide) ?_
          exact y_retz dX4_isWellFormed_127 rfl rfl (Or.inl rfl) (h0 (fun w => by
            have q := xs3.mp w
            obtain ⟨k, hk, ek⟩ := q.2.1
            exact nk109 k hk ek))
      · refine y_if_eq 126 dX4_isWellFormed_105 (by decide) (fun _ => ?_) (fun q => absurd q (by decide))
        refine y_iconst (v := 0) dX4_isWellFormed_126 (by decide) ?_
        exact y_retz dX4_isWellFormed_127 rfl rfl (Or.inl rfl) (h0 (fun w => by
          have q := xs3.mp w
          obtain ⟨k, hk, ek⟩ := q.1
          exact nk102 k hk ek))
    · refine ⟨100, 101, by rw [e1]; rfl, by decide, ?_⟩
      obtain rfl : x0 = 4 := z_eq e1 rfl
      refine y_iload_n dX4_isWellFormed_101 rfl ?_
      refine y_callS1 mX4_isRegister 0 dX4_isWellFormed_102 rfl rfl (Nat.le_of_ble_eq_true rfl) (kX4_isRegister (fun k102 hk102 ek102 => ?_) (fun nk102 => ?_))
      · refine y_if_eq 126 dX4_isWellFormed_105 (by decide) (fun q => absurd q (by decide)) (fun _ => ?_)
        refine y_iload_n dX4_isWellFormed_108 rfl ?_
        refine y_callS1 mX4_isRegister 0 dX4_isWellFormed_109 rfl rfl (Nat.le_of_ble_eq_true rfl) (kX4_isRegister (fun k109 hk109 ek109 => ?_) (fun nk109 => ?_))
        · refine y_if_eq 126 dX4_isWellFormed_112 (by decide) (fun q => absurd q (by decide)) (fun _ => ?_)
          refine y_iload_n dX4_isWellFormed_115 rfl ?_
          refine y_callS1 mX4_isRegister 0 dX4_isWellFormed_116 rfl rfl (Nat.le_of_ble_eq_true rfl) (kX4_isRegister (fun k116 hk116 ek116 => ?_) (fun nk116 => ?_))
          · refine y_if_eq 126 dX4_isWellFormed_119 (by decide) (fun q => absurd q (by decide)) (fun _ => ?_)
            refine y_iconst (v := 1) dX4_isWellFormed_122 (by decide) ?_
            refine y_goto 127 dX4_isWellFormed_123 (by decide) ?_
            exact y_retz dX4_isWellFormed_127 rfl rfl (Or.inr rfl) (h1 (xs4.mpr ⟨⟨k102, hk102, ek102⟩, ⟨k109, hk109, ek109⟩, ⟨k116, hk116, ek116⟩⟩))
          · refine y_if_eq 126 dX4_isWellFormed_119 (by decide) (fun _ => ?_) (fun q => absurd q (by decide))
            refine y_iconst (v := 0) dX4_isWellFormed_126 (by decide) ?_
            exact y_retz dX4_isWellFormed_127 rfl rfl (Or.inl rfl) (h0 (fun w => by
              have q := xs4.mp w
              obtain ⟨k, hk, ek⟩ := q.2.2
              exact nk116 k hk ek))
        · refine y_if_eq 126 dX4_isWellFormed_112 (by decide) (fun _ => ?_) (fun q => absurd q (by decide))
          refine y_iconst (v := 0) dX4_isWellFormed_126 (by decide) ?_
          exact y_retz dX4_isWellFormed_127 rfl rfl (Or.inl rfl) (h0 (fun w => by
            have q := xs4.mp w
            obtain ⟨k, hk, ek⟩ := q.2.1
            exact nk109 k hk ek))
      · refine y_if_eq 126 dX4_isWellFormed_105 (by decide) (fun _ => ?_) (fun q => absurd q (by decide))
        refine y_iconst (v := 0) dX4_isWellFormed_126 (by decide) ?_
        exact y_retz dX4_isWellFormed_127 rfl rfl (Or.inl rfl) (h0 (fun w => by
          have q := xs4.mp w
          obtain ⟨k, hk, ek⟩ := q.1
          exact nk102 k hk ek))
    · refine ⟨127, 128, by rw [e1]; rfl, by decide, ?_⟩
      obtain rfl : x0 = 5 := z_eq e1 rfl
      refine y_iload_n dX4_isWellFormed_128 rfl ?_
      refine y_callS1 mX4_isRegister 0 dX4_isWellFormed_129 rfl rfl (Nat.le_of_ble_eq_true rfl) (kX4_isRegister (fun k129 hk129 ek129 => ?_) (fun nk129 => ?_))
      · refine y_if_eq 153 dX4_isWellFormed_132 (by decide) (fun q => absurd q (by decide)) (fun _ => ?_)
        refine y_iload_n dX4_isWellFormed_135 rfl ?_
        refine y_callS1 mX4_isRegister 0 dX4_isWellFormed_136 rfl rfl (Nat.le_of_ble_eq_true rfl) (kX4_isRegister (fun k136 hk136 ek136 => ?_) (fun nk136 => ?_))
        · refine y_if_eq 153 dX4_isWellFormed_139 (by decide) (fun q => absurd q (by decide)) (fun _ => ?_)
          refine y_iload_n dX4_isWellFormed_142 rfl ?_
          refine y_callS1 mX4_isStep 0 dX4_isWellFormed_143 rfl rfl (Nat.le_of_ble_eq_true rfl) (kX4_isStep (fun k143 hk143 ek143 => ?_) (fun nk143 => ?_))
          · refine y_if_eq 153 dX4_isWellFormed_146 (by decide) (fun q => absurd q (by decide)) (fun _ => ?_)
            refine y_iconst (v := 1) dX4_isWellFormed_149 (by decide) ?_
            refine y_goto 154 dX4_isWellFormed_150 (by decide) ?_
            exact y_retz dX4_isWellFormed_154 rfl rfl (Or.inr rfl) (h1 (xs5.mpr ⟨⟨k129, hk129, ek129⟩, ⟨k136, hk136, ek136⟩, ⟨k143, hk143, ek143⟩⟩))
          · refine y_if_eq 153 dX4_isWellFormed_146 (by decide) (fun _ => ?_) (fun q => absurd q (by decide))
            refine y_iconst (v := 0) dX4_isWellFormed_153 (by decide) ?_
            exact y_retz dX4_isWellFormed_154 rfl rfl (Or.inl rfl) (h0 (fun w => by
              have q := xs5.mp w
              obtain ⟨k, hk, ek⟩ := q.2.2
              exact nk143 k hk ek))
        · refine y_if_eq 153 dX4_isWellFormed_139 (by decide) (fun _ => ?_) (fun q => absurd q (by decide))
          refine y_iconst (v := 0) dX4_isWellFormed_153 (by decide) ?_
          exact y_retz dX4_isWellFormed_154 rfl rfl (Or.inl rfl) (h0 (fun w => by
            have q := xs5.mp w
            obtain ⟨k, hk, ek⟩ := q.2.1
            exact nk136 k hk ek))
      · refine y_if_eq 153 dX4_isWellFormed_132 (by decide) (fun _ => ?_) (fun q => absurd q (by decide))
        refine y_iconst (v := 0) dX4_isWellFormed_153 (by decide) ?_
        exact y_retz dX4_isWellFormed_154 rfl rfl (Or.inl rfl) (h0 (fun w => by
          have q := xs5.mp w
          obtain ⟨k, hk, ek⟩ := q.1
          exact nk129 k hk ek))
    · refine ⟨154, 155, by rw [e1]; rfl, by decide, ?_⟩
      obtain rfl : x0 = 6 := z_eq e1 rfl
      refine y_iload_n dX4_isWellFormed_155 rfl ?_
      refine y_callS1 mX4_isStep 0 dX4_isWellFormed_156 rfl rfl (Nat.le_of_ble_eq_true rfl) (kX4_isStep (fun k156 hk156 ek156 => ?_) (fun nk156 => ?_))
      · exact y_retz dX4_isWellFormed_159 rfl rfl (Or.inr rfl) (h1 (xs6.mpr ⟨k156, hk156, ek156⟩))
      · exact y_retz dX4_isWellFormed_159 rfl rfl (Or.inl rfl) (h0 (fun w => by
          have q := xs6.mp w
          obtain ⟨k, hk, ek⟩ := q
          exact nk156 k hk ek))
    · refine ⟨159, 160, by rw [e1]; rfl, by decide, ?_⟩
      obtain rfl : x0 = 7 := z_eq e1 rfl
      refine y_iload_n dX4_isWellFormed_160 rfl ?_
      refine y_callS1 mX4_isName 0 dX4_isWellFormed_161 rfl rfl (Nat.le_of_ble_eq_true rfl) (kX4_isName (fun k161 hk161 ek161 => ?_) (fun nk161 => ?_))
      · exact y_retz dX4_isWellFormed_164 rfl rfl (Or.inr rfl) (h1 (xs7.mpr ⟨k161, hk161, ek161⟩))
      · exact y_retz dX4_isWellFormed_164 rfl rfl (Or.inl rfl) (h0 (fun w => by
          have q := xs7.mp w
          obtain ⟨k, hk, ek⟩ := q
          exact nk161 k hk ek))
    · refine ⟨164, 165, by rw [e1]; rfl, by decide, ?_⟩
      obtain rfl : x0 = 8 := z_eq e1 rfl
      refine y_iload_n dX4_isWellFormed_165 rfl ?_
      refine y_callS1 mX4_isRegister 0 dX4_isWellFormed_166 rfl rfl (Nat.le_of_ble_eq_true rfl) (kX4_isRegister (fun k166 hk166 ek166 => ?_) (fun nk166 => ?_))
      · refine y_if_eq 183 dX4_isWellFormed_169 (by decide) (fun q => absurd q (by decide)) (fun _ => ?_)
        refine y_iload_n dX4_isWellFormed_172 rfl ?_
        refine y_callS1 mX4_isName 0 dX4_isWellFormed_173 rfl rfl (Nat.le_of_ble_eq_true rfl) (kX4_isName (fun k173 hk173 ek173 => ?_) (fun nk173 => ?_))
        · refine y_if_eq 183 dX4_isWellFormed_176 (by decide) (fun q => absurd q (by decide)) (fun _ => ?_)
          refine y_iconst (v := 1) dX4_isWellFormed_179 (by decide) ?_
          refine y_goto 184 dX4_isWellFormed_180 (by decide) ?_
          exact y_retz dX4_isWellFormed_184 rfl rfl (Or.inr rfl) (h1 (xs8.mpr ⟨⟨k166, hk166, ek166⟩, ⟨k173, hk173, ek173⟩⟩))
        · refine y_if_eq 183 dX4_isWellFormed_176 (by decide) (fun _ => ?_) (fun q => absurd q (by decide))
          refine y_iconst (v := 0) dX4_isWellFormed_183 (by decide) ?_
          exact y_retz dX4_isWellFormed_184 rfl rfl (Or.inl rfl) (h0 (fun w => by
            have q := xs8.mp w
            obtain ⟨k, hk, ek⟩ := q.2
            exact nk173 k hk ek))
      · refine y_if_eq 183 dX4_isWellFormed_169 (by decide) (fun _ => ?_) (fun q => absurd q (by decide))
        refine y_iconst (v := 0) dX4_isWellFormed_183 (by decide) ?_
        exact y_retz dX4_isWellFormed_184 rfl rfl (Or.inl rfl) (h0 (fun w => by
          have q := xs8.mp w
          obtain ⟨k, hk, ek⟩ := q.1
          exact nk166 k hk ek))
    · refine ⟨184, 185, by rw [e1]; rfl, by decide, ?_⟩
      obtain rfl : x0 = 9 := z_eq e1 rfl
      refine y_iload_n dX4_isWellFormed_185 rfl ?_
      refine y_callS1 mX4_isName 0 dX4_isWellFormed_186 rfl rfl (Nat.le_of_ble_eq_true rfl) (kX4_isName (fun k186 hk186 ek186 => ?_) (fun nk186 => ?_))
      · refine y_if_eq 203 dX4_isWellFormed_189 (by decide) (fun q => absurd q (by decide)) (fun _ => ?_)
        refine y_iload_n dX4_isWellFormed_192 rfl ?_
        refine y_callS1 mX4_isRegister 0 dX4_isWellFormed_193 rfl rfl (Nat.le_of_ble_eq_true rfl) (kX4_isRegister (fun k193 hk193 ek193 => ?_) (fun nk193 => ?_))
        · refine y_if_eq 203 dX4_isWellFormed_196 (by decide) (fun q => absurd q (by decide)) (fun _ => ?_)
          refine y_iconst (v := 1) dX4_isWellFormed_199 (by decide) ?_
          refine y_goto 204 dX4_isWellFormed_200 (by decide) ?_
          exact y_retz dX4_isWellFormed_204 rfl rfl (Or.inr rfl) (h1 (xs9.mpr ⟨⟨k186, hk186, ek186⟩, ⟨k193, hk193, ek193⟩⟩))
        · refine y_if_eq 203 dX4_isWellFormed_196 (by decide) (fun _ => ?_) (fun q => absurd q (by decide))
          refine y_iconst (v := 0) dX4_isWellFormed_203 (by decide) ?_
          exact y_retz dX4_isWellFormed_204 rfl rfl (Or.inl rfl) (h0 (fun w => by
            have q := xs9.mp w
            obtain ⟨k, hk, ek⟩ := q.2
            exact nk193 k hk ek))
      · refine y_if_eq 203 dX4_isWellFormed_189 (by decide) (fun _ => ?_) (fun q => absurd q (by decide))
        refine y_iconst (v := 0) dX4_isWellFormed_203 (by decide) ?_
        exact y_retz dX4_isWellFormed_204 rfl rfl (Or.inl rfl) (h0 (fun w => by
          have q := xs9.mp w
          obtain ⟨k, hk, ek⟩ := q.1
          exact nk186 k hk ek))
    · refine ⟨164, 165, by rw [e1]; rfl, by decide, ?_⟩
      obtain rfl : x0 = 10 := z_eq e1 rfl
      refine y_iload_n dX4_isWellFormed_165 rfl ?_
      refine y_callS1 mX4_isRegister 0 dX4_isWellFormed_166 rfl rfl (Nat.le_of_ble_eq_true rfl) (kX4_isRegister (fun k166 hk166 ek166 => ?_) (fun nk166 => ?_))
      · refine y_if_eq 183 dX4_isWellFormed_169 (by decide) (fun q => absurd q (by decide)) (fun _ => ?_)
        refine y_iload_n dX4_isWellFormed_172 rfl ?_
        refine y_callS1 mX4_isName 0 dX4_isWellFormed_173 rfl rfl (Nat.le_of_ble_eq_true rfl) (kX4_isName (fun k173 hk173 ek173 => ?_) (fun nk173 => ?_))
        · refine y_if_eq 183 dX4_isWellFormed_176 (by decide) (fun q => absurd q (by decide)) (fun _ => ?_)
          refine y_iconst (v := 1) dX4_isWellFormed_179 (by decide) ?_
          refine y_goto 184 dX4_isWellFormed_180 (by decide) ?_
          exact y_retz dX4_isWellFormed_184 rfl rfl (Or.inr rfl) (h1 (xs10.mpr ⟨⟨k166, hk166, ek166⟩, ⟨k173, hk173, ek173⟩⟩))
        · refine y_if_eq 183 dX4_isWellFormed_176 (by decide) (fun _ => ?_) (fun q => absurd q (by decide))
          refine y_iconst (v := 0) dX4_isWellFormed_183 (by decide) ?_
          exact y_retz dX4_isWellFormed_184 rfl rfl (Or.inl rfl) (h0 (fun w => by
            have q := xs10.mp w
            obtain ⟨k, hk, ek⟩ := q.2
            exact nk173 k hk ek))
      · refine y_if_eq 183 dX4_isWellFormed_169 (by decide) (fun _ => ?_) (fun q => absurd q (by decide))
        refine y_iconst (v := 0) dX4_isWellFormed_183 (by decide) ?_
        exact y_retz dX4_isWellFormed_184 rfl rfl (Or.inl rfl) (h0 (fun w => by
          have q := xs10.mp w
          obtain ⟨k, hk, ek⟩ := q.1
          exact nk166 k hk ek))
    · refine ⟨75, 76, by rw [e1]; rfl, by decide, ?_⟩
      obtain rfl : x0 = 11 := z_eq e1 rfl
      refine y_iload_n dX4_isWellFormed_76 rfl ?_
      refine y_callS1 mX4_isRegister 0 dX4_isWellFormed_77 rfl rfl (Nat.le_of_ble_eq_true rfl) (kX4_isRegister (fun k77 hk77 ek77 => ?_) (fun nk77 => ?_))
      · exact y_retz dX4_isWellFormed_80 rfl rfl (Or.inr rfl) (h1 (xs11.mpr ⟨k77, hk77, ek77⟩))
      · exact y_retz dX4_isWellFormed_80 rfl rfl (Or.inl rfl) (h0 (fun w => by
          have q := xs11.mp w
          obtain ⟨k, hk, ek⟩ := q
          exact nk77 k hk ek))
    · refine ⟨204, 205, by rw [e1]; rfl, by decide, ?_⟩
      obtain rfl : x0 = 12 := z_eq e1 rfl
      refine y_iconst (v := 1) dX4_isWellFormed_205 (by decide) ?_
      exact y_retz dX4_isWellFormed_206 rfl rfl (Or.inr rfl) (h1 (xs12.mpr trivial))
    · refine ⟨75, 76, by rw [e1]; rfl, by decide, ?_⟩
      obtain rfl : x0 = 13 := z_eq e1 rfl
      refine y_iload_n dX4_isWellFormed_76 rfl ?_
      refine y_callS1 mX4_isRegister 0 dX4_isWellFormed_77 rfl rfl (Nat.le_of_ble_eq_true rfl) (kX4_isRegister (fun k77 hk77 ek77 => ?_) (fun nk77 => ?_))
      · exact y_retz dX4_isWellFormed_80 rfl rfl (Or.inr rfl) (h1 (xs13.mpr ⟨k77, hk77, ek77⟩))
      · exact y_retz dX4_isWellFormed_80 rfl rfl (Or.inl rfl) (h0 (fun w => by
          have q := xs13.mp w
          obtain ⟨k, hk, ek⟩ := q
          exact nk77 k hk ek))
    · refine ⟨204, 205, by rw [e1]; rfl, by decide, ?_⟩
      obtain rfl : x0 = 14 := z_eq e1 rfl
      refine y_iconst (v := 1) dX4_isWellFormed_205 (by decide) ?_
      exact y_retz dX4_isWellFormed_206 rfl rfl (Or.inr rfl) (h1 (xs14.mpr trivial))
theorem krmodule {d : Nat} {Pp : Option Value → xH → Prop} {K : Nat → Nat × Nat} {I : Nat → Nat → Int32} {P : Nat → Nat → Option Nat} {n s : Nat} {R : Nat} {X : xX} (hR : xAt K P R 5) (hA : xPg I R X) (hw : ∀ m, m < 12 → wfM X m) (h0 : I R 0 = nI (gC X)) (hg : gC X ≤ 12) (hb : gC X = 12 → Pp (some (.int (-1))) (K, I, P, n, s)) (hp : gC X < 12 → Pp (some (.int (nI (gC X)))) (K, xuI (xuI I (R + 11) (gC X) (-1)) R 0 (nI (gC X + 1)), P, n, s)) : xC d mX5_module [(.ref R)] (K, I, P, n, s) Pp := by
  refine y_met 0 0 ?_
  show xB d 5 cX5_module (some .int) false (xE n s 0 0 Pp) 0 [some (.ref R)] [] (K, I, P, n, s)
  refine y_aload_n dX5_module_0 rfl ?_
  refine y_getv 5 0 dX5_module_1 rfl rfl hR.1 h0 ?_
  refine y_bipush (v := 12) dX5_module_4 (by decide) ?_
  refine y_icmpN_ne 11 ((gC X)) (12) dX5_module_6 (by decide) rfl rfl (by omega) (by omega) (fun c6 => ?_) (fun c6 => ?_)
  · refine y_aload_n dX5_module_11 rfl ?_
    refine y_getr 5 11 dX5_module_12 rfl rfl hR.1 (r5_11 hR) ?_
    refine y_aload_n dX5_module_15 rfl ?_
    refine y_getv 5 0 dX5_module_16 rfl rfl hR.1 h0 ?_
    refine y_iconst (v := (-1)) dX5_module_19 (by decide) ?_
    refine y_iast ((gC X)) dX5_module_20 (k5_11 hR) rfl (by omega) (by omega) ?_
    refine y_aload_n dX5_module_21 rfl ?_
    refine y_dup dX5_module_22 rfl ?_
    refine y_getv 5 0 dX5_module_23 rfl rfl hR.1 (show xuI I (R + 11) (gC X) (-1) R 0 = nI (gC X) by rw [xuI_o (Or.inl (by omega))]; exact h0) ?_
    refine y_iconst (v := 1) dX5_module_26 (by decide) ?_
    refine y_iaddv (nI (((gC X)) + 1)) dX5_module_27 (nI_add ((gC X)) (1)) ?_
    refine y_puti 5 0 dX5_module_28 rfl rfl rfl hR.1 ?_
    refine y_aload_n dX5_module_31 rfl ?_
    refine y_getv 5 0 dX5_module_32 rfl rfl hR.1 xuI_s ?_
    refine y_iconst (v := 1) dX5_module_35 (by decide) ?_
    refine y_isubv ((nI (gC X))) dX5_module_36 (nI_pred _) ?_
    exact y_ret dX5_module_37 rfl rfl (hp (by omega))
  · refine y_iconst (v := (-1)) dX5_module_9 (by decide) ?_
    exact y_ret dX5_module_10 rfl rfl (hb c6)
def gdNeed (X : xX) (x1 x2 : Int32) (m o : Nat) : Prop := m < gC X ∧ x1 = nI m ∧ o < gC X ∧ x2 = nI o ∧ gN X m < 6 ∧ ∀ k, k < gN X m → X 1 (6 * m + k) ≠ x2
theorem kneed_loop {d R : Nat} {X : xX} {Q : Option Value → xH → Prop} {K : Nat → Nat × Nat} {I : Nat → Nat → Int32} {P : Nat → Nat → Option Nat} {n s : Nat} (hR : xAt K P R 5) (hA : xPg I R X) {m o : Nat} (hm : m < 12) (hw : wfM X m) (ho : o < 12) : ∀ (t k : Nat), k + t = gN X m → ((∀ j, k ≤ j → j < gN X m → X 1 (6 * m + j) ≠ nI o) → ∀ v3, xB d 5 cX5_need (some .int) false Q 64 [some (.ref R), some (.int (nI m)), some (.int (nI o)), v3] [] (K, I, P, n, s)) → (∀ j ls, j < gN X m → X 1 (6 * m + j) = nI o → xB d 5 cX5_need (some .int) false Q 57 ls [.int (-1)] (K, I, P, n, s)) → xB d 5 cX5_need (some .int) false Q 31 [some (.ref R), some (.int (nI m)), some (.int (nI o)), some (.int (nI k))] [] (K, I, P, n, s) := by
  obtain ⟨⟨w1, w2⟩, w3, -⟩ := hw
  intro t
  induction t with
  | zero =>
    intro k hk h1 h2
    refine y_iload_n dX5_need_31 rfl ?_
    refine y_aload_n dX5_need_32 rfl ?_
    refine y_getr 5 2 dX5_need_33 rfl rfl hR.1 (r5_2 hR) ?_
    refine y_iload_n dX5_need_36 rfl ?_
    refine y_ialdN (m) dX5_need_37 (k5_2 hR) rfl (by omega) (by omega) ((congrFun (hA 2 (by decide) (by decide)) m).trans w1) ?_
    refine y_icmpN_ge 64 (k) ((gN X m)) dX5_need_38 (by decide) rfl rfl (by omega) (by omega) (fun _ => ?_) (fun c38 => absurd c38 (by omega))
    exact h1 (fun j a b => absurd a (by omega)) _
  | succ t ih =>
    intro k hk h1 h2
    refine y_iload_n dX5_need_31 rfl ?_
    refine y_aload_n dX5_need_32 rfl ?_
    refine y_getr 5 2 dX5_need_33 rfl rfl hR.1 (r5_2 hR) ?_
    refine y_iload_n dX5_need_36 rfl ?_
    refine y_ialdN (m) dX5_need_37 (k5_2 hR) rfl (by omega) (by omega) ((congrFun (hA 2 (by decide) (by decide)) m).trans w1) ?_
    refine y_icmpN_ge 64 (k) ((gN X m)) dX5_need_38 (by decide) rfl rfl (by omega) (by omega) (fun c38 => absurd c38 (by omega)) (fun _ => ?_)
    refine y_aload_n dX5_need_41 rfl ?_
    refine y_getr 5 1 dX5_need_42 rfl rfl hR.1 (r5_1 hR) ?_
    refine y_bipush (v := 6) dX5_need_45 (by decide) ?_
    refine y_iload_n dX5_need_47 rfl ?_
    refine y_imulv (nI (6 * m)) dX5_need_48 (pk_mul (6) (m)) ?_
    refine y_iload_n dX5_need_49 rfl ?_
    refine y_iaddv (nI (((6 * m)) + k)) dX5_need_50 (nI_add ((6 * m)) (k)) ?_
    refine y_ialdN ((((6 * m)) + k)) dX5_need_51 (k5_1 hR) rfl (by omega) (by omega) (congrFun (hA 1 (by decide) (by decide)) ((((6 * m)) + k))) ?_
    refine y_iload_n dX5_need_52 rfl ?_
    refine y_icmp_ne 58 dX5_need_53 (by decide) (fun c53 => ?_) (fun c53 => ?_)
    · refine y_iinc dX5_need_58 rfl (fun x1 e_x1 => ?_)
      obtain rfl : x1 = nI (k + 1) := by rw [e_x1]; exact nI_1 (k)
      refine y_goto 31 dX5_need_61 (by decide) ?_
      refine ih (k + 1) (by omega) (fun q => h1 (fun j a b => ?_)) h2
      by_cases e : j = k
      · subst e; exact c53
      · exact q j (by omega) b
    · refine y_iconst (v := (-1)) dX5_need_56 (by decide) ?_
      exact h2 k _ (by omega) c53
theorem krneed {d : Nat} {Pp : Option Value → xH → Prop} {K : Nat → Nat × Nat} {I : Nat → Nat → Int32} {P : Nat → Nat → Option Nat} {n s : Nat} {R : Nat} {X : xX} {x1 x2 : Int32} (hR : xAt K P R 5) (hA : xPg I R X) (hw : ∀ m, m < 12 → wfM X m) (h0 : I R 0 = nI (gC X)) (hg : gC X ≤ 12) (hb : (∀ m o, ¬ gdNeed X x1 x2 m o) → Pp (some (.int (-1))) (K, I, P, n, s)) (hp : ∀ m o, gdNeed X x1 x2 m o → Pp (some (.int (nI (gN X m + 1)))) (K, xuI (xuI (xuI I (R + 1) (6 * m + gN X m) (nI o)) (R + 2) m (nI (gN X m + 1))) R 12 0, P, n, s)) : xC (d + 1) mX5_need [(.ref R), (.int x1), (.int x2)] (K, I, P, n, s) Pp := by
  refine y_met 0 0 ?_
  show xB (d + 1) 5 cX5_need (some .int) false (xE n s 0 0 Pp) 0 [some (.ref R), some (.int x1), some (.int x2), none] [] (K, I, P, n, s)
  refine y_aload_n dX5_need_0 rfl ?_
  refine y_iload_n dX5_need_1 rfl ?_
  refine y_callV1 mX5_isModule dX5_need_2 rfl rfl hR.1 (Nat.le_of_ble_eq_true rfl) (kX5_isModule hR.1 h0 hg (fun m hm e1 => ?_) (fun e1 => ?_))
  · subst e1
    refine y_if_eq 27 dX5_need_5 (by decide) (fun q => absurd q (by decide)) (fun _ => ?_)
    refine y_aload_n dX5_need_8 rfl ?_
    refine y_iload_n dX5_need_9 rfl ?_
    refine y_callV1 mX5_isModule dX5_need_10 rfl rfl hR.1 (Nat.le_of_ble_eq_true rfl) (kX5_isModule hR.1 h0 hg (fun o ho e2 => ?_) (fun e2 => ?_))
    · subst e2
      obtain ⟨⟨w1, w2⟩, w3, -⟩ := hw m (by omega)
      refine y_if_eq 27 dX5_need_13 (by decide) (fun q => absurd q (by decide)) (fun _ => ?_)
      refine y_aload_n dX5_need_16 rfl ?_
      refine y_getr 5 2 dX5_need_17 rfl rfl hR.1 (r5_2 hR) ?_
      refine y_iload_n dX5_need_20 rfl ?_
      refine y_ialdN (m) dX5_need_21 (k5_2 hR) rfl (by omega) (by omega) ((congrFun (hA 2 (by decide) (by decide)) m).trans w1) ?_
      refine y_bipush (v := 6) dX5_need_22 (by decide) ?_
      refine y_icmpN_ne 29 ((gN X m)) (6) dX5_need_24 (by decide) rfl rfl (by omega) (by omega) (fun c24 => ?_) (fun c24 => ?_)
      · refine y_iconst (v := nI 0) dX5_need_29 (by decide) ?_
        refine y_istore_n dX5_need_30 (by first | (simp; done) | (simp; decide)) (fun x1 e_x1 => ?_)
        subst e_x1
        refine kneed_loop hR hA (by omega) (hw m (by omega)) (by omega) _ 0 (Nat.zero_add _) (fun q v3 => ?_) (fun j ls hj ej => ?_)
        · have gd : gdNeed X (nI m) (nI o) m o := ⟨hm, rfl, ho, rfl, by omega, fun k hk => q k (Nat.zero_le _) hk⟩
          have hfin := hp m o gd
          refine y_aload_n dX5_need_64 rfl ?_
          refine y_getr 5 1 dX5_need_65 rfl rfl hR.1 (r5_1 hR) ?_
          refine y_bipush (v := 6) dX5_need_68 (by decide) ?_
          refine y_iload_n dX5_need_70 rfl ?_
          refine y_imulv (nI (6 * m)) dX5_need_71 (pk_mul (6) (m)) ?_
          refine y_aload_n dX5_need_72 rfl ?_
          refine y_getr 5 2 dX5_need_73 rfl rfl hR.1 (r5_2 hR) ?_
          refine y_iload_n dX5_need_76 rfl ?_
          refine y_ialdN (m) dX5_need_77 (k5_2 hR) rfl (by omega) (by omega) ((congrFun (hA 2 (by decide) (by decide)) m).trans w1) ?_
          refine y_iaddv (nI (((6 * m)) + ((gN X m)))) dX5_need_78 (nI_add ((6 * m)) ((gN X m))) ?_
          refine y_iload_n dX5_need_79 rfl ?_
          refine y_iast ((((6 * m)) + ((gN X m)))) dX5_need_80 (k5_1 hR) rfl (by omega) (by omega) ?_
          refine y_aload_n dX5_need_81 rfl ?_
          refine y_getr 5 2 dX5_need_82 rfl rfl hR.1 (r5_2 hR) ?_
          refine y_iload_n dX5_need_85 rfl ?_
          refine y_dup2 dX5_need_86 rfl rfl ?_
          refine y_ialdN (m) dX5_need_87 (k5_2 hR) rfl (by omega) (by omega) (show (xuI I (R + 1) (6 * m + gN X m) (nI o)) (R + 2) m = nI (gN X m) by rw [xuI_o (Or.inl (by omega))]; exact ((congrFun (hA 2 (by decide) (by decide)) m).trans w1)) ?_
          refine y_iconst (v := 1) dX5_need_88 (by decide) ?_
          refine y_iaddv (nI (((gN X m)) + 1)) dX5_need_89 (nI_add ((gN X m)) (1)) ?_
          refine y_iast (m) dX5_need_90 (k5_2 hR) rfl (by omega) (by omega) ?_
          refine y_aload_n dX5_need_91 rfl ?_
          refine y_iconst (v := 0) dX5_need_92 (by decide) ?_
          refine y_putz 5 12 dX5_need_93 rfl rfl rfl hR.1 (by decide) ?_
          refine y_aload_n dX5_need_96 rfl ?_
          refine y_getr 5 2 dX5_need_97 rfl rfl hR.1 (r5_2 hR) ?_
          refine y_iload_n dX5_need_100 rfl ?_
          refine y_ialdN (m) dX5_need_101 (k5_2 hR) rfl (by omega) (by omega) (show xuI (xuI (xuI I (R + 1) (6 * m + gN X m) (nI o)) (R + 2) m (nI (gN X m + 1))) R 12 0 (R + 2) m = nI (gN X m + 1) by rw [xuI_o (Or.inl (by omega)), xuI_s]) ?_
          exact y_ret dX5_need_102 rfl rfl hfin
        · exact y_ret dX5_need_57 rfl rfl (hb (fun a b g => by
            have := nI_inj (by omega) (by have := g.1; omega) g.2.1
            subst this
            exact g.2.2.2.2.2 j hj ej))
      · refine y_iconst (v := (-1)) dX5_need_27 (by decide) ?_
        exact y_ret dX5_need_28 rfl rfl (hb (fun a b g => by
          have := nI_inj (by omega) (by have := g.1; omega) g.2.1
          subst this
          have := g.2.2.2.2.1
          omega))
    · refine y_if_eq 27 dX5_need_13 (by decide) (fun _ => ?_) (fun q => absurd q (by decide))
      refine y_iconst (v := (-1)) dX5_need_27 (by decide) ?_
      exact y_ret dX5_need_28 rfl rfl (hb (fun a b g => e2 b g.2.2.1 g.2.2.2.1))
  · refine y_if_eq 27 dX5_need_5 (by decide) (fun _ => ?_) (fun q => absurd q (by decide))
    refine y_iconst (v := (-1)) dX5_need_27 (by decide) ?_
    exact y_ret dX5_need_28 rfl rfl (hb (fun a b g => e1 a g.1 g.2.1))
def gdDef (X : xX) (x1 x2 x3 x4 x5 : Int32) (m v : Nat) : Prop := m < gC X ∧ x1 = nI m ∧ v < 64 ∧ x2 = nI v ∧ (x3 = 0 ∨ x3 = 1) ∧ (x3 = 0 → ∃ t : Nat, t < 100 ∧ x4 = nI t) ∧ (∃ t : Nat, t < 6 ∧ x5 = nI t) ∧ sOf X m x2 = none ∧ gF X m < 20
theorem krdefine {d : Nat} {Pp : Option Value → xH → Prop} {K : Nat → Nat × Nat} {I : Nat → Nat → Int32} {P : Nat → Nat → Option Nat} {n s : Nat} {R : Nat} {X : xX} {x1 x2 x3 x4 x5 : Int32} (hR : xAt K P R 5) (hA : xPg I R X) (hw : ∀ m, m < 12 → wfM X m) (h0 : I R 0 = nI (gC X)) (hg : gC X ≤ 12) (hb : (∀ m v, ¬ gdDef X x1 x2 x3 x4 x5 m v) → Pp (some (.int (-1))) (K, I, P, n, s)) (hp : ∀ m v, gdDef X x1 x2 x3 x4 x5 m v → Pp (some (.int (nI (gF X m + 1)))) (K, xuI (xuI (xuI (xuI (xuI (xuI I (R + 3) (20 * m + gF X m) (nI v)) (R + 4) (20 * m + gF X m) x3) (R + 5) (20 * m + gF X m) x4) (R + 6) (20 * m + gF X m) x5) (R + 7) m (nI (gF X m + 1))) R 12 0, P, n, s)) : xC (d + 1) mX5_define [(.ref R), (.int x1), (.int x2), (.int x3), (.int x4), (.int x5)] (K, I, P, n, s) Pp := by
  refine y_met 0 0 ?_
  show xB (d + 1) 5 cX5_define (some .int) false (xE n s 0 0 Pp) 0 [some (.ref R), some (.int x1), some (.int x2), some (.int x3), some (.int x4), some (.int x5), none] [] (K, I, P, n, s)
  refine y_aload_n dX5_define_0 rfl ?_
  refine y_iload_n dX5_define_1 rfl ?_
  refine y_callV1 mX5_isModule dX5_define_2 rfl rfl hR.1 (Nat.le_of_ble_eq_true rfl) (kX5_isModule hR.1 h0 hg (fun m hm e1 => ?_) (fun e1 => ?_))
  · subst e1
    obtain ⟨-, -, ⟨w1, w2⟩, -⟩ := hw m (by omega)
    refine y_if_eq 68 dX5_define_5 (by decide) (fun q => absurd q (by decide)) (fun _ => ?_)
    refine y_iload_n dX5_define_8 rfl ?_
    refine y_callS1 mX5_isName 0 dX5_define_9 rfl rfl (Nat.le_of_ble_eq_true rfl) (kX5_isName (fun v hv e2 => ?_) (fun e2 => ?_))
    · subst e2
      refine y_if_eq 68 dX5_define_12 (by decide) (fun q => absurd q (by decide)) (fun _ => ?_)
      refine y_iload_n dX5_define_15 rfl ?_
      refine y_ifZ_lt 68 (x3.toInt) dX5_define_16 (by decide) rfl (fun c16 => ?_) (fun c16 => ?_)
      · refine y_iconst (v := (-1)) dX5_define_68 (by decide) ?_
        exact y_ret dX5_define_69 rfl rfl (hb (fun a b g => by rcases g.2.2.2.2.1 with e | e <;> rw [e] at c16 <;> exact absurd c16 (by decide)))
      · refine y_iload_n dX5_define_19 rfl ?_
        refine y_iconst (v := 1) dX5_define_20 (by decide) ?_
        refine y_icmpZ_gt 68 (x3.toInt) (1) dX5_define_21 (by decide) rfl rfl (fun c21 => ?_) (fun c21 => ?_)
        · refine y_iconst (v := (-1)) dX5_define_68 (by decide) ?_
          exact y_ret dX5_define_69 rfl rfl (hb (fun a b g => by rcases g.2.2.2.2.1 with e | e <;> rw [e] at c21 <;> exact absurd c21 (by decide)))
        · refine y_iload dX5_define_24 rfl ?_
          refine y_ifZ_lt 68 (x5.toInt) dX5_define_26 (by decide) rfl (fun c26 => ?_) (fun c26 => ?_)
          · refine y_iconst (v := (-1)) dX5_define_68 (by decide) ?_
            exact y_ret dX5_define_69 rfl rfl (hb (fun a b g => by obtain ⟨t, ht, et⟩ := g.2.2.2.2.2.2.1; rw [et, nI_toInt (by omega)] at c26; omega))
          · refine y_iload dX5_define_29 rfl ?_
            refine y_iconst (v := 5) dX5_define_31 (by decide) ?_
            refine y_icmpZ_gt 68 (x5.toInt) (5) dX5_define_32 (by decide) rfl rfl (fun c32 => ?_) (fun c32 => ?_)
            · refine y_iconst (v := (-1)) dX5_define_68 (by decide) ?_
              exact y_ret dX5_define_69 rfl rfl (hb (fun a b g => by obtain ⟨t, ht, et⟩ := g.2.2.2.2.2.2.1; rw [et, nI_toInt (by omega)] at c32; omega))
            · have hx3 : x3 = 0 ∨ x3 = 1 := by
                obtain ⟨b, hb2⟩ := z01 c16 (by omega)
                cases b
                · exact Or.inl hb2
                · exact Or.inr hb2
              obtain ⟨h5, hh5, eh5⟩ := zof (M := 6) c26 (by show ¬ x5.toInt ≥ 6; omega)
              refine y_iload_n dX5_define_35 rfl ?_
              refine y_if_ne 47 dX5_define_36 (by decide) (fun c36 => ?_) (fun c36 => ?_)
              · have hst : x3 = 0 → ∃ t : Nat, t < 100 ∧ x4 = nI t := fun e => absurd e c36
                refine y_aload_n dX5_define_47 rfl ?_
                refine y_iload_n dX5_define_48 rfl ?_
                refine y_iload_n dX5_define_49 rfl ?_
                refine y_callV2 mX5_ofName dX5_define_50 rfl rfl hR.1 (Nat.le_of_ble_eq_true rfl) (kofName hR hA (by omega) (hw m (by omega)) (fun ef => ?_) (fun e ef => ?_))
                · refine y_iconst (v := (-1)) dX5_define_53 (by decide) ?_
                  refine y_icmp_ne 68 dX5_define_54 (by decide) (fun q => absurd q (by decide)) (fun _ => ?_)
                  refine y_aload_n dX5_define_57 rfl ?_
                  refine y_getr 5 7 dX5_define_58 rfl rfl hR.1 (r5_7 hR) ?_
                  refine y_iload_n dX5_define_61 rfl ?_
                  refine y_ialdN (m) dX5_define_62 (k5_7 hR) rfl (by omega) (by omega) ((congrFun (hA 7 (by decide) (by decide)) m).trans w1) ?_
                  refine y_bipush (v := 20) dX5_define_63 (by decide) ?_
                  refine y_icmpN_ne 70 ((gF X m)) (20) dX5_define_65 (by decide) rfl rfl (by omega) (by omega) (fun c65 => ?_) (fun c65 => ?_)
                  · have gd : gdDef X (nI m) (nI v) x3 x4 x5 m v := ⟨hm, rfl, hv, rfl, hx3, hst, ⟨h5, hh5, eh5⟩, ef, by omega⟩
                    refine y_bipush (v := 20) dX5_define_70 (by decide) ?_
                    refine y_iload_n dX5_define_72 rfl ?_
                    refine y_imulv (nI (20 * m)) dX5_define_73 (pk_mul (20) (m)) ?_
                    refine y_aload_n dX5_define_74 rfl ?_
                    refine y_getr 5 7 dX5_define_75 rfl rfl hR.1 (r5_7 hR) ?_
                    refine y_iload_n dX5_define_78 rfl ?_
                    refine y_ialdN (m) dX5_define_79 (k5_7 hR) rfl (by omega) (by omega) ((congrFun (hA 7 (by decide) (by decide)) m).trans w1) ?_
                    refine y_iaddv (nI (((20 * m)) + ((gF X m)))) dX5_define_80 (nI_add ((20 * m)) ((gF X m))) ?_
                    refine y_istore dX5_define_81 (by first | (simp; done) | (simp; decide)) (fun x1 e_x1 => ?_)
                    subst e_x1
                    refine y_aload_n dX5_define_83 rfl ?_
                    refine y_getr 5 3 dX5_define_84 rfl rfl hR.1 (r5_3 hR) ?_
                    refine y_iload dX5_define_87 rfl ?_
                    refine y_iload_n dX5_define_89 rfl ?_
                    refine y_iast ((((20 * m)) + ((gF X m)))) dX5_define_90 (k5_3 hR) rfl (by omega) (by omega) ?_
                    refine y_aload_n dX5_define_91 rfl ?_
                    refine y_getr 5 4 dX5_define_92 rfl rfl hR.1 (r5_4 hR) ?_
                    refine y_iload dX5_define_95 rfl ?_
                    refine y_iload_n dX5_define_97 rfl ?_
                    refine y_iast ((((20 * m)) + ((gF X m)))) dX5_define_98 (k5_4 hR) rfl (by omega) (by omega) ?_
                    refine y_aload_n dX5_define_99 rfl ?_
                    refine y_getr 5 5 dX5_define_100 rfl rfl hR.1 (r5_5 hR) ?_
                    refine y_iload dX5_define_103 rfl ?_
                    refine y_iload dX5_define_105 rfl ?_
                    refine y_iast ((((20 * m)) + ((gF X m)))) dX5_define_107 (k5_5 hR) rfl (by omega) (by omega) ?_
                    refine y_aload_n dX5_define_108 rfl ?_
                    refine y_getr 5 6 dX5_define_109 rfl rfl hR.1 (r5_6 hR) ?_
                    refine y_iload dX5_define_112 rfl ?_
                    refine y_iload dX5_define_114 rfl ?_
                    refine y_iast ((((20 * m)) + ((gF X m)))) dX5_define_116 (k5_6 hR) rfl (by omega) (by omega) ?_
                    refine y_aload_n dX5_define_117 rfl ?_
                    refine y_getr 5 7 dX5_define_118 rfl rfl hR.1 (r5_7 hR) ?_
                    refine y_iload_n dX5_define_121 rfl ?_
                    refine y_dup2 dX5_define_122 rfl rfl ?_
                    refine y_ialdN (m) dX5_define_123 (k5_7 hR) rfl (by omega) (by omega) (show (xuI (xuI (xuI (xuI I (R + 3) (20 * m + gF X m) (nI v)) (R + 4) (20 * m + gF X m) x3) (R + 5) (20 * m + gF X m) x4) (R + 6) (20 * m + gF X m) x5) (R + 7) m = nI (gF X m) by rw [xuI_o (Or.inl (by omega)), xuI_o (Or.inl (by omega)), xuI_o (Or.inl (by omega)), xuI_o (Or.inl (by omega))]; exact ((congrFun (hA 7 (by decide) (by decide)) m).trans w1)) ?_
                    refine y_iconst (v := 1) dX5_define_124 (by decide) ?_
                    refine y_iaddv (nI (((gF X m)) + 1)) dX5_define_125 (nI_add ((gF X m)) (1)) ?_
                    refine y_iast (m) dX5_define_126 (k5_7 hR) rfl (by omega) (by omega) ?_
                    refine y_aload_n dX5_define_127 rfl ?_
                    refine y_iconst (v := 0) dX5_define_128 (by decide) ?_
                    refine y_putz 5 12 dX5_define_129 rfl rfl rfl hR.1 (by decide) ?_
                    refine y_aload_n dX5_define_132 rfl ?_
                    refine y_getr 5 7 dX5_define_133 rfl rfl hR.1 (r5_7 hR) ?_
                    refine y_iload_n dX5_define_136 rfl ?_
                    refine y_ialdN (m) dX5_define_137 (k5_7 hR) rfl (by omega) (by omega) (show xuI (xuI (xuI (xuI (xuI (xuI I (R + 3) (20 * m + gF X m) (nI v)) (R + 4) (20 * m + gF X m) x3) (R + 5) (20 * m + gF X m) x4) (R + 6) (20 * m + gF X m) x5) (R + 7) m (nI (gF X m + 1))) R 12 0 (R + 7) m = nI (gF X m + 1) by rw [xuI_o (Or.inl (by omega)), xuI_s]) ?_
                    exact y_ret dX5_define_138 rfl rfl (hp m v gd)
                  · refine y_iconst (v := (-1)) dX5_define_68 (by decide) ?_
                    exact y_ret dX5_define_69 rfl rfl (hb (fun a b g => by
                      have hme := nI_inj (show m < 2 ^ 31 by omega) (show a < 2 ^ 31 by have := g.1; omega) g.2.1
                      subst hme
                      have := g.2.2.2.2.2.2.2.2
                      omega))
                · have he := (sOf_lt w2 (by omega) ef).1
                  refine y_iconst (v := (-1)) dX5_define_53 (by decide) ?_
                  refine y_icmp_ne 68 dX5_define_54 (by decide) (fun _ => ?_) (fun c54 => absurd c54 (nI_m1 (by omega)))
                  refine y_iconst (v := (-1)) dX5_define_68 (by decide) ?_
                  exact y_ret dX5_define_69 rfl rfl (hb (fun a b g => by
                    have hme := nI_inj (show m < 2 ^ 31 by omega) (show a < 2 ^ 31 by have := g.1; omega) g.2.1
                    subst hme
                    have := g.2.2.2.2.2.2.2.1
                    rw [ef] at this
                    cases this))
              · refine y_iload dX5_define_39 rfl ?_
                refine y_callS1 mX5_isStep 0 dX5_define_41 rfl rfl (Nat.le_of_ble_eq_true rfl) (kX5_isStep (fun t4 ht4 e4 => ?_) (fun e4 => ?_))
                · have hst : x3 = 0 → ∃ t : Nat, t < 100 ∧ x4 = nI t := fun _ => ⟨t4, ht4, e4⟩
                  refine y_if_eq 68 dX5_define_44 (by decide) (fun q => absurd q (by decide)) (fun _ => ?_)
                  refine y_aload_n dX5_define_47 rfl ?_
                  refine y_iload_n dX5_define_48 rfl ?_
                  refine y_iload_n dX5_define_49 rfl ?_
                  refine y_callV2 mX5_ofName dX5_define_50 rfl rfl hR.1 (Nat.le_of_ble_eq_true rfl) (kofName hR hA (by omega) (hw m (by omega)) (fun ef => ?_) (fun e ef => ?_))
                  · refine y_iconst (v := (-1)) dX5_define_53 (by decide) ?_
                    refine y_icmp_ne 68 dX5_define_54 (by decide) (fun q => absurd q (by decide)) (fun _ => ?_)
                    refine y_aload_n dX5_define_57 rfl ?_
                    refine y_getr 5 7 dX5_define_58 rfl rfl hR.1 (r5_7 hR) ?_
                    refine y_iload_n dX5_define_61 rfl ?_
                    refine y_ialdN (m) dX5_define_62 (k5_7 hR) rfl (by omega) (by omega) ((congrFun (hA 7 (by decide) (by decide)) m).trans w1) ?_
                    refine y_bipush (v := 20) dX5_define_63 (by decide) ?_
                    refine y_icmpN_ne 70 ((gF X m)) (20) dX5_define_65 (by decide) rfl rfl (by omega) (by omega) (fun c65 => ?_) (fun c65 => ?_)
                    · have gd : gdDef X (nI m) (nI v) x3 x4 x5 m v := ⟨hm, rfl, hv, rfl, hx3, hst, ⟨h5, hh5, eh5⟩, ef, by omega⟩
                      refine y_bipush (v := 20) dX5_define_70 (by decide) ?_
                      refine y_iload_n dX5_define_72 rfl ?_
                      refine y_imulv (nI (20 * m)) dX5_define_73 (pk_mul (20) (m)) ?_
                      refine y_aload_n dX5_define_74 rfl ?_
                      refine y_getr 5 7 dX5_define_75 rfl rfl hR.1 (r5_7 hR) ?_
                      refine y_iload_n dX5_define_78 rfl ?_
                      refine y_ialdN (m) dX5_define_79 (k5_7 hR) rfl (by omega) (by omega) ((congrFun (hA 7 (by decide) (by decide)) m).trans w1) ?_
                      refine y_iaddv (nI (((20 * m)) + ((gF X m)))) dX5_define_80 (nI_add ((20 * m)) ((gF X m))) ?_
                      refine y_istore dX5_define_81 (by first | (simp; done) | (simp; decide)) (fun x2 e_x2 => ?_)
                      subst e_x2
                      refine y_aload_n dX5_define_83 rfl ?_
                      refine y_getr 5 3 dX5_define_84 rfl rfl hR.1 (r5_3 hR) ?_
                      refine y_iload dX5_define_87 rfl ?_
                      refine y_iload_n dX5_define_89 rfl ?_
                      refine y_iast ((((20 * m)) + ((gF X m)))) dX5_define_90 (k5_3 hR) rfl (by omega) (by omega) ?_
                      refine y_aload_n dX5_define_91 rfl ?_
                      refine y_getr 5 4 dX5_define_92 rfl rfl hR.1 (r5_4 hR) ?_
                      refine y_iload dX5_define_95 rfl ?_
                      refine y_iload_n dX5_define_97 rfl ?_
                      refine y_iast ((((20 * m)) + ((gF X m)))) dX5_define_98 (k5_4 hR) rfl (by omega) (by omega) ?_
                      refine y_aload_n dX5_define_99 rfl ?_
                      refine y_getr 5 5 dX5_define_100 rfl rfl hR.1 (r5_5 hR) ?_
                      refine y_iload dX5_define_103 rfl ?_
                      refine y_iload dX5_define_105 rfl ?_
                      refine y_iast ((((20 * m)) + ((gF X m)))) dX5_define_107 (k5_5 hR) rfl (by omega) (by omega) ?_
                      refine y_aload_n dX5_define_108 rfl ?_
                      refine y_getr 5 6 dX5_define_109 rfl rfl hR.1 (r5_6 hR) ?_
                      refine y_iload dX5_define_112 rfl ?_
                      refine y_iload dX5_define_114 rfl ?_
                      refine y_iast ((((20 * m)) + ((gF X m)))) dX5_define_116 (k5_6 hR) rfl (by omega) (by omega) ?_
                      refine y_aload_n dX5_define_117 rfl ?_
                      refine y_getr 5 7 dX5_define_118 rfl rfl hR.1 (r5_7 hR) ?_
                      refine y_iload_n dX5_define_121 rfl ?_
                      refine y_dup2 dX5_define_122 rfl rfl ?_
                      refine y_ialdN (m) dX5_define_123 (k5_7 hR) rfl (by omega) (by omega) (show (xuI (xuI (xuI (xuI I (R + 3) (20 * m + gF X m) (nI v)) (R + 4) (20 * m + gF X m) x3) (R + 5) (20 * m + gF X m) x4) (R + 6) (20 * m + gF X m) x5) (R + 7) m = nI (gF X m) by rw [xuI_o (Or.inl (by omega)), xuI_o (Or.inl (by omega)), xuI_o (Or.inl (by omega)), xuI_o (Or.inl (by omega))]; exact ((congrFun (hA 7 (by decide) (by decide)) m).trans w1)) ?_
                      refine y_iconst (v := 1) dX5_define_124 (by decide) ?_
                      refine y_iaddv (nI (((gF X m)) + 1)) dX5_define_125 (nI_add ((gF X m)) (1)) ?_
                      refine y_iast (m) dX5_define_126 (k5_7 hR) rfl (by omega) (by omega) ?_
                      refine y_aload_n dX5_define_127 rfl ?_
                      refine y_iconst (v := 0) dX5_define_128 (by decide) ?_
                      refine y_putz 5 12 dX5_define_129 rfl rfl rfl hR.1 (by decide) ?_
                      refine y_aload_n dX5_define_132 rfl ?_
                      refine y_getr 5 7 dX5_define_133 rfl rfl hR.1 (r5_7 hR) ?_
                      refine y_iload_n dX5_define_136 rfl ?_
                      refine y_ialdN (m) dX5_define_137 (k5_7 hR) rfl (by omega) (by omega) (show xuI (xuI (xuI (xuI (xuI (xuI I (R + 3) (20 * m + gF X m) (nI v)) (R + 4) (20 * m + gF X m) x3) (R + 5) (20 * m + gF X m) x4) (R + 6) (20 * m + gF X m) x5) (R + 7) m (nI (gF X m + 1))) R 12 0 (R + 7) m = nI (gF X m + 1) by rw [xuI_o (Or.inl (by omega)), xuI_s]) ?_
                      exact y_ret dX5_define_138 rfl rfl (hp m v gd)
                    · refine y_iconst (v := (-1)) dX5_define_68 (by decide) ?_
                      exact y_ret dX5_define_69 rfl rfl (hb (fun a b g => by
                        have hme := nI_inj (show m < 2 ^ 31 by omega) (show a < 2 ^ 31 by have := g.1; omega) g.2.1
                        subst hme
                        have := g.2.2.2.2.2.2.2.2
                        omega))
                  · have he := (sOf_lt w2 (by omega) ef).1
                    refine y_iconst (v := (-1)) dX5_define_53 (by decide) ?_
                    refine y_icmp_ne 68 dX5_define_54 (by decide) (fun _ => ?_) (fun c54 => absurd c54 (nI_m1 (by omega)))
                    refine y_iconst (v := (-1)) dX5_define_68 (by decide) ?_
                    exact y_ret dX5_define_69 rfl rfl (hb (fun a b g => by
                      have hme := nI_inj (show m < 2 ^ 31 by omega) (show a < 2 ^ 31 by have := g.1; omega) g.2.1
                      subst hme
                      have := g.2.2.2.2.2.2.2.1
                      rw [ef] at this
                      cases this))
                · refine y_if_eq 68 dX5_define_44 (by decide) (fun _ => ?_) (fun q => absurd q (by decide))
                  refine y_iconst (v := (-1)) dX5_define_68 (by decide) ?_
                  exact y_ret dX5_define_69 rfl rfl (hb (fun a b g => by obtain ⟨t, ht, et⟩ := g.2.2.2.2.2.1 c36; exact e4 t ht et))
    · refine y_if_eq 68 dX5_define_12 (by decide) (fun _ => ?_) (fun q => absurd q (by decide))
      refine y_iconst (v := (-1)) dX5_define_68 (by decide) ?_
      exact y_ret dX5_define_69 rfl rfl (hb (fun a b g => e2 b g.2.2.1 g.2.2.2.1))
  · refine y_if_eq 68 dX5_define_5 (by decide) (fun _ => ?_) (fun q => absurd q (by decide))
    refine y_iconst (v := (-1)) dX5_define_68 (by decide) ?_
    exact y_ret dX5_define_69 rfl rfl (hb (fun a b g => e1 a g.1 g.2.1))
end
section
def gdOpt (X : xX) (x1 x2 : Int32) (m v : Nat) : Prop := m < gC X ∧ x1 = nI m ∧ v < 64 ∧ x2 = nI v ∧ X 10 (64 * m + v) = 0
theorem kroptional {d : Nat} {Pp : Option Value → xH → Prop} {K : Nat → Nat × Nat} {I : Nat → Nat → Int32} {P : Nat → Nat → Option Nat} {n s : Nat} {R : Nat} {X : xX} {x1 x2 : Int32} (hR : xAt K P R 5) (hA : xPg I R X) (hw : ∀ m, m < 12 → wfM X m) (h0 : I R 0 = nI (gC X)) (hg : gC X ≤ 12) (hb : (∀ m v, ¬ gdOpt X x1 x2 m v) → Pp (some (.int 0)) (K, I, P, n, s)) (hp : ∀ m v, gdOpt X x1 x2 m v → Pp (some (.int 1)) (K, xuI (xuI I (R + 10) (64 * m + v) 1) R 12 0, P, n, s)) : xC (d + 1) mX5_optional [(.ref R), (.int x1), (.int x2)] (K, I, P, n, s) Pp := by
  refine y_met 0 0 ?_
  show xB (d + 1) 5 cX5_optional (some .int) false (xE n s 0 0 Pp) 0 [some (.ref R), some (.int x1), some (.int x2)] [] (K, I, P, n, s)
  refine y_aload_n dX5_optional_0 rfl ?_
  refine y_iload_n dX5_optional_1 rfl ?_
  refine y_callV1 mX5_isModule dX5_optional_2 rfl rfl hR.1 (Nat.le_of_ble_eq_true rfl) (kX5_isModule hR.1 h0 hg (fun m hm e1 => ?_) (fun e1 => ?_))
  · subst e1
    refine y_if_eq 29 dX5_optional_5 (by decide) (fun q => absurd q (by decide)) (fun _ => ?_)
    refine y_iload_n dX5_optional_8 rfl ?_
    refine y_callS1 mX5_isName 0 dX5_optional_9 rfl rfl (Nat.le_of_ble_eq_true rfl) (kX5_isName (fun v hv e2 => ?_) (fun e2 => ?_))
    · subst e2
      refine y_if_eq 29 dX5_optional_12 (by decide) (fun q => absurd q (by decide)) (fun _ => ?_)
      refine y_aload_n dX5_optional_15 rfl ?_
      refine y_getr 5 10 dX5_optional_16 rfl rfl hR.1 (r5_10 hR) ?_
      refine y_bipush (v := 64) dX5_optional_19 (by decide) ?_
      refine y_iload_n dX5_optional_21 rfl ?_
      refine y_imulv (nI (64 * m)) dX5_optional_22 (pk_mul (64) (m)) ?_
      refine y_iload_n dX5_optional_23 rfl ?_
      refine y_iaddv (nI (((64 * m)) + v)) dX5_optional_24 (nI_add ((64 * m)) (v)) ?_
      refine y_baldN ((((64 * m)) + v)) dX5_optional_25 (k5_10 hR) rfl (by omega) (by omega) (congrFun (hA 10 (by decide) (by decide)) ((((64 * m)) + v))) ?_
      refine y_if_eq 31 dX5_optional_26 (by decide) (fun c26 => ?_) (fun c26 => ?_)
      · refine y_aload_n dX5_optional_31 rfl ?_
        refine y_getr 5 10 dX5_optional_32 rfl rfl hR.1 (r5_10 hR) ?_
        refine y_bipush (v := 64) dX5_optional_35 (by decide) ?_
        refine y_iload_n dX5_optional_37 rfl ?_
        refine y_imulv (nI (64 * m)) dX5_optional_38 (pk_mul (64) (m)) ?_
        refine y_iload_n dX5_optional_39 rfl ?_
        refine y_iaddv (nI (((64 * m)) + v)) dX5_optional_40 (nI_add ((64 * m)) (v)) ?_
        refine y_iconst (v := 1) dX5_optional_41 (by decide) ?_
        refine y_bast ((((64 * m)) + v)) dX5_optional_42 (k5_10 hR) rfl (by omega) (by omega) (by decide) ?_
        refine y_aload_n dX5_optional_43 rfl ?_
        refine y_iconst (v := 0) dX5_optional_44 (by decide) ?_
        refine y_putz 5 12 dX5_optional_45 rfl rfl rfl hR.1 (by decide) ?_
        refine y_iconst (v := 1) dX5_optional_48 (by decide) ?_
        exact y_ret dX5_optional_49 rfl rfl (hp m v ⟨hm, rfl, hv, rfl, c26⟩)
      · refine y_iconst (v := 0) dX5_optional_29 (by decide) ?_
        exact y_ret dX5_optional_30 rfl rfl (hb (fun a b g => by
          have hme := nI_inj (show m < 2 ^ 31 by omega) (show a < 2 ^ 31 by have := g.1; omega) g.2.1
          subst hme
          have hve := nI_inj (show v < 2 ^ 31 by omega) (show b < 2 ^ 31 by have := g.2.2.1; omega) g.2.2.2.1
          subst hve
          exact c26 g.2.2.2.2))
    · refine y_if_eq 29 dX5_optional_12 (by decide) (fun _ => ?_) (fun q => absurd q (by decide))
      refine y_iconst (v := 0) dX5_optional_29 (by decide) ?_
      exact y_ret dX5_optional_30 rfl rfl (hb (fun a b g => e2 b g.2.2.1 g.2.2.2.1))
  · refine y_if_eq 29 dX5_optional_5 (by decide) (fun _ => ?_) (fun q => absurd q (by decide))
    refine y_iconst (v := 0) dX5_optional_29 (by decide) ?_
    exact y_ret dX5_optional_30 rfl rfl (hb (fun a b g => e1 a g.1 g.2.1))
def gdBeg (X : xX) (x1 x2 : Int32) (m : Nat) : Prop := m < gC X ∧ x1 = nI m ∧ (x2 = -1 ∨ ∃ v : Nat, v < 64 ∧ x2 = nI v)
theorem krbeginner {d : Nat} {Pp : Option Value → xH → Prop} {K : Nat → Nat × Nat} {I : Nat → Nat → Int32} {P : Nat → Nat → Option Nat} {n s : Nat} {R : Nat} {X : xX} {x1 x2 : Int32} (hR : xAt K P R 5) (hA : xPg I R X) (hw : ∀ m, m < 12 → wfM X m) (h0 : I R 0 = nI (gC X)) (hg : gC X ≤ 12) (hb : (∀ m, ¬ gdBeg X x1 x2 m) → Pp (some (.int 0)) (K, I, P, n, s)) (hp : ∀ m, gdBeg X x1 x2 m → Pp (some (.int 1)) (K, xuI (xuI I (R + 11) m x2) R 12 0, P, n, s)) : xC (d + 1) mX5_beginner [(.ref R), (.int x1), (.int x2)] (K, I, P, n, s) Pp := by
  refine y_met 0 0 ?_
  show xB (d + 1) 5 cX5_beginner (some .int) false (xE n s 0 0 Pp) 0 [some (.ref R), some (.int x1), some (.int x2)] [] (K, I, P, n, s)
  refine y_aload_n dX5_beginner_0 rfl ?_
  refine y_iload_n dX5_beginner_1 rfl ?_
  refine y_callV1 mX5_isModule dX5_beginner_2 rfl rfl hR.1 (Nat.le_of_ble_eq_true rfl) (kX5_isModule hR.1 h0 hg (fun m hm e1 => ?_) (fun e1 => ?_))
  · subst e1
    refine y_if_eq 20 dX5_beginner_5 (by decide) (fun q => absurd q (by decide)) (fun _ => ?_)
    refine y_iload_n dX5_beginner_8 rfl ?_
    refine y_iconst (v := (-1)) dX5_beginner_9 (by decide) ?_
    refine y_icmp_eq 22 dX5_beginner_10 (by decide) (fun c10 => ?_) (fun c10 => ?_)
    · refine y_aload_n dX5_beginner_22 rfl ?_
      refine y_getr 5 11 dX5_beginner_23 rfl rfl hR.1 (r5_11 hR) ?_
      refine y_iload_n dX5_beginner_26 rfl ?_
      refine y_iload_n dX5_beginner_27 rfl ?_
      refine y_iast (m) dX5_beginner_28 (k5_11 hR) rfl (by omega) (by omega) ?_
      refine y_aload_n dX5_beginner_29 rfl ?_
      refine y_iconst (v := 0) dX5_beginner_30 (by decide) ?_
      refine y_putz 5 12 dX5_beginner_31 rfl rfl rfl hR.1 (by decide) ?_
      refine y_iconst (v := 1) dX5_beginner_34 (by decide) ?_
      exact y_ret dX5_beginner_35 rfl rfl (hp m ⟨hm, rfl, Or.inl c10⟩)
    · refine y_iload_n dX5_beginner_13 rfl ?_
      refine y_callS1 mX5_isName 0 dX5_beginner_14 rfl rfl (Nat.le_of_ble_eq_true rfl) (kX5_isName (fun v hv e2 => ?_) (fun e2 => ?_))
      · subst e2
        refine y_if_ne 22 dX5_beginner_17 (by decide) (fun _ => ?_) (fun q => absurd q (by decide))
        refine y_aload_n dX5_beginner_22 rfl ?_
        refine y_getr 5 11 dX5_beginner_23 rfl rfl hR.1 (r5_11 hR) ?_
        refine y_iload_n dX5_beginner_26 rfl ?_
        refine y_iload_n dX5_beginner_27 rfl ?_
        refine y_iast (m) dX5_beginner_28 (k5_11 hR) rfl (by omega) (by omega) ?_
        refine y_aload_n dX5_beginner_29 rfl ?_
        refine y_iconst (v := 0) dX5_beginner_30 (by decide) ?_
        refine y_putz 5 12 dX5_beginner_31 rfl rfl rfl hR.1 (by decide) ?_
        refine y_iconst (v := 1) dX5_beginner_34 (by decide) ?_
        exact y_ret dX5_beginner_35 rfl rfl (hp m ⟨hm, rfl, Or.inr ⟨v, hv, rfl⟩⟩)
      · refine y_if_ne 22 dX5_beginner_17 (by decide) (fun q => absurd q (by decide)) (fun _ => ?_)
        refine y_iconst (v := 0) dX5_beginner_20 (by decide) ?_
        exact y_ret dX5_beginner_21 rfl rfl (hb (fun a g => by
          rcases g.2.2 with e | ⟨v, hv, e⟩
          · exact c10 e
          · exact e2 v hv e))
  · refine y_if_eq 20 dX5_beginner_5 (by decide) (fun _ => ?_) (fun q => absurd q (by decide))
    refine y_iconst (v := 0) dX5_beginner_20 (by decide) ?_
    exact y_ret dX5_beginner_21 rfl rfl (hb (fun a g => e1 a g.1 g.2.1))
def gdPut (X : xX) (x1 x2 x3 x4 x5 : Int32) (m : Nat) : Prop := m < gC X ∧ x1 = nI m ∧ xStep x2 x3 x4 x5 ∧ gS X m < 100
theorem krput {d : Nat} {Pp : Option Value → xH → Prop} {K : Nat → Nat × Nat} {I : Nat → Nat → Int32} {P : Nat → Nat → Option Nat} {n s : Nat} {R : Nat} {X : xX} {x1 x2 x3 x4 x5 : Int32} (hR : xAt K P R 5) (hA : xPg I R X) (hw : ∀ m, m < 12 → wfM X m) (h0 : I R 0 = nI (gC X)) (hg : gC X ≤ 12) (hb : (∀ m, ¬ gdPut X x1 x2 x3 x4 x5 m) → Pp (some (.int (-1))) (K, I, P, n, s)) (hp : ∀ m, gdPut X x1 x2 x3 x4 x5 m → Pp (some (.int (nI (gS X m)))) (K, xuI (xuI (xuI (xuI (xuI (xuI I (R + 8) (4 * (100 * m + gS X m)) x2) (R + 8) (4 * (100 * m + gS X m) + 1) x3) (R + 8) (4 * (100 * m + gS X m) + 2) x4) (R + 8) (4 * (100 * m + gS X m) + 3) x5) (R + 9) m (nI (gS X m + 1))) R 12 0, P, n, s)) : xC (d + 2) mX5_put [(.ref R), (.int x1), (.int x2), (.int x3), (.int x4), (.int x5)] (K, I, P, n, s) Pp := by
  refine y_met 0 0 ?_
  show xB (d + 2) 5 cX5_put (some .int) false (xE n s 0 0 Pp) 0 [some (.ref R), some (.int x1), some (.int x2), some (.int x3), some (.int x4), some (.int x5), none] [] (K, I, P, n, s)
  refine y_aload_n dX5_put_0 rfl ?_
  refine y_iload_n dX5_put_1 rfl ?_
  refine y_callV1 mX5_isModule dX5_put_2 rfl rfl hR.1 (Nat.le_of_ble_eq_true rfl) (kX5_isModule hR.1 h0 hg (fun m hm e1 => ?_) (fun e1 => ?_))
  · subst e1
    obtain ⟨w1, w2⟩ := (hw m (by omega)).2.2.2.2.2.1
    refine y_if_eq 31 dX5_put_5 (by decide) (fun q => absurd q (by decide)) (fun _ => ?_)
    refine y_iload_n dX5_put_8 rfl ?_
    refine y_iload_n dX5_put_9 rfl ?_
    refine y_iload dX5_put_10 rfl ?_
    refine y_iload dX5_put_12 rfl ?_
    refine y_callS4 mX5_isGood 0 dX5_put_14 rfl rfl (Nat.le_of_ble_eq_true rfl) (kisGood (fun es => ?_) (fun es => ?_))
    · refine y_if_eq 31 dX5_put_17 (by decide) (fun q => absurd q (by decide)) (fun _ => ?_)
      refine y_aload_n dX5_put_20 rfl ?_
      refine y_getr 5 9 dX5_put_21 rfl rfl hR.1 (r5_9 hR) ?_
      refine y_iload_n dX5_put_24 rfl ?_
      refine y_ialdN (m) dX5_put_25 (k5_9 hR) rfl (by omega) (by omega) ((congrFun (hA 9 (by decide) (by decide)) m).trans w1) ?_
      refine y_bipush (v := 100) dX5_put_26 (by decide) ?_
      refine y_icmpN_ne 33 ((gS X m)) (100) dX5_put_28 (by decide) rfl rfl (by omega) (by omega) (fun c28 => ?_) (fun c28 => ?_)
      · refine y_iconst (v := 4) dX5_put_33 (by decide) ?_
        refine y_bipush (v := 100) dX5_put_34 (by decide) ?_
        refine y_iload_n dX5_put_36 rfl ?_
        refine y_imulv (nI (100 * m)) dX5_put_37 (pk_mul (100) (m)) ?_
        refine y_aload_n dX5_put_38 rfl ?_
        refine y_getr 5 9 dX5_put_39 rfl rfl hR.1 (r5_9 hR) ?_
        refine y_iload_n dX5_put_42 rfl ?_
        refine y_ialdN (m) dX5_put_43 (k5_9 hR) rfl (by omega) (by omega) ((congrFun (hA 9 (by decide) (by decide)) m).trans w1) ?_
        refine y_iaddv (nI (((100 * m)) + ((gS X m)))) dX5_put_44 (nI_add ((100 * m)) ((gS X m))) ?_
        refine y_imulv (nI (4 * ((((100 * m)) + ((gS X m)))))) dX5_put_45 (pk_mul (4) ((((100 * m)) + ((gS X m))))) ?_
        refine y_istore dX5_put_46 (by first | (simp; done) | (simp; decide)) (fun x1 e_x1 => ?_)
        subst e_x1
        refine y_aload_n dX5_put_48 rfl ?_
        refine y_getr 5 8 dX5_put_49 rfl rfl hR.1 (r5_8 hR) ?_
        refine y_iload dX5_put_52 rfl ?_
        refine y_iload_n dX5_put_54 rfl ?_
        refine y_iast ((4 * ((((100 * m)) + ((gS X m)))))) dX5_put_55 (k5_8 hR) rfl (by omega) (by omega) ?_
        refine y_aload_n dX5_put_56 rfl ?_
        refine y_getr 5 8 dX5_put_57 rfl rfl hR.1 (r5_8 hR) ?_
        refine y_iload dX5_put_60 rfl ?_
        refine y_iconst (v := 1) dX5_put_62 (by decide) ?_
        refine y_iaddv (nI (((4 * ((((100 * m)) + ((gS X m)))))) + 1)) dX5_put_63 (nI_add ((4 * ((((100 * m)) + ((gS X m)))))) (1)) ?_
        refine y_iload_n dX5_put_64 rfl ?_
        refine y_iast ((((4 * ((((100 * m)) + ((gS X m)))))) + 1)) dX5_put_65 (k5_8 hR) rfl (by omega) (by omega) ?_
        refine y_aload_n dX5_put_66 rfl ?_
        refine y_getr 5 8 dX5_put_67 rfl rfl hR.1 (r5_8 hR) ?_
        refine y_iload dX5_put_70 rfl ?_
        refine y_iconst (v := 2) dX5_put_72 (by decide) ?_
        refine y_iaddv (nI (((4 * ((((100 * m)) + ((gS X m)))))) + 2)) dX5_put_73 (nI_add ((4 * ((((100 * m)) + ((gS X m)))))) (2)) ?_
        refine y_iload dX5_put_74 rfl ?_
        refine y_iast ((((4 * ((((100 * m)) + ((gS X m)))))) + 2)) dX5_put_76 (k5_8 hR) rfl (by omega) (by omega) ?_
        refine y_aload_n dX5_put_77 rfl ?_
        refine y_getr 5 8 dX5_put_78 rfl rfl hR.1 (r5_8 hR) ?_
        refine y_iload dX5_put_81 rfl ?_
        refine y_iconst (v := 3) dX5_put_83 (by decide) ?_
        refine y_iaddv (nI (((4 * ((((100 * m)) + ((gS X m)))))) + 3)) dX5_put_84 (nI_add ((4 * ((((100 * m)) + ((gS X m)))))) (3)) ?_
        refine y_iload dX5_put_85 rfl ?_
        refine y_iast ((((4 * ((((100 * m)) + ((gS X m)))))) + 3)) dX5_put_87 (k5_8 hR) rfl (by omega) (by omega) ?_
        refine y_aload_n dX5_put_88 rfl ?_
        refine y_getr 5 9 dX5_put_89 rfl rfl hR.1 (r5_9 hR) ?_
        refine y_iload_n dX5_put_92 rfl ?_
        refine y_dup2 dX5_put_93 rfl rfl ?_
        refine y_ialdN (m) dX5_put_94 (k5_9 hR) rfl (by omega) (by omega) (show (xuI (xuI (xuI (xuI I (R + 8) (4 * (100 * m + gS X m)) x2) (R + 8) (4 * (100 * m + gS X m) + 1) x3) (R + 8) (4 * (100 * m + gS X m) + 2) x4) (R + 8) (4 * (100 * m + gS X m) + 3) x5) (R + 9) m = nI (gS X m) by rw [xuI_o (Or.inl (by omega)), xuI_o (Or.inl (by omega)), xuI_o (Or.inl (by omega)), xuI_o (Or.inl (by omega))]; exact ((congrFun (hA 9 (by decide) (by decide)) m).trans w1)) ?_
        refine y_iconst (v := 1) dX5_put_95 (by decide) ?_
        refine y_iaddv (nI (((gS X m)) + 1)) dX5_put_96 (nI_add ((gS X m)) (1)) ?_
        refine y_iast (m) dX5_put_97 (k5_9 hR) rfl (by omega) (by omega) ?_
        refine y_aload_n dX5_put_98 rfl ?_
        refine y_iconst (v := 0) dX5_put_99 (by decide) ?_
        refine y_putz 5 12 dX5_put_100 rfl rfl rfl hR.1 (by decide) ?_
        refine y_aload_n dX5_put_103 rfl ?_
        refine y_getr 5 9 dX5_put_104 rfl rfl hR.1 (r5_9 hR) ?_
        refine y_iload_n dX5_put_107 rfl ?_
        refine y_ialdN (m) dX5_put_108 (k5_9 hR) rfl (by omega) (by omega) (show xuI (xuI (xuI (xuI (xuI (xuI I (R + 8) (4 * (100 * m + gS X m)) x2) (R + 8) (4 * (100 * m + gS X m) + 1) x3) (R + 8) (4 * (100 * m + gS X m) + 2) x4) (R + 8) (4 * (100 * m + gS X m) + 3) x5) (R + 9) m (nI (gS X m + 1))) R 12 0 (R + 9) m = nI (gS X m + 1) by rw [xuI_o (Or.inl (by omega)), xuI_s]) ?_
        refine y_iconst (v := 1) dX5_put_109 (by decide) ?_
        refine y_isubv ((nI (gS X m))) dX5_put_110 (nI_pred _) ?_
        exact y_ret dX5_put_111 rfl rfl (hp m ⟨hm, rfl, es, by omega⟩)
      · refine y_iconst (v := (-1)) dX5_put_31 (by decide) ?_
        exact y_ret dX5_put_32 rfl rfl (hb (fun a g => by
          have hme := nI_inj (show m < 2 ^ 31 by omega) (show a < 2 ^ 31 by have := g.1; omega) g.2.1
          subst hme
          have := g.2.2.2
          omega))
    · refine y_if_eq 31 dX5_put_17 (by decide) (fun _ => ?_) (fun q => absurd q (by decide))
      refine y_iconst (v := (-1)) dX5_put_31 (by decide) ?_
      exact y_ret dX5_put_32 rfl rfl (hb (fun a g => es g.2.2.1))
  · refine y_if_eq 31 dX5_put_5 (by decide) (fun _ => ?_) (fun q => absurd q (by decide))
    refine y_iconst (v := (-1)) dX5_put_31 (by decide) ?_
    exact y_ret dX5_put_32 rfl rfl (hb (fun a g => e1 a g.1 g.2.1))
theorem krfault {d : Nat} {Pp : Option Value → xH → Prop} {K : Nat → Nat × Nat} {I : Nat → Nat → Int32} {P : Nat → Nat → Option Nat} {n s : Nat} {R : Nat} {x : Int32} (hR : xAt K P R 5) (hp : Pp (some (.int (if x = 0 then I R 25 else if x = 1 then I R 26 else if x = 2 then I R 27 else -1))) (K, I, P, n, s)) : xC d mX5_fault [(.ref R), (.int x)] (K, I, P, n, s) Pp := by
  refine y_met 0 0 ?_
  show xB d 5 cX5_fault (some .int) false (xE n s 0 0 Pp) 0 [some (.ref R), some (.int x)] [] (K, I, P, n, s)
  refine y_iload_n dX5_fault_0 rfl ?_
  refine y_if_ne 11 dX5_fault_1 (by decide) (fun c1 => ?_) (fun c1 => ?_)
  · refine y_iload_n dX5_fault_11 rfl ?_
    refine y_iconst (v := 1) dX5_fault_12 (by decide) ?_
    refine y_icmp_ne 23 dX5_fault_13 (by decide) (fun c13 => ?_) (fun c13 => ?_)
    · refine y_iload_n dX5_fault_23 rfl ?_
      refine y_iconst (v := 2) dX5_fault_24 (by decide) ?_
      refine y_icmp_ne 35 dX5_fault_25 (by decide) (fun c25 => ?_) (fun c25 => ?_)
      · refine y_iconst (v := (-1)) dX5_fault_35 (by decide) ?_
        rw [if_neg c1, if_neg c13, if_neg c25] at hp
        exact y_ret dX5_fault_36 rfl rfl hp
      · refine y_aload_n dX5_fault_28 rfl ?_
        refine y_geti 5 27 dX5_fault_29 rfl rfl hR.1 ?_
        refine y_goto 36 dX5_fault_32 (by decide) ?_
        rw [if_neg c1, if_neg c13, if_pos c25] at hp
        exact y_ret dX5_fault_36 rfl rfl hp
    · refine y_aload_n dX5_fault_16 rfl ?_
      refine y_geti 5 26 dX5_fault_17 rfl rfl hR.1 ?_
      refine y_goto 36 dX5_fault_20 (by decide) ?_
      rw [if_neg c1, if_pos c13] at hp
      exact y_ret dX5_fault_36 rfl rfl hp
  · refine y_aload_n dX5_fault_4 rfl ?_
    refine y_geti 5 25 dX5_fault_5 rfl rfl hR.1 ?_
    refine y_goto 36 dX5_fault_8 (by decide) ?_
    rw [if_pos c1] at hp
    exact y_ret dX5_fault_36 rfl rfl hp
theorem krorder {d : Nat} {Pp : Option Value → xH → Prop} {K : Nat → Nat × Nat} {I : Nat → Nat → Int32} {P : Nat → Nat → Option Nat} {n s : Nat} {R c : Nat} {lb : Bool} {x1 x2 : Int32} (hR : xAt K P R 5) (hl : I R 12 = bI lb) (hc : I R 15 = nI c) (hc2 : c ≤ 12) (hb : (lb = false ∨ (∀ k, k < c → x1 ≠ nI k) ∨ ∀ b, x2 ≠ bI b) → Pp (some (.int (-1))) (K, I, P, n, s)) (hp : ∀ k b, lb = true → k < c → x1 = nI k → x2 = bI b → Pp (some (.int (if b = true then I (R + 13) k else I (R + 12) k))) (K, I, P, n, s)) : xC d mX5_order [(.ref R), (.int x1), (.int x2)] (K, I, P, n, s) Pp := by
  refine y_met 0 0 ?_
  show xB d 5 cX5_order (some .int) false (xE n s 0 0 Pp) 0 [some (.ref R), some (.int x1), some (.int x2)] [] (K, I, P, n, s)
  cases lb with
  | false =>
    refine y_aload_n dX5_order_0 rfl ?_
    refine y_getv 5 12 dX5_order_1 rfl rfl hR.1 hl ?_
    refine y_if_eq 28 dX5_order_4 (by decide) (fun _ => ?_) (fun q => absurd q (by decide))
    refine y_iconst (v := (-1)) dX5_order_28 (by decide) ?_
    exact y_ret dX5_order_29 rfl rfl (hb (Or.inl rfl))
  | true =>
    refine y_aload_n dX5_order_0 rfl ?_
    refine y_getv 5 12 dX5_order_1 rfl rfl hR.1 hl ?_
    refine y_if_eq 28 dX5_order_4 (by decide) (fun q => absurd q (by decide)) (fun _ => ?_)
    refine y_iload_n dX5_order_7 rfl ?_
    refine y_ifZ_lt 28 (x1.toInt) dX5_order_8 (by decide) rfl (fun c8 => ?_) (fun c8 => ?_)
    · refine y_iconst (v := (-1)) dX5_order_28 (by decide) ?_
      exact y_ret dX5_order_29 rfl rfl (hb (Or.inr (Or.inl (znot (by omega) (Or.inl c8)))))
    · refine y_iload_n dX5_order_11 rfl ?_
      refine y_aload_n dX5_order_12 rfl ?_
      refine y_getv 5 15 dX5_order_13 rfl rfl hR.1 hc ?_
      refine y_icmpZ_ge 28 (x1.toInt) ((c : Int)) dX5_order_16 (by decide) rfl (nI_toInt (by omega)) (fun c16 => ?_) (fun c16 => ?_)
      · refine y_iconst (v := (-1)) dX5_order_28 (by decide) ?_
        exact y_ret dX5_order_29 rfl rfl (hb (Or.inr (Or.inl (znot (by omega) (Or.inr c16)))))
      · refine y_iload_n dX5_order_19 rfl ?_
        refine y_ifZ_lt 28 (x2.toInt) dX5_order_20 (by decide) rfl (fun c20 => ?_) (fun c20 => ?_)
        · refine y_iconst (v := (-1)) dX5_order_28 (by decide) ?_
          exact y_ret dX5_order_29 rfl rfl (hb (Or.inr (Or.inr (fun b e => by rw [e] at c20; cases b <;> exact absurd c20 (by decide)))))
        · refine y_iload_n dX5_order_23 rfl ?_
          refine y_iconst (v := 1) dX5_order_24 (by decide) ?_
          refine y_icmpZ_le 30 (x2.toInt) (1) dX5_order_25 (by decide) rfl rfl (fun c25 => ?_) (fun c25 => ?_)
          · obtain ⟨k, hk, ek⟩ := zof (M := c) c8 c16
            subst ek
            obtain ⟨b, eb⟩ := z01 c20 c25
            subst eb
            cases b with
            | false =>
              refine y_iload_n dX5_order_30 rfl ?_
              refine y_if_ne 43 dX5_order_31 (by decide) (fun q => absurd q (by decide)) (fun _ => ?_)
              refine y_aload_n dX5_order_34 rfl ?_
              refine y_getr 5 16 dX5_order_35 rfl rfl hR.1 (r5_16 hR) ?_
              refine y_iload_n dX5_order_38 rfl ?_
              refine y_ialdN (k) dX5_order_39 (k5_16 hR) rfl (by omega) (by omega) rfl ?_
              refine y_goto 49 dX5_order_40 (by decide) ?_
              exact y_ret dX5_order_49 rfl rfl (hp k false rfl hk rfl rfl)
            | true =>
              refine y_iload_n dX5_order_30 rfl ?_
              refine y_if_ne 43 dX5_order_31 (by decide) (fun _ => ?_) (fun q => absurd q (by decide))
              refine y_aload_n dX5_order_43 rfl ?_
              refine y_getr 5 17 dX5_order_44 rfl rfl hR.1 (r5_17 hR) ?_
              refine y_iload_n dX5_order_47 rfl ?_
              refine y_ialdN (k) dX5_order_48 (k5_17 hR) rfl (by omega) (by omega) rfl ?_
              exact y_ret dX5_order_49 rfl rfl (hp k true rfl hk rfl rfl)
          · refine y_iconst (v := (-1)) dX5_order_28 (by decide) ?_
            exact y_ret dX5_order_29 rfl rfl (hb (Or.inr (Or.inr (fun b e => by rw [e] at c25; cases b <;> exact absurd c25 (by decide)))))
theorem sPlc_none {x : Int32} : ∀ {l : List Nat} {p : Nat}, sPlc x l p = none → ∀ m ∈ l, x ≠ nI m
  | [], _, _, m, hm => by cases hm
  | q :: r, p, h, m, hm => by
    unfold sPlc at h
    split at h
    · cases h
    · rename_i e
      rcases List.mem_cons.mp hm with rfl | hm
      · exact fun z => e z.symm
      · exact sPlc_none h m hm
theorem sPlc_some {x : Int32} : ∀ {l : List Nat} {p e : Nat}, sPlc x l p = some e → ∃ m j, e = p + j ∧ l[j]? = some m ∧ x = nI m
  | [], _, _, h => by cases h
  | q :: r, p, e, h => by
    unfold sPlc at h
    split at h
    · rename_i z
      cases h
      exact ⟨q, 0, rfl, rfl, z.symm⟩
    · obtain ⟨m, j, h1, h2, h3⟩ := sPlc_some h
      exact ⟨m, j + 1, by omega, by simpa using h2, h3⟩
theorem krcomes0 {d : Nat} {Pp : Option Value → xH → Prop} {K : Nat → Nat × Nat} {I : Nat → Nat → Int32} {P : Nat → Nat → Option Nat} {n s : Nat} {R c : Nat} {x1 x2 : Int32} (hR : xAt K P R 5) (hl : I R 12 = 0) (hc : I R 15 = nI c) (hc2 : c ≤ 12) (hp : Pp (some (.int (-1))) (K, I, P, n, s)) : xC (d + 2) mX5_comes [(.ref R), (.int x1), (.int x2)] (K, I, P, n, s) Pp := by
  refine y_met 0 0 ?_
  show xB (d + 2) 5 cX5_comes (some .int) false (xE n s 0 0 Pp) 0 [some (.ref R), some (.int x1), some (.int x2)] [] (K, I, P, n, s)
  refine y_aload_n dX5_comes_0 rfl ?_
  refine y_iload_n dX5_comes_1 rfl ?_
  refine y_callV1 mX5_placeOf dX5_comes_2 rfl rfl hR.1 (Nat.le_of_ble_eq_true rfl) (kplaceOf0 hR hl hc hc2 ?_)
  refine y_iconst (v := (-1)) dX5_comes_5 (by decide) ?_
  refine y_icmp_eq 16 dX5_comes_6 (by decide) (fun _ => ?_) (fun q => absurd q (by decide))
  refine y_iconst (v := (-1)) dX5_comes_16 (by decide) ?_
  refine y_goto 38 dX5_comes_17 (by decide) ?_
  exact y_ret dX5_comes_38 rfl rfl hp
theorem krcomes1 {d : Nat} {Pp : Option Value → xH → Prop} {K : Nat → Nat × Nat} {I : Nat → Nat → Int32} {P : Nat → Nat → Option Nat} {n s : Nat} {R : Nat} {X : xX} {ord : List Nat} {x1 x2 : Int32} (hR : xAt K P R 5) (hA : xPg I R X) (hw : ∀ m, m < 12 → wfM X m) (hl : I R 12 = 1) (hc : I R 15 = nI ord.length) (ho : xHl I (R + 12) ord) (ho2 : ∀ q ∈ ord, q < 12) (ho3 : ord.length ≤ 12) (hb : ((∀ m ∈ ord, x1 ≠ nI m) ∨ ∀ v, v < 64 → x2 ≠ nI v) → Pp (some (.int (-1))) (K, I, P, n, s)) (hp : ∀ m v, m ∈ ord → x1 = nI m → v < 64 → x2 = nI v → Pp (some (.int (oM (sFi X ord m x2)))) (K, I, P, n, s)) : xC (d + 2) mX5_comes [(.ref R), (.int x1), (.int x2)] (K, I, P, n, s) Pp := by
  refine y_met 0 0 ?_
  show xB (d + 2) 5 cX5_comes (some .int) false (xE n s 0 0 Pp) 0 [some (.ref R), some (.int x1), some (.int x2)] [] (K, I, P, n, s)
  refine y_aload_n dX5_comes_0 rfl ?_
  refine y_iload_n dX5_comes_1 rfl ?_
  refine y_callV1 mX5_placeOf dX5_comes_2 rfl rfl hR.1 (Nat.le_of_ble_eq_true rfl) (kplaceOf1 hR hl hc ho ho3 (fun en => ?_) (fun e es => ?_))
  · refine y_iconst (v := (-1)) dX5_comes_5 (by decide) ?_
    refine y_icmp_eq 16 dX5_comes_6 (by decide) (fun _ => ?_) (fun q => absurd q (by decide))
    refine y_iconst (v := (-1)) dX5_comes_16 (by decide) ?_
    refine y_goto 38 dX5_comes_17 (by decide) ?_
    exact y_ret dX5_comes_38 rfl rfl (hb (Or.inl (sPlc_none en)))
  · obtain ⟨m, j, ej, hj, em⟩ := sPlc_some es
    have hmo := List.mem_of_getElem? hj
    have hm := ho2 m hmo
    have hj2 := (List.getElem?_eq_some_iff.mp hj).1
    subst em
    refine y_iconst (v := (-1)) dX5_comes_5 (by decide) ?_
    refine y_icmp_eq 16 dX5_comes_6 (by decide) (fun c6 => absurd c6 (nI_m1 (by omega))) (fun _ => ?_)
    refine y_iload_n dX5_comes_9 rfl ?_
    refine y_callS1 mX5_isName 0 dX5_comes_10 rfl rfl (Nat.le_of_ble_eq_true rfl) (kX5_isName (fun v hv e2 => ?_) (fun e2 => ?_))
    · subst e2
      refine y_if_ne 20 dX5_comes_13 (by decide) (fun _ => ?_) (fun q => absurd q (by decide))
      refine y_aload_n dX5_comes_20 rfl ?_
      refine y_aload_n dX5_comes_21 rfl ?_
      refine y_aload_n dX5_comes_22 rfl ?_
      refine y_getr 5 16 dX5_comes_23 rfl rfl hR.1 (r5_16 hR) ?_
      refine y_aload_n dX5_comes_26 rfl ?_
      refine y_getv 5 15 dX5_comes_27 rfl rfl hR.1 hc ?_
      refine y_iload_n dX5_comes_30 rfl ?_
      refine y_iload_n dX5_comes_31 rfl ?_
      refine y_callV4 mX5_find dX5_comes_32 rfl rfl hR.1 (Nat.le_of_ble_eq_true rfl) (kfind (d := d) hR hA (k5_16 hR) ho ho2 ho3 hm hw (fun ef => ?_) (fun e3 ef he => ?_))
      · refine y_callV1 mX5_moduleOf dX5_comes_35 rfl rfl hR.1 (Nat.le_of_ble_eq_true rfl) (kmoduleOf (o := none) (fun _ h => by cases h) ?_)
        have hq := hp m v hmo rfl hv rfl
        rw [ef] at hq
        exact y_ret dX5_comes_38 rfl rfl hq
      · refine y_callV1 mX5_moduleOf dX5_comes_35 rfl rfl hR.1 (Nat.le_of_ble_eq_true rfl) (kmoduleOf (o := some e3) (fun _ h => by cases h; exact he) ?_)
        have hq := hp m v hmo rfl hv rfl
        rw [ef] at hq
        exact y_ret dX5_comes_38 rfl rfl hq
    · refine y_if_ne 20 dX5_comes_13 (by decide) (fun q => absurd q (by decide)) (fun _ => ?_)
      refine y_iconst (v := (-1)) dX5_comes_16 (by decide) ?_
      refine y_goto 38 dX5_comes_17 (by decide) ?_
      exact y_ret dX5_comes_38 rfl rfl (hb (Or.inr e2))
theorem krbound0 {d : Nat} {Pp : Option Value → xH → Prop} {K : Nat → Nat × Nat} {I : Nat → Nat → Int32} {P : Nat → Nat → Option Nat} {n s : Nat} {R c : Nat} {x1 x2 : Int32} (hR : xAt K P R 5) (hl : I R 12 = 0) (hc : I R 15 = nI c) (hc2 : c ≤ 12) (hp : Pp (some (.int (-1))) (K, I, P, n, s)) : xC (d + 2) mX5_bound [(.ref R), (.int x1), (.int x2)] (K, I, P, n, s) Pp := by
  refine y_met 0 0 ?_
  show xB (d + 2) 5 cX5_bound (some .int) false (xE n s 0 0 Pp) 0 [some (.ref R), some (.int x1), some (.int x2)] [] (K, I, P, n, s)
  refine y_aload_n dX5_bound_0 rfl ?_
  refine y_iload_n dX5_bound_1 rfl ?_
  refine y_callV1 mX5_placeOf dX5_bound_2 rfl rfl hR.1 (Nat.le_of_ble_eq_true rfl) (kplaceOf0 hR hl hc hc2 ?_)
  refine y_iconst (v := (-1)) dX5_bound_5 (by decide) ?_
  refine y_icmp_eq 16 dX5_bound_6 (by decide) (fun _ => ?_) (fun q => absurd q (by decide))
  refine y_iconst (v := (-1)) dX5_bound_16 (by decide) ?_
  refine y_goto 31 dX5_bound_17 (by decide) ?_
  exact y_ret dX5_bound_31 rfl rfl hp
theorem krbound1 {d : Nat} {Pp : Option Value → xH → Prop} {K : Nat → Nat × Nat} {I : Nat → Nat → Int32} {P : Nat → Nat → Option Nat} {n s : Nat} {R : Nat} {X : xX} {ord : List Nat} {x1 x2 : Int32} (hR : xAt K P R 5) (hA : xPg I R X) (hw : ∀ m, m < 12 → wfM X m) (hl : I R 12 = 1) (hc : I R 15 = nI ord.length) (ho : xHl I (R + 12) ord) (ho2 : ∀ q ∈ ord, q < 12) (ho3 : ord.length ≤ 12) (hb : ((∀ m ∈ ord, x1 ≠ nI m) ∨ ∀ v, v < 64 → x2 ≠ nI v) → Pp (some (.int (-1))) (K, I, P, n, s)) (hp : ∀ m v, m ∈ ord → x1 = nI m → v < 64 → x2 = nI v → Pp (some (.int (I (R + 14) (64 * m + v)))) (K, I, P, n, s)) : xC (d + 2) mX5_bound [(.ref R), (.int x1), (.int x2)] (K, I, P, n, s) Pp := by
  refine y_met 0 0 ?_
  show xB (d + 2) 5 cX5_bound (some .int) false (xE n s 0 0 Pp) 0 [some (.ref R), some (.int x1), some (.int x2)] [] (K, I, P, n, s)
  refine y_aload_n dX5_bound_0 rfl ?_
  refine y_iload_n dX5_bound_1 rfl ?_
  refine y_callV1 mX5_placeOf dX5_bound_2 rfl rfl hR.1 (Nat.le_of_ble_eq_true rfl) (kplaceOf1 hR hl hc ho ho3 (fun en => ?_) (fun e es => ?_))
  · refine y_iconst (v := (-1)) dX5_bound_5 (by decide) ?_
    refine y_icmp_eq 16 dX5_bound_6 (by decide) (fun _ => ?_) (fun q => absurd q (by decide))
    refine y_iconst (v := (-1)) dX5_bound_16 (by decide) ?_
    refine y_goto 31 dX5_bound_17 (by decide) ?_
    exact y_ret dX5_bound_31 rfl rfl (hb (Or.inl (sPlc_none en)))
  · obtain ⟨m, j, ej, hj, em⟩ := sPlc_some es
    have hmo := List.mem_of_getElem? hj
    have hm := ho2 m hmo
    have hj2 := (List.getElem?_eq_some_iff.mp hj).1
    subst em
    refine y_iconst (v := (-1)) dX5_bound_5 (by decide) ?_
    refine y_icmp_eq 16 dX5_bound_6 (by decide) (fun c6 => absurd c6 (nI_m1 (by omega))) (fun _ => ?_)
    refine y_iload_n dX5_bound_9 rfl ?_
    refine y_callS1 mX5_isName 0 dX5_bound_10 rfl rfl (Nat.le_of_ble_eq_true rfl) (kX5_isName (fun v hv e2 => ?_) (fun e2 => ?_))
    · subst e2
      refine y_if_ne 20 dX5_bound_13 (by decide) (fun _ => ?_) (fun q => absurd q (by decide))
      refine y_aload_n dX5_bound_20 rfl ?_
      refine y_getr 5 18 dX5_bound_21 rfl rfl hR.1 (r5_18 hR) ?_
      refine y_bipush (v := 64) dX5_bound_24 (by decide) ?_
      refine y_iload_n dX5_bound_26 rfl ?_
      refine y_imulv (nI (64 * m)) dX5_bound_27 (pk_mul (64) (m)) ?_
      refine y_iload_n dX5_bound_28 rfl ?_
      refine y_iaddv (nI (((64 * m)) + v)) dX5_bound_29 (nI_add ((64 * m)) (v)) ?_
      refine y_ialdN ((((64 * m)) + v)) dX5_bound_30 (k5_18 hR) rfl (by omega) (by omega) rfl ?_
      exact y_ret dX5_bound_31 rfl rfl (hp m v hmo rfl hv rfl)
    · refine y_if_ne 20 dX5_bound_13 (by decide) (fun q => absurd q (by decide)) (fun _ => ?_)
      refine y_iconst (v := (-1)) dX5_bound_16 (by decide) ?_
      refine y_goto 31 dX5_bound_17 (by decide) ?_
      exact y_ret dX5_bound_31 rfl rfl (hb (Or.inr e2))
theorem krdatum0 {d : Nat} {Pp : Option Value → xH → Prop} {K : Nat → Nat × Nat} {I : Nat → Nat → Int32} {P : Nat → Nat → Option Nat} {n s : Nat} {R c : Nat} {x1 x2 : Int32} (hR : xAt K P R 5) (hl : I R 12 = 0) (hc : I R 15 = nI c) (hc2 : c ≤ 12) (hp : Pp (some (.int (-1))) (K, I, P, n, s)) : xC (d + 2) mX5_datum [(.ref R), (.int x1), (.int x2)] (K, I, P, n, s) Pp := by
  refine y_met 0 0 ?_
  show xB (d + 2) 5 cX5_datum (some .int) false (xE n s 0 0 Pp) 0 [some (.ref R), some (.int x1), some (.int x2), none] [] (K, I, P, n, s)
  refine y_aload_n dX5_datum_0 rfl ?_
  refine y_iload_n dX5_datum_1 rfl ?_
  refine y_callV1 mX5_placeOf dX5_datum_2 rfl rfl hR.1 (Nat.le_of_ble_eq_true rfl) (kplaceOf0 hR hl hc hc2 ?_)
  refine y_iconst (v := (-1)) dX5_datum_5 (by decide) ?_
  refine y_icmp_ne 11 dX5_datum_6 (by decide) (fun q => absurd q (by decide)) (fun _ => ?_)
  refine y_iconst (v := (-1)) dX5_datum_9 (by decide) ?_
  exact y_ret dX5_datum_10 rfl rfl hp
theorem krdatum1 {d : Nat} {Pp : Option Value → xH → Prop} {K : Nat → Nat × Nat} {I : Nat → Nat → Int32} {P : Nat → Nat → Option Nat} {n s : Nat} {R : Nat} {X : xX} {ord : List Nat} {x1 x2 : Int32} (hR : xAt K P R 5) (hA : xPg I R X) (hw : ∀ m, m < 12 → wfM X m) (hl : I R 12 = 1) (hc : I R 15 = nI ord.length) (ho : xHl I (R + 12) ord) (ho2 : ∀ q ∈ ord, q < 12) (ho3 : ord.length ≤ 12) (hb : (∀ m e, m ∈ ord → x1 = nI m → sOf X m x2 = some e → X 4 e ≠ 1) → Pp (some (.int (-1))) (K, I, P, n, s)) (hp : ∀ m e, m ∈ ord → x1 = nI m → sOf X m x2 = some e → X 4 e = 1 → Pp (some (.int (I (R + 15) e))) (K, I, P, n, s)) : xC (d + 2) mX5_datum [(.ref R), (.int x1), (.int x2)] (K, I, P, n, s) Pp := by
  refine y_met 0 0 ?_
  show xB (d + 2) 5 cX5_datum (some .int) false (xE n s 0 0 Pp) 0 [some (.ref R), some (.int x1), some (.int x2), none] [] (K, I, P, n, s)
  refine y_aload_n dX5_datum_0 rfl ?_
  refine y_iload_n dX5_datum_1 rfl ?_
  refine y_callV1 mX5_placeOf dX5_datum_2 rfl rfl hR.1 (Nat.le_of_ble_eq_true rfl) (kplaceOf1 hR hl hc ho ho3 (fun en => ?_) (fun e es => ?_))
  · refine y_iconst (v := (-1)) dX5_datum_5 (by decide) ?_
    refine y_icmp_ne 11 dX5_datum_6 (by decide) (fun q => absurd q (by decide)) (fun _ => ?_)
    refine y_iconst (v := (-1)) dX5_datum_9 (by decide) ?_
    exact y_ret dX5_datum_10 rfl rfl (hb (fun a e ha ea => absurd ea (sPlc_none en a ha)))
  · obtain ⟨m, j, ej, hj, em⟩ := sPlc_some es
    have hmo := List.mem_of_getElem? hj
    have hm := ho2 m hmo
    have hj2 := (List.getElem?_eq_some_iff.mp hj).1
    subst em
    refine y_iconst (v := (-1)) dX5_datum_5 (by decide) ?_
    refine y_icmp_ne 11 dX5_datum_6 (by decide) (fun _ => ?_) (fun c6 => absurd c6 (nI_m1 (by omega)))
    refine y_aload_n dX5_datum_11 rfl ?_
    refine y_iload_n dX5_datum_12 rfl ?_
    refine y_iload_n dX5_datum_13 rfl ?_
    refine y_callV2 mX5_ofName dX5_datum_14 rfl rfl hR.1 (Nat.le_of_ble_eq_true rfl) (kofName hR hA hm (hw m hm) (fun ef => ?_) (fun e3 ef => ?_))
    · refine y_istore_n dX5_datum_17 (by first | (simp; done) | (simp; decide)) (fun x1 e_x1 => ?_)
      subst e_x1
      refine y_iload_n dX5_datum_18 rfl ?_
      refine y_iconst (v := (-1)) dX5_datum_19 (by decide) ?_
      refine y_icmp_eq 33 dX5_datum_20 (by decide) (fun _ => ?_) (fun q => absurd q (by decide))
      refine y_iconst (v := (-1)) dX5_datum_33 (by decide) ?_
      refine y_goto 43 dX5_datum_34 (by decide) ?_
      exact y_ret dX5_datum_43 rfl rfl (hb (fun a e ha ea ef2 => by
        have hme := nI_inj (show m < 2 ^ 31 by omega) (show a < 2 ^ 31 by have := ho2 a ha; omega) ea
        subst hme
        rw [ef] at ef2
        cases ef2))
    · have he := (sOf_lt (hw m hm).2.2.1.2 hm ef).1
      refine y_istore_n dX5_datum_17 (by first | (simp; done) | (simp; decide)) (fun x2 e_x2 => ?_)
      subst e_x2
      refine y_iload_n dX5_datum_18 rfl ?_
      refine y_iconst (v := (-1)) dX5_datum_19 (by decide) ?_
      refine y_icmp_eq 33 dX5_datum_20 (by decide) (fun c20 => absurd c20 (nI_m1 (by omega))) (fun _ => ?_)
      refine y_aload_n dX5_datum_23 rfl ?_
      refine y_getr 5 4 dX5_datum_24 rfl rfl hR.1 (r5_4 hR) ?_
      refine y_iload_n dX5_datum_27 rfl ?_
      refine y_ialdN (e3) dX5_datum_28 (k5_4 hR) rfl (by omega) (by omega) (congrFun (hA 4 (by decide) (by decide)) (e3)) ?_
      refine y_iconst (v := 1) dX5_datum_29 (by decide) ?_
      refine y_icmp_eq 37 dX5_datum_30 (by decide) (fun c30 => ?_) (fun c30 => ?_)
      · refine y_aload_n dX5_datum_37 rfl ?_
        refine y_getr 5 19 dX5_datum_38 rfl rfl hR.1 (r5_19 hR) ?_
        refine y_iload_n dX5_datum_41 rfl ?_
        refine y_ialdN (e3) dX5_datum_42 (k5_19 hR) rfl (by omega) (by omega) rfl ?_
        exact y_ret dX5_datum_43 rfl rfl (hp m e3 hmo rfl ef c30)
      · refine y_iconst (v := (-1)) dX5_datum_33 (by decide) ?_
        refine y_goto 43 dX5_datum_34 (by decide) ?_
        exact y_ret dX5_datum_43 rfl rfl (hb (fun a e ha ea ef2 => by
          have hme := nI_inj (show m < 2 ^ 31 by omega) (show a < 2 ^ 31 by have := ho2 a ha; omega) ea
          subst hme
          rw [ef] at ef2
          cases ef2
          exact c30))
theorem krcount {d : Nat} {Pp : Option Value → xH → Prop} {K : Nat → Nat × Nat} {I : Nat → Nat → Int32} {P : Nat → Nat → Option Nat} {n s : Nat} {R : Nat} {x : Int32} {lb : Bool} (hR : xAt K P R 5) (hl : I R 12 = bI lb) (hp : Pp (some (.int (if x = 0 then I R 29 else if x = 1 then I R 30 else if x = 2 then I R 31 else if x = 3 then I R 32 else if x = 4 then (if lb = true then I R 15 else 0) else if x = 5 then I R 0 else -1))) (K, I, P, n, s)) : xC d mX5_count [(.ref R), (.int x)] (K, I, P, n, s) Pp := by
  refine y_met 0 0 ?_
  show xB d 5 cX5_count (some .int) false (xE n s 0 0 Pp) 0 [some (.ref R), some (.int x)] [] (K, I, P, n, s)
  refine y_iload_n dX5_count_0 rfl ?_
  refine y_tsw dX5_count_1 (fun c1 => ⟨81, by decide, ?_⟩) (fun c1a c1b => ?_)
  · refine y_iconst (v := (-1)) dX5_count_81 (by decide) ?_
    rw [if_neg (show ¬ x = 0 from fun e => by rw [e] at c1; revert c1; decide), if_neg (show ¬ x = 1 from fun e => by rw [e] at c1; revert c1; decide), if_neg (show ¬ x = 2 from fun e => by rw [e] at c1; revert c1; decide), if_neg (show ¬ x = 3 from fun e => by rw [e] at c1; revert c1; decide), if_neg (show ¬ x = 4 from fun e => by rw [e] at c1; revert c1; decide), if_neg (show ¬ x = 5 from fun e => by rw [e] at c1; revert c1; decide)] at hp
    exact y_ret dX5_count_82 rfl rfl hp
  · have c1c : (x).toInt = 0 ∨ (x).toInt = 1 ∨ (x).toInt = 2 ∨ (x).toInt = 3 ∨ (x).toInt = 4 ∨ (x).toInt = 5 := by omega
    rcases c1c with e1 | e1 | e1 | e1 | e1 | e1
    · refine ⟨39, 40, by rw [e1]; rfl, by decide, ?_⟩
      obtain rfl : x = 0 := z_eq e1 rfl
      refine y_aload_n dX5_count_40 rfl ?_
      refine y_geti 5 29 dX5_count_41 rfl rfl hR.1 ?_
      rw [if_pos rfl] at hp
      exact y_ret dX5_count_44 rfl rfl hp
    · refine ⟨44, 45, by rw [e1]; rfl, by decide, ?_⟩
      obtain rfl : x = 1 := z_eq e1 rfl
      refine y_aload_n dX5_count_45 rfl ?_
      refine y_geti 5 30 dX5_count_46 rfl rfl hR.1 ?_
      rw [if_neg (by decide), if_pos rfl] at hp
      exact y_ret dX5_count_49 rfl rfl hp
    · refine ⟨49, 50, by rw [e1]; rfl, by decide, ?_⟩
      obtain rfl : x = 2 := z_eq e1 rfl
      refine y_aload_n dX5_count_50 rfl ?_
      refine y_geti 5 31 dX5_count_51 rfl rfl hR.1 ?_
      rw [if_neg (by decide), if_neg (by decide), if_pos rfl] at hp
      exact y_ret dX5_count_54 rfl rfl hp
    · refine ⟨54, 55, by rw [e1]; rfl, by decide, ?_⟩
      obtain rfl : x = 3 := z_eq e1 rfl
      refine y_aload_n dX5_count_55 rfl ?_
      refine y_geti 5 32 dX5_count_56 rfl rfl hR.1 ?_
      rw [if_neg (by decide), if_neg (by decide), if_neg (by decide), if_pos rfl] at hp
      exact y_ret dX5_count_59 rfl rfl hp
    · refine ⟨59, 60, by rw [e1]; rfl, by decide, ?_⟩
      obtain rfl : x = 4 := z_eq e1 rfl
      cases lb with
      | false =>
        refine y_aload_n dX5_count_60 rfl ?_
        refine y_getv 5 12 dX5_count_61 rfl rfl hR.1 hl ?_
        refine y_if_eq 74 dX5_count_64 (by decide) (fun _ => ?_) (fun q => absurd q (by decide))
        refine y_iconst (v := 0) dX5_count_74 (by decide) ?_
        rw [if_neg (by decide), if_neg (by decide), if_neg (by decide), if_neg (by decide), if_pos rfl, if_neg (by decide)] at hp
        exact y_ret dX5_count_75 rfl rfl hp
      | true =>
        refine y_aload_n dX5_count_60 rfl ?_
        refine y_getv 5 12 dX5_count_61 rfl rfl hR.1 hl ?_
        refine y_if_eq 74 dX5_count_64 (by decide) (fun q => absurd q (by decide)) (fun _ => ?_)
        refine y_aload_n dX5_count_67 rfl ?_
        refine y_geti 5 15 dX5_count_68 rfl rfl hR.1 ?_
        refine y_goto 75 dX5_count_71 (by decide) ?_
        rw [if_neg (by decide), if_neg (by decide), if_neg (by decide), if_neg (by decide), if_pos rfl, if_pos rfl] at hp
        exact y_ret dX5_count_75 rfl rfl hp
    · refine ⟨75, 76, by rw [e1]; rfl, by decide, ?_⟩
      obtain rfl : x = 5 := z_eq e1 rfl
      refine y_aload_n dX5_count_76 rfl ?_
      refine y_geti 5 0 dX5_count_77 rfl rfl hR.1 ?_
      rw [if_neg (by decide), if_neg (by decide), if_neg (by decide), if_neg (by decide), if_neg (by decide), if_pos rfl] at hp
      exact y_ret dX5_count_80 rfl rfl hp
theorem krsaid {d : Nat} {Pp : Option Value → xH → Prop} {K : Nat → Nat × Nat} {I : Nat → Nat → Int32} {P : Nat → Nat → Option Nat} {n s : Nat} {R c : Nat} {x : Int32} (hR : xAt K P R 5) (hc : I R 30 = nI c) (hc2 : c ≤ 10000) (hb : (∀ k, k < 60 → k < c → x ≠ nI k) → Pp (some (.int 0)) (K, I, P, n, s)) (hp : ∀ k, k < 60 → k < c → x = nI k → Pp (some (.int (I (R + 21) k))) (K, I, P, n, s)) : xC d mX5_said [(.ref R), (.int x)] (K, I, P, n, s) Pp := by
  refine y_met 0 0 ?_
  show xB d 5 cX5_said (some .int) false (xE n s 0 0 Pp) 0 [some (.ref R), some (.int x)] [] (K, I, P, n, s)
  refine y_iload_n dX5_said_0 rfl ?_
  refine y_ifZ_lt 18 (x.toInt) dX5_said_1 (by decide) rfl (fun c1 => ?_) (fun c1 => ?_)
  · refine y_iconst (v := 0) dX5_said_18 (by decide) ?_
    refine y_goto 28 dX5_said_19 (by decide) ?_
    exact y_ret dX5_said_28 rfl rfl (hb (fun k h1 h2 e => by rw [e, nI_toInt (by omega)] at c1; omega))
  · refine y_iload_n dX5_said_4 rfl ?_
    refine y_aload_n dX5_said_5 rfl ?_
    refine y_getv 5 30 dX5_said_6 rfl rfl hR.1 hc ?_
    refine y_icmpZ_ge 18 (x.toInt) ((c : Int)) dX5_said_9 (by decide) rfl (nI_toInt (by omega)) (fun c9 => ?_) (fun c9 => ?_)
    · refine y_iconst (v := 0) dX5_said_18 (by decide) ?_
      refine y_goto 28 dX5_said_19 (by decide) ?_
      exact y_ret dX5_said_28 rfl rfl (hb (fun k h1 h2 e => by rw [e, nI_toInt (by omega)] at c9; omega))
    · refine y_iload_n dX5_said_12 rfl ?_
      refine y_bipush (v := 60) dX5_said_13 (by decide) ?_
      refine y_icmpZ_lt 22 (x.toInt) (60) dX5_said_15 (by decide) rfl rfl (fun c15 => ?_) (fun c15 => ?_)
      · obtain ⟨k, hk, ek⟩ := zof (M := 60) c1 (by show ¬ x.toInt ≥ 60; omega)
        subst ek
        refine y_aload_n dX5_said_22 rfl ?_
        refine y_getr 5 33 dX5_said_23 rfl rfl hR.1 (r5_33 hR) ?_
        refine y_iload_n dX5_said_26 rfl ?_
        refine y_ialdN (k) dX5_said_27 (k5_33 hR) rfl (by omega) (by omega) rfl ?_
        exact y_ret dX5_said_28 rfl rfl (hp k hk (by rw [nI_toInt (by omega)] at c9; omega) rfl)
      · refine y_iconst (v := 0) dX5_said_18 (by decide) ?_
        refine y_goto 28 dX5_said_19 (by decide) ?_
        exact y_ret dX5_said_28 rfl rfl (hb (fun k h1 h2 e => by rw [e, nI_toInt (by omega)] at c15; omega))
theorem krregister {d : Nat} {Pp : Option Value → xH → Prop} {K : Nat → Nat × Nat} {I : Nat → Nat → Int32} {P : Nat → Nat → Option Nat} {n s : Nat} {R : Nat} {x : Int32} (hR : xAt K P R 5) (hb : (∀ k, k < 8 → x ≠ nI k) → Pp (some (.int 0)) (K, I, P, n, s)) (hp : ∀ k, k < 8 → x = nI k → Pp (some (.int (I (R + 20) k))) (K, I, P, n, s)) : xC (d + 1) mX5_register [(.ref R), (.int x)] (K, I, P, n, s) Pp := by
  refine y_met 0 0 ?_
  show xB (d + 1) 5 cX5_register (some .int) false (xE n s 0 0 Pp) 0 [some (.ref R), some (.int x)] [] (K, I, P, n, s)
  refine y_iload_n dX5_register_0 rfl ?_
  refine y_callS1 mX5_isRegister 0 dX5_register_1 rfl rfl (Nat.le_of_ble_eq_true rfl) (kX5_isRegister (fun k hk ek => ?_) (fun nk => ?_))
  · subst ek
    refine y_if_eq 16 dX5_register_4 (by decide) (fun q => absurd q (by decide)) (fun _ => ?_)
    refine y_aload_n dX5_register_7 rfl ?_
    refine y_getr 5 28 dX5_register_8 rfl rfl hR.1 (r5_28 hR) ?_
    refine y_iload_n dX5_register_11 rfl ?_
    refine y_ialdN (k) dX5_register_12 (k5_28 hR) rfl (by omega) (by omega) rfl ?_
    refine y_goto 17 dX5_register_13 (by decide) ?_
    exact y_ret dX5_register_17 rfl rfl (hp k hk rfl)
  · refine y_if_eq 16 dX5_register_4 (by decide) (fun _ => ?_) (fun q => absurd q (by decide))
    refine y_iconst (v := 0) dX5_register_16 (by decide) ?_
    exact y_ret dX5_register_17 rfl rfl (hb nk)
theorem krcheck {d : Nat} {Pp : Option Value → xH → Prop} {K : Nat → Nat × Nat} {I : Nat → Nat → Int32} {P : Nat → Nat → Option Nat} {n s : Nat} {R : Nat} (hp : Pp (some (.int 1)) (K, I, P, n, s)) : xC d mX5_check [(.ref R)] (K, I, P, n, s) Pp := by
  refine y_met 0 0 ?_
  show xB d 5 cX5_check (some .int) false (xE n s 0 0 Pp) 0 [some (.ref R)] [] (K, I, P, n, s)
  refine y_iconst (v := 1) dX5_check_0 (by decide) ?_
  exact y_ret dX5_check_1 rfl rfl hp
end
section
/-! the reference: a run, step by step, as functions of its memory -/
def xFrR (R : Nat) (I I' : Nat → Nat → Int32) : Prop := ∀ a, (a < R ∨ R + 23 < a) → I' a = I a
theorem xFrR.rf {R : Nat} {I : Nat → Nat → Int32} : xFrR R I I := fun _ _ => rfl
theorem xFrR.tr {R : Nat} {I I' I2 : Nat → Nat → Int32} (h : xFrR R I I') (h2 : xFrR R I' I2) : xFrR R I I2 := fun a p => (h2 a p).trans (h a p)
theorem xFrR.u {R i j : Nat} {I : Nat → Nat → Int32} {x : Int32} (h : i ≤ 23) : xFrR R I (xuI I (R + i) j x) := fun a p => xuI_ne (by omega)
theorem xFrR.f {R k : Nat} {I : Nat → Nat → Int32} {x : Int32} : xFrR R I (xuI I R k x) := fun a p => xuI_ne (by omega)
theorem xF.R {R : Nat} {rows flds : List Nat} {I I' : Nat → Nat → Int32} (h : xF R rows flds I I') (hr : ∀ i ∈ rows, i ≤ 23) : xFrR R I I' := fun a p => by
  funext j
  exact h a j (fun i hi e => by have := hr i hi; omega) (fun e => by omega)
theorem xRf_u {R i j : Nat} {I : Nat → Nat → Int32} {x : Int32} : xRf (xuI I (R + i) j x) R = xuI (xRf I R) i j x := by
  funext a b
  simp only [xRf, xuI]
  by_cases e : a = i
  · subst e; simp
  · have : ¬ R + a = R + i := by omega
    simp [e, this]
theorem xRf_f {R k : Nat} {I : Nat → Nat → Int32} {x : Int32} : xRf (xuI I R k x) R = xuI (xRf I R) 0 k x := xRf_u (i := 0)
def rN (x : Int32) : Nat := x.toNatClampNeg
def rCall (G X : xX) (o : Option Nat) : Int32 × xX := match o with
  | none => (3, X)
  | some e => if rN (X 0 36) = 101 then (2, X) else
    (-1, xuI (xuI (xuI (xuI (xuI (xuI X 22 (rN (X 0 36)) (X 0 37)) 23 (rN (X 0 36)) (X 0 38)) 0 36 (nI (rN (X 0 36) + 1))) 0 32 (nI (if rN (X 0 32) < rN (X 0 36) then rN (X 0 36) else rN (X 0 32)))) 0 37 (nI (e / 20))) 0 38 (G 5 e))
def rAtF (X : xX) (m : Nat) (y : Int32) : Nat → Nat → Option Nat
  | 0, _ => none
  | t + 1, k => if X 4 (20 * m + k) = 0 ∧ X 5 (20 * m + k) = y then some (20 * m + k) else rAtF X m y t (k + 1)
def rAt (X : xX) (ord : List Nat) (x : Int32) : Option Nat := if x.toInt < 1000 then none else match ord[rN (x / 1000 - 1)]? with
  | none => none
  | some m => rAtF X m (x - x / 1000 * 1000) (gF X m) 0
def rAd (X : xX) (ord : List Nat) (o : Option Nat) : Int32 := match o with
  | none => 0
  | some e => 1000 * (oI (sPlc (nI (e / 20)) ord 0) + 1) + X 5 e
def rCn (G : xX) (ord : List Nat) (X : xX) (m : Nat) (a : Int32) : Int32 × xX :=
  rCall G (if X 14 (64 * m + rN a) = 21 then xuI (xuI X 14 (64 * m + rN a) (oM (sFi G ord m a))) 0 31 (nI (rN (X 0 31) + 1)) else X) (sFi G ord m a)
def rMkO (G : xX) (ord : List Nat) (X : xX) (m k : Nat) (op a b c : Int32) : Int32 × xX :=
  if op = 0 then (-1, xuI (xuI X 0 38 (nI (k + 1))) 20 (rN a) b)
  else if op = 1 then (-1, xuI (xuI X 0 38 (nI (k + 1))) 20 (rN a) (X 20 (rN b)))
  else if op = 2 then (-1, xuI (xuI X 0 38 (nI (k + 1))) 20 (rN a) (X 20 (rN b) + X 20 (rN c)))
  else if op = 3 then (-1, xuI (xuI X 0 38 (nI (k + 1))) 20 (rN a) (X 20 (rN b) - X 20 (rN c)))
  else if op = 4 then (-1, xuI (xuI X 0 38 (nI (k + 1))) 20 (rN a) (X 20 (rN b) * X 20 (rN c)))
  else if op = 5 then (-1, xuI (xuI X 0 38 (nI (k + 1))) 0 38 (if X 20 (rN a) ≥ X 20 (rN b) then nI (k + 1) else c))
  else if op = 6 then (-1, xuI (xuI X 0 38 (nI (k + 1))) 0 38 a)
  else if op = 7 then rCn G ord (xuI X 0 38 (nI (k + 1))) m a
  else if op = 8 then (-1, xuI (xuI X 0 38 (nI (k + 1))) 20 (rN a) (match sFi G ord m b with
    | none => 0
    | some e => X 15 e))
  else if op = 9 then (-1, match sFi G ord m a with
    | none => xuI X 0 38 (nI (k + 1))
    | some e => xuI (xuI X 0 38 (nI (k + 1))) 15 e (X 20 (rN b)))
  else if op = 10 then (-1, xuI (xuI X 0 38 (nI (k + 1))) 20 (rN a) (rAd G ord (sFi G ord m b)))
  else if op = 11 then rCall G (xuI X 0 38 (nI (k + 1))) (rAt G ord (X 20 (rN a)))
  else if op = 12 then (-1, xuI (xuI (xuI (xuI X 0 38 (nI (k + 1))) 0 36 (nI (rN (X 0 36) - 1))) 0 37 (X 22 (rN (X 0 36) - 1))) 0 38 (X 23 (rN (X 0 36) - 1)))
  else if op = 13 then (-1, xuI (if rN (X 0 30) < 60 then xuI (xuI X 0 38 (nI (k + 1))) 21 (rN (X 0 30)) (X 20 (rN a)) else xuI X 0 38 (nI (k + 1))) 0 30 (nI (rN (X 0 30) + 1)))
  else (0, xuI X 0 38 (nI (k + 1)))
/-- one step -/
def rMk (G : xX) (ord : List Nat) (X : xX) : Int32 × xX := rMkO G ord X (rN (X 0 37)) (rN (X 0 38)) (sOp G (rN (X 0 37)) (rN (X 0 38))) (sAr G (rN (X 0 37)) (rN (X 0 38)) 1) (sAr G (rN (X 0 37)) (rN (X 0 38)) 2) (sAr G (rN (X 0 37)) (rN (X 0 38)) 3)
theorem rN_nI {k : Nat} (h : k < 2 ^ 31) : rN (nI k) = k := nI_clamp h
theorem krcall {d : Nat} {Pp : Option Value → xH → Prop} {K : Nat → Nat × Nat} {I : Nat → Nat → Int32} {P : Nat → Nat → Option Nat} {n s : Nat} {R dp de : Nat} {G : xX} {o : Option Nat} (hR : xAt K P R 5) (hA : xPg I R G) (h36 : I R 36 = nI dp) (hdp : dp ≤ 101) (h32 : I R 32 = nI de) (hde : de ≤ 200) (ho : ∀ e, o = some e → e < 240) (hp : ∀ I', xRf I' R = (rCall G (xRf I R) o).2 → xFrR R I I' → Pp (some (.int (rCall G (xRf I R) o).1)) (K, I', P, n, s)) : xC d mX5_call [(.ref R), (.int (oI o))] (K, I, P, n, s) Pp := by
  refine y_met 0 0 ?_
  show xB d 5 cX5_call (some .int) false (xE n s 0 0 Pp) 0 [some (.ref R), some (.int (oI o))] [] (K, I, P, n, s)
  have g36 : rN (xRf I R 0 36) = dp := by show rN (I R 36) = dp; rw [h36, rN_nI (by omega)]
  have g32 : rN (xRf I R 0 32) = de := by show rN (I R 32) = de; rw [h32, rN_nI (by omega)]
  unfold rCall at hp
  cases o with
  | none =>
    refine y_iload_n dX5_call_0 rfl ?_
    refine y_iconst (v := (-1)) dX5_call_1 (by decide) ?_
    refine y_icmp_ne 7 dX5_call_2 (by decide) (fun q => absurd q (by decide)) (fun _ => ?_)
    refine y_iconst (v := 3) dX5_call_5 (by decide) ?_
    exact y_ret dX5_call_6 rfl rfl (hp I rfl xFrR.rf)
  | some e =>
    have he := ho e rfl
    simp only [g36, g32] at hp
    refine y_iload_n dX5_call_0 rfl ?_
    refine y_iconst (v := (-1)) dX5_call_1 (by decide) ?_
    refine y_icmp_ne 7 dX5_call_2 (by decide) (fun _ => ?_) (fun c2 => absurd c2 (nI_m1 (by omega)))
    refine y_aload_n dX5_call_7 rfl ?_
    refine y_getv 5 36 dX5_call_8 rfl rfl hR.1 h36 ?_
    refine y_bipush (v := 101) dX5_call_11 (by decide) ?_
    refine y_icmpN_ne 18 (dp) (101) dX5_call_13 (by decide) rfl rfl (by omega) (by omega) (fun c13 => ?_) (fun c13 => ?_)
    · refine y_aload_n dX5_call_18 rfl ?_
      refine y_getr 5 34 dX5_call_19 rfl rfl hR.1 (r5_34 hR) ?_
      refine y_aload_n dX5_call_22 rfl ?_
      refine y_getv 5 36 dX5_call_23 rfl rfl hR.1 h36 ?_
      refine y_aload_n dX5_call_26 rfl ?_
      refine y_getv 5 37 dX5_call_27 rfl rfl hR.1 rfl ?_
      refine y_iast (dp) dX5_call_30 (k5_34 hR) rfl (by omega) (by omega) ?_
      refine y_aload_n dX5_call_31 rfl ?_
      refine y_getr 5 35 dX5_call_32 rfl rfl hR.1 (r5_35 hR) ?_
      refine y_aload_n dX5_call_35 rfl ?_
      refine y_getv 5 36 dX5_call_36 rfl rfl hR.1 (show (xuI I (R + 22) dp (I R 37)) R 36 = nI dp by rw [xuI_o (Or.inl (by omega))]; exact h36) ?_
      refine y_aload_n dX5_call_39 rfl ?_
      refine y_getv 5 38 dX5_call_40 rfl rfl hR.1 (show (xuI I (R + 22) dp (I R 37)) R 38 = I R 38 by rw [xuI_o (Or.inl (by omega))]) ?_
      refine y_iast (dp) dX5_call_43 (k5_35 hR) rfl (by omega) (by omega) ?_
      refine y_aload_n dX5_call_44 rfl ?_
      refine y_dup dX5_call_45 rfl ?_
      refine y_getv 5 36 dX5_call_46 rfl rfl hR.1 (show (xuI (xuI I (R + 22) dp (I R 37)) (R + 23) dp (I R 38)) R 36 = nI dp by rw [xuI_o (Or.inl (by omega)), xuI_o (Or.inl (by omega))]; exact h36) ?_
      refine y_iconst (v := 1) dX5_call_49 (by decide) ?_
      refine y_iaddv (nI (dp + 1)) dX5_call_50 (nI_add (dp) (1)) ?_
      refine y_puti 5 36 dX5_call_51 rfl rfl rfl hR.1 ?_
      refine y_aload_n dX5_call_54 rfl ?_
      refine y_aload_n dX5_call_55 rfl ?_
      refine y_getv 5 36 dX5_call_56 rfl rfl hR.1 xuI_s ?_
      refine y_iconst (v := 1) dX5_call_59 (by decide) ?_
      refine y_isubv ((nI dp)) dX5_call_60 (nI_pred _) ?_
      refine y_aload_n dX5_call_61 rfl ?_
      refine y_getv 5 32 dX5_call_62 rfl rfl hR.1 (show (xuI (xuI (xuI I (R + 22) dp (I R 37)) (R + 23) dp (I R 38)) R 36 (nI (dp + 1))) R 32 = nI de by rw [xuI_o (Or.inr (by decide)), xuI_o (Or.inl (by omega)), xuI_o (Or.inl (by omega))]; exact h32) ?_
      refine y_icmpN_le 77 (dp) (de) dX5_call_65 (by decide) rfl rfl (by omega) (by omega) (fun c65 => ?_) (fun c65 => ?_)
      · refine y_aload_n dX5_call_77 rfl ?_
        refine y_getv 5 32 dX5_call_78 rfl rfl hR.1 (show (xuI (xuI (xuI I (R + 22) dp (I R 37)) (R + 23) dp (I R 38)) R 36 (nI (dp + 1))) R 32 = nI de by rw [xuI_o (Or.inr (by decide)), xuI_o (Or.inl (by omega)), xuI_o (Or.inl (by omega))]; exact h32) ?_
        refine y_puti 5 32 dX5_call_81 rfl rfl rfl hR.1 ?_
        refine y_aload_n dX5_call_84 rfl ?_
        refine y_iload_n dX5_call_85 rfl ?_
        refine y_bipush (v := 20) dX5_call_86 (by decide) ?_
        refine y_idivv (nI (e / 20)) dX5_call_88 (by decide) (pk_div (by omega) (by decide) (by decide)) ?_
        refine y_puti 5 37 dX5_call_89 rfl rfl rfl hR.1 ?_
        refine y_aload_n dX5_call_92 rfl ?_
        refine y_aload_n dX5_call_93 rfl ?_
        refine y_getr 5 5 dX5_call_94 rfl rfl hR.1 (r5_5 hR) ?_
        refine y_iload_n dX5_call_97 rfl ?_
        refine y_ialdN (e) dX5_call_98 (k5_5 hR) rfl (by omega) (by omega) (show xuI (xuI (xuI (xuI (xuI I (R + 22) dp (I R 37)) (R + 23) dp (I R 38)) R 36 (nI (dp + 1))) R 32 (nI de)) R 37 (nI (e / 20)) (R + 5) e = G 5 e by rw [xuI_o (Or.inl (by omega)), xuI_o (Or.inl (by omega)), xuI_o (Or.inl (by omega)), xuI_o (Or.inl (by omega)), xuI_o (Or.inl (by omega))]; exact congrFun (hA 5 (by decide) (by decide)) e) ?_
        refine y_puti 5 38 dX5_call_99 rfl rfl rfl hR.1 ?_
        refine y_iconst (v := (-1)) dX5_call_102 (by decide) ?_
        rw [if_neg c13] at hp
        rw [if_neg (by omega)] at hp
        refine y_ret dX5_call_103 rfl rfl (hp (xuI (xuI (xuI (xuI (xuI (xuI I (R + 22) dp (I R 37)) (R + 23) dp (I R 38)) R 36 (nI (dp + 1))) R 32 (nI de)) R 37 (nI (e / 20))) R 38 (G 5 e)) (by simp only [xRf_u, xRf_f]; rfl) (((xFrR.u (by decide)).tr (xFrR.u (by decide))).tr (xFrR.f.tr (xFrR.f.tr (xFrR.f.tr xFrR.f)))))
      · refine y_aload_n dX5_call_68 rfl ?_
        refine y_getv 5 36 dX5_call_69 rfl rfl hR.1 xuI_s ?_
        refine y_iconst (v := 1) dX5_call_72 (by decide) ?_
        refine y_isubv ((nI dp)) dX5_call_73 (nI_pred _) ?_
        refine y_goto 81 dX5_call_74 (by decide) ?_
        refine y_puti 5 32 dX5_call_81 rfl rfl rfl hR.1 ?_
        refine y_aload_n dX5_call_84 rfl ?_
        refine y_iload_n dX5_call_85 rfl ?_
        refine y_bipush (v := 20) dX5_call_86 (by decide) ?_
        refine y_idivv (nI (e / 20)) dX5_call_88 (by decide) (pk_div (by omega) (by decide) (by decide)) ?_
        refine y_puti 5 37 dX5_call_89 rfl rfl rfl hR.1 ?_
        refine y_aload_n dX5_call_92 rfl ?_
        refine y_aload_n dX5_call_93 rfl ?_
        refine y_getr 5 5 dX5_call_94 rfl rfl hR.1 (r5_5 hR) ?_
        refine y_iload_n dX5_call_97 rfl ?_
        refine y_ialdN (e) dX5_call_98 (k5_5 hR) rfl (by omega) (by omega) (show xuI (xuI (xuI (xuI (xuI I (R + 22) dp (I R 37)) (R + 23) dp (I R 38)) R 36 (nI (dp + 1))) R 32 (nI dp)) R 37 (nI (e / 20)) (R + 5) e = G 5 e by rw [xuI_o (Or.inl (by omega)), xuI_o (Or.inl (by omega)), xuI_o (Or.inl (by omega)), xuI_o (Or.inl (by omega)), xuI_o (Or.inl (by omega))]; exact congrFun (hA 5 (by decide) (by decide)) e) ?_
        refine y_puti 5 38 dX5_call_99 rfl rfl rfl hR.1 ?_
        refine y_iconst (v := (-1)) dX5_call_102 (by decide) ?_
        rw [if_neg c13] at hp
        rw [if_pos (by omega)] at hp
        refine y_ret dX5_call_103 rfl rfl (hp (xuI (xuI (xuI (xuI (xuI (xuI I (R + 22) dp (I R 37)) (R + 23) dp (I R 38)) R 36 (nI (dp + 1))) R 32 (nI dp)) R 37 (nI (e / 20))) R 38 (G 5 e)) (by simp only [xRf_u, xRf_f]; rfl) (((xFrR.u (by decide)).tr (xFrR.u (by decide))).tr (xFrR.f.tr (xFrR.f.tr (xFrR.f.tr xFrR.f)))))
    · refine y_iconst (v := 2) dX5_call_16 (by decide) ?_
      rw [if_pos c13] at hp
      exact y_ret dX5_call_17 rfl rfl (hp I rfl xFrR.rf)
theorem kata_loop {d R : Nat} {X : xX} {Q : Option Value → xH → Prop} {K : Nat → Nat × Nat} {I : Nat → Nat → Int32} {P : Nat → Nat → Option Nat} {n s : Nat} (hR : xAt K P R 5) (hA : xPg I R X) {m : Nat} {x : Int32} (hm : m < 12) (hw : wfM X m) {v2 : Option Value} : ∀ (t k : Nat) (v5 : Option Value), k + t = gF X m → (rAtF X m (x - x / 1000 * 1000) t k = none → ∀ ls, xB d 5 cX5_atAddress (some .int) false Q 90 ls [.int (-1)] (K, I, P, n, s)) → (∀ e ls, rAtF X m (x - x / 1000 * 1000) t k = some e → xB d 5 cX5_atAddress (some .int) false Q 82 ls [.int (nI e)] (K, I, P, n, s)) → xB d 5 cX5_atAddress (some .int) false Q 35 [some (.ref R), some (.int x), v2, some (.int (nI m)), some (.int (nI k)), v5] [] (K, I, P, n, s) := by
  obtain ⟨-, -, ⟨w1, w2⟩, -⟩ := hw
  intro t
  induction t with
  | zero =>
    intro k v5 hk h1 h2
    refine y_iload dX5_atAddress_35 rfl ?_
    refine y_aload_n dX5_atAddress_37 rfl ?_
    refine y_getr 5 7 dX5_atAddress_38 rfl rfl hR.1 (r5_7 hR) ?_
    refine y_iload_n dX5_atAddress_41 rfl ?_
    refine y_ialdN (m) dX5_atAddress_42 (k5_7 hR) rfl (by omega) (by omega) ((congrFun (hA 7 (by decide) (by decide)) m).trans w1) ?_
    refine y_icmpN_ge 89 (k) ((gF X m)) dX5_atAddress_43 (by decide) rfl rfl (by omega) (by omega) (fun _ => ?_) (fun c43 => absurd c43 (by omega))
    refine y_iconst (v := (-1)) dX5_atAddress_89 (by decide) ?_
    exact h1 rfl _
  | succ t ih =>
    intro k v5 hk h1 h2
    unfold rAtF at h1 h2
    refine y_iload dX5_atAddress_35 rfl ?_
    refine y_aload_n dX5_atAddress_37 rfl ?_
    refine y_getr 5 7 dX5_atAddress_38 rfl rfl hR.1 (r5_7 hR) ?_
    refine y_iload_n dX5_atAddress_41 rfl ?_
    refine y_ialdN (m) dX5_atAddress_42 (k5_7 hR) rfl (by omega) (by omega) ((congrFun (hA 7 (by decide) (by decide)) m).trans w1) ?_
    refine y_icmpN_ge 89 (k) ((gF X m)) dX5_atAddress_43 (by decide) rfl rfl (by omega) (by omega) (fun c43 => absurd c43 (by omega)) (fun _ => ?_)
    refine y_bipush (v := 20) dX5_atAddress_46 (by decide) ?_
    refine y_iload_n dX5_atAddress_48 rfl ?_
    refine y_imulv (nI (20 * m)) dX5_atAddress_49 (pk_mul (20) (m)) ?_
    refine y_iload dX5_atAddress_50 rfl ?_
    refine y_iaddv (nI (((20 * m)) + k)) dX5_atAddress_52 (nI_add ((20 * m)) (k)) ?_
    refine y_istore dX5_atAddress_53 (by first | (simp; done) | (simp; decide)) (fun x1 e_x1 => ?_)
    subst e_x1
    refine y_aload_n dX5_atAddress_55 rfl ?_
    refine y_getr 5 4 dX5_atAddress_56 rfl rfl hR.1 (r5_4 hR) ?_
    refine y_iload dX5_atAddress_59 rfl ?_
    refine y_ialdN ((((20 * m)) + k)) dX5_atAddress_61 (k5_4 hR) rfl (by omega) (by omega) (congrFun (hA 4 (by decide) (by decide)) ((((20 * m)) + k))) ?_
    refine y_if_ne 83 dX5_atAddress_62 (by decide) (fun c62 => ?_) (fun c62 => ?_)
    · rw [if_neg (fun q => c62 q.1)] at h1 h2
      refine y_iinc dX5_atAddress_83 rfl (fun x2 e_x2 => ?_)
      obtain rfl : x2 = nI (k + 1) := by rw [e_x2]; exact nI_1 (k)
      refine y_goto 35 dX5_atAddress_86 (by decide) ?_
      exact ih (k + 1) _ (by omega) h1 h2
    · refine y_aload_n dX5_atAddress_65 rfl ?_
      refine y_getr 5 5 dX5_atAddress_66 rfl rfl hR.1 (r5_5 hR) ?_
      refine y_iload dX5_atAddress_69 rfl ?_
      refine y_ialdN ((((20 * m)) + k)) dX5_atAddress_71 (k5_5 hR) rfl (by omega) (by omega) (congrFun (hA 5 (by decide) (by decide)) ((((20 * m)) + k))) ?_
      refine y_iload_n dX5_atAddress_72 rfl ?_
      refine y_sipush (v := 1000) dX5_atAddress_73 (by decide) ?_
      refine y_irem dX5_atAddress_76 (by decide) ?_
      refine y_icmp_ne 83 dX5_atAddress_77 (by decide) (fun c77 => ?_) (fun c77 => ?_)
      · rw [if_neg (fun q => c77 q.2)] at h1 h2
        refine y_iinc dX5_atAddress_83 rfl (fun x3 e_x3 => ?_)
        obtain rfl : x3 = nI (k + 1) := by rw [e_x3]; exact nI_1 (k)
        refine y_goto 35 dX5_atAddress_86 (by decide) ?_
        exact ih (k + 1) _ (by omega) h1 h2
      · rw [if_pos ⟨c62, c77⟩] at h1 h2
        refine y_iload dX5_atAddress_80 rfl ?_
        exact h2 _ _ rfl
theorem katAddress {d : Nat} {Pp : Option Value → xH → Prop} {K : Nat → Nat × Nat} {I : Nat → Nat → Int32} {P : Nat → Nat → Option Nat} {n s : Nat} {R : Nat} {X : xX} {ord : List Nat} {x : Int32} (hR : xAt K P R 5) (hA : xPg I R X) (hw : ∀ m, m < 12 → wfM X m) (hc : I R 15 = nI ord.length) (ho : xHl I (R + 12) ord) (ho2 : ∀ q ∈ ord, q < 12) (ho3 : ord.length ≤ 12) (hn : rAt X ord x = none → Pp (some (.int (-1))) (K, I, P, n, s)) (hs : ∀ e, rAt X ord x = some e → Pp (some (.int (nI e))) (K, I, P, n, s)) : xC d mX5_atAddress [(.ref R), (.int x)] (K, I, P, n, s) Pp := by
  refine y_met 0 0 ?_
  show xB d 5 cX5_atAddress (some .int) false (xE n s 0 0 Pp) 0 [some (.ref R), some (.int x), none, none, none, none] [] (K, I, P, n, s)
  have hge : ¬ x.toInt < 1000 → ∃ p : Nat, p < 2 ^ 31 - 1 ∧ x / 1000 - 1 = nI p := fun h => by
    have e1 : x = nI x.toInt.toNat := zN (by omega)
    have h2 := Int32.toInt_lt x
    refine ⟨x.toInt.toNat / 1000 - 1, by omega, ?_⟩
    have e2 : x / 1000 = nI (x.toInt.toNat / 1000) := by
      conv => lhs; rw [e1]
      exact pk_div (by omega) (by decide) (by decide)
    rw [e2]
    exact pk_sub (b := 1) (by omega)
  unfold rAt at hn hs
  refine y_iload_n dX5_atAddress_0 rfl ?_
  refine y_sipush (v := 1000) dX5_atAddress_1 (by decide) ?_
  refine y_idiv dX5_atAddress_4 (by decide) ?_
  refine y_iconst (v := 1) dX5_atAddress_5 (by decide) ?_
  refine y_isub dX5_atAddress_6 ?_
  refine y_istore_n dX5_atAddress_7 (by first | (simp; done) | (simp; decide)) (fun z e_z => ?_)
  refine y_iload_n dX5_atAddress_8 rfl ?_
  refine y_sipush (v := 1000) dX5_atAddress_9 (by decide) ?_
  refine y_icmpZ_lt 23 (x.toInt) (1000) dX5_atAddress_12 (by decide) rfl rfl (fun c12 => ?_) (fun c12 => ?_)
  · refine y_iconst (v := (-1)) dX5_atAddress_23 (by decide) ?_
    rw [if_pos c12] at hn
    exact y_ret dX5_atAddress_24 rfl rfl (hn rfl)
  · rw [if_neg c12] at hn hs
    obtain ⟨p, hp1, ep⟩ := hge c12
    have e_z := e_z.trans ep
    subst e_z
    refine y_iload_n dX5_atAddress_15 rfl ?_
    refine y_aload_n dX5_atAddress_16 rfl ?_
    refine y_getv 5 15 dX5_atAddress_17 rfl rfl hR.1 hc ?_
    refine y_icmpN_lt 25 (p) (ord.length) dX5_atAddress_20 (by decide) rfl rfl (by omega) (by omega) (fun c20 => ?_) (fun c20 => ?_)
    · obtain ⟨q, hq⟩ : ∃ q, ord[p]? = some q := ⟨_, List.getElem?_eq_getElem (by omega)⟩
      have hq2 := ho2 q (List.mem_of_getElem? hq)
      rw [ep, rN_nI (by omega), hq] at hn hs
      simp only at hn hs
      refine y_aload_n dX5_atAddress_25 rfl ?_
      refine y_getr 5 16 dX5_atAddress_26 rfl rfl hR.1 (r5_16 hR) ?_
      refine y_iload_n dX5_atAddress_29 rfl ?_
      refine y_ialdN (p) dX5_atAddress_30 (k5_16 hR) rfl (by omega) (by omega) (ho p q hq) ?_
      refine y_istore_n dX5_atAddress_31 (by first | (simp; done) | (simp; decide)) (fun x1 e_x1 => ?_)
      subst e_x1
      refine y_iconst (v := nI 0) dX5_atAddress_32 (by decide) ?_
      refine y_istore dX5_atAddress_33 (by first | (simp; done) | (simp; decide)) (fun x2 e_x2 => ?_)
      subst e_x2
      refine kata_loop hR hA hq2 (hw q hq2) _ 0 _ (Nat.zero_add _) (fun z ls => y_ret dX5_atAddress_90 rfl rfl (hn z)) (fun e ls z => y_ret dX5_atAddress_82 rfl rfl (hs e z))
    · refine y_iconst (v := (-1)) dX5_atAddress_23 (by decide) ?_
      rw [ep, rN_nI (by omega), List.getElem?_eq_none (by omega)] at hn
      exact y_ret dX5_atAddress_24 rfl rfl (hn rfl)
theorem kraddressOf {d : Nat} {Pp : Option Value → xH → Prop} {K : Nat → Nat × Nat} {I : Nat → Nat → Int32} {P : Nat → Nat → Option Nat} {n s : Nat} {R : Nat} {X : xX} {ord : List Nat} {o : Option Nat} (hR : xAt K P R 5) (hA : xPg I R X) (hl : I R 12 = 1) (hc : I R 15 = nI ord.length) (ho : xHl I (R + 12) ord) (ho3 : ord.length ≤ 12) (he : ∀ e, o = some e → e < 240) (hp : Pp (some (.int (rAd X ord o))) (K, I, P, n, s)) : xC (d + 1) mX5_addressOf [(.ref R), (.int (oI o))] (K, I, P, n, s) Pp := by
  refine y_met 0 0 ?_
  show xB (d + 1) 5 cX5_addressOf (some .int) false (xE n s 0 0 Pp) 0 [some (.ref R), some (.int (oI o))] [] (K, I, P, n, s)
  cases o with
  | none =>
    refine y_iload_n dX5_addressOf_0 rfl ?_
    refine y_iconst (v := (-1)) dX5_addressOf_1 (by decide) ?_
    refine y_icmp_ne 9 dX5_addressOf_2 (by decide) (fun q => absurd q (by decide)) (fun _ => ?_)
    refine y_iconst (v := 0) dX5_addressOf_5 (by decide) ?_
    refine y_goto 30 dX5_addressOf_6 (by decide) ?_
    exact y_ret dX5_addressOf_30 rfl rfl hp
  | some e =>
    have he := he e rfl
    unfold rAd at hp
    simp only at hp
    refine y_iload_n dX5_addressOf_0 rfl ?_
    refine y_iconst (v := (-1)) dX5_addressOf_1 (by decide) ?_
    refine y_icmp_ne 9 dX5_addressOf_2 (by decide) (fun _ => ?_) (fun c2 => absurd c2 (nI_m1 (by omega)))
    refine y_sipush (v := 1000) dX5_addressOf_9 (by decide) ?_
    refine y_aload_n dX5_addressOf_12 rfl ?_
    refine y_iload_n dX5_addressOf_13 rfl ?_
    refine y_bipush (v := 20) dX5_addressOf_14 (by decide) ?_
    refine y_idivv ((nI (e / 20))) dX5_addressOf_16 (by decide) (pk_div (by omega) (by decide) (by decide)) ?_
    refine y_callV1 mX5_placeOf dX5_addressOf_17 rfl rfl hR.1 (Nat.le_of_ble_eq_true rfl) (kplaceOf1 hR hl hc ho ho3 (fun en => ?_) (fun e2 es => ?_))
    · rw [en] at hp
      refine y_iconst (v := 1) dX5_addressOf_20 (by decide) ?_
      refine y_iadd dX5_addressOf_21 ?_
      refine y_imul dX5_addressOf_22 ?_
      refine y_aload_n dX5_addressOf_23 rfl ?_
      refine y_getr 5 5 dX5_addressOf_24 rfl rfl hR.1 (r5_5 hR) ?_
      refine y_iload_n dX5_addressOf_27 rfl ?_
      refine y_ialdN (e) dX5_addressOf_28 (k5_5 hR) rfl (by omega) (by omega) (congrFun (hA 5 (by decide) (by decide)) (e)) ?_
      refine y_iadd dX5_addressOf_29 ?_
      exact y_ret dX5_addressOf_30 rfl rfl hp
    · rw [es] at hp
      refine y_iconst (v := 1) dX5_addressOf_20 (by decide) ?_
      refine y_iadd dX5_addressOf_21 ?_
      refine y_imul dX5_addressOf_22 ?_
      refine y_aload_n dX5_addressOf_23 rfl ?_
      refine y_getr 5 5 dX5_addressOf_24 rfl rfl hR.1 (r5_5 hR) ?_
      refine y_iload_n dX5_addressOf_27 rfl ?_
      refine y_ialdN (e) dX5_addressOf_28 (k5_5 hR) rfl (by omega) (by omega) (congrFun (hA 5 (by decide) (by decide)) (e)) ?_
      refine y_iadd dX5_addressOf_29 ?_
      exact y_ret dX5_addressOf_30 rfl rfl hp
end
