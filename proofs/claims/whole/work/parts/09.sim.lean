/-! the abstract machine's runs are the machine's -/
def xPc (D : xD) (lo : Nat) (h : xH) (A : List Value) : Array Value → State → Prop := fun v U => v = A.toArray ∧ xRep D lo h U.heap ∧ xKn D U
def xQc (D : xD) (lo : Nat) (Q : Option Value → xH → Prop) : Array Value → State → Outcome → State → Prop := fun _ st oc t => (∃ (r : Option Value) (h' : xH), oc = .returned r ∧ xRep D lo h' t.heap ∧ Q r h' ∧ ∀ v, r = some v → v.category = 1) ∧ ∀ q : Nat, q < lo → t.heap[q]? = st.heap[q]?
abbrev xrm (d mc ms : Nat) : Room := { frames := d, cells := mc, slots := ms, locals := 40 * d }
def xws (y : Nat) : List Cond := .code (xM y).1 (xM y).2.1 (xM y).2.2.1 (xM y).2.2.2.1 :: xWT
theorem xWT_good {w : Cond} (h : w ∈ xWT) : goodWord w = true := (List.mem_filter.mp h).2
theorem xfacts {y : Nat} (hy : y < xNM) : (Cond.code (xM y).1 (xM y).2.1 (xM y).2.2.1 (xM y).2.2.2.1 ∈ xWT ∧ Cond.initialized (xM y).1.cls ∈ xWT) ∧ ((xM y).2.2.2.2.2.1 = 2 → Cond.static (xM y).1 ∈ xWT) ∧ (¬ (xM y).2.2.2.2.2.1 = 2 → Cond.instanceMethod (xM y).1 ∈ xWT) ∧ ((xM y).2.2.2.2.2.1 = 0 → Cond.selects (xM y).1.cls (xM y).1 (xM y).1 ∈ xWT) ∧
    ((xM y).2.2.2.2.2.1 = 1 → (xM y).1.name = "<init>" ∧ (xM y).2.2.2.1 = none) ∧ (xM y).1.cls = xR (xM y).2.2.2.2.1 ∧ (xM y).1.cls ≠ "java/lang/invoke/MethodHandle" ∧ (xM y).1.cls ≠ "java/lang/invoke/VarHandle" ∧ plainName (xM y).1.cls = true ∧ (parseMethodDescriptor (xM y).1.desc).map (fun d => d.parameters.length) = some (xM y).2.2.2.2.2.2 ∧ (xM y).2.2.1 ≤ 13 := by
  have h := xchk_all y hy
  unfold xchk at h
  simp only [Bool.and_eq_true, decide_eq_true_eq] at h
  obtain ⟨⟨⟨⟨⟨⟨⟨⟨⟨⟨h1, h2⟩, h3⟩, h4⟩, h5⟩, h6⟩, h7⟩, h8⟩, h9⟩, h10⟩, h11⟩ := h
  refine ⟨⟨xok_mem h1, xok_mem h2⟩, fun q => ?_, fun q => ?_, fun q => ?_, fun q => ?_, h6, h7, h8, h9, h10, h11⟩
  · rw [if_pos q] at h3; exact xok_mem h3
  · rw [if_neg q] at h3; exact xok_mem h3
  · rw [if_pos q] at h4; exact xok_mem h4
  · rw [if_pos q] at h5; simp only [Bool.and_eq_true, decide_eq_true_eq] at h5; exact h5
theorem xws_good {y : Nat} (hy : y < xNM) : GoodIn xWT (xws y) := by
  intro w hw
  rcases List.mem_cons.mp hw with rfl | hw
  · exact ⟨(xfacts hy).1.1, good_of_word (xWT_good (xfacts hy).1.1)⟩
  · exact ⟨hw, good_of_word (xWT_good hw)⟩
theorem xlen_ok {y : Nat} (hy : y < xNM) : (xM y).2.2.2.2.2.2 + (if (xM y).2.2.2.2.2.1 = 2 then 0 else 1) ≤ (xM y).2.2.1 := by
  have := List.all_eq_true.mp xar_ok y (List.mem_range.mpr hy)
  simpa only [decide_eq_true_eq] using this
section XS
variable {p : Program} {l : Launch} {e : Env} {R : Room} {s : State} {m : MethodId} {args : Array Value} {below : List Frame} {meth : Method} {c : Code} {H : Heap} {locs : List Loc} {cells slots : Nat} {QW : State → Prop}
variable {D : xD} {lo : Nat}
/-- behind a call -/
theorem x_run {mc ms pc : Nat} {la : Array Slot} {st0 rest : List Value} {a : Array Value} {P : Option Value → xH → Prop} (hr : va_Run p l e R s m args below meth c H locs cells slots mc ms (F0 m pc la st0) rest (xQc D lo P a) (fun q => lo ≤ q)) (hF : ∀ q : Nat, q < lo → H[q]? = s.heap[q]?) (hL : ∀ q ∈ locs, lo ≤ q.base)
    (kk : ∀ (r : Option Value) (h' : xH) (H1 : Heap) (locs1 : List Loc), xRep D lo h' H1 → P r h' → (∀ q : Nat, q < lo → H1[q]? = s.heap[q]?) → (∀ q ∈ locs1, lo ≤ q.base) → xst1 r.toList → W p l e R s m args below meth c H1 locs1 (cells + mc) (slots + ms) QW (F0 m (pc + 3) la (r.toList ++ rest))) : W p l e R s m args below meth c H locs cells slots QW (F0 m pc la st0) := by
  intro T hT X
  obtain ⟨v, st₀, t, T', L, h0, X', hL', e1, e2, ⟨⟨r, h', hv, hrep, hp, hcat⟩, hk⟩, stp⟩ := hr T hT X
  cases hv
  obtain ⟨t2, a1, b1⟩ := kk v h' T'.heap (locs ++ L) (by rw [e1]; exact hrep) hp (fun q hq => by rw [e1, hk q hq, h0]; exact hF q hq) (fun q hq => by
      rcases List.mem_append.mp hq with z | z
      · exact hL q z
      · exact hL' q z) (fun w hw => hcat w (by cases v with
        | none => cases hw
        | some z => simp at hw; rw [hw])) T' rfl X'
  exact ⟨t2, stp t2 a1, b1⟩
theorem xPc_blind {h : xH} {A : List Value} : FrameBlind (xPc D lo h A) := fun a U g mk q => ⟨q.1, q.2.1, q.2.2.same (u := U) (U := U.calling g mk a) rfl⟩
theorem xPc_at {h : xH} {A : List Value} (hrep : xRep D lo h H) (hKn : xKn D s) : ∀ U : State, U.heap = H → s.WarmedH U.vm → xPc D lo h A A.toArray U := fun U hU hW => ⟨rfl, by rw [hU]; exact hrep, hKn.warm hW⟩
end XS
/-- what the simulation needs of the machine at a method's body -/
def xBody (p : Program) (s : State) (m : MethodId) (args : Array Value) (meth : Method) (c : Code) (R : Room) (D : xD) (d own : Nat) (cc : ByteArray) (nL : Nat) (ini : Bool) : Prop :=
  p.tables.exec = Jvm.exec ∧ c.code = cc ∧ c.maxLocals = nL ∧ s.vm.findClass (xR own) = some m.cls ∧ (∀ w ∈ xWT, w.before args s = true) ∧ xKn D s ∧ (ini = true → meth.name = "<init>") ∧ d ≤ R.frames ∧ 40 * d ≤ R.locals
/-- calls at depth d - 1 are met -/
def xMet (l : Launch) (D : xD) (lo d : Nat) : Prop := ∀ (y : Nat) (A : List Value) (h : xH) (P : Option Value → xH → Prop), y < xNM → xst1 A → A.length ≤ (xM y).2.2.1 → xCd d y A h P → 1 ≤ d ∧ ∃ mc ms : Nat, Met l (xM y).1 (xws y) (xrm (d - 1) mc ms) (xPc D lo h A) (xQc D lo (fun r h' => h'.2.2.2.1 = h.2.2.2.1 + mc ∧ h'.2.2.2.2 = h.2.2.2.2 + ms ∧ P r h')) mc ms (fun q => lo ≤ q) ∧ ∃ r h', h'.2.2.2.1 = h.2.2.2.1 + mc ∧ h'.2.2.2.2 = h.2.2.2.2 + ms ∧ P r h'
section XT
variable {p : Program} {l : Launch} {e : Env} {R : Room} {s : State} {m : MethodId} {args : Array Value} {below : List Frame} {meth : Method} {c : Code} {QW : State → Prop}
variable {D : xD} {lo d own nL n0 s0 mc ms : Nat} {cc : ByteArray} {ret : Option FieldType} {ini : Bool} {Q : Option Value → xH → Prop}
/-- what holds at a point of the body -/
def xSim (p : Program) (l : Launch) (e : Env) (R : Room) (s : State) (m : MethodId) (args : Array Value) (below : List Frame) (meth : Method) (c : Code) (QW : State → Prop) (D : xD) (lo nL n0 s0 : Nat) (pc : Nat) (ls : xL) (st : List Value) (h : xH) : Prop :=
  ∀ (H : Heap) (locs : List Loc) (la : Array Slot), xRep D lo h H → xlv la nL ls → xst1 st → (∀ q : Nat, q < lo → H[q]? = s.heap[q]?) → (∀ q ∈ locs, lo ≤ q.base) → n0 ≤ h.2.2.2.1 → s0 ≤ h.2.2.2.2 → W p l e R s m args below meth c H locs (h.2.2.2.1 - n0) (h.2.2.2.2 - s0) QW (F0 m pc la st)
/-- a heap of which one cell changes, by a store of the machine -/
theorem xL_one {locs : List Loc} {a i : Nat} (hL : ∀ q ∈ locs, lo ≤ q.base) (ha : lo ≤ a) : ∀ q ∈ locs ++ [(⟨a, i⟩ : Loc)], lo ≤ q.base := fun q hq => by
  rcases List.mem_append.mp hq with z | z
  · exact hL q z
  · rw [List.mem_singleton.mp z]; exact ha
theorem xF_one {H H' : Heap} {a : Nat} (hF : ∀ q : Nat, q < lo → H[q]? = s.heap[q]?) (ho : ∀ q : Nat, q ≠ a → H'[q]? = H[q]?) (ha : lo ≤ a) : ∀ q : Nat, q < lo → H'[q]? = s.heap[q]? := fun q hq => (ho q (by omega)).trans (hF q hq)
theorem xF_new {H H' : Heap} {a : Nat} (hF : ∀ q : Nat, q < lo → H[q]? = s.heap[q]?) (ho : ∀ q : Nat, q < a → H'[q]? = H[q]?) (ha : lo ≤ a) : ∀ q : Nat, q < lo → H'[q]? = s.heap[q]? := fun q hq => (ho q (by omega)).trans (hF q hq)
set_option maxHeartbeats 4000000 in
theorem xins_sim (B : xBody p s m args meth c R D d own cc nL ini) (hM : xMet l D lo d) (hRc : mc ≤ R.cells) (hRs : ms ≤ R.slots)
    (hbd : ∀ pc ls st h, xw (xCd d) d own cc ret ini Q pc ls st h → h.2.2.2.1 ≤ n0 + mc ∧ h.2.2.2.2 ≤ s0 + ms)
    (hri : ∀ (pc : Nat) (la : Array Slot) (v : Int32) (h : xH) (H : Heap) (locs : List Loc), decode cc pc = .ok (.ireturn, 1) → (ret = some .int ∨ (ret = some .boolean ∧ (v = 0 ∨ v = 1))) → Q (some (.int v)) h → xRep D lo h H → (∀ q : Nat, q < lo → H[q]? = s.heap[q]?) → (∀ q ∈ locs, lo ≤ q.base) → n0 ≤ h.2.2.2.1 → s0 ≤ h.2.2.2.2 → W p l e R s m args below meth c H locs (h.2.2.2.1 - n0) (h.2.2.2.2 - s0) QW (F0 m pc la [.int v]))
    (hrv : ∀ (pc : Nat) (la : Array Slot) (h : xH) (H : Heap) (locs : List Loc), decode cc pc = .ok (.return_, 1) → ret = none → Q none h → xRep D lo h H → (∀ q : Nat, q < lo → H[q]? = s.heap[q]?) → (∀ q ∈ locs, lo ≤ q.base) → n0 ≤ h.2.2.2.1 → s0 ≤ h.2.2.2.2 → W p l e R s m args below meth c H locs (h.2.2.2.1 - n0) (h.2.2.2.2 - s0) QW (F0 m pc la []))
    {i : Instr} {len pc : Nat} {ls : xL} {st : List Value} {h : xH} (hdg : decode cc pc = .ok (i, len))
    (hs : xins (xCd d) d own ret ini Q (fun pc ls st h => xw (xCd d) d own cc ret ini Q pc ls st h ∧ xSim p l e R s m args below meth c QW D lo nL n0 s0 pc ls st h) i len pc ls st h) : xSim p l e R s m args below meth c QW D lo nL n0 s0 pc ls st h := by
  obtain ⟨hx, hb, hml, hown, hts, hKn, hini, hfr, hlo⟩ := B
  intro H locs la hrep hlv hst1 hF hL hn0 hs0
  cases i with
  | iconst n =>
    obtain ⟨rfl, z⟩ := hs
    refine lv_iconst hx hb hdg rfl ?_
    exact z.2 H locs la hrep hlv (xst1_c rfl hst1) hF hL hn0 hs0
  | bipush n =>
    obtain ⟨rfl, z⟩ := hs
    refine lv_bipush hx hb hdg rfl ?_
    exact z.2 H locs la hrep hlv (xst1_c rfl hst1) hF hL hn0 hs0
  | sipush n =>
    obtain ⟨rfl, z⟩ := hs
    refine lv_sipush hx hb hdg rfl ?_
    exact z.2 H locs la hrep hlv (xst1_c rfl hst1) hF hL hn0 hs0
  | iload n =>
    obtain ⟨rfl, x, a1, z⟩ := hs
    refine lv_iload hx hb hdg (hlv.2.2.2 _ _ a1).2 ?_
    exact z.2 H locs la hrep hlv (xst1_c rfl hst1) hF hL hn0 hs0
  | iload_n n =>
    obtain ⟨rfl, x, a1, z⟩ := hs
    refine lv_iload_n hx hb hdg rfl (hlv.2.2.2 _ _ a1).2 ?_
    exact z.2 H locs la hrep hlv (xst1_c rfl hst1) hF hL hn0 hs0
  | istore n =>
    obtain ⟨rfl, x, r, rfl, a1, z⟩ := hs
    refine lv_istore hx hb hdg hlv.has (by rw [← hlv.2.1]; exact a1) rfl (fun la2 hl2 => ?_)
    exact z.2 H locs la2 hrep (hlv.set rfl hl2) (xst1_t hst1) hF hL hn0 hs0
  | istore_n n =>
    obtain ⟨rfl, x, r, rfl, a1, z⟩ := hs
    refine lv_istore_n hx hb hdg rfl hlv.has (by rw [← hlv.2.1]; exact a1) rfl (fun la2 hl2 => ?_)
    exact z.2 H locs la2 hrep (hlv.set rfl hl2) (xst1_t hst1) hF hL hn0 hs0
  | aload n =>
    obtain ⟨rfl, x, a1, z⟩ := hs
    refine lv_aload hx hb hdg (hlv.2.2.2 _ _ a1).2 ?_
    exact z.2 H locs la hrep hlv (xst1_c rfl hst1) hF hL hn0 hs0
  | aload_n n =>
    obtain ⟨rfl, x, a1, z⟩ := hs
    refine lv_aload_n hx hb hdg rfl (hlv.2.2.2 _ _ a1).2 ?_
    exact z.2 H locs la hrep hlv (xst1_c rfl hst1) hF hL hn0 hs0
  | astore n =>
    obtain ⟨rfl, x, r, rfl, a1, z⟩ := hs
    refine lv_astore hx hb hdg hlv.has (by rw [← hlv.2.1]; exact a1) rfl (fun la2 hl2 => ?_)
    exact z.2 H locs la2 hrep (hlv.set rfl hl2) (xst1_t hst1) hF hL hn0 hs0
  | astore_n n =>
    obtain ⟨rfl, x, r, rfl, a1, z⟩ := hs
    refine lv_astore_n hx hb hdg rfl hlv.has (by rw [← hlv.2.1]; exact a1) rfl (fun la2 hl2 => ?_)
    exact z.2 H locs la2 hrep (hlv.set rfl hl2) (xst1_t hst1) hF hL hn0 hs0
  | iinc n cst =>
    obtain ⟨rfl, x, a1, z⟩ := hs
    obtain ⟨k, hk⟩ := List.getElem?_of_mem (xpairs_mem.mpr a1)
    refine lv_iinc hx hb hdg hlv.has hk rfl (by rw [← hlv.2.1]; exact (List.getElem?_eq_some_iff.mp a1).1) rfl (fun la2 hl2 => ?_)
    exact z.2 H locs la2 hrep (hlv.set rfl hl2) hst1 hF hL hn0 hs0
  | iadd =>
    obtain ⟨rfl, x, y, r, rfl, z⟩ := hs
    refine lv_iadd hx hb hdg ?_
    exact z.2 H locs la hrep hlv (xst1_c rfl (xst1_t (xst1_t hst1))) hF hL hn0 hs0
  | isub =>
    obtain ⟨rfl, x, y, r, rfl, z⟩ := hs
    refine lv_isub hx hb hdg ?_
    exact z.2 H locs la hrep hlv (xst1_c rfl (xst1_t (xst1_t hst1))) hF hL hn0 hs0
  | imul =>
    obtain ⟨rfl, x, y, r, rfl, z⟩ := hs
    refine lv_imul hx hb hdg ?_
    exact z.2 H locs la hrep hlv (xst1_c rfl (xst1_t (xst1_t hst1))) hF hL hn0 hs0
  | iand =>
    obtain ⟨rfl, x, y, r, rfl, z⟩ := hs
    refine lv_iand hx hb hdg ?_
    exact z.2 H locs la hrep hlv (xst1_c rfl (xst1_t (xst1_t hst1))) hF hL hn0 hs0
  | idiv =>
    obtain ⟨rfl, x, y, r, rfl, a1, z⟩ := hs
    refine lv_idiv hx hb hdg a1 ?_
    exact z.2 H locs la hrep hlv (xst1_c rfl (xst1_t (xst1_t hst1))) hF hL hn0 hs0
  | irem =>
    obtain ⟨rfl, x, y, r, rfl, a1, z⟩ := hs
    refine lv_irem hx hb hdg a1 ?_
    exact z.2 H locs la hrep hlv (xst1_c rfl (xst1_t (xst1_t hst1))) hF hL hn0 hs0
  | dup =>
    obtain ⟨rfl, v, r, rfl, a1, z⟩ := hs
    refine lv_dup hx hb hdg a1 ?_
    exact z.2 H locs la hrep hlv (xst1_c a1 hst1) hF hL hn0 hs0
  | dup2 =>
    obtain ⟨rfl, v, w, r, rfl, a1, a2, z⟩ := hs
    refine lv_dup2_11 hx hb hdg a1 a2 ?_
    exact z.2 H locs la hrep hlv (xst1_c a1 (xst1_c a2 hst1)) hF hL hn0 hs0
  | ifCond cnd off =>
    obtain ⟨rfl, x, r, t, rfl, a1, kt, kf⟩ := hs
    have e1 := fun q : xcd cnd x 0 => (kt q).2 H locs la hrep hlv (xst1_t hst1) hF hL hn0 hs0
    have e2 := fun q : ¬ xcd cnd x 0 => (kf q).2 H locs la hrep hlv (xst1_t hst1) hF hL hn0 hs0
    cases cnd with
    | eq => exact lv_if_eq hx hb hdg a1 e1 e2
    | lt => exact lv_if_lt hx hb hdg a1 e1 e2
    | ge => exact lv_if_ge hx hb hdg a1 e1 e2
    | gt => exact lv_if_gt hx hb hdg a1 e1 e2
    | le => exact lv_if_le hx hb hdg a1 e1 e2
    | ne => exact lv_if_ne hx hb hdg a1 e1 (fun q => e2 (fun w => w q))
  | if_icmp cnd off =>
    obtain ⟨rfl, x, y, r, t, rfl, a1, kt, kf⟩ := hs
    have e1 := fun q : xcd cnd x y => (kt q).2 H locs la hrep hlv (xst1_t (xst1_t hst1)) hF hL hn0 hs0
    have e2 := fun q : ¬ xcd cnd x y => (kf q).2 H locs la hrep hlv (xst1_t (xst1_t hst1)) hF hL hn0 hs0
    cases cnd with
    | eq => exact lv_icmp_eq hx hb hdg a1 e1 e2
    | lt => exact lv_icmp_lt hx hb hdg a1 e1 e2
    | ge => exact lv_icmp_ge hx hb hdg a1 e1 e2
    | gt => exact lv_icmp_gt hx hb hdg a1 e1 e2
    | le => exact lv_icmp_le hx hb hdg a1 e1 e2
    | ne => exact lv_icmp_ne hx hb hdg a1 e1 (fun q => e2 (fun w => w q))
  | goto off =>
    obtain ⟨rfl, t, a1, z⟩ := hs
    exact lv_goto hx hb hdg a1 (z.2 H locs la hrep hlv hst1 hF hL hn0 hs0)
  | tableswitch dflt lw hi offs =>
    obtain ⟨x, r, rfl, ko, ki⟩ := hs
    by_cases q1 : x.toInt < lw
    · obtain ⟨t, a1, z⟩ := ko (Or.inl q1)
      exact lv_tableOut hx hb hdg (Or.inl q1) a1 (z.2 H locs la hrep hlv (xst1_t hst1) hF hL hn0 hs0)
    · by_cases q2 : hi < x.toInt
      · obtain ⟨t, a1, z⟩ := ko (Or.inr q2)
        exact lv_tableOut hx hb hdg (Or.inr q2) a1 (z.2 H locs la hrep hlv (xst1_t hst1) hF hL hn0 hs0)
      · obtain ⟨off, t, a0, a1, z⟩ := ki q1 q2
        exact lv_tableIn hx hb hdg q1 q2 a0 a1 (z.2 H locs la hrep hlv (xst1_t hst1) hF hL hn0 hs0)
  | getfield idx =>
    obtain ⟨rfl, cl, k, a, r, hf, rfl, ha, z⟩ := hs
    obtain ⟨hw, hc6, hk⟩ := xfl_ok hf
    obtain ⟨cell, q1, q2, q3, q4⟩ := (hrep.2.2 a).1.1 cl hc6 ha
    obtain ⟨hS, hfc, kC, hkC, hkind⟩ := hKn.1 cl hc6
    obtain ⟨cf, kf, fi, f, hi, hsl⟩ := hS k hk
    refine W.getf hx hb hown (hts _ hw) hi (u_facts hfc hkC (u_lays hts (xIn hc6) hk) hi).1 q1 (by rw [q3]; exact fun h => by cases h) (v := xval h cl a k) (by rw [hsl]; exact q4 k hk) rfl rfl hdg ?_
    exact z.2 H locs la hrep hlv (xst1_c (xval_cat h cl a k) (xst1_t hst1)) hF hL hn0 hs0
  | putfield idx =>
    obtain ⟨rfl, cl, k, hf, hfin, hs⟩ := hs
    obtain ⟨hw, hc6, hk⟩ := xfl_ok hf
    obtain ⟨hS, hfc, kC, hkC, hkind⟩ := hKn.1 cl hc6
    obtain ⟨cf, kf, fi, f, hi, hsl⟩ := hS k hk
    have hst := (u_facts hfc hkC (u_lays hts (xIn hc6) hk) hi).1
    have hap : ∀ x y, x < xN cl → y < xN cl → x ≠ y → D.2.1 cl x ≠ D.2.1 cl y := by
      intro x y hx' hy' hne
      obtain ⟨_, _, _, fa, hia, ea⟩ := hS x hx'
      obtain ⟨_, _, _, fb, hib, eb⟩ := hS y hy'
      rw [← ea, ← eb]
      refine u_apart (u_lays hts (xIn hc6) hx') (u_lays hts (xIn hc6) hy') hia hib ?_
      rw [(State.fieldFound?_type hia (xty_ok cl hc6 x hx')).1, (State.fieldFound?_type hib (xty_ok cl hc6 y hy')).1]
      exact xnm_ok cl hc6 x hx' y hy' hne
    have key : ∀ (v : Value) (a : Nat) (r : List Value) (h2 : xH), narrow (xty cl k) v = v → fits (xty cl k) v = true → (h.1 a).1 = cl + 1 → h2.1 = h.1 → h2.2.2.2 = h.2.2.2 → (∀ b, b ≠ a → h2.2.1 b = h.2.1 b) → (∀ b, b ≠ a → h2.2.2.1 b = h.2.2.1 b) → (∀ j, xval h2 cl a j = if j = k then v else xval h cl a j) →
        xSim p l e R s m args below meth c QW D lo nL n0 s0 (pc + 3) ls r h2 → xst1 r → W p l e R s m args below meth c H locs (h.2.2.2.1 - n0) (h.2.2.2.2 - s0) QW (F0 m pc la (v :: .ref a :: r)) := by
      intro v a r h2 hnv hfit ha e1 e2 e3 e4 e5 z hr1
      obtain ⟨cell, q1, q2, q3, q4⟩ := (hrep.2.2 a).1.1 cl hc6 ha
      have hla : lo ≤ a := ((hrep.2.2 a).2 (by rw [ha]; omega)).2 (by rw [ha]; omega)
      have fin : ∀ H' : Heap, H'[a]? = some (cell.setSlot f.slot v) → H'.size = H.size → (∀ q, q ≠ a → H'[q]? = H[q]?) → W p l e R s m args below meth c H' (locs ++ [⟨a, f.slot⟩]) (h.2.2.2.1 - n0) (h.2.2.2.2 - s0) QW (F0 m (pc + 3) la r) := by
        intro H' g1 g2 g3
        rw [← e2]
        have hob : t_OB a (D.1 cl) (xN cl) (D.2.1 cl) H' (xval h2 cl a) := by
          refine t_OB.to (V := updV (xval h cl a) k v) ⟨_, g1, q2, q3, ?_⟩ (fun j _ => by rw [e5 j]; rfl)
          rw [hsl]
          exact t_set q4 hap hk v
        refine z H' _ la (xRep_upd hrep e1 (by rw [e2]) e3 e4 g2 g3 (xcell_ob hc6 (by rw [e1]; exact ha) hob)) hlv hr1 (xF_one hF g3 hla) (xL_one hL hla) (by rw [e2]; exact hn0) (by rw [e2]; exact hs0)
      have hlay := hts _ (xIn hc6 _ (u_in_lay hk))
      have hty := xty_ok cl hc6 k hk
      by_cases hq : (xT cl k).2.2.2 = true
      · obtain ⟨hi1, rfl⟩ := hfin hq
        unfold u_lay at hlay
        rw [if_pos hq] at hlay
        have hcf : m.cls = cf := by
          obtain ⟨_, _, c', _, _, _, -, -, hf', -, -, -, hown2, -⟩ := Cond.laysFinal_spec hlay
          have e1 : c' = cf := by have := hi.symm.trans hf'; simp at this; exact this.1.symm
          have hdecl : (xT own k).1 = xR own := (xdecl own hc6 k hk)
          rw [hdecl] at hown2
          rw [← e1]; exact Option.some.inj (hown.symm.trans hown2)
        refine W.putFinK hx hb hown (hts _ hw) hi hst hcf (hini hi1) (by rw [q2]; exact u_fits hfc hkC hkind (Or.inr hlay) hi hty hnv hfit) q1 q3 (by rw [hsl]; exact k2_hasslot (q4 k hk)) rfl rfl hdg fin
      · unfold u_lay at hlay
        rw [if_neg hq] at hlay
        exact W.putK hx hb (f := f) ⟨hown, hts _ hw, ⟨_, _, _, hi⟩, hst⟩ (by rw [q2]; exact u_store hfc hkC hkind hlay hi hty hnv hfit) q1 q3 (by rw [hsl]; exact k2_hasslot (q4 k hk)) rfl rfl hdg fin
    rcases hs with ⟨b0, x, a, r, rfl, ha, z⟩ | ⟨b0, x, a, r, rfl, hx01, ha, z⟩ | ⟨b0, b, a, r, rfl, ha, z⟩
    · have ht : xty cl k = .int := xft_0 b0
      refine key (.int x) a r (h.1, xuI h.2.1 a k x, h.2.2) (by rw [ht]; rfl) (by rw [ht]; rfl) ha rfl rfl (fun b hb => xuI_ne hb) (fun _ _ => rfl) (fun j => ?_) z.2 (xst1_t (xst1_t hst1))
      by_cases hj : j = k
      · subst hj
        rw [if_pos rfl, xval, if_neg (by rw [b0]; decide)]
        simp [xuI]
      · rw [if_neg hj]
        simp only [xval, xuI, hj, and_false, if_false]
    · have ht : xty cl k = .boolean := xft_1 b0
      refine key (.int x) a r (h.1, xuI h.2.1 a k x, h.2.2) (by rw [ht]; rcases hx01 with rfl | rfl <;> rfl) (by rw [ht]; rcases hx01 with rfl | rfl <;> rfl) ha rfl rfl (fun b hb => xuI_ne hb) (fun _ _ => rfl) (fun j => ?_) z.2 (xst1_t (xst1_t hst1))
      by_cases hj : j = k
      · subst hj
        rw [if_pos rfl, xval, if_neg (by rw [b0]; decide)]
        simp [xuI]
      · rw [if_neg hj]
        simp only [xval, xuI, hj, and_false, if_false]
    · have ht : (narrow (xty cl k) (.ref b) = .ref b) ∧ fits (xty cl k) (.ref b) = true := xft_2 hc6 hk b0 b
      refine key (.ref b) a r (h.1, h.2.1, xuP h.2.2.1 a k (some b), h.2.2.2) ht.1 ht.2 ha rfl rfl (fun _ _ => rfl) (fun b hb => xuP_ne hb) (fun j => ?_) z.2 (xst1_t (xst1_t hst1))
      by_cases hj : j = k
      · subst hj
        rw [if_pos rfl, xval, if_pos b0]
        simp [xuP, va_rf]
      · rw [if_neg hj]
        simp only [xval, xuP, hj, and_false, if_false]
  | iaload =>
    obtain ⟨rfl, j, a, r, N, rfl, ha, hj, z⟩ := hs
    have hlt : j.toNatClampNeg < N := Nat.not_le.mp fun q => hj (Or.inr q)
    rcases ha with ha | ha
    · refine W.iald (v := .int (h.2.1 a j.toNatClampNeg)) hx hb ((hrep.2.2 a).1.2.1 N ha) (hKn.2.1.1 N _) (fun q => by cases q) (by rw [arrV_size]; exact hj) (by rw [arrV_read _ _ hlt]) rfl rfl hdg ?_
      exact z.2 H locs la hrep hlv (xst1_c rfl (xst1_t (xst1_t hst1))) hF hL hn0 hs0
    · obtain ⟨scr, g1, g2, g3, g4, g5, g6⟩ := (hrep.2.2 a).1.2.2.2.2 N ha
      obtain ⟨k1, cm, k2, k3⟩ := hKn.2.2.2.2.2.2
      refine W.iald (v := .int (h.2.1 a j.toNatClampNeg)) hx hb g1 ⟨g3, k1, by rw [g2]; exact k2, cm, k3⟩ g4 (by rw [g5]; exact hj) (g6 _ hlt) rfl rfl hdg ?_
      exact z.2 H locs la hrep hlv (xst1_c rfl (xst1_t (xst1_t hst1))) hF hL hn0 hs0
  | baload =>
    obtain ⟨rfl, j, a, r, N, rfl, ha, hj, z⟩ := hs
    have hlt : j.toNatClampNeg < N := Nat.not_le.mp fun q => hj (Or.inr q)
    refine W.zald (v := .int (h.2.1 a j.toNatClampNeg)) hx hb ((hrep.2.2 a).1.2.2.1 N ha) (hKn.2.2.1.1 N _) (fun q => by cases q) (by rw [arrV_size]; exact hj) (by rw [arrV_read _ _ hlt]) rfl rfl hdg ?_
    exact z.2 H locs la hrep hlv (xst1_c rfl (xst1_t (xst1_t hst1))) hF hL hn0 hs0
  | aaload =>
    obtain ⟨rfl, j, a, r, N, rfl, ha, hj, z⟩ := hs
    have hlt : j.toNatClampNeg < N := Nat.not_le.mp fun q => hj (Or.inr q)
    refine W.aald (v := va_rf (h.2.2.1 a j.toNatClampNeg)) (ty := .object RX2) hx hb ((hrep.2.2 a).1.2.2.2.1 N ha) (hKn.2.2.2.1.1 N _) rfl (fun q => by cases q) (by rw [arrV_size]; exact hj) (by rw [arrV_read _ _ hlt]) rfl rfl hdg ?_
    exact z.2 H locs la hrep hlv (xst1_c (xrf_cat _) (xst1_t (xst1_t hst1))) hF hL hn0 hs0
  | iastore =>
    obtain ⟨rfl, x, j, a, r, N, rfl, ha, hj, z⟩ := hs
    have hla : lo ≤ a := ((hrep.2.2 a).2 (by rw [ha]; simp)).2 (by rw [ha]; simp)
    refine W.iast hx hb ((hrep.2.2 a).1.2.1 N ha) (hKn.2.1.1 N _) (fun q => by cases q) (by rw [arrV_size]; exact hj) rfl rfl hdg fun H1 g1 g2 g3 => ?_
    refine z.2 H1 _ la (xRep_upd hrep rfl rfl (fun b hb => xuI_ne hb) (fun _ _ => rfl) g2 g3 (xcell_i ha ?_)) hlv (xst1_t (xst1_t (xst1_t hst1))) (xF_one hF g3 hla) (xL_one hL hla) hn0 hs0
    rw [g1, arrV_store]
    congr 2
    funext q
    by_cases hq : q = j.toNatClampNeg
    · subst hq; simp [updV, xuI]
    · simp [updV, xuI, hq]
  | bastore =>
    obtain ⟨rfl, x, j, a, r, N, rfl, hx01, ha, hj, z⟩ := hs
    have hla : lo ≤ a := ((hrep.2.2 a).2 (by rw [ha]; simp)).2 (by rw [ha]; simp)
    refine W.zast hx hb ((hrep.2.2 a).1.2.2.1 N ha) (hKn.2.2.1.1 N _) (fun q => by cases q) (by rw [arrV_size]; exact hj) rfl rfl hdg fun H1 g1 g2 g3 => ?_
    refine z.2 H1 _ la (xRep_upd hrep rfl rfl (fun b hb => xuI_ne hb) (fun _ _ => rfl) g2 g3 (xcell_z ha ?_)) hlv (xst1_t (xst1_t (xst1_t hst1))) (xF_one hF g3 hla) (xL_one hL hla) hn0 hs0
    have hnx : narrow .boolean (.int x) = .int x := by rcases hx01 with rfl | rfl <;> rfl
    rw [g1, hnx, arrV_store]
    congr 2
    funext q
    by_cases hq : q = j.toNatClampNeg
    · subst hq; simp [updV, xuI]
    · simp [updV, xuI, hq]
  | aastore =>
    obtain ⟨rfl, b, j, a, r, N, rfl, ha, hj, hb3, z⟩ := hs
    have hla : lo ≤ a := ((hrep.2.2 a).2 (by rw [ha]; simp)).2 (by rw [ha]; simp)
    have hlt : j.toNatClampNeg < N := Nat.not_le.mp fun q => hj (Or.inr q)
    have h0 : ¬ j < 0 := fun q => hj (Or.inl q)
    obtain ⟨cellV, g1, g2, g3, -⟩ := (hrep.2.2 b).1.1 2 (by decide) hb3
    have hcls := (hKn.1 2 (by decide)).2
    obtain ⟨kA, comp, k1, k2, k3, -⟩ := hKn.2.2.2.1.2
    have hcomp : comp = D.1 2 := Option.some.inj (k3.symm.trans hcls.1)
    subst hcomp
    obtain ⟨kC, hkC, -⟩ := hcls.2
    refine W.aast hx hb ((hrep.2.2 a).1.2.2.2.1 N ha) (fun q h => by cases h) (fun h => by cases h) k1 k2 rfl hkC ⟨h0, by rw [arrV_size]; exact hlt⟩ g1 (fun q h => by rw [g3] at h; cases h) (by rw [g2]; exact hkC) (by rw [g2]; exact va_assign hcls) rfl rfl hdg fun H1 f1 f2 f3 => ?_
    refine z.2 H1 _ la (xRep_upd hrep rfl rfl (fun _ _ => rfl) (fun b hb => xuP_ne hb) f2 f3 (xcell_m ha ?_)) hlv (xst1_t (xst1_t (xst1_t hst1))) (xF_one hF f3 hla) (xL_one hL hla) hn0 hs0
    rw [f1, arrV_store]
    congr 2
    funext q
    by_cases hq : q = j.toNatClampNeg
    · subst hq; simp [updV, xuP, va_rf]
    · simp [updV, xuP, hq]
  | arraylength =>
    obtain ⟨rfl, a, r, N, rfl, ha, z⟩ := hs
    rcases ha with ha | ha
    · refine W.alen (n := nI N) hx hb ((hrep.2.2 a).1.2.1 N ha) (hKn.2.1.1 N _) (by rw [arrV_size]; rfl) rfl rfl hdg ?_
      exact z.2 H locs la hrep hlv (xst1_c rfl (xst1_t hst1)) hF hL hn0 hs0
    · obtain ⟨scr, g1, g2, g3, g4, g5, g6⟩ := (hrep.2.2 a).1.2.2.2.2 N ha
      obtain ⟨k1, cm, k2, k3⟩ := hKn.2.2.2.2.2.2
      refine W.alen (n := nI N) (ty := .int) hx hb g1 ⟨g3, k1, by rw [g2]; exact k2, cm, k3⟩ (by rw [g5]; rfl) rfl rfl hdg ?_
      exact z.2 H locs la hrep hlv (xst1_c rfl (xst1_t hst1)) hF hL hn0 hs0
  | new idx =>
    obtain ⟨rfl, cl, hcl, z⟩ := hs
    obtain ⟨w1, w2, w3, hc6⟩ := xcl_ok hcl
    have hkn := hKn.1 cl hc6
    obtain ⟨b1, b2⟩ := hbd _ _ _ _ z.1
    simp only at b1 b2
    refine W.newcK hx hb hown (hts _ w1) (hts _ w2) (hts _ w3) rfl hdg (by omega) (by omega) hkn.2.1 hrep.1 fun H1 kC hkC g1 g2 g3 => ?_
    refine W.cs (cells' := h.2.2.2.1 + 1 - n0) (slots' := h.2.2.2.2 + xN cl - s0) (by omega) (by omega) ?_
    have hob := u_born (xty cl) hts (xIn hc6) hkn hkC g1 (xty_ok cl hc6)
    refine z.2 H1 locs la (xRep_new hrep (fun b hb => xuK_ne hb) rfl (fun b hb => xuR_ne hb) (fun b hb => xuQ_ne hb) g2 g3 (xcell_ob hc6 (by simp [xuK]) (hob.to (fun k hk => ?_)))) hlv (xst1_c rfl hst1) (xF_new hF g3 hrep.2.1) hL (by simp only; omega) (by simp only; omega)
    exact xdef hc6 hk (by simp [xuR]) (by simp [xuQ])
  | newarray t =>
    obtain ⟨rfl, n, r, rfl, hn, hs⟩ := hs
    have c1 : ¬ nI n < 0 := nI_pos (by omega)
    have c2 : (nI n).toNatClampNeg = n := nI_clamp (by omega)
    rcases hs with ⟨rfl, z⟩ | ⟨rfl, z⟩
    · obtain ⟨b1, b2⟩ := hbd _ _ _ _ z.1
      simp only at b1 b2
      refine va_newaK (atype := .int) hx hb (hts _ xarrI) rfl hdg rfl c1 c2 (by show n * 4 ≤ _; omega) (by omega) (by omega) hrep.1 fun H1 cA g1 g2 g3 g4 g5 => ?_
      refine W.cs (cells' := h.2.2.2.1 + 1 - n0) (slots' := h.2.2.2.2 + n - s0) (by omega) (by omega) ?_
      have hcA : cA = D.2.2.1 := Option.some.inj (g5.symm.trans hKn.2.1.2)
      subst hcA
      refine z.2 H1 locs la (xRep_new hrep (fun b hb => xuK_ne hb) rfl (fun b hb => xuR_ne hb) (fun _ _ => rfl) g2 g3 (xcell_i (N := n) (by simp [xuK]) ?_)) hlv (xst1_c rfl (xst1_t hst1)) (xF_new hF g3 hrep.2.1) hL (by simp only; omega) (by simp only; omega)
      rw [g1]
      simp [xuR]
      rfl
    · obtain ⟨b1, b2⟩ := hbd _ _ _ _ z.1
      simp only at b1 b2
      refine va_newaK (atype := .boolean) hx hb (hts _ xarrZ) rfl hdg rfl c1 c2 (by show n * 1 ≤ _; omega) (by omega) (by omega) hrep.1 fun H1 cA g1 g2 g3 g4 g5 => ?_
      refine W.cs (cells' := h.2.2.2.1 + 1 - n0) (slots' := h.2.2.2.2 + n - s0) (by omega) (by omega) ?_
      have hcA : cA = D.2.2.2.1 := Option.some.inj (g5.symm.trans hKn.2.2.1.2)
      subst hcA
      refine z.2 H1 locs la (xRep_new hrep (fun b hb => xuK_ne hb) rfl (fun b hb => xuR_ne hb) (fun _ _ => rfl) g2 g3 (xcell_z (N := n) (by simp [xuK]) ?_)) hlv (xst1_c rfl (xst1_t hst1)) (xF_new hF g3 hrep.2.1) hL (by simp only; omega) (by simp only; omega)
      rw [g1]
      simp [xuR]
      rfl
  | anewarray idx =>
    obtain ⟨rfl, n, r, rfl, hn, hcl, z⟩ := hs
    obtain ⟨w1, w2, w3, hc6⟩ := xcl_ok hcl
    have c1 : ¬ nI n < 0 := nI_pos (by omega)
    have c2 : (nI n).toNatClampNeg = n := nI_clamp (by omega)
    obtain ⟨b1, b2⟩ := hbd _ _ _ _ z.1
    simp only at b1 b2
    refine W.anew (C := RX2) hx hb hown (hts _ w1) (va_AO.use hKn.2.2.2.2.1) rfl hdg rfl c1 (by rw [c2]; omega) (by omega) (by rw [c2]; omega) fun cA kA comp f1 f2 f3 f4 => ?_
    generalize hH1 : H.push ({ cls := cA, slots := Array.replicate (nI n).toNatClampNeg .null, vm := .none } : Cell) = H1
    have z1 : H1.size = H.size + 1 := by rw [← hH1, Array.size_push]
    have e1 : H1[H.size]? = some (arrV cA n (fun _ => .null)) := by rw [← hH1, Array.getElem?_push_size, c2, ← arrV_new]
    have o1 : ∀ q : Nat, q < H.size → H1[q]? = H[q]? := fun q hq => by rw [← hH1, Array.getElem?_push, if_neg (Nat.ne_of_lt hq)]
    have hcA : cA = D.2.2.2.2.1 := by
      obtain ⟨kA', comp', j1, j2, j3, j4⟩ := hKn.2.2.2.1.2
      exact Option.some.inj (f1.symm.trans j4)
    subst hcA
    rw [hrep.1] at z1 e1 o1
    rw [c2, hrep.1]
    refine W.cs (cells' := h.2.2.2.1 + 1 - n0) (slots' := h.2.2.2.2 + n - s0) (by omega) (by omega) ?_
    refine z.2 H1 locs la (xRep_new hrep (fun b hb => xuK_ne hb) rfl (fun _ _ => rfl) (fun b hb => xuQ_ne hb) z1 o1 (xcell_m (N := n) (by simp [xuK]) ?_)) hlv (xst1_c rfl (xst1_t hst1)) (xF_new hF o1 hrep.2.1) hL (by simp only; omega) (by simp only; omega)
    rw [e1]
    simp [xuQ, va_rf]
  | invokevirtual idx =>
    obtain ⟨rfl, y, As, b, r, hm, hy0, rfl, hlen, hbk, hc6, hr8, z⟩ := hs
    obtain ⟨w1, -, hyn⟩ := xml_ok hm
    obtain ⟨⟨wc, wi⟩, -, winst, wsel, -, hcls, hn1, hn2, hpl, hdesc, h13⟩ := xfacts hyn
    obtain ⟨st1a, st1b⟩ := xst1_a hst1
    have hst1A : xst1 (.ref b :: As) := xst1_c rfl (fun v hv => st1a v (List.mem_reverse.mpr hv))
    have hl13 := xlen_ok hyn
    rw [if_neg (by rw [hy0]; decide), ← hlen] at hl13
    obtain ⟨hd1, mc', ms', hMet, rr, hh, y1, y2, y3⟩ := hM y (.ref b :: As) h _ hyn hst1A hl13 z
    obtain ⟨b1, b2⟩ := hbd _ _ _ _ y3.1
    obtain ⟨cell, q1, q2, q3, -⟩ := (hrep.2.2 b).1.1 _ hc6 hbk
    have hkn := hKn.1 _ hc6
    have hcw : CallW R s args (xR own) (xM y).1.cls idx (xM y).1 (xM y).2.1 (xM y).2.2.1 (xM y).2.2.2.1 (xws y) (xrm (d - 1) mc' ms') mc' ms' As.length := ⟨callB_of As.length hts (xws_good hyn) rfl rfl rfl (hts _ wi) (hts _ (w1 rfl)) ⟨hn1, hn2, by rw [hlen]; exact hdesc⟩ ⟨by show d - 1 + 1 ≤ R.frames; omega, by show 8 + (_ + 11) + 40 * (d - 1) ≤ R.locals; omega⟩, hts _ (winst (by rw [hy0]; decide)), hts _ (wsel hy0)⟩
    refine x_run (va_runV ⟨hx, hb, hml, hown, hts⟩ hMet hcw ⟨xPc_blind, ⟨cell, q1, by rw [q3]; rfl, by rw [q2, hcls]; exact hkn.2.1⟩, xPc_at hrep hKn⟩ rfl rfl hlv.1 rfl (lv_room hr8) hdg ⟨by omega, by omega⟩) hF hL (fun v h' H1 locs1 g1 g2 g3 g4 g5 => ?_)
    obtain ⟨e1, e2, e3⟩ := g2
    refine W.cs (cells' := h'.2.2.2.1 - n0) (slots' := h'.2.2.2.2 - s0) (by omega) (by omega) ?_
    exact e3.2 H1 locs1 la g1 hlv (xst1_j g5 (xst1_t st1b)) g3 g4 (by omega) (by omega)
  | invokestatic idx =>
    obtain ⟨rfl, hs⟩ := hs
    rcases hs with ⟨y, nb, As, r, hm, hy0, rfl, hlen, hr8, z⟩ | ⟨hm, hd1, x, y, r, rfl, hr8, z⟩ | ⟨hm, hd1, n, dp, sp, a, b, r, N, M, rfl, hr8, ha, hb2, hne, h1, h2, h3, h4, z⟩
    · obtain ⟨w1, w2, hyn⟩ := xml_ok hm
      obtain ⟨⟨wc, wi⟩, wst, -, -, -, hcls, hn1, hn2, hpl, hdesc, h13⟩ := xfacts hyn
      obtain ⟨st1a, st1b⟩ := xst1_a hst1
      have hst1A : xst1 As := fun v hv => st1a v (List.mem_reverse.mpr hv)
      have hl13 := xlen_ok hyn
      rw [if_pos hy0, ← hlen] at hl13
      obtain ⟨hd1, mc', ms', hMet, rr, hh, y1, y2, y3⟩ := hM y As h _ hyn hst1A hl13 z
      obtain ⟨b1, b2⟩ := hbd _ _ _ _ y3.1
      have fin : ∀ (hrun : va_Run p l e R s m args below meth c H locs (h.2.2.2.1 - n0) (h.2.2.2.2 - s0) mc' ms' (F0 m pc la (As.reverse ++ r)) r (xQc D lo (fun r_1 h' => h'.2.2.2.1 = h.2.2.2.1 + mc' ∧ h'.2.2.2.2 = h.2.2.2.2 + ms' ∧ (xw (xCd d) d own cc ret ini Q (pc + 3) ls (r_1.toList ++ r) h' ∧ xSim p l e R s m args below meth c QW D lo nL n0 s0 (pc + 3) ls (r_1.toList ++ r) h')) As.toArray) (fun q => lo ≤ q)), W p l e R s m args below meth c H locs (h.2.2.2.1 - n0) (h.2.2.2.2 - s0) QW (F0 m pc la (As.reverse ++ r)) := by
        intro hrun
        refine x_run hrun hF hL (fun v h' H1 locs1 g1 g2 g3 g4 g5 => ?_)
        obtain ⟨e1, e2, e3⟩ := g2
        refine W.cs (cells' := h'.2.2.2.1 - n0) (slots' := h'.2.2.2.2 - s0) (by omega) (by omega) ?_
        exact e3.2 H1 locs1 la g1 hlv (xst1_j g5 st1b) g3 g4 (by omega) (by omega)
      by_cases hnb : nb = 0
      · exact fin (va_runS ⟨hx, hb, hml, hown, hts⟩ hMet ⟨callB_of As.length hts (xws_good hyn) rfl rfl rfl (hts _ wi) (hts _ (w1 hnb)) ⟨hn1, hn2, by rw [hlen]; exact hdesc⟩ ⟨by show d - 1 + 1 ≤ R.frames; omega, by show 8 + (_ + 11) + 40 * (d - 1) ≤ R.locals; omega⟩, hts _ (wst hy0)⟩ ⟨xPc_blind, xPc_at hrep hKn⟩ rfl rfl hlv.1 rfl (lv_room hr8) hdg ⟨by omega, by omega⟩)
      · obtain ⟨rfl, rfl, rfl⟩ := w2 hnb
        exact fin (va_runSN (host := "LinkStation") ⟨hx, hb, hml, hown, hts⟩ hMet ⟨va_cnB As.length hts (xws_good hyn) rfl rfl rfl hKn.2.2.2.2.2.1 (hts _ wi) ⟨hn1, hn2, by rw [hlen]; exact hdesc⟩ ⟨by show d - 1 + 1 ≤ R.frames; omega, by show 8 + (_ + 11) + 40 * (d - 1) ≤ R.locals; omega⟩, hts _ (wst hy0), trivial⟩ ⟨xPc_blind, xPc_at hrep hKn⟩ rfl rfl hlv.1 rfl (lv_room hr8) hdg ⟨by omega, by omega⟩)
    · obtain ⟨b1, b2⟩ := hbd _ _ _ _ z.1
      have hw := xmx_ok
      simp only [Bool.and_eq_true] at hw
      unfold xmx at hm
      simp only [Bool.and_eq_true, beq_iff_eq] at hm
      obtain ⟨rfl, rfl⟩ := hm
      refine va_mmax hx hb (by rw [hml, hlv.1]) hown (hts _ (xok_mem hw.1.1.1)) (hts _ (xok_mem hw.1.1.2)) (hts _ (xok_mem hw.1.2)) (hts _ (xok_mem hw.2)) (by omega) (by omega) (by omega) (by omega) hdg ?_
      exact z.2 H locs la hrep hlv (xst1_c rfl (xst1_t (xst1_t hst1))) hF hL hn0 hs0
    · have hw := xac_ok
      simp only [Bool.and_eq_true] at hw
      unfold xac at hm
      simp only [Bool.and_eq_true, beq_iff_eq] at hm
      obtain ⟨rfl, rfl⟩ := hm
      have hlb : lo ≤ b := ((hrep.2.2 b).2 (by rw [hb2]; simp)).2 (by rw [hb2]; simp)
      have c1 : (nI sp).toNatClampNeg = sp := nI_clamp (by omega)
      have c2 : (nI dp).toNatClampNeg = dp := nI_clamp (by omega)
      have c3 : (nI n).toNatClampNeg = n := nI_clamp (by omega)
      intro T hT X
      have hc0 := (hrep.2.2 a).1.2.1 N ha
      have hc1 := (hrep.2.2 b).1.2.1 M hb2
      obtain ⟨-, k0, hk0, cm0, hkk0⟩ := hKn.2.1.1 N (fun j => .int (h.2.1 a j))
      obtain ⟨-, k1, hk1, cm1, hkk1⟩ := hKn.2.1.1 M (fun j => .int (h.2.1 b j))
      obtain ⟨vm', X', step⟩ := X.arraycopy hx hown (hts _ (xok_mem hw.1.1.1)) (hts _ (xok_mem hw.1.1.2)) (hts _ (xok_mem hw.1.2)) (hts _ (xok_mem hw.2)) (src := a) (dst := b) (cs := arrV D.2.2.1 N (fun j => .int (h.2.1 a j))) (cd := arrV D.2.2.1 M (fun j => .int (h.2.1 b j))) (srcPos := nI sp) (destPos := nI dp) (n := nI n) (by rw [hT]; exact hc0) (by rw [hT]; exact hc1)
        (fun _ h => by cases h) (fun _ h => by cases h) (fun h => by cases h) (fun h => by cases h) hk0 hk1 hkk0 hkk1 rfl (nI_pos (by omega)) (nI_pos (by omega)) (nI_pos (by omega))
        (by rw [nI_toInt (by omega), nI_toInt (by omega), arrV_size]; omega) (by rw [nI_toInt (by omega), nI_toInt (by omega), arrV_size]; omega)
        (fun vm₁ _ i hi => by
          rw [c3] at hi
          have e : (arrV D.2.2.1 N (fun j => .int (h.2.1 a j))).slots.getD ((nI sp).toNatClampNeg + i) .null = .int (h.2.1 a (sp + i)) := by
            rw [c1, Array.getD_eq_getD_getElem?, arrV_read _ _ (by omega)]
            rfl
          rw [e]
          exact ⟨rfl, trivial⟩)
        (g := F0 m pc la (.int (nI n) :: .int (nI dp) :: .ref b :: .int (nI sp) :: .ref a :: r)) rfl (by rw [hml]; exact hlv.1) (rest := r) rfl (by rw [hb]; exact hdg) (by omega) (by show 2 * 0 + _ + (7 + 11) ≤ _; omega)
      have e1 : copied (arrV D.2.2.1 N (fun j => .int (h.2.1 a j))) (arrV D.2.2.1 M (fun j => .int (h.2.1 b j))) (nI sp) (nI dp) (nI n) = arrV D.2.2.1 M (fun j => .int (va_cpy (h.2.1 a) (h.2.1 b) sp dp n j)) := by
        have := va_copied (fun z => Value.int z) D.2.2.1 D.2.2.1 (n0 := N) (n1 := M) (sp := (nI sp).toNatClampNeg) (dp := (nI dp).toNatClampNeg) (n := (nI n).toNatClampNeg) (h.2.1 a) (h.2.1 b) (by omega)
        rw [c1, c2, c3] at this
        unfold copied
        rw [c1, c2, c3]
        exact this
      rw [e1] at X' step
      have hl : b < H.size := (Array.getElem?_eq_some_iff.mp hc1).1
      have hheap : ((T.setVm vm').setCell b (arrV D.2.2.1 M (fun j => .int (va_cpy (h.2.1 a) (h.2.1 b) sp dp n j)))).heap = H.setIfInBounds b (arrV D.2.2.1 M (fun j => .int (va_cpy (h.2.1 a) (h.2.1 b) sp dp n j))) := by rw [← hT]; rfl
      have oq : ∀ q : Nat, q ≠ b → (H.setIfInBounds b (arrV D.2.2.1 M (fun j => .int (va_cpy (h.2.1 a) (h.2.1 b) sp dp n j))))[q]? = H[q]? := fun q hq => by simp [Array.getElem?_setIfInBounds, Ne.symm hq]
      obtain ⟨t, a1, b1⟩ := z.2 (H.setIfInBounds b (arrV D.2.2.1 M (fun j => .int (va_cpy (h.2.1 a) (h.2.1 b) sp dp n j)))) _ la (xRep_upd hrep rfl rfl (fun b hb => xuR_ne hb) (fun _ _ => rfl) (by simp) oq (xcell_i hb2 (by simp [Array.getElem?_setIfInBounds, hl, xuR]))) hlv (xst1_t (xst1_t (xst1_t (xst1_t (xst1_t hst1))))) (xF_one hF oq hlb) (fun q hq => by
          rcases List.mem_append.mp hq with z | z
          · exact hL q z
          · obtain ⟨w, -, hw⟩ := List.mem_map.mp z
            rw [← hw]
            exact hlb) hn0 hs0 _ hheap X'
      exact ⟨t, step t a1, b1⟩
  | invokespecial idx =>
    obtain ⟨rfl, hs⟩ := hs
    rcases hs with ⟨y, As, b, r, hm, hy0, rfl, hlen, hr8, z⟩ | ⟨hm, hd1, a, r, rfl, hr8, z⟩
    · obtain ⟨w1, -, hyn⟩ := xml_ok hm
      obtain ⟨⟨wc, wi⟩, -, winst, -, wnm, hcls, hn1, hn2, hpl, hdesc, h13⟩ := xfacts hyn
      obtain ⟨wn1, wn2⟩ := wnm hy0
      obtain ⟨st1a, st1b⟩ := xst1_a hst1
      have hst1A : xst1 (.ref b :: As) := xst1_c rfl (fun v hv => st1a v (List.mem_reverse.mpr hv))
      have hl13 := xlen_ok hyn
      rw [if_neg (by rw [hy0]; decide), ← hlen] at hl13
      obtain ⟨hd1, mc', ms', hMet, rr, hh, y1, y2, y3⟩ := hM y (.ref b :: As) h _ hyn hst1A hl13 z
      obtain ⟨b1, b2⟩ := hbd _ _ _ _ y3.2.1
      have hw' : xws y = Cond.code (xM y).1 (xM y).2.1 (xM y).2.2.1 none :: xWT := by unfold xws; rw [wn2]
      refine x_run (va_runI ⟨hx, hb, hml, hown, hts⟩ hMet ⟨callB_of As.length hts (xws_good hyn) hw' rfl rfl (hts _ wi) (hts _ (w1 rfl)) ⟨hn1, hn2, by rw [hlen]; exact hdesc⟩ ⟨by show d - 1 + 1 ≤ R.frames; omega, by show 8 + (_ + 11) + 40 * (d - 1) ≤ R.locals; omega⟩, wn1, hts _ (winst (by rw [hy0]; decide))⟩ ⟨xPc_blind, xPc_at hrep hKn⟩ rfl rfl hlv.1 rfl (lv_room hr8) hdg ⟨by omega, by omega⟩) hF hL (fun v h' H1 locs1 g1 g2 g3 g4 g5 => ?_)
      obtain ⟨e1, e2, rfl, e3⟩ := g2
      refine W.cs (cells' := h'.2.2.2.1 - n0) (slots' := h'.2.2.2.2 - s0) (by omega) (by omega) ?_
      exact e3.2 H1 locs1 la g1 hlv (xst1_t st1b) g3 g4 (by omega) (by omega)
    · have hw := xobj_ok
      simp only [Bool.and_eq_true] at hw
      refine W.objInit hx hb hown (hts _ (xoi_ok hm)) (hts _ (xok_mem hw.1)) (hts _ (xok_mem hw.2)) rfl (by rw [hml]; exact hlv.1) rfl hdg (by omega) (by show 2 * 0 + _ + 12 ≤ _; omega) ?_
      exact z.2 H locs la hrep hlv (xst1_t hst1) hF hL hn0 hs0
  | ireturn =>
    obtain ⟨rfl, v, rfl, hv, z⟩ := hs
    exact hri pc la v h H locs hdg hv z hrep hF hL hn0 hs0
  | return_ =>
    obtain ⟨rfl, rfl, hv, z⟩ := hs
    exact hrv pc la h H locs hdg hv z hrep hF hL hn0 hs0
  | _ => exact False.elim hs
end XT
