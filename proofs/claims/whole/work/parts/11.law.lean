-- ===== end of PART A; then your names; then what follows =====
/-! THE CLAIM OUT OF ONE WALK OF THE LAW'S BODY. Your part is whole_start (and what it stands on); all else here is the same for every law, but numbers. -/
def R_law : String := "LinkStationLaw"
def lw_P (b : Addr) (xs : List Int32) (args : Array Value) (s : State) : Prop := args = #[.ref b] ∧ s.IntsAt b xs ∧ xs.length ≤ 3072 ∧ (Jvm.Cond.and given_1 narrow_1).before args s = true
def lw_Q (_ : Array Value) (s : State) (o : Outcome) (t : State) : Prop := o = .returned (some (.int 1)) ∧ Framed s o t [] 600000 7302250
def lw_Z (below : List Frame) (a : Array Value) (s : State) : State → Prop := fun t => ∃ o, t.status = .running ∧ Ended t below o ∧ lw_Q a s o t
/-- the law's own end, with 1 on the stack, nothing written that was there before, its room as the claim has it -/
theorem lw_ret {p : Program} {l : Launch} {e : Env} {s : State} {m : MethodId} {below : List Frame} {meth : Method} {c : Code} {b : Nat} (hx : p.tables.exec = Jvm.exec) (hb : c.code = code) (hr : meth.sig.returnType = ret) (hlocks : meth.locks = false) {pc : Nat} {H : Heap} {ls : Array Slot} (hdg : decode code pc = .ok (.ireturn, 1)) : W p l e room_1 s m #[Value.ref b] below meth c H [] 600000 7302250 (lw_Z below #[Value.ref b] s) (F0 m pc ls [.int 1]) := by
  intro T hT X
  obtain ⟨fs, hret, hrun, hended, hW, hframe⟩ := X.leave (v := some (.int 1)) (hlocks := hlocks) (fun h => by rw [hr] at h; cases h)
  have hmeth' : T.vm.method? m = some meth := X.method'
  refine ⟨T.setFrames fs, ?_, .returned (some (.int 1)), hrun, hended, rfl, ⟨_, rfl⟩, hW, hframe⟩
  jvm_step X.here [X.here.top, hx, hb, hdg, hmeth', hr, ret, narrow_b1]
  (try refine ⟨rfl, ?_⟩); (try refine ⟨rfl, ?_⟩)
  first | (intro acts; rw [hret _ acts rfl rfl rfl]) | rw [hret _ _ rfl rfl rfl]
  exact Steps.refl _
/-- what holds at the law's entry: the machine, the code, the tables' words (any of lw_tbl by 'hts w (by decide +kernel)'), the script of L ints xs at the cell b, what the Statement gives of the start (any of its parts by flat_of_before) -/
def lw_At (p : Program) (s : State) (m : MethodId) (meth : Method) (c : Code) (b L : Nat) (xs : Nat → Int32) : Prop :=
  p.tables.exec = Jvm.exec ∧ c.code = code ∧ meth.sig.returnType = ret ∧ c.maxLocals = 4 ∧ s.vm.findClass R_law = some m.cls ∧ (∀ w ∈ lw_tbl, w.before #[Value.ref b] s = true) ∧ va_X b L xs s s.heap ∧ b < s.heap.size ∧ meth.locks = false ∧ (Jvm.Cond.and given_1 narrow_1).before #[Value.ref b] s = true
/-! the law, out of its run on the abstract machine -/
def xK0 (b L : Nat) : Nat → Nat × Nat := fun a => if a = b then (103, L) else (0, 0)
def xI0 (b : Nat) (xs : Nat → Int32) : Nat → Nat → Int32 := fun a j => if a = b then xs j else 0
/-- the law's run on every script ends with 1, within the claim's room -/
def xLaw : Prop := ∃ d : Nat, d ≤ 2000 ∧ ∀ (n b L : Nat) (xs : Nat → Int32), L ≤ 3072 → b < n → xB d 6 cL_law (some .boolean) false (fun r h' => r = some (.int 1) ∧ h'.2.2.2.1 ≤ n + 600000 ∧ h'.2.2.2.2 ≤ 7302250) 0 [some (.ref b), none, none, none] [] (xK0 b L, xI0 b xs, fun _ _ => none, n, 0)
theorem xKn_start {s : State} {args : Array Value} {b L : Nat} {xs : Nat → Int32} (hts : ∀ w ∈ lw_tbl, w.before args s = true) (hX : va_X b L xs s s.heap) : ∃ D : xD, xKn D s ∧ ∃ scr : Cell, s.heap[b]? = some scr ∧ scr.cls = D.2.2.2.2.2 ∧ (∀ k, scr.vm ≠ .statics k) ∧ scr.vm ≠ .unknown ∧ scr.slots.size = L ∧ ∀ j : Nat, j < L → scr.slots[j]? = some (.int (xs j)) := by
  have hts' : ∀ w ∈ xWT, w.before args s = true := fun w hw => hts w (List.mem_filter.mp hw).1
  have hk : ∀ c, ∃ q : ClassId × (Nat → Nat), c < 6 → u_Kn s (xR c) (xT c) (xN c) q.1 q.2 := by
    intro c
    by_cases hc : c < 6
    · have hw : Cond.instantiable (xR c) (xN c) ∈ xWT := by
        have h := xinst_ok
        simp only [List.all_cons, List.all_nil, Bool.and_eq_true, Bool.and_true] at h
        obtain ⟨a0, a1, a2, a3, a4, a5⟩ := h
        match c, hc with
        | 0, _ => exact xok_mem a0
        | 1, _ => exact xok_mem a1
        | 2, _ => exact xok_mem a2
        | 3, _ => exact xok_mem a3
        | 4, _ => exact xok_mem a4
        | 5, _ => exact xok_mem a5
        | n + 6, h => exact absurd h (by omega)
      obtain ⟨cC, iS, h⟩ := u_known (C := xR c) (T := xT c) (N := xN c) (n := xN c) hts' (xIn hc) (hts' _ hw)
      exact ⟨(cC, iS), fun _ => h⟩
    · exact ⟨(0, fun _ => 0), fun h => absurd h hc⟩
  have ha := xarr_ok
  simp only [Bool.and_eq_true, decide_eq_true_eq] at ha
  obtain ⟨⟨⟨a1, a2⟩, a3⟩, a4⟩ := ha
  obtain ⟨cI, kI, compI, i1, i2, i3⟩ := Cond.arrayClass_spec (hts _ (List.mem_of_getElem? a1))
  obtain ⟨cZ, kZ, compZ, z1, z2, z3⟩ := Cond.arrayClass_spec (hts _ (List.mem_of_getElem? a2))
  have hAO : va_AO RX2 s := va_AO.of (hts _ (List.mem_of_getElem? a3))
  obtain ⟨compM, cM, kM, m1, m2, m3, m4, m5⟩ := Cond.arrayOver_spec hAO
  obtain ⟨scr, x1, ⟨x2, kS, x3, compS, x4⟩, x5, x6, x7⟩ := hX
  refine ⟨(fun c => (Classical.choose (hk c)).1, fun c => (Classical.choose (hk c)).2, cI, cZ, cM, scr.cls), ⟨fun c hc => Classical.choose_spec (hk c) hc, ⟨fun n z => ⟨fun k h => (by cases h), kI, i2, compI, i3⟩, i1⟩, ⟨fun n z => ⟨fun k h => (by cases h), kZ, z2, compZ, z3⟩, z1⟩, ⟨fun n z => ⟨fun k h => (by cases h), kM, m3, compM, m4⟩, kM, compM, m3, m4, m1, m5⟩, hAO, va_Nw.of rfl (hts _ (List.mem_of_getElem? a4)), kS, compS, x3, x4⟩, scr, x1, rfl, x2, x5, x6, x7⟩
set_option maxHeartbeats 4000000 in
/-- the law's walk out of its run on the abstract machine -/
theorem x_whole (hLaw : xLaw) {p : Program} {e : Env} {s : State} {m : MethodId} {below : List Frame} {meth : Method} {c : Code} (l : Launch) {b L : Nat} {xs : Nat → Int32} (hL : L ≤ 3072) (C0 : lw_At p s m meth c b L xs) : W p l e room_1 s m #[Value.ref b] below meth c s.heap [] 0 0 (lw_Z below #[Value.ref b] s) (entryFrame m ([Value.ref b] : List Value).toArray 4) := by
  obtain ⟨hx, hb, hr, hml, hown, hts, hX, hbl, hlocks, hgv⟩ := id C0
  obtain ⟨D, hKn, scr, x1, x2, x3, x4, x5, x6⟩ := xKn_start hts hX
  have hts' : ∀ w ∈ xWT, w.before #[Value.ref b] s = true := fun w hw => hts w (List.mem_filter.mp hw).1
  obtain ⟨d, hd0, hLaw⟩ := hLaw
  obtain ⟨QL, cc, hcc, hQ1, z⟩ : ∃ (QL : Option Value → xH → Prop) (cc : ByteArray), cc = cL_law ∧ (∀ r h', QL r h' → r = some (.int 1) ∧ h'.2.2.2.1 ≤ s.heap.size + 600000 ∧ h'.2.2.2.2 ≤ 7302250) ∧ xB d 6 cc (some .boolean) false QL 0 [some (.ref b), none, none, none] [] (xK0 b L, xI0 b xs, fun _ _ => none, s.heap.size, 0) := ⟨_, _, rfl, fun _ _ q => q, hLaw s.heap.size b L xs hL hbl⟩
  have hBody : xBody p s m #[Value.ref b] meth c room_1 D d 6 cc 4 false := ⟨hx, by rw [hcc]; exact hb, hml, hown, hts', hKn, fun q => (by cases q), by show d ≤ 2048; omega, by show 40 * d ≤ 84000; omega⟩
  have hbd : ∀ pc ls st h1, xw (xCd d) d 6 cc (some .boolean) false QL pc ls st h1 → h1.2.2.2.1 ≤ s.heap.size + 600000 ∧ h1.2.2.2.2 ≤ 0 + 7302250 := fun pc ls st h1 q => by
    obtain ⟨r, h', q0, q2, q3⟩ := xw_live (xCd_live d) q
    have q1 := hQ1 _ _ q0
    exact ⟨Nat.le_trans q2 q1.2.1, by have := Nat.le_trans q3 q1.2.2; omega⟩
  have key := z (fun pc ls st h1 => xw (xCd d) d 6 cc (some .boolean) false QL pc ls st h1 ∧ xSim p l e room_1 s m #[Value.ref b] below meth c (lw_Z below #[Value.ref b] s) D s.heap.size 4 s.heap.size 0 pc ls st h1) (fun pc ls st h1 q => by
    refine ⟨x_fold (xstp_mono (fun _ _ z => z) (fun _ _ _ _ z => z.1) (xCd_mono d) q), ?_⟩
    unfold xstp at q
    cases hd : decode cc pc with
    | error e => rw [hd] at q; exact False.elim q
    | ok r =>
      rw [hd] at q
      obtain ⟨i, len⟩ := r
      refine xins_sim (mc := 600000) (ms := 7302250) hBody (x_sim l D s.heap.size d) (Nat.le_refl _) (Nat.le_refl _) hbd ?_ ?_ hd q
      · intro pc la v h2 H locs hdg hv hQ hrep hF hL hn0 hs0
        obtain ⟨q1, q2, q3⟩ := hQ1 _ _ hQ
        cases q1
        refine va_forget (fun q hq => hL q hq) ?_
        refine W.widen (k := 600000) (n := 7302250) (by omega) (by omega) ?_
        exact lw_ret hx hb hr hlocks (by rw [hcc] at hdg; exact hdg)
      · intro pc la h2 H locs hdg hv
        cases hv)
  rw [lg_entry_eq]
  have hrep : xRep D s.heap.size (xK0 b L, xI0 b xs, fun _ _ => none, s.heap.size, 0) s.heap := by
    refine ⟨rfl, Nat.le_refl _, fun a => ?_⟩
    by_cases ha : a = b
    · subst ha
      have hk : xK0 a L a = (103, L) := if_pos rfl
      refine ⟨⟨fun c _ e => ?_, fun N e => ?_, fun N e => ?_, fun N e => ?_, fun N e => ?_⟩, fun _ => ⟨hbl, fun q => absurd (by show (xK0 a L a).1 = 103; rw [hk]) q⟩⟩
      · have e : (xK0 a L a).1 = c + 1 := e
        rw [hk] at e
        simp only at e
        omega
      · have e : xK0 a L a = (100, N) := e
        rw [hk] at e; cases e
      · have e : xK0 a L a = (101, N) := e
        rw [hk] at e; cases e
      · have e : xK0 a L a = (102, N) := e
        rw [hk] at e; cases e
      · have e : xK0 a L a = (103, N) := e
        rw [hk] at e; cases e
        exact ⟨scr, x1, x2, x3, x4, x5, fun j hj => by rw [x6 j hj]; simp [xI0]⟩
    · have hk : xK0 b L a = (0, 0) := if_neg ha
      exact ⟨xcell_0 (by show (xK0 b L a).1 = 0; rw [hk]), fun q => absurd (by show (xK0 b L a).1 = 0; rw [hk]) q⟩
  have := key.2 s.heap [] _ hrep (xlv_entry [Value.ref b] (n := 4) (fun v hv => by rw [List.mem_singleton.mp hv]; rfl) (by simp)) (fun _ h => by cases h) (fun _ _ => rfl) (fun _ h => by cases h) (Nat.le_refl _) (Nat.le_refl _)
  rw [Nat.sub_self, Nat.sub_self] at this
  exact this
