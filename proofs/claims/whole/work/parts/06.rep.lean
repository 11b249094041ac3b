/-! The abstract heap and the machine's heap: what cells hold; one cell changes; one cell comes. -/
/-- the machine's numbers of classes: objects' classes and slots, int[], boolean[], LinkModule[], the script's -/
abbrev xD : Type := (Nat → ClassId) × (Nat → Nat → Nat) × ClassId × ClassId × ClassId × ClassId
def xval (h : xH) (c a k : Nat) : Value := if xft c k = 2 then va_rf (h.2.2.1 a k) else .int (h.2.1 a k)
def xcell (D : xD) (h : xH) (H : Heap) (a : Nat) : Prop :=
  (∀ c, c < 6 → (h.1 a).1 = c + 1 → t_OB a (D.1 c) (xN c) (D.2.1 c) H (xval h c a)) ∧
  (∀ N, h.1 a = (100, N) → H[a]? = some (arrV D.2.2.1 N (fun j => .int (h.2.1 a j)))) ∧
  (∀ N, h.1 a = (101, N) → H[a]? = some (arrV D.2.2.2.1 N (fun j => .int (h.2.1 a j)))) ∧
  (∀ N, h.1 a = (102, N) → H[a]? = some (arrV D.2.2.2.2.1 N (fun j => va_rf (h.2.2.1 a j)))) ∧
  (∀ N, h.1 a = (103, N) → ∃ scr : Cell, H[a]? = some scr ∧ scr.cls = D.2.2.2.2.2 ∧ (∀ k, scr.vm ≠ .statics k) ∧ scr.vm ≠ .unknown ∧ scr.slots.size = N ∧ ∀ j : Nat, j < N → scr.slots[j]? = some (.int (h.2.1 a j)))
def xRep (D : xD) (lo : Nat) (h : xH) (H : Heap) : Prop := H.size = h.2.2.2.1 ∧ lo ≤ h.2.2.2.1 ∧ ∀ a : Nat, xcell D h H a ∧ ((h.1 a).1 ≠ 0 → a < h.2.2.2.1 ∧ ((h.1 a).1 ≠ 103 → lo ≤ a))
def xKn (D : xD) (U : State) : Prop := (∀ c, c < 6 → u_Kn U (xR c) (xT c) (xN c) (D.1 c) (D.2.1 c)) ∧ (ArrOfT U D.2.2.1 .int ∧ U.vm.findClass ("[" ++ FieldType.int.toString) = some D.2.2.1) ∧ (ArrOfT U D.2.2.2.1 .boolean ∧ U.vm.findClass ("[" ++ FieldType.boolean.toString) = some D.2.2.2.1) ∧
  (ArrOfT U D.2.2.2.2.1 (.object RX2) ∧ va_RA U D.2.2.2.2.1 (.object RX2)) ∧ va_AO RX2 U ∧ va_Nw (.methodLinkNest (xR 3) 161 (xM mX4_isStep).1 "LinkStation") U ∧ ∃ (k : Class) (comp : ClassId), U.vm.classes[D.2.2.2.2.2]? = some k ∧ k.kind = .array comp .int
theorem xKn.move {D : xD} {u U : State} (hvm : u.vm.Alike U.vm) (hN : va_Nw (.methodLinkNest (xR 3) 161 (xM mX4_isStep).1 "LinkStation") u → va_Nw (.methodLinkNest (xR 3) 161 (xM mX4_isStep).1 "LinkStation") U) (h : xKn D u) : xKn D U := by
  obtain ⟨h1, ⟨h2, h3⟩, ⟨h4, h5⟩, ⟨h6, h7⟩, h8, h9, k, comp, h10, h11⟩ := h
  refine ⟨fun c hc => u_Kn_moved hvm (h1 c hc), ⟨arrOfT_moved hvm h2, by rw [hvm.findClass]; exact h3⟩, ⟨arrOfT_moved hvm h4, by rw [hvm.findClass]; exact h5⟩, ⟨arrOfT_moved hvm h6, h7.moved hvm⟩, h8.moved hvm, hN h9, ?_⟩
  obtain ⟨k', hk', he⟩ := hvm.2.2 _ _ h10
  exact ⟨k', comp, hk', by rw [he]; exact h11⟩
theorem xKn.warm {D : xD} {s U : State} (hW : s.WarmedH U.vm) (h : xKn D s) : xKn D U := h.move hW.alike (fun z => va_Nw.warmM hW z)
theorem xKn.same {D : xD} {u U : State} (hW : u.vm = U.vm) (h : xKn D u) : xKn D U := h.move (by rw [hW]; exact Vm.Alike.refl U.vm) (fun z => va_Nw.same rfl hW z)
theorem xcell_0 {D : xD} {h : xH} {H : Heap} {a : Nat} (h0 : (h.1 a).1 = 0) : xcell D h H a :=
  ⟨fun c _ e => by omega, fun N e => (by rw [e] at h0; cases h0), fun N e => (by rw [e] at h0; cases h0), fun N e => (by rw [e] at h0; cases h0), fun N e => (by rw [e] at h0; cases h0)⟩
theorem xcell_ob {D : xD} {h : xH} {H : Heap} {a c : Nat} (hc : c < 6) (hk : (h.1 a).1 = c + 1) (ho : t_OB a (D.1 c) (xN c) (D.2.1 c) H (xval h c a)) : xcell D h H a :=
  ⟨fun c2 _ e => by have : c2 = c := by omega
                    subst this
                    exact ho, fun N e => by rw [e] at hk; simp only at hk; omega, fun N e => by rw [e] at hk; simp only at hk; omega, fun N e => by rw [e] at hk; simp only at hk; omega, fun N e => by rw [e] at hk; simp only at hk; omega⟩
theorem xcell_i {D : xD} {h : xH} {H : Heap} {a N : Nat} (hk : h.1 a = (100, N)) (ho : H[a]? = some (arrV D.2.2.1 N (fun j => .int (h.2.1 a j)))) : xcell D h H a :=
  ⟨fun c2 _ e => by rw [hk] at e; simp only at e; omega, fun M e => (by rw [hk] at e; cases e; exact ho), fun N e => (by rw [hk] at e; cases e), fun N e => (by rw [hk] at e; cases e), fun N e => (by rw [hk] at e; cases e)⟩
theorem xcell_z {D : xD} {h : xH} {H : Heap} {a N : Nat} (hk : h.1 a = (101, N)) (ho : H[a]? = some (arrV D.2.2.2.1 N (fun j => .int (h.2.1 a j)))) : xcell D h H a :=
  ⟨fun c2 _ e => by rw [hk] at e; simp only at e; omega, fun N e => (by rw [hk] at e; cases e), fun M e => (by rw [hk] at e; cases e; exact ho), fun N e => (by rw [hk] at e; cases e), fun N e => (by rw [hk] at e; cases e)⟩
theorem xcell_m {D : xD} {h : xH} {H : Heap} {a N : Nat} (hk : h.1 a = (102, N)) (ho : H[a]? = some (arrV D.2.2.2.2.1 N (fun j => va_rf (h.2.2.1 a j)))) : xcell D h H a :=
  ⟨fun c2 _ e => by rw [hk] at e; simp only at e; omega, fun N e => (by rw [hk] at e; cases e), fun N e => (by rw [hk] at e; cases e), fun M e => (by rw [hk] at e; cases e; exact ho), fun N e => (by rw [hk] at e; cases e)⟩
theorem xcell_kept {D : xD} {h h' : xH} {H H' : Heap} {a : Nat} (hc : xcell D h H a) (hk : h'.1 a = h.1 a) (hI : h'.2.1 a = h.2.1 a) (hP : h'.2.2.1 a = h.2.2.1 a) (hH : H'[a]? = H[a]?) : xcell D h' H' a := by
  obtain ⟨c1, c2, c3, c4, c5⟩ := hc
  refine ⟨fun c h1 h2 => ?_, fun N e => ?_, fun N e => ?_, fun N e => ?_, fun N e => ?_⟩
  · rw [hk] at h2
    refine ((c1 c h1 h2).kept hH).to (fun k _ => ?_)
    simp only [xval, hI, hP]
  · rw [hk] at e; rw [hH, hI]; exact c2 N e
  · rw [hk] at e; rw [hH, hI]; exact c3 N e
  · rw [hk] at e; rw [hH, hP]; exact c4 N e
  · rw [hk] at e; rw [hH, hI]; exact c5 N e
/-- one cell changes -/
theorem xRep_upd {D : xD} {lo a : Nat} {h h' : xH} {H H' : Heap} (hr : xRep D lo h H) (hk : h'.1 = h.1) (hn : h'.2.2.2.1 = h.2.2.2.1) (hI : ∀ b, b ≠ a → h'.2.1 b = h.2.1 b) (hP : ∀ b, b ≠ a → h'.2.2.1 b = h.2.2.1 b) (hz : H'.size = H.size) (ho : ∀ q : Nat, q ≠ a → H'[q]? = H[q]?) (hc : xcell D h' H' a) : xRep D lo h' H' := by
  obtain ⟨r1, r2, r3⟩ := hr
  refine ⟨by rw [hz, hn]; exact r1, by rw [hn]; exact r2, fun b => ⟨?_, by rw [hk, hn]; exact (r3 b).2⟩⟩
  by_cases hb : b = a
  · subst hb; exact hc
  · exact xcell_kept (r3 b).1 (by rw [hk]) (hI b hb) (hP b hb) (ho b hb)
/-- one cell comes -/
theorem xRep_new {D : xD} {lo : Nat} {h h' : xH} {H H' : Heap} (hr : xRep D lo h H) (hk : ∀ b, b ≠ h.2.2.2.1 → h'.1 b = h.1 b) (hn : h'.2.2.2.1 = h.2.2.2.1 + 1) (hI : ∀ b, b ≠ h.2.2.2.1 → h'.2.1 b = h.2.1 b) (hP : ∀ b, b ≠ h.2.2.2.1 → h'.2.2.1 b = h.2.2.1 b) (hz : H'.size = h.2.2.2.1 + 1) (ho : ∀ q : Nat, q < h.2.2.2.1 → H'[q]? = H[q]?) (hc : xcell D h' H' h.2.2.2.1) : xRep D lo h' H' := by
  obtain ⟨r1, r2, r3⟩ := hr
  refine ⟨by rw [hz, hn], by rw [hn]; omega, fun b => ?_⟩
  by_cases hb : b = h.2.2.2.1
  · subst hb; exact ⟨hc, fun _ => ⟨by omega, fun _ => r2⟩⟩
  · obtain ⟨q1, q2⟩ := r3 b
    by_cases h0 : (h.1 b).1 = 0
    · exact ⟨xcell_0 (by rw [hk b hb]; exact h0), fun z => absurd (by rw [hk b hb]; exact h0) z⟩
    · obtain ⟨q3, q4⟩ := q2 h0
      exact ⟨xcell_kept q1 (hk b hb) (hI b hb) (hP b hb) (ho b q3), fun _ => ⟨by omega, by rw [hk b hb]; exact q4⟩⟩
theorem xuI_ne {I : Nat → Nat → Int32} {a j b : Nat} {x : Int32} (h : b ≠ a) : xuI I a j x b = I b := by funext i; simp [xuI, h]
theorem xuI_at {I : Nat → Nat → Int32} {a j : Nat} {x : Int32} : xuI I a j x a = upd (I a) j x := by funext i; simp [xuI, upd]
theorem xuR_ne {I : Nat → Nat → Int32} {a b : Nat} {f : Nat → Int32} (h : b ≠ a) : xuR I a f b = I b := by funext i; simp [xuR, h]
theorem xuR_at {I : Nat → Nat → Int32} {a : Nat} {f : Nat → Int32} : xuR I a f a = f := by funext i; simp [xuR]
theorem xuP_ne {I : Nat → Nat → Option Nat} {a j b : Nat} {x : Option Nat} (h : b ≠ a) : xuP I a j x b = I b := by funext i; simp [xuP, h]
theorem xuP_at {I : Nat → Nat → Option Nat} {a j : Nat} {x : Option Nat} : xuP I a j x a = va_up (I a) j x := by funext i; simp [xuP, va_up]
theorem xuQ_ne {I : Nat → Nat → Option Nat} {a b : Nat} {f : Nat → Option Nat} (h : b ≠ a) : xuQ I a f b = I b := by funext i; simp [xuQ, h]
theorem xuQ_at {I : Nat → Nat → Option Nat} {a : Nat} {f : Nat → Option Nat} : xuQ I a f a = f := by funext i; simp [xuQ]
theorem xuK_ne {K : Nat → Nat × Nat} {a b : Nat} {v : Nat × Nat} (h : b ≠ a) : xuK K a v b = K b := by simp [xuK, h]
theorem xuK_at {K : Nat → Nat × Nat} {a : Nat} {v : Nat × Nat} : xuK K a v a = v := by simp [xuK]
/-- the locals -/
def xlv (la : Array Slot) (nL : Nat) (ls : xL) : Prop := la.size = nL ∧ ls.length = nL ∧ lv_wf la ∧ ∀ (i : Nat) (v : Value), ls[i]? = some (some v) → v.category = 1 ∧ la[i]? = some (.val v)
def xpairs (ls : xL) : List (Nat × Value) := (List.range ls.length).filterMap (fun i => match ls[i]? with
  | some (some v) => some (i, v)
  | _ => none)
theorem xpairs_mem {ls : xL} {i : Nat} {v : Value} : (i, v) ∈ xpairs ls ↔ ls[i]? = some (some v) := by
  unfold xpairs
  rw [List.mem_filterMap]
  constructor
  · rintro ⟨j, hj, h⟩
    split at h
    · rename_i w hw
      cases h
      exact hw
    · cases h
  · intro h
    have hi : i < ls.length := (List.getElem?_eq_some_iff.mp h).1
    exact ⟨i, List.mem_range.mpr hi, by rw [h]⟩
theorem xlv.has {la : Array Slot} {nL : Nat} {ls : xL} (h : xlv la nL ls) : lv_has la nL (xpairs ls) := ⟨h.1, h.2.2.1, fun q hq => (h.2.2.2 q.1 q.2 (xpairs_mem.mp hq)).2⟩
theorem xlv.set {la la' : Array Slot} {nL n : Nat} {ls : xL} {v : Value} (h : xlv la nL ls) (hv : v.category = 1) (hl : lv_has la' nL ((n, v) :: (xpairs ls).filter (fun q => !(q.1 == n) && !(q.1 + 1 == n && q.2.category == 2)))) : xlv la' nL (ls.set n (some v)) := by
  obtain ⟨h1, h2, h3, h4⟩ := h
  refine ⟨hl.1, by rw [List.length_set]; exact h2, hl.2.1, fun i w hw => ?_⟩
  by_cases hi : n = i
  · subst hi
    rw [List.getElem?_set_self'] at hw
    have hw2 : v = w := by
      cases hq : ls[n]? with
      | none => rw [hq] at hw; cases hw
      | some z => rw [hq] at hw; simpa using hw
    subst hw2
    exact ⟨hv, hl.2.2 (n, v) List.mem_cons_self⟩
  · rw [List.getElem?_set_ne hi] at hw
    obtain ⟨g1, g2⟩ := h4 i w hw
    refine ⟨g1, hl.2.2 (i, w) (List.mem_cons_of_mem _ (List.mem_filter.mpr ⟨xpairs_mem.mpr hw, ?_⟩))⟩
    have e1 : (i == n) = false := by simpa using fun q => hi q.symm
    have e2 : (w.category == 2) = false := by rw [g1]; rfl
    simp [e1, e2]
theorem xargs_mem : ∀ (A : List Value) (n : Nat), (∀ v ∈ A, v.category = 1) → ∀ (i : Nat) (v : Value), A[i]? = some v → (n + i, v) ∈ lv_args n A
  | [], n, _, i, v, h => by simp at h
  | w :: A, n, hc, i, v, h => by
    have hw : ¬ w.category = 2 := by rw [hc w List.mem_cons_self]; decide
    rw [lv_args, if_neg hw]
    cases i with
    | zero =>
      simp at h
      subst h
      exact List.mem_cons_self
    | succ i =>
      have := xargs_mem A (n + 1) (fun v hv => hc v (List.mem_cons_of_mem _ hv)) i v (by simpa using h)
      rw [show n + (i + 1) = n + 1 + i by omega]
      exact List.mem_cons_of_mem _ this
theorem xsl_len : ∀ (A : List Value), (∀ v ∈ A, v.category = 1) → (lg_sl A).length = A.length
  | [], _ => rfl
  | w :: A, hc => by
    have hw : ¬ w.category = 2 := by rw [hc w List.mem_cons_self]; decide
    have := xsl_len A (fun v hv => hc v (List.mem_cons_of_mem _ hv))
    unfold lg_sl at this ⊢
    rw [List.flatMap_cons, if_neg hw, List.length_append, this]
    simp
    omega
theorem xlv_entry (A : List Value) {n : Nat} (hc : ∀ v ∈ A, v.category = 1) (hn : A.length ≤ n) : xlv ((lg_sl A ++ List.replicate (n - (lg_sl A).length) Slot.unset).toArray) n (A.map some ++ List.replicate (n - A.length) none) := by
  have hs := xsl_len A hc
  have hl := lv_entry A (n := n) (by rw [hs]; exact hn)
  refine ⟨hl.1, by simp; omega, hl.2.1, fun i v hv => ?_⟩
  have hi : A[i]? = some v := by
    by_cases h : i < A.length
    · rw [List.getElem?_append_left (by simpa using h), List.getElem?_map] at hv
      cases hq : A[i]? with
      | none => rw [hq] at hv; cases hv
      | some w => rw [hq] at hv; simpa using hv
    · rw [List.getElem?_append_right (by simpa using h)] at hv
      have := List.mem_of_getElem? hv
      rw [List.mem_replicate] at this
      cases this.2
  refine ⟨hc v (List.mem_of_getElem? hi), ?_⟩
  have := xargs_mem A 0 hc i v hi
  rw [Nat.zero_add] at this
  exact hl.2.2 (i, v) this
def xst1 (st : List Value) : Prop := ∀ v ∈ st, v.category = 1
theorem xst1_c {v : Value} {st : List Value} (hv : v.category = 1) (h : xst1 st) : xst1 (v :: st) := fun w hw => by
  rcases List.mem_cons.mp hw with rfl | hw
  · exact hv
  · exact h w hw
theorem xst1_t {v : Value} {st : List Value} (h : xst1 (v :: st)) : xst1 st := fun w hw => h w (List.mem_cons_of_mem _ hw)
theorem xst1_a {A B : List Value} (h : xst1 (A ++ B)) : xst1 A ∧ xst1 B := ⟨fun v hv => h v (List.mem_append_left _ hv), fun v hv => h v (List.mem_append_right _ hv)⟩
theorem xst1_j {A B : List Value} (h : xst1 A) (h2 : xst1 B) : xst1 (A ++ B) := fun v hv => (List.mem_append.mp hv).elim (h v) (h2 v)
theorem xrf_cat (r : Option Nat) : (va_rf r).category = 1 := by cases r <;> rfl
theorem xval_cat (h : xH) (c a k : Nat) : (xval h c a k).category = 1 := by
  unfold xval
  split
  · exact xrf_cat _
  · rfl
theorem xar_ok : (List.range xNM).all (fun y => decide ((xM y).2.2.2.2.2.2 + (if (xM y).2.2.2.2.2.1 = 2 then 0 else 1) ≤ (xM y).2.2.1)) = true := by decide +kernel
