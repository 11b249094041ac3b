/-- one module more among the givers of a name -/
def sGv (X : xX) (x : Int32) (w : Option Nat) (m : Nat) : Option Nat := match sOf X m x with
  | none => w
  | some d => if X 6 d &&& 4 = 0 then (match w with
    | none => some d
    | some e => if ¬ (X 6 e &&& 1 = 0) ∧ X 6 d &&& 1 = 0 then some d else some e) else w
theorem sGv_strong {X : xX} {x : Int32} {e : Nat} (he : X 6 e &&& 1 = 0) : ∀ (l : List Nat), l.foldl (sGv X x) (some e) = some e
  | [] => rfl
  | m :: r => by
    rw [List.foldl_cons]
    have : sGv X x (some e) m = some e := by
      unfold sGv
      cases sOf X m x with
      | none => rfl
      | some d =>
        simp only
        by_cases c : X 6 d &&& 4 = 0
        · rw [if_pos c, if_neg (fun q => q.1 he)]
        · rw [if_neg c]
    rw [this]
    exact sGv_strong he r
theorem sGv_am {X : xX} {x : Int32} : ∀ (l : List Nat) (w : Option Nat), (∀ e, w = some e → ¬ (X 6 e &&& 1 = 0)) → l.foldl (sGv X x) w = sAm X x l w
  | [], w, _ => rfl
  | m :: r, w, hw => by
    rw [List.foldl_cons]
    unfold sGv sAm
    cases sOf X m x with
    | none => exact sGv_am r w hw
    | some d =>
      simp only
      by_cases c : X 6 d &&& 4 = 0
      · rw [if_pos c, if_pos c]
        by_cases c1 : X 6 d &&& 1 = 0
        · rw [if_pos c1]
          cases w with
          | none => exact sGv_strong c1 r
          | some e => simp only; rw [if_pos ⟨hw e rfl, c1⟩]; exact sGv_strong c1 r
        · rw [if_neg c1]
          cases w with
          | none => exact sGv_am r (some d) (fun e q => by cases q; exact c1)
          | some e => simp only; rw [if_neg (fun q => c1 q.2)]; exact sGv_am r (some e) hw
      · rw [if_neg c, if_neg c]
        exact sGv_am r w hw
theorem sGv_mem {X : xX} {x : Int32} : ∀ {l : List Nat} {w : Option Nat} {e : Nat}, l.foldl (sGv X x) w = some e → w = some e ∨ ∃ m ∈ l, sOf X m x = some e
  | [], w, e, h => Or.inl h
  | m :: r, w, e, h => by
    rw [List.foldl_cons] at h
    rcases sGv_mem h with q | ⟨p, q1, q2⟩
    · unfold sGv at q
      cases hs : sOf X m x with
      | none => rw [hs] at q; exact Or.inl q
      | some d =>
        rw [hs] at q
        simp only at q
        by_cases c : X 6 d &&& 4 = 0
        · rw [if_pos c] at q
          cases w with
          | none => exact Or.inr ⟨m, List.mem_cons_self, hs.trans q⟩
          | some e2 =>
            simp only at q
            by_cases c2 : ¬ (X 6 e2 &&& 1 = 0) ∧ X 6 d &&& 1 = 0
            · rw [if_pos c2] at q; exact Or.inr ⟨m, List.mem_cons_self, hs.trans q⟩
            · rw [if_neg c2] at q; exact Or.inl q
        · rw [if_neg c] at q; exact Or.inl q
    · exact Or.inr ⟨p, List.mem_cons_of_mem _ q1, q2⟩
theorem take_app {l : List Nat} {p q : Nat} (h : l[p]? = some q) : l.take (p + 1) = l.take p ++ [q] := by
  rw [List.take_add_one, h]; rfl
theorem oM_some {G : xX} {m e : Nat} {x : Int32} (hw : wfM G m) (hm : m < 12) (h : sOf G m x = some e) : oM (some e) = nI m := by
  show nI (e / 20) = nI m
  rw [(sOf_lt hw.2.2.1.2 hm h).2]
theorem kisBetter {d : Nat} {Pp : Option Value → xH → Prop} {K : Nat → Nat × Nat} {I : Nat → Nat → Int32} {P : Nat → Nat → Option Nat} {n s : Nat} {o L m v dd : Nat} {G : xX} {ord : List Nat} {w : Option Nat} (hS : xSL K P o L (gC G)) (hM : xMos I G o) (hw : ∀ m, m < 12 → wfM G m) (ho : xLo I G L ord) (hm : m < gC G) (hv : v < 64) (hd : sOf G m (nI v) = some dd) (hgv : I (L + 5) v = oM w) (hwm : ∀ e, w = some e → ∃ q ∈ ord, sOf G q (nI v) = some e) (h1 : (w = none ∨ ∃ e, w = some e ∧ ¬ (G 6 e &&& 1 = 0) ∧ G 6 dd &&& 1 = 0) → Pp (some (.int 1)) (K, I, P, n, s)) (h0 : (∃ e, w = some e ∧ ¬ (¬ (G 6 e &&& 1 = 0) ∧ G 6 dd &&& 1 = 0)) → Pp (some (.int 0)) (K, I, P, n, s)) : xC (d + 1) mX1_isBetterGiver [(.ref L), (.int (nI m)), (.int (nI v))] (K, I, P, n, s) Pp := by
  refine y_met 0 0 ?_
  show xB (d + 1) 1 cX1_isBetterGiver (some .boolean) false (xE n s 0 0 Pp) 0 [some (.ref L), some (.int (nI m)), some (.int (nI v)), none] [] (K, I, P, n, s)
  have hc := hS.2.2.2.1
  have hm12 : m < 12 := by omega
  cases w with
  | none =>
    refine y_aload_n dX1_isBetterGiver_0 rfl ?_
    refine y_getr 1 7 dX1_isBetterGiver_1 rfl rfl hS.1.1 (r1_7 hS.1) ?_
    refine y_iload_n dX1_isBetterGiver_4 rfl ?_
    refine y_ialdN (v) dX1_isBetterGiver_5 (k1_7 hS.1) rfl (by omega) (by omega) hgv ?_
    refine y_istore_n dX1_isBetterGiver_6 (by first | (simp; done) | (simp; decide)) (fun x1 e_x1 => ?_)
    subst e_x1
    refine y_aload_n dX1_isBetterGiver_7 rfl ?_
    refine y_iload_n dX1_isBetterGiver_8 rfl ?_
    refine y_callV1 mX1_holds dX1_isBetterGiver_9 rfl rfl hS.1.1 (Nat.le_of_ble_eq_true rfl) (kholds (d := d) hS.1 ho hc (fun q hq e => absurd e (fun e => by have := ho.2.2.2.2.2 q hq; have := nI_inj (by decide) (by omega) (show nI 20 = nI q from e); omega)) (fun _ => ?_))
    refine y_if_eq 41 dX1_isBetterGiver_12 (by decide) (fun _ => ?_) (fun q => absurd q (by decide))
    refine y_iconst (v := 1) dX1_isBetterGiver_41 (by decide) ?_
    refine y_goto 46 dX1_isBetterGiver_42 (by decide) ?_
    exact y_retz dX1_isBetterGiver_46 rfl rfl (Or.inr rfl) (h1 (Or.inl rfl))
  | some e =>
    obtain ⟨q, hq, hqe⟩ := hwm e rfl
    have hqc := ho.2.2.2.2.2 q hq
    rw [oM_some (hw q (by omega)) (by omega) hqe] at hgv
    refine y_aload_n dX1_isBetterGiver_0 rfl ?_
    refine y_getr 1 7 dX1_isBetterGiver_1 rfl rfl hS.1.1 (r1_7 hS.1) ?_
    refine y_iload_n dX1_isBetterGiver_4 rfl ?_
    refine y_ialdN (v) dX1_isBetterGiver_5 (k1_7 hS.1) rfl (by omega) (by omega) hgv ?_
    refine y_istore_n dX1_isBetterGiver_6 (by first | (simp; done) | (simp; decide)) (fun x1 e_x1 => ?_)
    subst e_x1
    refine y_aload_n dX1_isBetterGiver_7 rfl ?_
    refine y_iload_n dX1_isBetterGiver_8 rfl ?_
    refine y_callV1 mX1_holds dX1_isBetterGiver_9 rfl rfl hS.1.1 (Nat.le_of_ble_eq_true rfl) (kholds (d := d) hS.1 ho hc (fun _ _ _ => ?_) (fun hn => absurd rfl (hn q hq)))
    refine y_if_eq 41 dX1_isBetterGiver_12 (by decide) (fun q => absurd q (by decide)) (fun _ => ?_)
    refine y_aload_n dX1_isBetterGiver_15 rfl ?_
    refine y_getr 1 0 dX1_isBetterGiver_16 rfl rfl hS.1.1 hS.2.1 ?_
    refine y_iload_n dX1_isBetterGiver_19 rfl ?_
    refine y_aald (q) dX1_isBetterGiver_20 hS.2.2.1 rfl (by omega) (by omega) (hS.2.2.2.2.1 (q) hqc).1 ?_
    refine y_iload_n dX1_isBetterGiver_21 rfl ?_
    refine y_callV1 mX2_isWeak dX1_isBetterGiver_22 rfl rfl (hS.2.2.2.2.1 (q) hqc).2.1 (Nat.le_of_ble_eq_true rfl) (kisWeak (d := d) (hS.2.2.2.2.1 q hqc).2 (hM q hqc) hv hqe (fun c22 => ?_) (fun c22 => ?_))
    · refine y_if_eq 45 dX1_isBetterGiver_25 (by decide) (fun q => absurd q (by decide)) (fun _ => ?_)
      refine y_aload_n dX1_isBetterGiver_28 rfl ?_
      refine y_getr 1 0 dX1_isBetterGiver_29 rfl rfl hS.1.1 hS.2.1 ?_
      refine y_iload_n dX1_isBetterGiver_32 rfl ?_
      refine y_aald (m) dX1_isBetterGiver_33 hS.2.2.1 rfl (by omega) (by omega) (hS.2.2.2.2.1 (m) hm).1 ?_
      refine y_iload_n dX1_isBetterGiver_34 rfl ?_
      refine y_callV1 mX2_isWeak dX1_isBetterGiver_35 rfl rfl (hS.2.2.2.2.1 (m) hm).2.1 (Nat.le_of_ble_eq_true rfl) (kisWeak (d := d) (hS.2.2.2.2.1 m hm).2 (hM m hm) hv hd (fun c34 => ?_) (fun c34 => ?_))
      · refine y_if_ne 45 dX1_isBetterGiver_38 (by decide) (fun _ => ?_) (fun q => absurd q (by decide))
        refine y_iconst (v := 0) dX1_isBetterGiver_45 (by decide) ?_
        exact y_retz dX1_isBetterGiver_46 rfl rfl (Or.inl rfl) (h0 ⟨e, rfl, fun c => c34 c.2⟩)
      · refine y_if_ne 45 dX1_isBetterGiver_38 (by decide) (fun q => absurd q (by decide)) (fun _ => ?_)
        refine y_iconst (v := 1) dX1_isBetterGiver_41 (by decide) ?_
        refine y_goto 46 dX1_isBetterGiver_42 (by decide) ?_
        exact y_retz dX1_isBetterGiver_46 rfl rfl (Or.inr rfl) (h1 (Or.inr ⟨e, rfl, c22, c34⟩))
    · refine y_if_eq 45 dX1_isBetterGiver_25 (by decide) (fun _ => ?_) (fun q => absurd q (by decide))
      refine y_iconst (v := 0) dX1_isBetterGiver_45 (by decide) ?_
      exact y_retz dX1_isBetterGiver_46 rfl rfl (Or.inl rfl) (h0 ⟨e, rfl, fun c => c.1 c22⟩)
def xFg (L : Nat) (I I' : Nat → Nat → Int32) : Prop := ∀ a, a ≠ L + 5 → I' a = I a
theorem xFg.tr {L : Nat} {I I' I2 : Nat → Nat → Int32} (h : xFg L I I') (h2 : xFg L I' I2) : xFg L I I2 := fun a p => (h2 a p).trans (h a p)
theorem xFg.L {L : Nat} {I I' : Nat → Nat → Int32} (h : xFg L I I') : xFl L I I' := fun a p => h a (by omega)
theorem xFg.lo {L : Nat} {I I' : Nat → Nat → Int32} {G : xX} {ord : List Nat} (h : xFg L I I') (ho : xLo I G L ord) : xLo I' G L ord := ho.fr (by rw [h L (by omega)]) (h _ (by omega)) (h _ (by omega))
def sTg (G : xX) (l : List Nat) (v : Nat) : Option Nat := l.foldl (sGv G (nI v)) none
theorem kfg_in {d o L : Nat} {G : xX} {Q : Option Value → xH → Prop} {K : Nat → Nat × Nat} {P : Nat → Nat → Option Nat} {n s : Nat} (hS : xSL K P o L (gC G)) (hw : ∀ m, m < 12 → wfM G m) {ord : List Nat} {p q : Nat} (he : ord[p]? = some q) : ∀ (t v : Nat) (I : Nat → Nat → Int32), v + t = 64 → xMos I G o → xLo I G L ord → (∀ b, b < 64 → I (L + 5) b = oM (sTg G (ord.take (if b < v then p + 1 else p)) b)) → (∀ I' x3, xFg L I I' → (∀ b, b < 64 → I' (L + 5) b = oM (sTg G (ord.take (p + 1)) b)) → xB (d + 2) 1 cX1_findGivers none false Q 69 [some (.ref L), some (.int (nI p)), some (.int (nI q)), some (.int x3)] [] (K, I', P, n, s)) → xB (d + 2) 1 cX1_findGivers none false Q 28 [some (.ref L), some (.int (nI p)), some (.int (nI q)), some (.int (nI v))] [] (K, I, P, n, s) := by
  have hc := hS.2.2.2.1
  intro t
  induction t with
  | zero =>
    intro v I hv hM ho hg k1
    obtain rfl : v = 64 := by omega
    refine y_iload_n dX1_findGivers_28 rfl ?_
    refine y_bipush (v := 64) dX1_findGivers_29 (by decide) ?_
    refine y_icmpN_ge 69 (64) (64) dX1_findGivers_31 (by decide) rfl rfl (by omega) (by omega) (fun _ => ?_) (fun c31 => absurd c31 (by omega))
    exact k1 I _ (fun _ _ => rfl) (fun b hb => by have := hg b hb; rw [if_pos hb] at this; exact this)
  | succ t ih =>
    intro v I hv hM ho hg k1
    have hqm := List.mem_of_getElem? he
    have hq := ho.2.2.2.2.2 q hqm
    have hq12 : q < 12 := by omega
    have hgv := hg v (by omega)
    rw [if_neg (Nat.lt_irrefl v)] at hgv
    have hsame : sTg G (ord.take (p + 1)) v = sTg G (ord.take p) v → xB (d + 2) 1 cX1_findGivers none false Q 28 [some (.ref L), some (.int (nI p)), some (.int (nI q)), some (.int (nI (v + 1)))] [] (K, I, P, n, s) := fun hsm => ih (v + 1) I (by omega) hM ho (fun b hb => by
      by_cases e : b = v
      · subst e; rw [if_pos (by omega), hsm]; exact hgv
      · rw [hg b hb]; congr 3; by_cases c : b < v
        · rw [if_pos c, if_pos (by omega)]
        · rw [if_neg c, if_neg (by omega)]) k1
    have hstep : sTg G (ord.take (p + 1)) v = sGv G (nI v) (sTg G (ord.take p) v) q := by unfold sTg; rw [take_app he, List.foldl_append]; rfl
    refine y_iload_n dX1_findGivers_28 rfl ?_
    refine y_bipush (v := 64) dX1_findGivers_29 (by decide) ?_
    refine y_icmpN_ge 69 (v) (64) dX1_findGivers_31 (by decide) rfl rfl (by omega) (by omega) (fun c31 => absurd c31 (by omega)) (fun _ => ?_)
    refine y_aload_n dX1_findGivers_34 rfl ?_
    refine y_getr 1 0 dX1_findGivers_35 rfl rfl hS.1.1 hS.2.1 ?_
    refine y_iload_n dX1_findGivers_38 rfl ?_
    refine y_aald (q) dX1_findGivers_39 hS.2.2.1 rfl (by omega) (by omega) (hS.2.2.2.2.1 (q) hq).1 ?_
    refine y_iload_n dX1_findGivers_40 rfl ?_
    refine y_callV1 mX2_offers dX1_findGivers_41 rfl rfl (hS.2.2.2.2.1 (q) hq).2.1 (Nat.le_of_ble_eq_true rfl) (koffers (d := d + 1) (hS.2.2.2.2.1 q hq).2 (hM q hq) (hw q hq12) (show v < 64 by omega) (fun dd hs hh => ?_) (fun hh => ?_))
    · refine y_if_eq 63 dX1_findGivers_44 (by decide) (fun q => absurd q (by decide)) (fun _ => ?_)
      refine y_aload_n dX1_findGivers_47 rfl ?_
      refine y_iload_n dX1_findGivers_48 rfl ?_
      refine y_iload_n dX1_findGivers_49 rfl ?_
      refine y_callV2 mX1_isBetterGiver dX1_findGivers_50 rfl rfl hS.1.1 (Nat.le_of_ble_eq_true rfl) (kisBetter (d := d) (ord := ord) (w := sTg G (ord.take p) v) hS hM hw ho hq (show v < 64 by omega) hs hgv (fun e he => (sGv_mem he).elim (fun c => by cases c) (fun ⟨q2, c1, c2⟩ => ⟨q2, List.mem_of_mem_take c1, c2⟩)) (fun hb => ?_) (fun hb => ?_))
      · refine y_if_eq 63 dX1_findGivers_53 (by decide) (fun q => absurd q (by decide)) (fun _ => ?_)
        refine y_aload_n dX1_findGivers_56 rfl ?_
        refine y_getr 1 7 dX1_findGivers_57 rfl rfl hS.1.1 (r1_7 hS.1) ?_
        refine y_iload_n dX1_findGivers_60 rfl ?_
        refine y_iload_n dX1_findGivers_61 rfl ?_
        refine y_iast (v) dX1_findGivers_62 (k1_7 hS.1) rfl (by omega) (by omega) ?_
        refine y_iinc dX1_findGivers_63 rfl (fun x1 e_x1 => ?_)
        obtain rfl : x1 = nI (v + 1) := by rw [e_x1]; exact nI_1 (v)
        refine y_goto 28 dX1_findGivers_66 (by decide) ?_
        have hnew : sTg G (ord.take (p + 1)) v = some dd := by
          rw [hstep]
          unfold sGv
          rw [hs]
          simp only
          rw [if_pos hh]
          rcases hb with e | ⟨e, e1, e2⟩
          · rw [e]
          · rw [e1]; simp only; rw [if_pos e2]
        have hf : xFg L I (xuI I (L + 5) v (nI q)) := fun a p => xuI_ne p
        refine ih (v + 1) _ (by omega) (hf.L.mos hS hM) (hf.lo ho) (fun b hb2 => ?_) (fun I' x3 p1 p2 => k1 I' x3 (hf.tr p1) p2)
        by_cases e : b = v
        · subst e; rw [if_pos (by omega), hnew, xuI_s]; exact (oM_some (hw q hq12) hq12 hs).symm
        · rw [xuI_o (Or.inr e), hg b hb2]; congr 3; by_cases c : b < v
          · rw [if_pos c, if_pos (by omega)]
          · rw [if_neg c, if_neg (by omega)]
      · refine y_if_eq 63 dX1_findGivers_53 (by decide) (fun _ => ?_) (fun q => absurd q (by decide))
        refine y_iinc dX1_findGivers_63 rfl (fun x2 e_x2 => ?_)
        obtain rfl : x2 = nI (v + 1) := by rw [e_x2]; exact nI_1 (v)
        refine y_goto 28 dX1_findGivers_66 (by decide) ?_
        obtain ⟨e, he1, he2⟩ := hb
        refine hsame ?_
        rw [hstep, he1]
        unfold sGv
        rw [hs]
        simp only
        rw [if_pos hh, if_neg he2]
    · refine y_if_eq 63 dX1_findGivers_44 (by decide) (fun _ => ?_) (fun q => absurd q (by decide))
      refine y_iinc dX1_findGivers_63 rfl (fun x3 e_x3 => ?_)
      obtain rfl : x3 = nI (v + 1) := by rw [e_x3]; exact nI_1 (v)
      refine y_goto 28 dX1_findGivers_66 (by decide) ?_
      refine hsame ?_
      rw [hstep]
      unfold sGv
      cases hs : sOf G q (nI v) with
      | none => rfl
      | some e => simp only; rw [if_neg (hh e hs)]
theorem kfg_out {d o L : Nat} {G : xX} {Q : Option Value → xH → Prop} {K : Nat → Nat × Nat} {P : Nat → Nat → Option Nat} {n s : Nat} (hS : xSL K P o L (gC G)) (hw : ∀ m, m < 12 → wfM G m) {ord : List Nat} : ∀ (l : List Nat) (p : Nat) (I : Nat → Nat → Int32) (v2 v3 : Option Value), p ≤ ord.length → ord.drop p = l → xMos I G o → xLo I G L ord → (∀ b, b < 64 → I (L + 5) b = oM (sTg G (ord.take p) b)) → (∀ I' ls, xFg L I I' → xLg I' G L ord → xB (d + 2) 1 cX1_findGivers none false Q 75 ls [] (K, I', P, n, s)) → xB (d + 2) 1 cX1_findGivers none false Q 11 [some (.ref L), some (.int (nI p)), v2, v3] [] (K, I, P, n, s) := by
  have hc := hS.2.2.2.1
  intro l
  induction l with
  | nil =>
    intro p I v2 v3 hp hd hM ho hg k1
    have h1 := drop_nil hd
    have hol := okl_len ho.2.2.2.2
    refine y_iload_n dX1_findGivers_11 rfl ?_
    refine y_aload_n dX1_findGivers_12 rfl ?_
    refine y_getv 1 3 dX1_findGivers_13 rfl rfl hS.1.1 ho.1 ?_
    refine y_icmpN_ge 75 (p) (ord.length) dX1_findGivers_16 (by decide) rfl rfl (by omega) (by omega) (fun _ => ?_) (fun c16 => absurd c16 (by omega))
    exact k1 I _ (fun _ _ => rfl) (fun b hb => by rw [hg b hb, List.take_of_length_le h1]; unfold sTg; rw [sGv_am _ _ (fun e q => by cases q)])
  | cons q r ih =>
    intro p I v2 v3 hp hd hM ho hg k1
    obtain ⟨g1, g2, g3⟩ := drop_get hd
    have hol := okl_len ho.2.2.2.2
    have hq := ho.2.2.2.2.2 q (List.mem_of_getElem? g2)
    refine y_iload_n dX1_findGivers_11 rfl ?_
    refine y_aload_n dX1_findGivers_12 rfl ?_
    refine y_getv 1 3 dX1_findGivers_13 rfl rfl hS.1.1 ho.1 ?_
    refine y_icmpN_ge 75 (p) (ord.length) dX1_findGivers_16 (by decide) rfl rfl (by omega) (by omega) (fun c16 => absurd c16 (by omega)) (fun _ => ?_)
    refine y_aload_n dX1_findGivers_19 rfl ?_
    refine y_getr 1 1 dX1_findGivers_20 rfl rfl hS.1.1 (r1_1 hS.1) ?_
    refine y_iload_n dX1_findGivers_23 rfl ?_
    refine y_ialdN (p) dX1_findGivers_24 (k1_1 hS.1) rfl (by omega) (by omega) (ho.2.1 p q g2) ?_
    refine y_istore_n dX1_findGivers_25 (by first | (simp; done) | (simp; decide)) (fun x1 e_x1 => ?_)
    subst e_x1
    refine y_iconst (v := 0) dX1_findGivers_26 (by decide) ?_
    refine y_istore_n dX1_findGivers_27 (by first | (simp; done) | (simp; decide)) (fun x2 e_x2 => ?_)
    subst e_x2
    refine kfg_in hS hw g2 64 0 I rfl hM ho (fun b hb => by rw [if_neg (by omega)]; exact hg b hb) (fun I2 x3 f1 f2 => ?_)
    refine y_iinc dX1_findGivers_69 rfl (fun y e_y => ?_)
    obtain rfl : y = nI (p + 1) := by rw [e_y]; exact nI_1 p
    refine y_goto 11 dX1_findGivers_72 (by decide) ?_
    exact ih (p + 1) I2 _ _ g1 g3 (f1.L.mos hS hM) (f1.lo ho) f2 (fun I' ls p1 p2 => k1 I' ls (f1.tr p1) p2)
theorem kfindGivers {d : Nat} {Pp : Option Value → xH → Prop} {K : Nat → Nat × Nat} {I : Nat → Nat → Int32} {P : Nat → Nat → Option Nat} {n s : Nat} {o L : Nat} {G : xX} {ord : List Nat} (hS : xSL K P o L (gC G)) (hw : ∀ m, m < 12 → wfM G m) (hM : xMos I G o) (ho : xLo I G L ord) (hp : ∀ I', xFg L I I' → xLg I' G L ord → Pp none (K, I', P, n, s)) : xC (d + 2) mX1_findGivers [(.ref L)] (K, I, P, n, s) Pp := by
  refine y_met 0 0 ?_
  show xB (d + 2) 1 cX1_findGivers none false (xE n s 0 0 Pp) 0 [some (.ref L), none, none, none] [] (K, I, P, n, s)
  refine y_aload_n dX1_findGivers_0 rfl ?_
  refine y_getr 1 7 dX1_findGivers_1 rfl rfl hS.1.1 (r1_7 hS.1) ?_
  refine y_bipush (v := 20) dX1_findGivers_4 (by decide) ?_
  refine y_callS2 mJ7_fill_53178 0 dX1_findGivers_6 rfl rfl (Nat.le_of_ble_eq_true rfl) (kfill (d := d + 1) (k1_7 hS.1) (by decide) (fun I2 f1 f2 => ?_))
  have f1 : xFg L I I2 := f1
  refine y_iconst (v := 0) dX1_findGivers_9 (by decide) ?_
  refine y_istore_n dX1_findGivers_10 (by first | (simp; done) | (simp; decide)) (fun x1 e_x1 => ?_)
  subst e_x1
  exact kfg_out hS hw ord 0 I2 _ _ (Nat.zero_le _) rfl (f1.L.mos hS hM) (f1.lo ho) (fun b hb => f2 b hb) (fun I' ls p1 p2 => y_retv dX1_findGivers_75 rfl rfl (hp I' (f1.tr p1) p2))
def xFm (L : Nat) (I I' : Nat → Nat → Int32) : Prop := ∀ a, a ≠ L + 4 → I' a = I a
theorem karr_met {d o L r c : Nat} {x2 : Option Value} {Q : Option Value → xH → Prop} {K : Nat → Nat × Nat} {P : Nat → Nat → Option Nat} {n s : Nat} (hS : xSL K P o L c) : ∀ (t i : Nat) (I : Nat → Nat → Int32), i + t = 12 → (∀ q, q < i → I (L + 4) q = 0) → (∀ I' x3, xFm L I I' → (∀ q, q < 12 → I' (L + 4) q = 0) → xB d 1 cX1_arrange none false Q 35 [some (.ref L), some (.int (nI r)), x2, some (.int x3)] [] (K, I', P, n, s)) → xB d 1 cX1_arrange none false Q 16 [some (.ref L), some (.int (nI r)), x2, some (.int (nI i))] [] (K, I, P, n, s) := by
  intro t
  induction t with
  | zero =>
    intro i I hi h k1
    obtain rfl : i = 12 := by omega
    refine y_iload_n dX1_arrange_16 rfl ?_
    refine y_bipush (v := 12) dX1_arrange_17 (by decide) ?_
    refine y_icmpN_ge 35 (12) (12) dX1_arrange_19 (by decide) rfl rfl (by omega) (by omega) (fun _ => ?_) (fun c19 => absurd c19 (by omega))
    exact k1 I _ (fun _ _ => rfl) h
  | succ t ih =>
    intro i I hi h k1
    refine y_iload_n dX1_arrange_16 rfl ?_
    refine y_bipush (v := 12) dX1_arrange_17 (by decide) ?_
    refine y_icmpN_ge 35 (i) (12) dX1_arrange_19 (by decide) rfl rfl (by omega) (by omega) (fun c19 => absurd c19 (by omega)) (fun _ => ?_)
    refine y_aload_n dX1_arrange_22 rfl ?_
    refine y_getr 1 5 dX1_arrange_23 rfl rfl hS.1.1 (r1_5 hS.1) ?_
    refine y_iload_n dX1_arrange_26 rfl ?_
    refine y_iconst (v := 0) dX1_arrange_27 (by decide) ?_
    refine y_bast (i) dX1_arrange_28 (k1_5 hS.1) rfl (by omega) (by omega) (by decide) ?_
    refine y_iinc dX1_arrange_29 rfl (fun x1 e_x1 => ?_)
    obtain rfl : x1 = nI (i + 1) := by rw [e_x1]; exact nI_1 (i)
    refine y_goto 16 dX1_arrange_32 (by decide) ?_
    refine ih (i + 1) _ (by omega) (fun q hq => ?_) (fun I' x3 p1 p2 => k1 I' x3 (fun a p => (p1 a p).trans (xuI_ne p)) p2)
    by_cases e : q = i
    · subst e; exact xuI_s
    · rw [xuI_o (Or.inr e)]; exact h q (by omega)
/-- a layout as a load from r arranges it -/
def xLy (I : Nat → Nat → Int32) (G : xX) (L r : Nat) (lz : Bool) : Prop := xLo I G L (sOrd G r) ∧ xLg I G L (sOrd G r) ∧ xLb I L (sBeg G r) ∧ I L 8 = bI lz
theorem karrange {d : Nat} {Pp : Option Value → xH → Prop} {K : Nat → Nat × Nat} {I : Nat → Nat → Int32} {P : Nat → Nat → Option Nat} {n s : Nat} {o L r : Nat} {G : xX} {lz : Bool} (hS : xSL K P o L (gC G)) (hw : ∀ m, m < 12 → wfM G m) (hr : r < gC G) (hM : xMos I G o) (hp : ∀ I', xFl L I I' → xLy I' G L r lz → Pp none (K, I', P, n, s)) : xC (d + 13) mX1_arrange [(.ref L), (.int (nI r)), (.int (bI lz))] (K, I, P, n, s) Pp := by
  refine y_met 0 0 ?_
  show xB (d + 13) 1 cX1_arrange none false (xE n s 0 0 Pp) 0 [some (.ref L), some (.int (nI r)), some (.int (bI lz)), none] [] (K, I, P, n, s)
  refine y_aload_n dX1_arrange_0 rfl ?_
  refine y_callV0 mX1_clear dX1_arrange_1 rfl rfl hS.1.1 (Nat.le_of_ble_eq_true rfl) (kclear (d := d + 11) hS.1 (fun I1 c1 c2 c3 c4 => ?_))
  refine y_aload_n dX1_arrange_4 rfl ?_
  refine y_iload_n dX1_arrange_5 rfl ?_
  refine y_putz 1 8 dX1_arrange_6 rfl rfl rfl hS.1.1 (show bI lz = 0 ∨ bI lz = 1 by cases lz <;> decide) ?_
  refine y_aload_n dX1_arrange_9 rfl ?_
  refine y_iload_n dX1_arrange_10 rfl ?_
  have hM1 := xFl.mos (xFl.u (L := L) (a := L) (j := 8) (x := bI lz) (I := I1) (by omega) (by omega)) hS (c1.mos hS hM)
  refine y_callV1 mX1_placeFrom dX1_arrange_11 rfl rfl hS.1.1 (Nat.le_of_ble_eq_true rfl) (kplaceFrom (d := d + 11) hS hw hr hM1 (xLo_nil (by rw [xuI_o (Or.inr (by decide))]; exact c2) (fun j hj => by rw [xuI_o (Or.inl (by omega))]; exact c4 j hj)) (fun I3 a1 a2 => ?_))
  refine y_iconst (v := 0) dX1_arrange_14 (by decide) ?_
  refine y_istore_n dX1_arrange_15 (by first | (simp; done) | (simp; decide)) (fun x1 e_x1 => ?_)
  subst e_x1
  refine karr_met hS 12 0 I3 rfl (fun q hq => absurd hq (by omega)) (fun I4 x3 m1 m2 => ?_)
  refine y_aload_n dX1_arrange_35 rfl ?_
  refine y_iload_n dX1_arrange_36 rfl ?_
  refine y_iconst (v := 0) dX1_arrange_37 (by decide) ?_
  have hM3 := a1.L.mos hS hM1
  have hm4 : xFl L I3 I4 := fun a p => m1 a (by omega)
  have hM4 := hm4.mos hS hM3
  have hD : xLD I4 G L ([], []) := ⟨fun q hq => by rw [m2 q hq]; rfl, okl0, by rw [m1 L (by omega), a1 L 6 (by omega) (by omega) (Or.inr (by omega)), xuI_o (Or.inr (by decide))]; exact c3, fun p q hq => by simp at hq, Nat.le_refl _⟩
  refine y_callS3 mX1_beginFrom 0 dX1_arrange_38 rfl rfl (Nat.le_of_ble_eq_true rfl) (kbeginFrom (d := d) hS hw 12 I4 r 0 ([], []) _ rfl hr hM4 hD (fun I5 b1 b2 => ?_))
  refine y_aload_n dX1_arrange_41 rfl ?_
  have ho5 : xLo I5 G L (sOrd G r) := (a2.fr (by rw [m1 L (by omega)]) (m1 _ (by omega)) (m1 _ (by omega))).fr (b1 L 3 (by omega) (by omega) (Or.inr (by omega))) (funext fun j => b1 _ j (by omega) (by omega) (Or.inl (by omega))) (funext fun j => b1 _ j (by omega) (by omega) (Or.inl (by omega)))
  refine y_callV0 mX1_findGivers dX1_arrange_42 rfl rfl hS.1.1 (Nat.le_of_ble_eq_true rfl) (kfindGivers (d := d + 10) hS hw (b1.L.mos hS hM4) ho5 (fun I6 g1 g2 => ?_))
  refine y_retv dX1_arrange_45 rfl rfl (hp I6 ?_ ⟨g1.lo (ho5), g2, ⟨?_, ?_⟩, ?_⟩)
  · exact c1.tr ((xFl.u (by omega) (by omega)).tr (a1.L.tr ((show xFl L I3 I4 from fun a p => m1 a (by omega)).tr (b1.L.tr g1.L))))
  · rw [g1 L (by omega)]; exact b2.2.2.1
  · intro p q hq; rw [g1 (L + 3) (by omega)]; exact b2.2.2.2.1 p q hq
  · rw [g1 L (by omega), b1 L 8 (by omega) (by omega) (Or.inr (by omega)), m1 L (by omega), a1 L 8 (by omega) (by omega) (Or.inr (by omega)), xuI_s]
