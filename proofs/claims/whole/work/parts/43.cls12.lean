/-- what the adding of a start may change -/
def xFt (M : Nat) (I I' : Nat → Nat → Int32) : Prop := ∀ a j, a ≠ M + 3 → a ≠ M + 4 → (a ≠ M ∨ j ≠ 8) → I' a j = I a j
theorem xFt.rf {M : Nat} {I : Nat → Nat → Int32} : xFt M I I := fun _ _ _ _ _ => rfl
theorem xFt.tr {M : Nat} {I I' I2 : Nat → Nat → Int32} (h : xFt M I I') (h2 : xFt M I' I2) : xFt M I I2 := fun a j p q r => (h2 a j p q r).trans (h a j p q r)
theorem xFt.a {M a : Nat} {I I' : Nat → Nat → Int32} (h : xFt M I I') (ha : a < M ∨ M + 4 < a ∨ (M < a ∧ a < M + 3)) : I' a = I a := funext fun j => h a j (by omega) (by omega) (Or.inl (by omega))
theorem xMst_add {I : Nat → Nat → Int32} {G : xX} {M e st : Nat} {sl : List Nat} (h : xMst I G M sl st) : xMst (xuI (xuI (xuI I (M + 3) sl.length (nI (e / 20))) (M + 4) sl.length (G 5 e)) M 8 (nI (sl.length + 1))) G M (sl ++ [e]) st := by
  obtain ⟨h1, h2, h3⟩ := h
  refine ⟨by rw [xuI_s]; simp, by rw [xuI_o (Or.inr (by decide)), xuI_o (Or.inl (by omega)), xuI_o (Or.inl (by omega))]; exact h2, fun i q hi => ?_⟩
  rw [xuI_o (Or.inl (by omega)), xuI_o (Or.inl (by omega)), xuI_o (a := M) (Or.inl (by omega))]
  rcases Nat.lt_trichotomy i sl.length with z | z | z
  · rw [List.getElem?_append_left z] at hi
    rw [xuI_o (Or.inr (by omega)), xuI_o (Or.inr (by omega)), xuI_o (Or.inl (by omega))]
    exact h3 i q hi
  · subst z
    rw [List.getElem?_append_right (Nat.le_refl _), Nat.sub_self] at hi
    simp at hi
    rw [← hi, xuI_s, xuI_s]
    exact ⟨rfl, rfl⟩
  · rw [List.getElem?_eq_none (by simp; omega)] at hi; cases hi
def oL (o : Option Nat) : List Nat := match o with
  | none => []
  | some e => [e]
theorem kaddStart {d : Nat} {Pp : Option Value → xH → Prop} {K : Nat → Nat × Nat} {I : Nat → Nat → Int32} {P : Nat → Nat → Option Nat} {n s : Nat} {o L m v : Nat} {G : xX} {ord sl : List Nat} {st : Nat} (hX : xAt K P (o + 2) 3) (hS : xSL K P o L (gC G)) (hw : ∀ m, m < 12 → wfM G m) (hM : xMos I G o) (ho : xLo I G L ord) (hG : xLg I G L ord) (hm : m ∈ ord) (hv : v < 64) (hs : xMst I G (o + 2) sl st) (hl : sl.length ≤ 12) (hp : ∀ I', xFt (o + 2) I I' → xMst I' G (o + 2) (sl ++ oL (sFi G ord m (nI v))) st → Pp none (K, I', P, n, s)) : xC (d + 2) mX3_addStart [(.ref (o + 2)), (.ref L), (.int (nI m)), (.int (nI v))] (K, I, P, n, s) Pp := by
  refine y_met 0 0 ?_
  show xB (d + 2) 3 cX3_addStart none false (xE n s 0 0 Pp) 0 [some (.ref (o + 2)), some (.ref L), some (.int (nI m)), some (.int (nI v)), none] [] (K, I, P, n, s)
  have hc12 := hS.2.2.2.1
  have ho12 : ∀ q ∈ ord, q < 12 := fun q hq => by have := ho.2.2.2.2.2 q hq; omega
  have hmc := ho.2.2.2.2.2 m hm
  refine y_iload_n dX3_addStart_0 rfl ?_
  refine y_iconst (v := (-1)) dX3_addStart_1 (by decide) ?_
  refine y_icmp_ne 10 dX3_addStart_2 (by decide) (fun _ => ?_) (fun c2 => absurd c2 (nI_m1 (by omega)))
  refine y_aload_n dX3_addStart_10 rfl ?_
  refine y_iload_n dX3_addStart_11 rfl ?_
  refine y_iload_n dX3_addStart_12 rfl ?_
  refine y_callV2 mX1_giverOf dX3_addStart_13 rfl rfl hS.1.1 (Nat.le_of_ble_eq_true rfl) (kgiverOf (d := d) hS hM hG hw hmc hv ?_)
  refine y_istore dX3_addStart_16 (by first | (simp; done) | (simp; decide)) (fun x4 e_x4 => ?_)
  cases hf : sFi G ord m (nI v) with
  | none =>
    rw [hf] at hp e_x4
    obtain rfl : x4 = 20 := e_x4
    refine y_aload_n dX3_addStart_18 rfl ?_
    refine y_iload dX3_addStart_19 rfl ?_
    refine y_callV1 mX1_holds dX3_addStart_21 rfl rfl hS.1.1 (Nat.le_of_ble_eq_true rfl) (kholds (d := d + 1) hS.1 ho hc12 (fun q hq e => absurd e (fun e => by have := ho12 q hq; have := nI_inj (by decide) (by omega) (show nI 20 = nI q from e); omega)) (fun _ => ?_))
    refine y_if_eq 78 dX3_addStart_24 (by decide) (fun _ => ?_) (fun q => absurd q (by decide))
    exact y_retv dX3_addStart_78 rfl rfl (hp I xFt.rf (by rw [show oL none = [] from rfl, List.append_nil]; exact hs))
  | some e =>
    rw [hf] at hp e_x4
    obtain ⟨q, hq, hs4, hqe⟩ := sFi_4 hw ho12 hm hf
    have he20 : e / 20 = q := nI_inj (by have := (sOf_lt (hw q (ho12 q hq)).2.2.1.2 (ho12 q hq) hs4).1; omega) (by have := ho12 q hq; omega) hqe
    rw [hqe] at e_x4
    subst e_x4
    have hqc := ho.2.2.2.2.2 q hq
    refine y_aload_n dX3_addStart_18 rfl ?_
    refine y_iload dX3_addStart_19 rfl ?_
    refine y_callV1 mX1_holds dX3_addStart_21 rfl rfl hS.1.1 (Nat.le_of_ble_eq_true rfl) (kholds (d := d + 1) hS.1 ho hc12 (fun _ _ _ => ?_) (fun hn => absurd rfl (hn q hq)))
    refine y_if_eq 78 dX3_addStart_24 (by decide) (fun q => absurd q (by decide)) (fun _ => ?_)
    refine y_aload_n dX3_addStart_27 rfl ?_
    refine y_getv 3 8 dX3_addStart_28 rfl rfl hX.1 hs.1 ?_
    refine y_bipush (v := 12) dX3_addStart_31 (by decide) ?_
    refine y_icmpN_gt 78 (sl.length) (12) dX3_addStart_33 (by decide) rfl rfl (by omega) (by omega) (fun c33 => absurd c33 (by omega)) (fun _ => ?_)
    refine y_aload_n dX3_addStart_36 rfl ?_
    refine y_getr 3 6 dX3_addStart_37 rfl rfl hX.1 (r3_6 hX) ?_
    refine y_aload_n dX3_addStart_40 rfl ?_
    refine y_getv 3 8 dX3_addStart_41 rfl rfl hX.1 hs.1 ?_
    refine y_iload dX3_addStart_44 rfl ?_
    refine y_iast (sl.length) dX3_addStart_46 (k3_6 hX) rfl (by omega) (by omega) ?_
    refine y_aload_n dX3_addStart_47 rfl ?_
    refine y_getr 3 7 dX3_addStart_48 rfl rfl hX.1 (r3_7 hX) ?_
    refine y_aload_n dX3_addStart_51 rfl ?_
    refine y_getv 3 8 dX3_addStart_52 rfl rfl hX.1 ((xuI_o (Or.inl (by omega))).trans hs.1) ?_
    refine y_aload_n dX3_addStart_55 rfl ?_
    refine y_getr 1 0 dX3_addStart_56 rfl rfl hS.1.1 hS.2.1 ?_
    refine y_iload dX3_addStart_59 rfl ?_
    refine y_aald (q) dX3_addStart_61 hS.2.2.1 rfl (by omega) (by omega) (hS.2.2.2.2.1 (q) hqc).1 ?_
    refine y_getr 2 3 dX3_addStart_62 rfl rfl (hS.2.2.2.2.1 (q) hqc).2.1 (r2_3 (hS.2.2.2.2.1 (q) hqc).2) ?_
    refine y_iload_n dX3_addStart_65 rfl ?_
    refine y_ialdN (v) dX3_addStart_66 (k2_3 (hS.2.2.2.2.1 (q) hqc).2) rfl (by omega) (by omega) (show xuI I (o + 2 + 3) sl.length (nI q) (o + 59 + 13 * q + 3) v = G 5 e from ((xuI_o (Or.inl (by omega))).trans ((hM q hqc).k1 v e hv hs4).2.1)) ?_
    refine y_iast (sl.length) dX3_addStart_67 (k3_7 hX) rfl (by omega) (by omega) ?_
    refine y_aload_n dX3_addStart_68 rfl ?_
    refine y_dup dX3_addStart_69 rfl ?_
    refine y_getv 3 8 dX3_addStart_70 rfl rfl hX.1 ((xuI_o (Or.inl (by omega))).trans ((xuI_o (Or.inl (by omega))).trans hs.1)) ?_
    refine y_iconst (v := 1) dX3_addStart_73 (by decide) ?_
    refine y_iaddv (nI (sl.length + 1)) dX3_addStart_74 (nI_add (sl.length) (1)) ?_
    refine y_puti 3 8 dX3_addStart_75 rfl rfl rfl hX.1 ?_
    refine y_retv dX3_addStart_78 rfl rfl (hp _ (fun a j p q r => by rw [xuI_o r, xuI_o (Or.inl q), xuI_o (Or.inl p)]) ?_)
    rw [← he20]
    exact xMst_add hs
theorem kaddStart0 {d : Nat} {Pp : Option Value → xH → Prop} {K : Nat → Nat × Nat} {I : Nat → Nat → Int32} {P : Nat → Nat → Option Nat} {n s : Nat} {o L m : Nat} {G : xX} {ord : List Nat} (hS : xSL K P o L (gC G)) (ho : xLo I G L ord) (hp : Pp none (K, I, P, n, s)) : xC (d + 2) mX3_addStart [(.ref (o + 2)), (.ref L), (.int (nI m)), (.int (-1))] (K, I, P, n, s) Pp := by
  refine y_met 0 0 ?_
  show xB (d + 2) 3 cX3_addStart none false (xE n s 0 0 Pp) 0 [some (.ref (o + 2)), some (.ref L), some (.int (nI m)), some (.int (-1)), none] [] (K, I, P, n, s)
  have hc12 := hS.2.2.2.1
  have ho12 : ∀ q ∈ ord, q < 12 := fun q hq => by have := ho.2.2.2.2.2 q hq; omega
  refine y_iload_n dX3_addStart_0 rfl ?_
  refine y_iconst (v := (-1)) dX3_addStart_1 (by decide) ?_
  refine y_icmp_ne 10 dX3_addStart_2 (by decide) (fun q => absurd q (by decide)) (fun _ => ?_)
  refine y_bipush (v := 20) dX3_addStart_5 (by decide) ?_
  refine y_goto 16 dX3_addStart_7 (by decide) ?_
  refine y_istore dX3_addStart_16 (by first | (simp; done) | (simp; decide)) (fun x1 e_x1 => ?_)
  subst e_x1
  refine y_aload_n dX3_addStart_18 rfl ?_
  refine y_iload dX3_addStart_19 rfl ?_
  refine y_callV1 mX1_holds dX3_addStart_21 rfl rfl hS.1.1 (Nat.le_of_ble_eq_true rfl) (kholds (d := d + 1) hS.1 ho hc12 (fun q hq e => absurd e (fun e => by have := ho12 q hq; have := nI_inj (by decide) (by omega) (show nI 20 = nI q from e); omega)) (fun _ => ?_))
  refine y_if_eq 78 dX3_addStart_24 (by decide) (fun _ => ?_) (fun q => absurd q (by decide))
  exact y_retv dX3_addStart_78 rfl rfl hp
theorem rBg_cons {G : xX} {ord : List Nat} {m : Nat} {r : List Nat} : rBg G ord (m :: r) = (if G 11 m = -1 then [] else oL (sFi G ord m (G 11 m))) ++ rBg G ord r := by
  conv => lhs; unfold rBg
  by_cases c : G 11 m = -1
  · rw [if_pos c, if_pos c]; rfl
  · rw [if_neg c, if_neg c]
    cases sFi G ord m (G 11 m) <;> rfl
set_option maxHeartbeats 1000000 in
theorem kpr_loop {d o L : Nat} {G : xX} {ord beg : List Nat} {x2 : Int32} {Q : Option Value → xH → Prop} {K : Nat → Nat × Nat} {P : Nat → Nat → Option Nat} {n s : Nat} (hX : xAt K P (o + 2) 3) (hS : xSL K P o L (gC G)) (hw : ∀ m, m < 12 → wfM G m)  (hbo : ∀ q ∈ beg, q ∈ ord) (hbl : beg.length ≤ 12) : ∀ (l : List Nat) (p : Nat) (I : Nat → Nat → Int32) (sl : List Nat) (v4 : Option Value), p ≤ beg.length → beg.drop p = l → xMos I G o → xLo I G L ord → xLg I G L ord → xLb I L beg → xMst I G (o + 2) sl 0 → sl.length ≤ p → (∀ I' x3 v4', xFt (o + 2) I I' → xMst I' G (o + 2) (sl ++ rBg G ord l) 0 → (sl ++ rBg G ord l).length ≤ beg.length → xB (d + 3) 3 cX3_prepare none false Q 84 [some (.ref (o + 2)), some (.ref L), some (.int x2), some (.int x3), v4'] [] (K, I', P, n, s)) → xB (d + 3) 3 cX3_prepare none false Q 45 [some (.ref (o + 2)), some (.ref L), some (.int x2), some (.int (nI p)), v4] [] (K, I, P, n, s) := by
  have hc12 := hS.2.2.2.1
  have hL := hS.2.2.2.2.2
  intro l
  induction l with
  | nil =>
    intro p I sl v4 hp hd hM ho hG hb hs hsl k1
    have h1 := drop_nil hd
    refine y_iload_n dX3_prepare_45 rfl ?_
    refine y_aload_n dX3_prepare_46 rfl ?_
    refine y_getv 1 6 dX3_prepare_47 rfl rfl hS.1.1 hb.1 ?_
    refine y_icmpN_ge 84 (p) (beg.length) dX3_prepare_50 (by decide) rfl rfl (by omega) (by omega) (fun _ => ?_) (fun c50 => absurd c50 (by omega))
    exact k1 I _ _ xFt.rf (by rw [show rBg G ord [] = [] from rfl, List.append_nil]; exact hs) (by rw [show rBg G ord [] = [] from rfl, List.append_nil]; omega)
  | cons q r ih =>
    intro p I sl v4 hp hd hM ho hG hb hs hsl k1
    obtain ⟨g1, g2, g3⟩ := drop_get hd
    have hqo := hbo q (List.mem_of_getElem? g2)
    have hqc := ho.2.2.2.2.2 q hqo
    rw [rBg_cons] at k1
    rcases (hw q (by omega)).2.2.2.2.2.2.2.1 with hbn | ⟨v, hv, hbn⟩
    · rw [if_pos hbn, List.nil_append] at k1
      refine y_iload_n dX3_prepare_45 rfl ?_
      refine y_aload_n dX3_prepare_46 rfl ?_
      refine y_getv 1 6 dX3_prepare_47 rfl rfl hS.1.1 hb.1 ?_
      refine y_icmpN_ge 84 (p) (beg.length) dX3_prepare_50 (by decide) rfl rfl (by omega) (by omega) (fun c50 => absurd c50 (by omega)) (fun _ => ?_)
      refine y_aload_n dX3_prepare_53 rfl ?_
      refine y_getr 1 4 dX3_prepare_54 rfl rfl hS.1.1 (r1_4 hS.1) ?_
      refine y_iload_n dX3_prepare_57 rfl ?_
      refine y_ialdN (p) dX3_prepare_58 (k1_4 hS.1) rfl (by omega) (by omega) (hb.2 p q g2) ?_
      refine y_istore dX3_prepare_59 (by first | (simp; done) | (simp; decide)) (fun x1 e_x1 => ?_)
      subst e_x1
      refine y_aload_n dX3_prepare_61 rfl ?_
      refine y_aload_n dX3_prepare_62 rfl ?_
      refine y_iload dX3_prepare_63 rfl ?_
      refine y_aload_n dX3_prepare_65 rfl ?_
      refine y_getr 1 0 dX3_prepare_66 rfl rfl hS.1.1 hS.2.1 ?_
      refine y_iload dX3_prepare_69 rfl ?_
      refine y_aald (q) dX3_prepare_71 hS.2.2.1 rfl (by omega) (by omega) (hS.2.2.2.2.1 (q) hqc).1 ?_
      refine y_getv 2 8 dX3_prepare_72 rfl rfl (hS.2.2.2.2.1 (q) hqc).2.1 ((hM q hqc).b.trans hbn) ?_
      refine y_callV3 mX3_addStart dX3_prepare_75 rfl rfl hX.1 (Nat.le_of_ble_eq_true rfl) (kaddStart0 (d := d) (ord := ord) hS ho ?_)
      refine y_iinc dX3_prepare_78 rfl (fun x2 e_x2 => ?_)
      obtain rfl : x2 = nI (p + 1) := by rw [e_x2]; exact nI_1 (p)
      refine y_goto 45 dX3_prepare_81 (by decide) ?_
      exact ih (p + 1) I sl _ g1 g3 hM ho hG hb hs (by omega) k1
    · rw [if_neg (by rw [hbn]; exact nI_m1 (by omega)), hbn, ← List.append_assoc] at k1
      have hol : (oL (sFi G ord q (nI v))).length ≤ 1 := by cases sFi G ord q (nI v) <;> simp [oL]
      refine y_iload_n dX3_prepare_45 rfl ?_
      refine y_aload_n dX3_prepare_46 rfl ?_
      refine y_getv 1 6 dX3_prepare_47 rfl rfl hS.1.1 hb.1 ?_
      refine y_icmpN_ge 84 (p) (beg.length) dX3_prepare_50 (by decide) rfl rfl (by omega) (by omega) (fun c50 => absurd c50 (by omega)) (fun _ => ?_)
      refine y_aload_n dX3_prepare_53 rfl ?_
      refine y_getr 1 4 dX3_prepare_54 rfl rfl hS.1.1 (r1_4 hS.1) ?_
      refine y_iload_n dX3_prepare_57 rfl ?_
      refine y_ialdN (p) dX3_prepare_58 (k1_4 hS.1) rfl (by omega) (by omega) (hb.2 p q g2) ?_
      refine y_istore dX3_prepare_59 (by first | (simp; done) | (simp; decide)) (fun x1 e_x1 => ?_)
      subst e_x1
      refine y_aload_n dX3_prepare_61 rfl ?_
      refine y_aload_n dX3_prepare_62 rfl ?_
      refine y_iload dX3_prepare_63 rfl ?_
      refine y_aload_n dX3_prepare_65 rfl ?_
      refine y_getr 1 0 dX3_prepare_66 rfl rfl hS.1.1 hS.2.1 ?_
      refine y_iload dX3_prepare_69 rfl ?_
      refine y_aald (q) dX3_prepare_71 hS.2.2.1 rfl (by omega) (by omega) (hS.2.2.2.2.1 (q) hqc).1 ?_
      refine y_getv 2 8 dX3_prepare_72 rfl rfl (hS.2.2.2.2.1 (q) hqc).2.1 ((hM q hqc).b.trans hbn) ?_
      refine y_callV3 mX3_addStart dX3_prepare_75 rfl rfl hX.1 (Nat.le_of_ble_eq_true rfl) (kaddStart (d := d) (ord := ord) hX hS hw hM ho hG hqo hv hs (by omega) (fun I2 f1 f2 => ?_))
      refine y_iinc dX3_prepare_78 rfl (fun x2 e_x2 => ?_)
      obtain rfl : x2 = nI (p + 1) := by rw [e_x2]; exact nI_1 (p)
      refine y_goto 45 dX3_prepare_81 (by decide) ?_
      exact ih (p + 1) I2 _ _ g1 g3 (hM.fr (fun m i _ _ => f1.a (by omega))) (ho.fr (congrFun (f1.a (by omega)) 3) (f1.a (by omega)) (f1.a (by omega))) (fun v hv => (congrFun (f1.a (by omega)) v).trans (hG v hv)) ⟨(congrFun (f1.a (by omega)) 6).trans hb.1, fun p m hp => (congrFun (f1.a (by omega)) p).trans (hb.2 p m hp)⟩ f2 (by rw [List.length_append]; omega) (fun I' x3 v4' p1 p2 p3 => k1 I' x3 v4' (f1.tr p1) p2 p3)
set_option maxHeartbeats 1000000 in
theorem kprepare {d : Nat} {Pp : Option Value → xH → Prop} {K : Nat → Nat × Nat} {I : Nat → Nat → Int32} {P : Nat → Nat → Option Nat} {n s : Nat} {o L r v e : Nat} {G : xX} {ord beg : List Nat} (hX : xAt K P (o + 2) 3) (hS : xSL K P o L (gC G)) (hw : ∀ m, m < 12 → wfM G m) (hM : xMos I G o) (ho : xLo I G L ord) (hG : xLg I G L ord) (hbo : ∀ q ∈ beg, q ∈ ord) (hbl : beg.length ≤ 12) (hb : xLb I L beg) (hr0 : ord[0]? = some r) (hv : v < 64) (he : sFi G ord r (nI v) = some e) (hp : ∀ I', (∀ a, (a < o + 2 ∨ o + 8 < a) → I' a = I a) → I' (o + 2 + 2) = I (o + 2 + 2) → (∀ k, k < 8 → I' (o + 2 + 1) k = 0) → I' (o + 2) 2 = 0 → I' (o + 2) 3 = 0 → I' (o + 2) 4 = 0 → I' (o + 2) 5 = 0 → I' (o + 2) 12 = nI 0 → xMst I' G (o + 2) (rBg G ord beg ++ [e]) 0 → (rBg G ord beg ++ [e]).length ≤ 13 → Pp none (K, I', P, n, s)) : xC (d + 3) mX3_prepare [(.ref (o + 2)), (.ref L), (.int (nI v))] (K, I, P, n, s) Pp := by
  refine y_met 0 0 ?_
  show xB (d + 3) 3 cX3_prepare none false (xE n s 0 0 Pp) 0 [some (.ref (o + 2)), some (.ref L), some (.int (nI v)), none, none] [] (K, I, P, n, s)
  have hL := hS.2.2.2.2.2
  refine y_aload_n dX3_prepare_0 rfl ?_
  refine y_getr 3 0 dX3_prepare_1 rfl rfl hX.1 (r3_0 hX) ?_
  refine y_iconst (v := 0) dX3_prepare_4 (by decide) ?_
  refine y_callS2 mJ7_fill_53178 0 dX3_prepare_5 rfl rfl (Nat.le_of_ble_eq_true rfl) (kfill (d := d + 2) (k3_0 hX) (by decide) (fun I2 f1 f2 => ?_))
  refine y_aload_n dX3_prepare_8 rfl ?_
  refine y_iconst (v := 0) dX3_prepare_9 (by decide) ?_
  refine y_puti 3 2 dX3_prepare_10 rfl rfl rfl hX.1 ?_
  refine y_aload_n dX3_prepare_13 rfl ?_
  refine y_iconst (v := 0) dX3_prepare_14 (by decide) ?_
  refine y_puti 3 3 dX3_prepare_15 rfl rfl rfl hX.1 ?_
  refine y_aload_n dX3_prepare_18 rfl ?_
  refine y_iconst (v := 0) dX3_prepare_19 (by decide) ?_
  refine y_puti 3 4 dX3_prepare_20 rfl rfl rfl hX.1 ?_
  refine y_aload_n dX3_prepare_23 rfl ?_
  refine y_iconst (v := 0) dX3_prepare_24 (by decide) ?_
  refine y_puti 3 5 dX3_prepare_25 rfl rfl rfl hX.1 ?_
  refine y_aload_n dX3_prepare_28 rfl ?_
  refine y_iconst (v := 0) dX3_prepare_29 (by decide) ?_
  refine y_puti 3 12 dX3_prepare_30 rfl rfl rfl hX.1 ?_
  refine y_aload_n dX3_prepare_33 rfl ?_
  refine y_iconst (v := 0) dX3_prepare_34 (by decide) ?_
  refine y_puti 3 8 dX3_prepare_35 rfl rfl rfl hX.1 ?_
  refine y_aload_n dX3_prepare_38 rfl ?_
  refine y_iconst (v := 0) dX3_prepare_39 (by decide) ?_
  refine y_puti 3 9 dX3_prepare_40 rfl rfl rfl hX.1 ?_
  refine y_iconst (v := 0) dX3_prepare_43 (by decide) ?_
  refine y_istore_n dX3_prepare_44 (by first | (simp; done) | (simp; decide)) (fun x1 e_x1 => ?_)
  subst e_x1
  have j1 : ∀ a, a ≠ o + 2 → a ≠ o + 2 + 1 → (xuI (xuI (xuI (xuI (xuI (xuI (xuI I2 (o + 2) 2 0) (o + 2) 3 0) (o + 2) 4 0) (o + 2) 5 0) (o + 2) 12 0) (o + 2) 8 0) (o + 2) 9 0) a = I a := fun a h h1 => by rw [xuI_ne h, xuI_ne h, xuI_ne h, xuI_ne h, xuI_ne h, xuI_ne h, xuI_ne h]; exact f1 a h1
  have j2 : ∀ k, k < 8 → (xuI (xuI (xuI (xuI (xuI (xuI (xuI I2 (o + 2) 2 0) (o + 2) 3 0) (o + 2) 4 0) (o + 2) 5 0) (o + 2) 12 0) (o + 2) 8 0) (o + 2) 9 0) (o + 2 + 1) k = 0 := fun k hk => by rw [xuI_ne (by omega), xuI_ne (by omega), xuI_ne (by omega), xuI_ne (by omega), xuI_ne (by omega), xuI_ne (by omega), xuI_ne (by omega)]; exact f2 k hk
  have j3 : (xuI (xuI (xuI (xuI (xuI (xuI (xuI I2 (o + 2) 2 0) (o + 2) 3 0) (o + 2) 4 0) (o + 2) 5 0) (o + 2) 12 0) (o + 2) 8 0) (o + 2) 9 0) (o + 2) 2 = 0 ∧ (xuI (xuI (xuI (xuI (xuI (xuI (xuI I2 (o + 2) 2 0) (o + 2) 3 0) (o + 2) 4 0) (o + 2) 5 0) (o + 2) 12 0) (o + 2) 8 0) (o + 2) 9 0) (o + 2) 3 = 0 ∧ (xuI (xuI (xuI (xuI (xuI (xuI (xuI I2 (o + 2) 2 0) (o + 2) 3 0) (o + 2) 4 0) (o + 2) 5 0) (o + 2) 12 0) (o + 2) 8 0) (o + 2) 9 0) (o + 2) 4 = 0 ∧ (xuI (xuI (xuI (xuI (xuI (xuI (xuI I2 (o + 2) 2 0) (o + 2) 3 0) (o + 2) 4 0) (o + 2) 5 0) (o + 2) 12 0) (o + 2) 8 0) (o + 2) 9 0) (o + 2) 5 = 0 ∧ (xuI (xuI (xuI (xuI (xuI (xuI (xuI I2 (o + 2) 2 0) (o + 2) 3 0) (o + 2) 4 0) (o + 2) 5 0) (o + 2) 12 0) (o + 2) 8 0) (o + 2) 9 0) (o + 2) 12 = nI 0 ∧ (xuI (xuI (xuI (xuI (xuI (xuI (xuI I2 (o + 2) 2 0) (o + 2) 3 0) (o + 2) 4 0) (o + 2) 5 0) (o + 2) 12 0) (o + 2) 8 0) (o + 2) 9 0) (o + 2) 8 = nI 0 ∧ (xuI (xuI (xuI (xuI (xuI (xuI (xuI I2 (o + 2) 2 0) (o + 2) 3 0) (o + 2) 4 0) (o + 2) 5 0) (o + 2) 12 0) (o + 2) 8 0) (o + 2) 9 0) (o + 2) 9 = nI 0 := by
    refine ⟨?_, ?_, ?_, ?_, ?_, ?_, ?_⟩ <;> simp [xuI] <;> rfl
  generalize (xuI (xuI (xuI (xuI (xuI (xuI (xuI I2 (o + 2) 2 0) (o + 2) 3 0) (o + 2) 4 0) (o + 2) 5 0) (o + 2) 12 0) (o + 2) 8 0) (o + 2) 9 0) = I3 at j1 j2 j3 ⊢
  obtain ⟨t2, t3, t4, t5, t12, t8, t9⟩ := j3
  have hs0 : xMst I3 G (o + 2) [] 0 := ⟨t8, t9, fun i e h => by simp at h⟩
  refine kpr_loop (d := d) hX hS hw hbo hbl beg 0 I3 [] _ (Nat.zero_le _) rfl (hM.fr (fun m i _ _ => j1 _ (by omega) (by omega))) (ho.fr (congrFun (j1 _ (by omega) (by omega)) 3) (j1 _ (by omega) (by omega)) (j1 _ (by omega) (by omega))) (fun v hv => (congrFun (j1 _ (by omega) (by omega)) v).trans (hG v hv)) ⟨(congrFun (j1 _ (by omega) (by omega)) 6).trans hb.1, fun p m hp => (congrFun (j1 _ (by omega) (by omega)) p).trans (hb.2 p m hp)⟩ hs0 (Nat.zero_le _) (fun I4 x3 v4' p1 p2 p3 => ?_)
  rw [List.nil_append] at p2 p3
  have k1 : ∀ a, (a < o + 2 ∨ o + 8 < a) → I4 a = I a := fun a h => (p1.a (by omega)).trans (j1 a (by omega) (by omega))
  refine y_aload_n dX3_prepare_84 rfl ?_
  refine y_aload_n dX3_prepare_85 rfl ?_
  refine y_aload_n dX3_prepare_86 rfl ?_
  refine y_getr 1 1 dX3_prepare_87 rfl rfl hS.1.1 (r1_1 hS.1) ?_
  refine y_iconst (v := 0) dX3_prepare_90 (by decide) ?_
  refine y_ialdN (0) dX3_prepare_91 (k1_1 hS.1) rfl (by omega) (by omega) ((congrFun (k1 (L + 1) (by omega)) 0).trans (ho.2.1 0 r hr0)) ?_
  refine y_iload_n dX3_prepare_92 rfl ?_
  refine y_callV3 mX3_addStart dX3_prepare_93 rfl rfl hX.1 (Nat.le_of_ble_eq_true rfl) (kaddStart (d := d) (ord := ord) hX hS hw (hM.fr (fun m i _ _ => k1 _ (by omega))) (ho.fr (congrFun (k1 _ (by omega)) 3) (k1 _ (by omega)) (k1 _ (by omega))) (fun v hv => (congrFun (k1 _ (by omega)) v).trans (hG v hv)) (List.mem_of_getElem? hr0) hv p2 (by omega) (fun I5 f5 g5 => ?_))
  rw [he] at g5
  have f0 : ∀ k, k ≠ 8 → I5 (o + 2) k = I3 (o + 2) k := fun k hk => (f5 _ k (by omega) (by omega) (Or.inr hk)).trans (p1 _ k (by omega) (by omega) (Or.inr hk))
  exact y_retv dX3_prepare_96 rfl rfl (hp I5 (fun a h => (f5.a (by omega)).trans (k1 a h)) ((f5.a (by omega)).trans ((p1.a (by omega)).trans (j1 _ (by omega) (by omega)))) (fun k hk => (congrFun ((f5.a (by omega)).trans (p1.a (by omega))) k).trans (j2 k hk)) ((f0 2 (by omega)).trans t2) ((f0 3 (by omega)).trans t3) ((f0 4 (by omega)).trans t4) ((f0 5 (by omega)).trans t5) ((f0 12 (by omega)).trans t12) g5 (by rw [List.length_append, List.length_singleton]; omega))
