/-- what a layout at L may change: its own six cells -/
def xFl (L : Nat) (I I' : Nat → Nat → Int32) : Prop := ∀ a, (a < L ∨ L + 5 < a) → I' a = I a
theorem xFl.rf {L : Nat} {I : Nat → Nat → Int32} : xFl L I I := fun _ _ => rfl
theorem xFl.tr {L : Nat} {I I' I2 : Nat → Nat → Int32} (h : xFl L I I') (h2 : xFl L I' I2) : xFl L I I2 := fun a p => (h2 a p).trans (h a p)
theorem xFl.u {L a j : Nat} {I : Nat → Nat → Int32} {x : Int32} (h : L ≤ a) (h2 : a ≤ L + 5) : xFl L I (xuI I a j x) := fun b p => xuI_ne (by omega)
theorem xFl.mos {K : Nat → Nat × Nat} {P : Nat → Nat → Option Nat} {o L c : Nat} {G : xX} {I I' : Nat → Nat → Int32} (h : xFl L I I') (hS : xSL K P o L c) (hM : xMos I G o) : xMos I' G o := hM.fr (fun m i _ _ => h _ (by have := hS.2.2.2.2.2; omega))
/-- what placing may change -/
def xFa (L : Nat) (I I' : Nat → Nat → Int32) : Prop := ∀ a j, a ≠ L + 1 → a ≠ L + 2 → (a ≠ L ∨ j ≠ 3) → I' a j = I a j
theorem xFa.rf {L : Nat} {I : Nat → Nat → Int32} : xFa L I I := fun _ _ _ _ _ => rfl
theorem xFa.tr {L : Nat} {I I' I2 : Nat → Nat → Int32} (h : xFa L I I') (h2 : xFa L I' I2) : xFa L I I2 := fun a j p q r => (h2 a j p q r).trans (h a j p q r)
theorem xFa.L {L : Nat} {I I' : Nat → Nat → Int32} (h : xFa L I I') : xFl L I I' := fun a p => funext fun j => h a j (by omega) (by omega) (Or.inl (by omega))
theorem xLo_nil {G : xX} {L : Nat} {I : Nat → Nat → Int32} (h1 : I L 3 = 0) (h2 : ∀ j, j < 12 → I (L + 2) j = -1) : xLo I G L [] := ⟨h1, fun p m hp => by simp at hp, fun p m hp => by simp at hp, fun m hm _ => h2 m hm, okl0⟩
theorem xLo_add {G : xX} {L m : Nat} {l : List Nat} {I : Nat → Nat → Int32} (h : xLo I G L l) (hm : m < gC G) (hg : gC G ≤ 12) (hn : m ∉ l) : xLo (xuI (xuI (xuI I (L + 2) m (nI l.length)) (L + 1) l.length (nI m)) L 3 (nI (l.length + 1))) G L (l ++ [m]) := by
  obtain ⟨h1, h2, h3, h4, h5⟩ := h
  refine ⟨by rw [xuI_s]; simp, ?_, fun p q hp => ?_, fun q hq hqn => ?_, okl_add h5 hm hn⟩
  · exact xHl_put (xHl_add (xHl_put (xHl_put h2 (Or.inl (by omega))) (Or.inr (Nat.le_refl _))) (by rw [xuI_s])) (Or.inl (by omega))
  · rw [xuI_o (Or.inl (by omega)), xuI_o (Or.inl (by omega))]
    rcases Nat.lt_trichotomy p l.length with z | z | z
    · rw [List.getElem?_append_left z] at hp
      have hqm : q ≠ m := fun e => hn (by rw [← e]; exact List.mem_of_getElem? hp)
      rw [xuI_o (Or.inr hqm)]
      exact h3 p q hp
    · subst z
      rw [List.getElem?_append_right (Nat.le_refl _), Nat.sub_self] at hp
      simp at hp
      rw [← hp, xuI_s]
    · rw [List.getElem?_eq_none (by simp; omega)] at hp; cases hp
  · rw [xuI_o (Or.inl (by omega)), xuI_o (Or.inl (by omega)), xuI_o (Or.inr (fun e => hqn (by rw [e]; simp)))]
    exact h4 q hq (fun e => hqn (List.mem_append_left _ e))
theorem kclear {d : Nat} {Pp : Option Value → xH → Prop} {K : Nat → Nat × Nat} {I : Nat → Nat → Int32} {P : Nat → Nat → Option Nat} {n s : Nat} {L : Nat} (hL : xAt K P L 1) (hp : ∀ I', xFl L I I' → I' L 3 = 0 → I' L 6 = 0 → (∀ j, j < 12 → I' (L + 2) j = -1) → Pp none (K, I', P, n, s)) : xC (d + 1) mX1_clear [(.ref L)] (K, I, P, n, s) Pp := by
  refine y_met 0 0 ?_
  show xB (d + 1) 1 cX1_clear none false (xE n s 0 0 Pp) 0 [some (.ref L)] [] (K, I, P, n, s)
  refine y_aload_n dX1_clear_0 rfl ?_
  refine y_iconst (v := 0) dX1_clear_1 (by decide) ?_
  refine y_puti 1 3 dX1_clear_2 rfl rfl rfl hL.1 ?_
  refine y_aload_n dX1_clear_5 rfl ?_
  refine y_iconst (v := 0) dX1_clear_6 (by decide) ?_
  refine y_puti 1 6 dX1_clear_7 rfl rfl rfl hL.1 ?_
  refine y_aload_n dX1_clear_10 rfl ?_
  refine y_getr 1 2 dX1_clear_11 rfl rfl hL.1 (r1_2 hL) ?_
  refine y_iconst (v := (-1)) dX1_clear_14 (by decide) ?_
  refine y_callS2 mJ7_fill_53178 0 dX1_clear_15 rfl rfl (Nat.le_of_ble_eq_true rfl) (kfill (k1_2 hL) (by decide) (fun I2 f1 f2 => ?_))
  exact y_retv dX1_clear_18 rfl rfl (hp I2 ((xFl.u (by omega) (by omega)).tr ((xFl.u (by omega) (by omega)).tr (fun a p => f1 a (by omega)))) (by rw [f1 L (by omega)]; simp [xuI]) (by rw [f1 L (by omega)]; simp [xuI]) f2)
theorem kappend {d : Nat} {Pp : Option Value → xH → Prop} {K : Nat → Nat × Nat} {I : Nat → Nat → Int32} {P : Nat → Nat → Option Nat} {n s : Nat} {L m : Nat} {G : xX} {l : List Nat} (hL : xAt K P L 1) (hm : m < gC G) (hg : gC G ≤ 12) (ho : xLo I G L l) (hp : ∀ I', xFa L I I' → xLo I' G L (sAdd l m) → Pp none (K, I', P, n, s)) : xC d mX1_append [(.ref L), (.int (nI m))] (K, I, P, n, s) Pp := by
  refine y_met 0 0 ?_
  show xB d 1 cX1_append none false (xE n s 0 0 Pp) 0 [some (.ref L), some (.int (nI m))] [] (K, I, P, n, s)
  by_cases hin : m ∈ l
  · obtain ⟨p, hp1, hp2⟩ := List.getElem_of_mem hin
    have hpl := ho.2.2.1 p m (by rw [List.getElem?_eq_getElem hp1, hp2])
    have := okl_len ho.2.2.2.2
    rw [show sAdd l m = l from if_pos hin] at hp
    refine y_aload_n dX1_append_0 rfl ?_
    refine y_getr 1 2 dX1_append_1 rfl rfl hL.1 (r1_2 hL) ?_
    refine y_iload_n dX1_append_4 rfl ?_
    refine y_ialdN (m) dX1_append_5 (k1_2 hL) rfl (by omega) (by omega) hpl ?_
    refine y_iconst (v := (-1)) dX1_append_6 (by decide) ?_
    refine y_icmp_ne 49 dX1_append_7 (by decide) (fun _ => ?_) (fun c7 => absurd c7 (nI_m1 (by omega)))
    exact y_retv dX1_append_49 rfl rfl (hp I xFa.rf ho)
  · have hl := okl_len (okl_add ho.2.2.2.2 hm hin)
    rw [List.length_append] at hl
    simp only [List.length_cons, List.length_nil] at hl
    rw [show sAdd l m = l ++ [m] from if_neg hin] at hp
    refine y_aload_n dX1_append_0 rfl ?_
    refine y_getr 1 2 dX1_append_1 rfl rfl hL.1 (r1_2 hL) ?_
    refine y_iload_n dX1_append_4 rfl ?_
    refine y_ialdN (m) dX1_append_5 (k1_2 hL) rfl (by omega) (by omega) (ho.2.2.2.1 m (by omega) hin) ?_
    refine y_iconst (v := (-1)) dX1_append_6 (by decide) ?_
    refine y_icmp_ne 49 dX1_append_7 (by decide) (fun q => absurd q (by decide)) (fun _ => ?_)
    refine y_aload_n dX1_append_10 rfl ?_
    refine y_getv 1 3 dX1_append_11 rfl rfl hL.1 ho.1 ?_
    refine y_bipush (v := 12) dX1_append_14 (by decide) ?_
    refine y_icmpN_ge 49 (l.length) (12) dX1_append_16 (by decide) rfl rfl (by omega) (by omega) (fun c16 => absurd c16 (by omega)) (fun _ => ?_)
    refine y_aload_n dX1_append_19 rfl ?_
    refine y_getr 1 2 dX1_append_20 rfl rfl hL.1 (r1_2 hL) ?_
    refine y_iload_n dX1_append_23 rfl ?_
    refine y_aload_n dX1_append_24 rfl ?_
    refine y_getv 1 3 dX1_append_25 rfl rfl hL.1 ho.1 ?_
    refine y_iast (m) dX1_append_28 (k1_2 hL) rfl (by omega) (by omega) ?_
    refine y_aload_n dX1_append_29 rfl ?_
    refine y_getr 1 1 dX1_append_30 rfl rfl hL.1 (r1_1 hL) ?_
    refine y_aload_n dX1_append_33 rfl ?_
    refine y_getv 1 3 dX1_append_34 rfl rfl hL.1 ((xuI_o (Or.inl (by omega))).trans ho.1) ?_
    refine y_iload_n dX1_append_37 rfl ?_
    refine y_iast (l.length) dX1_append_38 (k1_1 hL) rfl (by omega) (by omega) ?_
    refine y_aload_n dX1_append_39 rfl ?_
    refine y_dup dX1_append_40 rfl ?_
    refine y_getv 1 3 dX1_append_41 rfl rfl hL.1 ((xuI_o (Or.inl (by omega))).trans ((xuI_o (Or.inl (by omega))).trans ho.1)) ?_
    refine y_iconst (v := 1) dX1_append_44 (by decide) ?_
    refine y_iaddv (nI (l.length + 1)) dX1_append_45 (nI_add (l.length) (1)) ?_
    refine y_puti 1 3 dX1_append_46 rfl rfl rfl hL.1 ?_
    exact y_retv dX1_append_49 rfl rfl (hp _ (fun a j p q r => by rw [xuI_o r, xuI_o (Or.inl p), xuI_o (Or.inl q)]) (xLo_add ho hm hg hin))
theorem kpf_in {d o L : Nat} {G : xX} {Q : Option Value → xH → Prop} {K : Nat → Nat × Nat} {P : Nat → Nat → Option Nat} {n s : Nat} (hS : xSL K P o L (gC G)) {x1 : Int32} {q p : Nat} (hq : q < gC G) (hw : wfM G q) : ∀ (t k : Nat) (I : Nat → Nat → Int32) (l : List Nat), xMos I G o → k + t = gN G q → xLo I G L l → (∀ I' x4, xFa L I I' → xLo I' G L (sAdds G q t k l) → xB (d + 1) 1 cX1_placeFrom none false Q 62 [some (.ref L), some (.int x1), some (.int (nI p)), some (.ref (o + 59 + 13 * q)), some (.int x4)] [] (K, I', P, n, s)) → xB (d + 1) 1 cX1_placeFrom none false Q 36 [some (.ref L), some (.int x1), some (.int (nI p)), some (.ref (o + 59 + 13 * q)), some (.int (nI k))] [] (K, I, P, n, s) := by
  obtain ⟨⟨w1, w2⟩, w3, -⟩ := hw
  have hc := hS.2.2.2.1
  intro t
  induction t with
  | zero =>
    intro k I l hM hk hb k1
    refine y_iload dX1_placeFrom_36 rfl ?_
    refine y_aload_n dX1_placeFrom_38 rfl ?_
    refine y_getv 2 1 dX1_placeFrom_39 rfl rfl (hS.2.2.2.2.1 q hq).2.1 ((hM q hq).n.trans w1) ?_
    refine y_icmpN_ge 62 (k) ((gN G q)) dX1_placeFrom_42 (by decide) rfl rfl (by omega) (by omega) (fun _ => ?_) (fun c42 => absurd c42 (by omega))
    exact k1 I _ xFa.rf hb
  | succ t ih =>
    intro k I l hM hk hb k1
    obtain ⟨w4, w5⟩ := w3 k (by omega)
    unfold sAdds at k1
    refine y_iload dX1_placeFrom_36 rfl ?_
    refine y_aload_n dX1_placeFrom_38 rfl ?_
    refine y_getv 2 1 dX1_placeFrom_39 rfl rfl (hS.2.2.2.2.1 q hq).2.1 ((hM q hq).n.trans w1) ?_
    refine y_icmpN_ge 62 (k) ((gN G q)) dX1_placeFrom_42 (by decide) rfl rfl (by omega) (by omega) (fun c42 => absurd c42 (by omega)) (fun _ => ?_)
    refine y_aload_n dX1_placeFrom_45 rfl ?_
    refine y_aload_n dX1_placeFrom_46 rfl ?_
    refine y_getr 2 0 dX1_placeFrom_47 rfl rfl (hS.2.2.2.2.1 q hq).2.1 (r2_0 (hS.2.2.2.2.1 q hq).2) ?_
    refine y_iload dX1_placeFrom_50 rfl ?_
    refine y_ialdN (k) dX1_placeFrom_52 (k2_0 (hS.2.2.2.2.1 q hq).2) rfl (by omega) (by omega) (((hM q hq).d k (by omega)).trans w4) ?_
    refine y_callV1 mX1_append dX1_placeFrom_53 rfl rfl hS.1.1 (Nat.le_of_ble_eq_true rfl) (kappend (d := d) (l := l) hS.1 w5 hc hb (fun I2 f1 f2 => ?_))
    refine y_iinc dX1_placeFrom_56 rfl (fun x1 e_x1 => ?_)
    obtain rfl : x1 = nI (k + 1) := by rw [e_x1]; exact nI_1 (k)
    refine y_goto 36 dX1_placeFrom_59 (by decide) ?_
    exact ih (k + 1) I2 _ (f1.L.mos hS hM) (by omega) f2 (fun I' x4 p1 p2 => k1 I' x4 (f1.tr p1) p2)
theorem kpf_out {d o L : Nat} {G : xX} {Q : Option Value → xH → Prop} {K : Nat → Nat × Nat} {P : Nat → Nat → Option Nat} {n s : Nat} (hS : xSL K P o L (gC G)) {x1 : Int32} (hw : ∀ m, m < 12 → wfM G m) : ∀ (t p : Nat) (I : Nat → Nat → Int32) (l : List Nat) (v3 v4 : Option Value), xMos I G o → p + t = 12 → p ≤ l.length → xLo I G L l → (∀ I' ls, xFa L I I' → xLo I' G L (sBfs G t p l) → xB (d + 1) 1 cX1_placeFrom none false Q 68 ls [] (K, I', P, n, s)) → xB (d + 1) 1 cX1_placeFrom none false Q 7 [some (.ref L), some (.int x1), some (.int (nI p)), v3, v4] [] (K, I, P, n, s) := by
  have hc := hS.2.2.2.1
  intro t
  induction t with
  | zero =>
    intro p I l v3 v4 hM hp hpl hb k1
    obtain rfl : p = 12 := by omega
    refine y_iload_n dX1_placeFrom_7 rfl ?_
    refine y_bipush (v := 12) dX1_placeFrom_8 (by decide) ?_
    refine y_icmpN_ge 68 (12) (12) dX1_placeFrom_10 (by decide) rfl rfl (by omega) (by omega) (fun _ => ?_) (fun c10 => absurd c10 (by omega))
    exact k1 I _ xFa.rf hb
  | succ t ih =>
    intro p I l v3 v4 hM hp hpl hb k1
    have hl := okl_len hb.2.2.2.2
    unfold sBfs at k1
    cases he : l[p]? with
    | none =>
      have := List.getElem?_eq_none_iff.mp he
      simp only [he] at k1
      refine y_iload_n dX1_placeFrom_7 rfl ?_
      refine y_bipush (v := 12) dX1_placeFrom_8 (by decide) ?_
      refine y_icmpN_ge 68 (p) (12) dX1_placeFrom_10 (by decide) rfl rfl (by omega) (by omega) (fun c10 => absurd c10 (by omega)) (fun _ => ?_)
      refine y_iload_n dX1_placeFrom_13 rfl ?_
      refine y_aload_n dX1_placeFrom_14 rfl ?_
      refine y_getv 1 3 dX1_placeFrom_15 rfl rfl hS.1.1 hb.1 ?_
      refine y_icmpN_ge 68 (p) (l.length) dX1_placeFrom_18 (by decide) rfl rfl (by omega) (by omega) (fun _ => ?_) (fun c18 => absurd c18 (by omega))
      exact k1 I _ xFa.rf hb
    | some q =>
      have hpl2 := (List.getElem?_eq_some_iff.mp he).1
      have hq := hb.2.2.2.2.2 q (List.mem_of_getElem? he)
      simp only [he] at k1
      refine y_iload_n dX1_placeFrom_7 rfl ?_
      refine y_bipush (v := 12) dX1_placeFrom_8 (by decide) ?_
      refine y_icmpN_ge 68 (p) (12) dX1_placeFrom_10 (by decide) rfl rfl (by omega) (by omega) (fun c10 => absurd c10 (by omega)) (fun _ => ?_)
      refine y_iload_n dX1_placeFrom_13 rfl ?_
      refine y_aload_n dX1_placeFrom_14 rfl ?_
      refine y_getv 1 3 dX1_placeFrom_15 rfl rfl hS.1.1 hb.1 ?_
      refine y_icmpN_ge 68 (p) (l.length) dX1_placeFrom_18 (by decide) rfl rfl (by omega) (by omega) (fun c18 => absurd c18 (by omega)) (fun _ => ?_)
      refine y_aload_n dX1_placeFrom_21 rfl ?_
      refine y_getr 1 0 dX1_placeFrom_22 rfl rfl hS.1.1 hS.2.1 ?_
      refine y_aload_n dX1_placeFrom_25 rfl ?_
      refine y_getr 1 1 dX1_placeFrom_26 rfl rfl hS.1.1 (r1_1 hS.1) ?_
      refine y_iload_n dX1_placeFrom_29 rfl ?_
      refine y_ialdN (p) dX1_placeFrom_30 (k1_1 hS.1) rfl (by omega) (by omega) (hb.2.1 p q he) ?_
      refine y_aald (q) dX1_placeFrom_31 hS.2.2.1 rfl (by omega) (by omega) (hS.2.2.2.2.1 q hq).1 ?_
      refine y_astore_n dX1_placeFrom_32 (by first | (simp; done) | (simp; decide)) ?_
      refine y_iconst (v := 0) dX1_placeFrom_33 (by decide) ?_
      refine y_istore dX1_placeFrom_34 (by first | (simp; done) | (simp; decide)) (fun x1 e_x1 => ?_)
      subst e_x1
      refine kpf_in hS hq (hw q (by omega)) (gN G q) 0 I l hM (by omega) hb (fun I2 x4 f1 f2 => ?_)
      refine y_iinc dX1_placeFrom_62 rfl (fun y e_y => ?_)
      obtain rfl : y = nI (p + 1) := by rw [e_y]; exact nI_1 p
      refine y_goto 7 dX1_placeFrom_65 (by decide) ?_
      exact ih (p + 1) I2 _ _ _ (f1.L.mos hS hM) (by omega) (by have := sAdds_len (X := G) (m := q) (gN G q) 0 l; omega) f2 (fun I' ls p1 p2 => k1 I' ls (f1.tr p1) p2)
theorem kplaceFrom {d : Nat} {Pp : Option Value → xH → Prop} {K : Nat → Nat × Nat} {I : Nat → Nat → Int32} {P : Nat → Nat → Option Nat} {n s : Nat} {o L r : Nat} {G : xX} (hS : xSL K P o L (gC G)) (hw : ∀ m, m < 12 → wfM G m) (hr : r < gC G) (hM : xMos I G o) (h0 : xLo I G L []) (hp : ∀ I', xFa L I I' → xLo I' G L (sOrd G r) → Pp none (K, I', P, n, s)) : xC (d + 1) mX1_placeFrom [(.ref L), (.int (nI r))] (K, I, P, n, s) Pp := by
  refine y_met 0 0 ?_
  show xB (d + 1) 1 cX1_placeFrom none false (xE n s 0 0 Pp) 0 [some (.ref L), some (.int (nI r)), none, none, none] [] (K, I, P, n, s)
  refine y_aload_n dX1_placeFrom_0 rfl ?_
  refine y_iload_n dX1_placeFrom_1 rfl ?_
  refine y_callV1 mX1_append dX1_placeFrom_2 rfl rfl hS.1.1 (Nat.le_of_ble_eq_true rfl) (kappend (d := d) (l := []) hS.1 hr hS.2.2.2.1 h0 (fun I2 f1 f2 => ?_))
  refine y_iconst (v := 0) dX1_placeFrom_5 (by decide) ?_
  refine y_istore_n dX1_placeFrom_6 (by first | (simp; done) | (simp; decide)) (fun x1 e_x1 => ?_)
  subst e_x1
  exact kpf_out hS hw 12 0 I2 [r] _ _ (f1.L.mos hS hM) rfl (Nat.zero_le _) f2 (fun I' ls p1 p2 => y_retv dX1_placeFrom_68 rfl rfl (hp I' (f1.tr p1) p2))
