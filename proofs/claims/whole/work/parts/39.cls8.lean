def xCq (I : Nat → Nat → Int32) (G X : xX) (o L : Nat) (ord : List Nat) : Prop := xC5 I G X o L ord ∧ xMv I X (o + 2)
theorem xCr.d {I : Nat → Nat → Int32} {G X : xX} {o L : Nat} {ord sl : List Nat} {st : Nat} (h : xCr I G X o L ord sl st) : xCq I G X o L ord := ⟨h.1, h.2.1⟩
/-- a routine begins -/
theorem xCr.start {I : Nat → Nat → Int32} {G X : xX} {o L de e : Nat} {ord sl : List Nat} {st : Nat} (h : xCq I G X o L ord) (hs : xMst I G (o + 2) sl st) (h12 : I (o + 2) 12 = nI 0) (hL : L = o + 23 ∨ L = o + 29) (h32 : X 0 32 = nI de) (hde : de ≤ 100) : (rCall G (xuI X 0 36 0) (some e)).1 = -1 ∧ xCr (xuI (xuI (xuI I (o + 2) 13 (nI (e / 20))) (o + 2) 14 (G 5 e)) (o + 2) 9 (nI (st + 1))) G (rCall G (xuI X 0 36 0) (some e)).2 o L ord sl (st + 1) := by
  obtain ⟨h1, ⟨v1, v2, v3, v4, v5, v6⟩⟩ := h
  have g36 : rN (xuI X 0 36 0 0 36) = 0 := by rw [xuI_s]; exact rN_nI (k := 0) (by decide)
  have g32 : rN (xuI X 0 36 0 0 32) = de := by rw [xuI_o (Or.inr (by decide))]; exact rN_of h32 (by omega)
  have hr : rCall G (xuI X 0 36 0) (some e) = (-1, xuI (xuI (xuI (xuI (xuI (xuI (xuI X 0 36 0) 22 0 (X 0 37)) 23 0 (X 0 38)) 0 36 (nI 1)) 0 32 (nI de)) 0 37 (nI (e / 20))) 0 38 (G 5 e)) := by
    unfold rCall
    simp only [g36, g32]
    rw [if_neg (by omega), if_neg (by omega), xuI_o (Or.inr (by decide)), xuI_o (Or.inr (by decide))]
  rw [hr]
  dsimp only
  refine ⟨rfl, h1.fr hL (fun b hb => by rw [xuI_ne (by omega), xuI_ne (by omega), xuI_ne (by omega)]) (by rw [xuI_ne (by omega), xuI_ne (by omega), xuI_ne (by omega), xuI_ne (by omega), xuI_ne (by omega), xuI_ne (by omega), xuI_ne (by omega)]) (by rw [xuI_ne (by omega), xuI_ne (by omega), xuI_ne (by omega), xuI_ne (by omega), xuI_ne (by omega), xuI_ne (by omega), xuI_ne (by omega)]), ⟨fun k hk => ?_, fun k hk => ?_, ?_, ?_, ?_, ?_⟩, ⟨?_, ?_, fun i e2 he2 => ?_⟩, ⟨?_, ?_, ?_, fun i i1 i2 => ?_⟩⟩
  · simpa [xuI] using v1 k hk
  · simpa [xuI] using v2 k hk
  · simpa [xuI] using v3
  · simpa [xuI] using v4
  · simpa [xuI] using v5
  · simpa [xuI, h32] using v6
  · simpa [xuI] using hs.1
  · simp [xuI]
  · simpa [xuI] using hs.2.2 i e2 he2
  · have : rN (nI 1) = 1 := rN_nI (by omega)
    simpa [xuI, this] using h12
  · simp [xuI]
  · simp [xuI]
  · have h36b : rN (nI 1) = 1 := rN_nI (by omega)
    have i3 : i < 1 := by simpa [xuI, h36b] using i2
    omega
/-- what may come of a turn -/
def xOut (Pp : Option Value → xH → Prop) (K : Nat → Nat × Nat) (P : Nat → Nat → Option Nat) (n s : Nat) (I : Nat → Nat → Int32) (G : xX) (o L : Nat) (ord sl : List Nat) (st : Nat) (y : Int32 × xX) : Prop :=
  (y.1 ≠ -1 → ∀ I', xFk o I I' → xCq I' G y.2 o L ord → Pp (some (.int y.1)) (K, I', P, n, s)) ∧
  (y.1 = -1 → rN (y.2 0 36) ≠ 0 → ∀ I', xFk o I I' → xCr I' G y.2 o L ord sl st → Pp (some (.int (-1))) (K, I', P, n, s)) ∧
  (y.1 = -1 → rN (y.2 0 36) = 0 → sl.length ≤ st → ∀ I', xFk o I I' → xCq I' G y.2 o L ord → Pp (some (.int 0)) (K, I', P, n, s)) ∧
  (y.1 = -1 → rN (y.2 0 36) = 0 → ∀ e, sl[st]? = some e → ∀ I', xFk o I I' → xCr I' G (rCall G (xuI y.2 0 36 0) (some e)).2 o L ord sl (st + 1) → Pp (some (.int (-1))) (K, I', P, n, s))
theorem xOut.go {Pp : Option Value → xH → Prop} {K : Nat → Nat × Nat} {P : Nat → Nat → Option Nat} {n s : Nat} {I I' : Nat → Nat → Int32} {G : xX} {o L : Nat} {ord sl : List Nat} {st : Nat} {y : Int32 × xX} (h : xOut Pp K P n s I G o L ord sl st y) (hf : xFk o I I') (hc : xCr I' G y.2 o L ord sl st) (h0 : rN (y.2 0 36) ≠ 0) : Pp (some (.int y.1)) (K, I', P, n, s) := by
  by_cases e : y.1 = -1
  · have := h.2.1 e h0 I' hf hc
    rw [e]; exact this
  · exact h.1 e I' hf hc.d
theorem rCall_36 {G X : xX} {q : Option Nat} {dp : Nat} (h36 : X 0 36 = nI dp) (h1 : 1 ≤ dp) (h2 : dp ≤ 101) : rN ((rCall G X q).2 0 36) ≠ 0 := by
  have g36 : rN (X 0 36) = dp := rN_of h36 (by omega)
  unfold rCall
  cases q with
  | none => show rN (X 0 36) ≠ 0; omega
  | some e =>
    simp only
    by_cases c : rN (X 0 36) = 101
    · rw [if_pos c]; show rN (X 0 36) ≠ 0; omega
    · rw [if_neg c, g36]
      dsimp only
      rw [xuI_o (Or.inr (by decide)), xuI_o (Or.inr (by decide)), xuI_o (Or.inr (by decide)), xuI_s, rN_nI (by omega)]
      omega
theorem kenter {d : Nat} {Pp : Option Value → xH → Prop} {K : Nat → Nat × Nat} {I : Nat → Nat → Int32} {P : Nat → Nat → Option Nat} {n s : Nat} {o L dp de e : Nat} {G X : xX} {ord sl : List Nat} {st : Nat} (hX : xAt K P (o + 2) 3) (hL : L = o + 23 ∨ L = o + 29) (hc : xCr I G X o L ord sl st) (h36 : X 0 36 = nI dp) (hdp : 1 ≤ dp) (hdp2 : dp ≤ 101) (h32 : X 0 32 = nI de) (hde : de ≤ 100) (hp : ∀ I', xFk o I I' → xCr I' G (rCall G X (some e)).2 o L ord sl st → Pp (some (.int (rCall G X (some e)).1)) (K, I', P, n, s)) : xC (d + 1) mX3_enter [(.ref (o + 2)), (.int (nI (e / 20))), (.int (G 5 e))] (K, I, P, n, s) Pp := by
  refine y_met 0 0 ?_
  show xB (d + 1) 3 cX3_enter (some .int) false (xE n s 0 0 Pp) 0 [some (.ref (o + 2)), some (.int (nI (e / 20))), some (.int (G 5 e))] [] (K, I, P, n, s)
  have g36 : rN (X 0 36) = dp := rN_of h36 (by omega)
  have hdep : I (o + 2) 12 = nI (dp - 1) := by rw [hc.2.2.2.1, g36]
  by_cases c : dp = 101
  · have hr : rCall G X (some e) = (2, X) := by unfold rCall; simp only; rw [if_pos (by omega)]
    rw [hr] at hp
    refine y_aload_n dX3_enter_0 rfl ?_
    refine y_getv 3 12 dX3_enter_1 rfl rfl hX.1 hdep ?_
    refine y_bipush (v := 100) dX3_enter_4 (by decide) ?_
    refine y_icmpN_lt 11 ((dp - 1)) (100) dX3_enter_6 (by decide) rfl rfl (by omega) (by omega) (fun c6 => absurd c6 (by omega)) (fun _ => ?_)
    refine y_iconst (v := 2) dX3_enter_9 (by decide) ?_
    exact y_ret dX3_enter_10 rfl rfl (hp I xFk.rf hc)
  · have hE := xCr.ent (e := e) hc hL h36 hdp (by omega) h32 hde
    rw [hE.1] at hp
    have hmx : (if nI de < nI dp then nI dp else nI de) = nI (if de < dp then dp else de) := by
      by_cases q : de < dp
      · rw [if_pos q, if_pos (by rw [zI_lt, nI_toInt (by omega), nI_toInt (by omega)]; omega)]
      · rw [if_neg q, if_neg (by rw [zI_lt, nI_toInt (by omega), nI_toInt (by omega)]; omega)]
    refine y_aload_n dX3_enter_0 rfl ?_
    refine y_getv 3 12 dX3_enter_1 rfl rfl hX.1 hdep ?_
    refine y_bipush (v := 100) dX3_enter_4 (by decide) ?_
    refine y_icmpN_lt 11 ((dp - 1)) (100) dX3_enter_6 (by decide) rfl rfl (by omega) (by omega) (fun _ => ?_) (fun c6 => absurd c6 (by omega))
    refine y_aload_n dX3_enter_11 rfl ?_
    refine y_getr 3 10 dX3_enter_12 rfl rfl hX.1 (r3_10 hX) ?_
    refine y_aload_n dX3_enter_15 rfl ?_
    refine y_getv 3 12 dX3_enter_16 rfl rfl hX.1 hdep ?_
    refine y_aload_n dX3_enter_19 rfl ?_
    refine y_getv 3 13 dX3_enter_20 rfl rfl hX.1 hc.2.2.2.2.1 ?_
    refine y_iast ((dp - 1)) dX3_enter_23 (k3_10 hX) rfl (by omega) (by omega) ?_
    refine y_aload_n dX3_enter_24 rfl ?_
    refine y_getr 3 11 dX3_enter_25 rfl rfl hX.1 (r3_11 hX) ?_
    refine y_aload_n dX3_enter_28 rfl ?_
    refine y_getv 3 12 dX3_enter_29 rfl rfl hX.1 ((xuI_o (Or.inl (by omega))).trans hdep) ?_
    refine y_aload_n dX3_enter_32 rfl ?_
    refine y_getv 3 14 dX3_enter_33 rfl rfl hX.1 ((xuI_o (Or.inl (by omega))).trans hc.2.2.2.2.2.1) ?_
    refine y_iast ((dp - 1)) dX3_enter_36 (k3_11 hX) rfl (by omega) (by omega) ?_
    refine y_aload_n dX3_enter_37 rfl ?_
    refine y_dup dX3_enter_38 rfl ?_
    refine y_getv 3 12 dX3_enter_39 rfl rfl hX.1 ((xuI_o (Or.inl (by omega))).trans ((xuI_o (Or.inl (by omega))).trans hdep)) ?_
    refine y_iconst (v := 1) dX3_enter_42 (by decide) ?_
    refine y_iaddv ((nI dp)) dX3_enter_43 ((nI_add (dp - 1) 1).trans (congrArg nI (by omega))) ?_
    refine y_puti 3 12 dX3_enter_44 rfl rfl rfl hX.1 ?_
    refine y_aload_n dX3_enter_47 rfl ?_
    refine y_aload_n dX3_enter_48 rfl ?_
    refine y_getv 3 5 dX3_enter_49 rfl rfl hX.1 ((xuI_o (Or.inr (by decide))).trans ((xuI_o (Or.inl (by omega))).trans ((xuI_o (Or.inl (by omega))).trans (hc.2.1.2.2.2.2.2.trans h32)))) ?_
    refine y_aload_n dX3_enter_52 rfl ?_
    refine y_getv 3 12 dX3_enter_53 rfl rfl hX.1 xuI_s ?_
    refine y_max dX3_enter_56 rfl (Nat.le_of_ble_eq_true rfl) ?_
    rw [hmx]
    refine y_puti 3 5 dX3_enter_59 rfl rfl rfl hX.1 ?_
    refine y_aload_n dX3_enter_62 rfl ?_
    refine y_iload_n dX3_enter_63 rfl ?_
    refine y_puti 3 13 dX3_enter_64 rfl rfl rfl hX.1 ?_
    refine y_aload_n dX3_enter_67 rfl ?_
    refine y_iload_n dX3_enter_68 rfl ?_
    refine y_puti 3 14 dX3_enter_69 rfl rfl rfl hX.1 ?_
    refine y_iconst (v := (-1)) dX3_enter_72 (by decide) ?_
    exact y_ret dX3_enter_73 rfl rfl (hp _ ((xFk.u (by omega)).tr ((xFk.u (by omega)).tr (xFk.f.tr (xFk.f.tr (xFk.f.tr xFk.f))))) hE.2)
theorem kstartNext {d : Nat} {Pp : Option Value → xH → Prop} {K : Nat → Nat × Nat} {I : Nat → Nat → Int32} {P : Nat → Nat → Option Nat} {n s : Nat} {o st : Nat} {G : xX} {sl : List Nat} (hX : xAt K P (o + 2) 3) (hs : xMst I G (o + 2) sl st) (hl : sl.length ≤ 13) (hst : st ≤ 13) (h0 : sl.length ≤ st → Pp (some (.int 0)) (K, I, P, n, s)) (h1 : ∀ e, sl[st]? = some e → Pp (some (.int (-1))) (K, xuI (xuI (xuI I (o + 2) 13 (nI (e / 20))) (o + 2) 14 (G 5 e)) (o + 2) 9 (nI (st + 1)), P, n, s)) : xC d mX3_startNext [(.ref (o + 2))] (K, I, P, n, s) Pp := by
  refine y_met 0 0 ?_
  show xB d 3 cX3_startNext (some .int) false (xE n s 0 0 Pp) 0 [some (.ref (o + 2))] [] (K, I, P, n, s)
  refine y_aload_n dX3_startNext_0 rfl ?_
  refine y_getv 3 9 dX3_startNext_1 rfl rfl hX.1 hs.2.1 ?_
  refine y_aload_n dX3_startNext_4 rfl ?_
  refine y_getv 3 8 dX3_startNext_5 rfl rfl hX.1 hs.1 ?_
  refine y_icmpN_lt 13 (st) (sl.length) dX3_startNext_8 (by decide) rfl rfl (by omega) (by omega) (fun c8 => ?_) (fun c8 => ?_)
  · obtain ⟨e, he⟩ : ∃ e, sl[st]? = some e := ⟨_, List.getElem?_eq_getElem c8⟩
    obtain ⟨e1, e2⟩ := hs.2.2 st e he
    refine y_aload_n dX3_startNext_13 rfl ?_
    refine y_aload_n dX3_startNext_14 rfl ?_
    refine y_getr 3 6 dX3_startNext_15 rfl rfl hX.1 (r3_6 hX) ?_
    refine y_aload_n dX3_startNext_18 rfl ?_
    refine y_getv 3 9 dX3_startNext_19 rfl rfl hX.1 hs.2.1 ?_
    refine y_ialdN (st) dX3_startNext_22 (k3_6 hX) rfl (by omega) (by omega) e1 ?_
    refine y_puti 3 13 dX3_startNext_23 rfl rfl rfl hX.1 ?_
    refine y_aload_n dX3_startNext_26 rfl ?_
    refine y_aload_n dX3_startNext_27 rfl ?_
    refine y_getr 3 7 dX3_startNext_28 rfl rfl hX.1 (r3_7 hX) ?_
    refine y_aload_n dX3_startNext_31 rfl ?_
    refine y_getv 3 9 dX3_startNext_32 rfl rfl hX.1 ((xuI_o (Or.inr (by decide))).trans hs.2.1) ?_
    refine y_ialdN (st) dX3_startNext_35 (k3_7 hX) rfl (by omega) (by omega) ((xuI_o (Or.inl (by omega))).trans e2) ?_
    refine y_puti 3 14 dX3_startNext_36 rfl rfl rfl hX.1 ?_
    refine y_aload_n dX3_startNext_39 rfl ?_
    refine y_dup dX3_startNext_40 rfl ?_
    refine y_getv 3 9 dX3_startNext_41 rfl rfl hX.1 ((xuI_o (Or.inr (by decide))).trans ((xuI_o (Or.inr (by decide))).trans hs.2.1)) ?_
    refine y_iconst (v := 1) dX3_startNext_44 (by decide) ?_
    refine y_iaddv (nI (st + 1)) dX3_startNext_45 (nI_add (st) (1)) ?_
    refine y_puti 3 9 dX3_startNext_46 rfl rfl rfl hX.1 ?_
    refine y_iconst (v := (-1)) dX3_startNext_49 (by decide) ?_
    exact y_ret dX3_startNext_50 rfl rfl (h1 e he)
  · refine y_iconst (v := 0) dX3_startNext_11 (by decide) ?_
    exact y_ret dX3_startNext_12 rfl rfl (h0 (by omega))
theorem kgoBack {d : Nat} {Pp : Option Value → xH → Prop} {K : Nat → Nat × Nat} {I : Nat → Nat → Int32} {P : Nat → Nat → Option Nat} {n s : Nat} {o L dp de : Nat} {G X : xX} {ord sl : List Nat} {st : Nat} (hX : xAt K P (o + 2) 3) (hL : L = o + 23 ∨ L = o + 29) (hc : xCr I G X o L ord sl st) (h36 : X 0 36 = nI dp) (hdp : 1 ≤ dp) (hdp2 : dp ≤ 101) (h32 : X 0 32 = nI de) (hde : de ≤ 100) (hl : sl.length ≤ 13) (hst : st ≤ 13) (hp : xOut Pp K P n s I G o L ord sl st (-1, (xuI (xuI (xuI X 0 36 (nI (dp - 1))) 0 37 (X 22 (dp - 1))) 0 38 (X 23 (dp - 1))))) : xC (d + 1) mX3_goBack [(.ref (o + 2))] (K, I, P, n, s) Pp := by
  refine y_met 0 0 ?_
  show xB (d + 1) 3 cX3_goBack (some .int) false (xE n s 0 0 Pp) 0 [some (.ref (o + 2))] [] (K, I, P, n, s)
  have g36 : rN (X 0 36) = dp := rN_of h36 (by omega)
  have hdep : I (o + 2) 12 = nI (dp - 1) := by rw [hc.2.2.2.1, g36]
  have hz : rN ((xuI (xuI (xuI X 0 36 (nI (dp - 1))) 0 37 (X 22 (dp - 1))) 0 38 (X 23 (dp - 1))) 0 36) = dp - 1 := by rw [xuI_o (Or.inr (by decide)), xuI_o (Or.inr (by decide)), xuI_s]; exact rN_nI (by omega)
  by_cases c : dp = 1
  · subst c
    have hcd : xCq I G (xuI (xuI (xuI X 0 36 (nI (1 - 1))) 0 37 (X 22 (1 - 1))) 0 38 (X 23 (1 - 1))) o L ord := ⟨hc.1.fr hL (fun _ _ => rfl) (by rw [xuI_ne (by omega), xuI_ne (by omega), xuI_ne (by omega)]) (by rw [xuI_ne (by omega), xuI_ne (by omega), xuI_ne (by omega)]), hc.2.1.fr (fun _ _ => rfl) rfl rfl (by rw [xuI_ne (by omega), xuI_ne (by omega), xuI_ne (by omega)]) (by rw [xuI_ne (by omega), xuI_ne (by omega), xuI_ne (by omega)]) (fun j hj => by rw [xuI_o (Or.inr (mem_ne hj (by decide))), xuI_o (Or.inr (mem_ne hj (by decide))), xuI_o (Or.inr (mem_ne hj (by decide)))])⟩
    refine y_aload_n dX3_goBack_0 rfl ?_
    refine y_getv 3 12 dX3_goBack_1 rfl rfl hX.1 hdep ?_
    refine y_if_ne 12 dX3_goBack_4 (by decide) (fun q => absurd q (by decide)) (fun _ => ?_)
    refine y_aload_n dX3_goBack_7 rfl ?_
    refine y_callV0 mX3_startNext dX3_goBack_8 rfl rfl hX.1 (Nat.le_of_ble_eq_true rfl) (kstartNext (d := d) hX hc.2.2.1 hl hst (fun q => ?_) (fun e he => ?_))
    · exact y_ret dX3_goBack_11 rfl rfl (hp.2.2.1 rfl hz q I xFk.rf hcd)
    · exact y_ret dX3_goBack_11 rfl rfl (hp.2.2.2 rfl hz e he _ (xFk.f.tr (xFk.f.tr xFk.f)) (xCr.start hcd hc.2.2.1 hdep hL (by rw [xuI_o (Or.inr (by decide)), xuI_o (Or.inr (by decide)), xuI_o (Or.inr (by decide))]; exact h32) hde).2)
  · obtain ⟨b1, b2⟩ := hc.2.2.2.2.2.2 (dp - 1) (by omega) (by omega)
    rw [show dp - 1 - 1 = dp - 2 by omega] at b1 b2
    refine y_aload_n dX3_goBack_0 rfl ?_
    refine y_getv 3 12 dX3_goBack_1 rfl rfl hX.1 hdep ?_
    refine y_if_ne 12 dX3_goBack_4 (by decide) (fun _ => ?_) (fun c4 => absurd c4 (fun q => by have := nI_inj (by omega) (by decide) (show nI (dp - 1) = nI 0 from q); omega))
    refine y_aload_n dX3_goBack_12 rfl ?_
    refine y_dup dX3_goBack_13 rfl ?_
    refine y_getv 3 12 dX3_goBack_14 rfl rfl hX.1 hdep ?_
    refine y_iconst (v := 1) dX3_goBack_17 (by decide) ?_
    refine y_isubv ((nI (dp - 2))) dX3_goBack_18 ((pk_sub (b := 1) (by omega)).trans (congrArg nI (by omega))) ?_
    refine y_puti 3 12 dX3_goBack_19 rfl rfl rfl hX.1 ?_
    refine y_aload_n dX3_goBack_22 rfl ?_
    refine y_aload_n dX3_goBack_23 rfl ?_
    refine y_getr 3 10 dX3_goBack_24 rfl rfl hX.1 (r3_10 hX) ?_
    refine y_aload_n dX3_goBack_27 rfl ?_
    refine y_getv 3 12 dX3_goBack_28 rfl rfl hX.1 xuI_s ?_
    refine y_ialdN ((dp - 2)) dX3_goBack_31 (k3_10 hX) rfl (by omega) (by omega) ((xuI_o (Or.inl (by omega))).trans b1) ?_
    refine y_puti 3 13 dX3_goBack_32 rfl rfl rfl hX.1 ?_
    refine y_aload_n dX3_goBack_35 rfl ?_
    refine y_aload_n dX3_goBack_36 rfl ?_
    refine y_getr 3 11 dX3_goBack_37 rfl rfl hX.1 (r3_11 hX) ?_
    refine y_aload_n dX3_goBack_40 rfl ?_
    refine y_getv 3 12 dX3_goBack_41 rfl rfl hX.1 ((xuI_o (Or.inr (by decide))).trans xuI_s) ?_
    refine y_ialdN ((dp - 2)) dX3_goBack_44 (k3_11 hX) rfl (by omega) (by omega) ((xuI_o (Or.inl (by omega))).trans ((xuI_o (Or.inl (by omega))).trans b2)) ?_
    refine y_puti 3 14 dX3_goBack_45 rfl rfl rfl hX.1 ?_
    refine y_iconst (v := (-1)) dX3_goBack_48 (by decide) ?_
    exact y_ret dX3_goBack_49 rfl rfl (hp.2.1 rfl (by rw [hz]; omega) _ (xFk.f.tr (xFk.f.tr xFk.f)) (xCr.bak hc hL h36 (by omega) hdp2))
def rRd (X : xX) (o : Option Nat) : Int32 := match o with
  | none => 0
  | some e => X 15 e
def rWr (X : xX) (o : Option Nat) (x : Int32) : xX := match o with
  | none => X
  | some e => xuI X 15 e x
theorem kreadDatum {d : Nat} {Pp : Option Value → xH → Prop} {K : Nat → Nat × Nat} {I : Nat → Nat → Int32} {P : Nat → Nat → Option Nat} {n s : Nat} {o L m v : Nat} {G X : xX} {ord sl : List Nat} {st : Nat} (hX : xAt K P (o + 2) 3) (hS : xSL K P o L (gC G)) (hw : ∀ m, m < 12 → wfM G m) (hc : xCr I G X o L ord sl st) (h37 : X 0 37 = nI m) (hm : m ∈ ord) (hv : v < 64) (hp : Pp (some (.int (rRd X (sFi G ord m (nI v))))) (K, I, P, n, s)) : xC (d + 2) mX3_readDatum [(.ref (o + 2)), (.ref L), (.int (nI v))] (K, I, P, n, s) Pp := by
  refine y_met 0 0 ?_
  show xB (d + 2) 3 cX3_readDatum (some .int) false (xE n s 0 0 Pp) 0 [some (.ref (o + 2)), some (.ref L), some (.int (nI v)), none] [] (K, I, P, n, s)
  have hc12 := hS.2.2.2.1
  have hc := hc
  obtain ⟨⟨hM, ho, hG, hU, hD, hW⟩, hV, hT, hr⟩ := id hc
  have ho12 : ∀ q ∈ ord, q < 12 := fun q hq => by have := ho.2.2.2.2.2 q hq; omega
  have hmc := ho.2.2.2.2.2 m hm
  refine y_aload_n dX3_readDatum_0 rfl ?_
  refine y_aload_n dX3_readDatum_1 rfl ?_
  refine y_getv 3 13 dX3_readDatum_2 rfl rfl hX.1 (hr.2.1.trans h37) ?_
  refine y_iload_n dX3_readDatum_5 rfl ?_
  refine y_callV2 mX1_giverOf dX3_readDatum_6 rfl rfl hS.1.1 (Nat.le_of_ble_eq_true rfl) (kgiverOf (d := d) hS hM hG hw hmc hv ?_)
  refine y_istore_n dX3_readDatum_9 (by first | (simp; done) | (simp; decide)) (fun x3 e_x3 => ?_)
  cases hf : sFi G ord m (nI v) with
  | none =>
    rw [hf] at hp e_x3
    obtain rfl : x3 = 20 := e_x3
    refine y_aload_n dX3_readDatum_10 rfl ?_
    refine y_iload_n dX3_readDatum_11 rfl ?_
    refine y_callV1 mX1_holds dX3_readDatum_12 rfl rfl hS.1.1 (Nat.le_of_ble_eq_true rfl) (kholds (d := d + 1) hS.1 ho hc12 (fun q hq e => absurd e (fun e => by have := ho12 q hq; have := nI_inj (by decide) (by omega) (show nI 20 = nI q from e); omega)) (fun _ => ?_))
    refine y_if_eq 32 dX3_readDatum_15 (by decide) (fun _ => ?_) (fun q => absurd q (by decide))
    refine y_iconst (v := 0) dX3_readDatum_32 (by decide) ?_
    exact y_ret dX3_readDatum_33 rfl rfl hp
  | some e =>
    rw [hf] at hp e_x3
    obtain ⟨q, hq, hs, hqe⟩ := sFi_4 hw ho12 hm hf
    rw [hqe] at e_x3
    subst e_x3
    have hqc := ho.2.2.2.2.2 q hq
    refine y_aload_n dX3_readDatum_10 rfl ?_
    refine y_iload_n dX3_readDatum_11 rfl ?_
    refine y_callV1 mX1_holds dX3_readDatum_12 rfl rfl hS.1.1 (Nat.le_of_ble_eq_true rfl) (kholds (d := d + 1) hS.1 ho hc12 (fun _ _ _ => ?_) (fun hn => absurd rfl (hn q hq)))
    refine y_if_eq 32 dX3_readDatum_15 (by decide) (fun q => absurd q (by decide)) (fun _ => ?_)
    refine y_aload_n dX3_readDatum_18 rfl ?_
    refine y_getr 1 0 dX3_readDatum_19 rfl rfl hS.1.1 hS.2.1 ?_
    refine y_iload_n dX3_readDatum_22 rfl ?_
    refine y_aald (q) dX3_readDatum_23 hS.2.2.1 rfl (by omega) (by omega) (hS.2.2.2.2.1 (q) hqc).1 ?_
    refine y_getr 2 15 dX3_readDatum_24 rfl rfl (hS.2.2.2.2.1 (q) hqc).2.1 (r2_15 (hS.2.2.2.2.1 (q) hqc).2) ?_
    refine y_iload_n dX3_readDatum_27 rfl ?_
    refine y_ialdN (v) dX3_readDatum_28 (k2_15 (hS.2.2.2.2.1 (q) hqc).2) rfl (by omega) (by omega) ((hD q hq).2 v e hv hs) ?_
    refine y_goto 33 dX3_readDatum_29 (by decide) ?_
    exact y_ret dX3_readDatum_33 rfl rfl hp
theorem kwriteDatum {d : Nat} {Pp : Option Value → xH → Prop} {K : Nat → Nat × Nat} {I : Nat → Nat → Int32} {P : Nat → Nat → Option Nat} {n s : Nat} {o L m v : Nat} {G X : xX} {ord sl : List Nat} {st : Nat} {x : Int32} (hX : xAt K P (o + 2) 3) (hS : xSL K P o L (gC G)) (hw : ∀ m, m < 12 → wfM G m) (hc : xCr I G X o L ord sl st) (h37 : X 0 37 = nI m) (hm : m ∈ ord) (hv : v < 64) (hp0 : sFi G ord m (nI v) = none → Pp none (K, I, P, n, s)) (hp : ∀ e q, sFi G ord m (nI v) = some e → q ∈ ord → sOf G q (nI v) = some e → Pp none (K, xuI I (o + 59 + 13 * q + 12) v x, P, n, s)) : xC (d + 2) mX3_writeDatum [(.ref (o + 2)), (.ref L), (.int (nI v)), (.int x)] (K, I, P, n, s) Pp := by
  refine y_met 0 0 ?_
  show xB (d + 2) 3 cX3_writeDatum none false (xE n s 0 0 Pp) 0 [some (.ref (o + 2)), some (.ref L), some (.int (nI v)), some (.int x), none] [] (K, I, P, n, s)
  have hc12 := hS.2.2.2.1
  have hc := hc
  obtain ⟨⟨hM, ho, hG, hU, hD, hW⟩, hV, hT, hr⟩ := id hc
  have ho12 : ∀ q ∈ ord, q < 12 := fun q hq => by have := ho.2.2.2.2.2 q hq; omega
  have hmc := ho.2.2.2.2.2 m hm
  refine y_aload_n dX3_writeDatum_0 rfl ?_
  refine y_aload_n dX3_writeDatum_1 rfl ?_
  refine y_getv 3 13 dX3_writeDatum_2 rfl rfl hX.1 (hr.2.1.trans h37) ?_
  refine y_iload_n dX3_writeDatum_5 rfl ?_
  refine y_callV2 mX1_giverOf dX3_writeDatum_6 rfl rfl hS.1.1 (Nat.le_of_ble_eq_true rfl) (kgiverOf (d := d) hS hM hG hw hmc hv ?_)
  refine y_istore dX3_writeDatum_9 (by first | (simp; done) | (simp; decide)) (fun x4 e_x4 => ?_)
  cases hf : sFi G ord m (nI v) with
  | none =>
    rw [hf] at e_x4
    obtain rfl : x4 = 20 := e_x4
    refine y_aload_n dX3_writeDatum_11 rfl ?_
    refine y_iload dX3_writeDatum_12 rfl ?_
    refine y_callV1 mX1_holds dX3_writeDatum_14 rfl rfl hS.1.1 (Nat.le_of_ble_eq_true rfl) (kholds (d := d + 1) hS.1 ho hc12 (fun q hq e => absurd e (fun e => by have := ho12 q hq; have := nI_inj (by decide) (by omega) (show nI 20 = nI q from e); omega)) (fun _ => ?_))
    refine y_if_eq 33 dX3_writeDatum_17 (by decide) (fun _ => ?_) (fun q => absurd q (by decide))
    exact y_retv dX3_writeDatum_33 rfl rfl (hp0 hf)
  | some e =>
    rw [hf] at e_x4
    obtain ⟨q, hq, hs, hqe⟩ := sFi_4 hw ho12 hm hf
    rw [hqe] at e_x4
    subst e_x4
    have hqc := ho.2.2.2.2.2 q hq
    refine y_aload_n dX3_writeDatum_11 rfl ?_
    refine y_iload dX3_writeDatum_12 rfl ?_
    refine y_callV1 mX1_holds dX3_writeDatum_14 rfl rfl hS.1.1 (Nat.le_of_ble_eq_true rfl) (kholds (d := d + 1) hS.1 ho hc12 (fun _ _ _ => ?_) (fun hn => absurd rfl (hn q hq)))
    refine y_if_eq 33 dX3_writeDatum_17 (by decide) (fun q => absurd q (by decide)) (fun _ => ?_)
    refine y_aload_n dX3_writeDatum_20 rfl ?_
    refine y_getr 1 0 dX3_writeDatum_21 rfl rfl hS.1.1 hS.2.1 ?_
    refine y_iload dX3_writeDatum_24 rfl ?_
    refine y_aald (q) dX3_writeDatum_26 hS.2.2.1 rfl (by omega) (by omega) (hS.2.2.2.2.1 (q) hqc).1 ?_
    refine y_getr 2 15 dX3_writeDatum_27 rfl rfl (hS.2.2.2.2.1 (q) hqc).2.1 (r2_15 (hS.2.2.2.2.1 (q) hqc).2) ?_
    refine y_iload_n dX3_writeDatum_30 rfl ?_
    refine y_iload_n dX3_writeDatum_31 rfl ?_
    refine y_iast (v) dX3_writeDatum_32 (k2_15 (hS.2.2.2.2.1 (q) hqc).2) rfl (by omega) (by omega) ?_
    exact y_retv dX3_writeDatum_33 rfl rfl (hp e q hf hq hs)
theorem ksay {d : Nat} {Pp : Option Value → xH → Prop} {K : Nat → Nat × Nat} {I : Nat → Nat → Int32} {P : Nat → Nat → Option Nat} {n s : Nat} {o sd : Nat} {x : Int32} (hX : xAt K P (o + 2) 3) (h3 : I (o + 2) 3 = nI sd) (hsd : sd ≤ 10000) (h0 : ¬ sd < 60 → Pp none (K, xuI I (o + 2) 3 (nI (sd + 1)), P, n, s)) (h1 : sd < 60 → Pp none (K, xuI (xuI I (o + 2 + 2) sd x) (o + 2) 3 (nI (sd + 1)), P, n, s)) : xC d mX3_say [(.ref (o + 2)), (.int x)] (K, I, P, n, s) Pp := by
  refine y_met 0 0 ?_
  show xB d 3 cX3_say none false (xE n s 0 0 Pp) 0 [some (.ref (o + 2)), some (.int x)] [] (K, I, P, n, s)
  refine y_aload_n dX3_say_0 rfl ?_
  refine y_getv 3 3 dX3_say_1 rfl rfl hX.1 h3 ?_
  refine y_bipush (v := 60) dX3_say_4 (by decide) ?_
  refine y_icmpN_ge 19 (sd) (60) dX3_say_6 (by decide) rfl rfl (by omega) (by omega) (fun c6 => ?_) (fun c6 => ?_)
  · refine y_aload_n dX3_say_19 rfl ?_
    refine y_dup dX3_say_20 rfl ?_
    refine y_getv 3 3 dX3_say_21 rfl rfl hX.1 h3 ?_
    refine y_iconst (v := 1) dX3_say_24 (by decide) ?_
    refine y_iaddv (nI (sd + 1)) dX3_say_25 (nI_add (sd) (1)) ?_
    refine y_puti 3 3 dX3_say_26 rfl rfl rfl hX.1 ?_
    exact y_retv dX3_say_29 rfl rfl (h0 (by omega))
  · refine y_aload_n dX3_say_9 rfl ?_
    refine y_getr 3 1 dX3_say_10 rfl rfl hX.1 (r3_1 hX) ?_
    refine y_aload_n dX3_say_13 rfl ?_
    refine y_getv 3 3 dX3_say_14 rfl rfl hX.1 h3 ?_
    refine y_iload_n dX3_say_17 rfl ?_
    refine y_iast (sd) dX3_say_18 (k3_1 hX) rfl (by omega) (by omega) ?_
    refine y_aload_n dX3_say_19 rfl ?_
    refine y_dup dX3_say_20 rfl ?_
    refine y_getv 3 3 dX3_say_21 rfl rfl hX.1 ((xuI_o (Or.inl (by omega))).trans h3) ?_
    refine y_iconst (v := 1) dX3_say_24 (by decide) ?_
    refine y_iaddv (nI (sd + 1)) dX3_say_25 (nI_add (sd) (1)) ?_
    refine y_puti 3 3 dX3_say_26 rfl rfl rfl hX.1 ?_
    exact y_retv dX3_say_29 rfl rfl (h1 (by omega))
set_option maxHeartbeats 1000000 in
theorem kcallName {d : Nat} {Pp : Option Value → xH → Prop} {K : Nat → Nat × Nat} {I : Nat → Nat → Int32} {P : Nat → Nat → Option Nat} {n s : Nat} {o L m v dp de bd : Nat} {G X : xX} {ord sl : List Nat} {st : Nat} (hX : xAt K P (o + 2) 3) (hS : xSL K P o L (gC G)) (hw : ∀ m, m < 12 → wfM G m) (hc : xCr I G X o L ord sl st) (h37 : X 0 37 = nI m) (hm : m ∈ ord) (hv : v < 64)(h36 : X 0 36 = nI dp) (hdp : 1 ≤ dp) (hdp2 : dp ≤ 101) (h32 : X 0 32 = nI de) (hde : de ≤ 100) (h31 : X 0 31 = nI bd) (hbd : bd ≤ 10000) (hu : sUC G m (nI v) (gS G m) 0 = true) (hp : xOut Pp K P n s I G o L ord sl st (rCn G ord X m (nI v))) : xC (d + 2) mX3_callName [(.ref (o + 2)), (.ref L), (.int (nI v))] (K, I, P, n, s) Pp := by
  refine y_met 0 0 ?_
  show xB (d + 2) 3 cX3_callName (some .int) false (xE n s 0 0 Pp) 0 [some (.ref (o + 2)), some (.ref L), some (.int (nI v)), none, none] [] (K, I, P, n, s)
  have hc12 := hS.2.2.2.1
  have hc := hc
  obtain ⟨⟨hM, ho, hG, hU, hD, hW⟩, hV, hT, hr⟩ := id hc
  have ho12 : ∀ q ∈ ord, q < 12 := fun q hq => by have := ho.2.2.2.2.2 q hq; omega
  have hmc := ho.2.2.2.2.2 m hm
  have hL := hS.2.2.2.2.2
  have hm12 := ho12 m hm
  unfold rCn at hp
  rw [rN_nI (by omega), rN_of h31 (by omega)] at hp
  have hsl := (hD m hm).1 v hv
  have hws := (hW m v hm hv).1 hu
  refine y_aload_n dX3_callName_0 rfl ?_
  refine y_getr 1 0 dX3_callName_1 rfl rfl hS.1.1 hS.2.1 ?_
  refine y_aload_n dX3_callName_4 rfl ?_
  refine y_getv 3 13 dX3_callName_5 rfl rfl hX.1 (hr.2.1.trans h37) ?_
  refine y_aald (m) dX3_callName_8 hS.2.2.1 rfl (by omega) (by omega) (hS.2.2.2.2.1 (m) hmc).1 ?_
  refine y_getr 2 14 dX3_callName_9 rfl rfl (hS.2.2.2.2.1 (m) hmc).2.1 (r2_14 (hS.2.2.2.2.1 (m) hmc).2) ?_
  refine y_astore_n dX3_callName_12 (by first | (simp; done) | (simp; decide)) ?_
  refine y_aload_n dX3_callName_13 rfl ?_
  refine y_iload_n dX3_callName_14 rfl ?_
  refine y_ialdN (v) dX3_callName_15 (k2_14 (hS.2.2.2.2.1 (m) hmc).2) rfl (by omega) (by omega) hsl ?_
  refine y_bipush (v := 21) dX3_callName_16 (by decide) ?_
  refine y_icmp_ne 43 dX3_callName_18 (by decide) (fun c18 => ?_) (fun c18 => ?_)
  · have hs1 := hsl.trans (hws.resolve_left c18)
    rw [if_neg c18] at hp
    have hc1 := hc
    have hf1 : xFk o I I := xFk.rf
    have h36b := h36
    have h32b := h32
    have he : ∃ I1 X1, I1 = I ∧ X1 = X := ⟨_, _, rfl, rfl⟩
    obtain ⟨I1, X1, eI, eX⟩ := he
    rw [← eX] at hp hc1 h36b h32b
    rw [← eI] at hs1 hc1 ⊢
    replace hf1 : xFk o I I1 := by rw [eI]; exact hf1
    clear eI eX
    have hcc := hc1
    obtain ⟨⟨hM, ho, hG, hU, hD, hW⟩, hV, hT, hr⟩ := hcc
    cases hf : sFi G ord m (nI v) with
    | none =>
      rw [hf] at hp hs1
      refine y_aload_n dX3_callName_43 rfl ?_
      refine y_iload_n dX3_callName_44 rfl ?_
      refine y_ialdN (v) dX3_callName_45 (k2_14 (hS.2.2.2.2.1 m hmc).2) rfl (by omega) (by omega) hs1 ?_
      refine y_istore dX3_callName_46 (by first | (simp; done) | (simp; decide)) (fun x1 e_x1 => ?_)
      subst e_x1
      refine y_aload_n dX3_callName_48 rfl ?_
      refine y_iload dX3_callName_49 rfl ?_
      refine y_callV1 mX1_holds dX3_callName_51 rfl rfl hS.1.1 (Nat.le_of_ble_eq_true rfl) (kholds (d := d + 1) hS.1 ho hc12 (fun q hq e => absurd e (fun e => by have := ho12 q hq; have := nI_inj (by decide) (by omega) (show nI 20 = nI q from e); omega)) (fun _ => ?_))
      refine y_if_eq 78 dX3_callName_54 (by decide) (fun _ => ?_) (fun q => absurd q (by decide))
      refine y_iconst (v := 3) dX3_callName_78 (by decide) ?_
      exact y_ret dX3_callName_79 rfl rfl (hp.go hf1 hc1 (by show rN (X1 0 36) ≠ 0; rw [rN_of h36b (by omega)]; omega))
    | some e =>
      rw [hf] at hp hs1
      obtain ⟨q, hq, hs, hqe⟩ := sFi_4 hw ho12 hm hf
      rw [hqe] at hs1
      have hqc := ho.2.2.2.2.2 q hq
      have he20 : e / 20 = q := nI_inj (by have := (sOf_lt (hw q (ho12 q hq)).2.2.1.2 (ho12 q hq) hs).1; omega) (by have := ho12 q hq; omega) hqe
      refine y_aload_n dX3_callName_43 rfl ?_
      refine y_iload_n dX3_callName_44 rfl ?_
      refine y_ialdN (v) dX3_callName_45 (k2_14 (hS.2.2.2.2.1 m hmc).2) rfl (by omega) (by omega) hs1 ?_
      refine y_istore dX3_callName_46 (by first | (simp; done) | (simp; decide)) (fun x2 e_x2 => ?_)
      subst e_x2
      refine y_aload_n dX3_callName_48 rfl ?_
      refine y_iload dX3_callName_49 rfl ?_
      refine y_callV1 mX1_holds dX3_callName_51 rfl rfl hS.1.1 (Nat.le_of_ble_eq_true rfl) (kholds (d := d + 1) hS.1 ho hc12 (fun _ _ _ => ?_) (fun hn => absurd rfl (hn q hq)))
      refine y_if_eq 78 dX3_callName_54 (by decide) (fun q => absurd q (by decide)) (fun _ => ?_)
      refine y_aload_n dX3_callName_57 rfl ?_
      refine y_iload dX3_callName_58 rfl ?_
      refine y_aload_n dX3_callName_60 rfl ?_
      refine y_getr 1 0 dX3_callName_61 rfl rfl hS.1.1 hS.2.1 ?_
      refine y_iload dX3_callName_64 rfl ?_
      refine y_aald (q) dX3_callName_66 hS.2.2.1 rfl (by omega) (by omega) (hS.2.2.2.2.1 (q) hqc).1 ?_
      refine y_getr 2 3 dX3_callName_67 rfl rfl (hS.2.2.2.2.1 (q) hqc).2.1 (r2_3 (hS.2.2.2.2.1 (q) hqc).2) ?_
      refine y_iload_n dX3_callName_70 rfl ?_
      refine y_ialdN (v) dX3_callName_71 (k2_3 (hS.2.2.2.2.1 (q) hqc).2) rfl (by omega) (by omega) ((hM q hqc).k1 v e hv hs).2.1 ?_
      rw [← he20]
      refine y_callV2 mX3_enter dX3_callName_72 rfl rfl hX.1 (Nat.le_of_ble_eq_true rfl) (kenter (d := d) (e := e) hX hL hc1 h36b hdp hdp2 h32b hde (fun I2 f2 g2 => ?_))
      refine y_goto 79 dX3_callName_75 (by decide) ?_
      exact y_ret dX3_callName_79 rfl rfl (hp.go (hf1.tr f2) g2 (rCall_36 h36b hdp hdp2))
  · refine y_aload_n dX3_callName_21 rfl ?_
    refine y_iload_n dX3_callName_22 rfl ?_
    refine y_aload_n dX3_callName_23 rfl ?_
    refine y_aload_n dX3_callName_24 rfl ?_
    refine y_getv 3 13 dX3_callName_25 rfl rfl hX.1 (hr.2.1.trans h37) ?_
    refine y_iload_n dX3_callName_28 rfl ?_
    refine y_callV2 mX1_giverOf dX3_callName_29 rfl rfl hS.1.1 (Nat.le_of_ble_eq_true rfl) (kgiverOf (d := d) hS hM hG hw hmc hv ?_)
    refine y_iast (v) dX3_callName_32 (k2_14 (hS.2.2.2.2.1 (m) hmc).2) rfl (by omega) (by omega) ?_
    refine y_aload_n dX3_callName_33 rfl ?_
    refine y_dup dX3_callName_34 rfl ?_
    refine y_getv 3 4 dX3_callName_35 rfl rfl hX.1 ((xuI_o (Or.inl (by omega))).trans (hV.2.2.2.2.1.trans h31)) ?_
    refine y_iconst (v := 1) dX3_callName_38 (by decide) ?_
    refine y_iaddv (nI (bd + 1)) dX3_callName_39 (nI_add (bd) (1)) ?_
    refine y_puti 3 4 dX3_callName_40 rfl rfl rfl hX.1 ?_
    rw [if_pos c18] at hp
    have hc1 : xCr (xuI (xuI I (o + 59 + 13 * m + 11) v (oM (sFi G ord m (nI v)))) (o + 2) 4 (nI (bd + 1))) G (xuI (xuI X 14 (64 * m + v) (oM (sFi G ord m (nI v)))) 0 31 (nI (bd + 1))) o L ord sl st := (hc.slot hL hv hu).fld hL 4 31 (by omega)
    have hf1 : xFk o I (xuI (xuI I (o + 59 + 13 * m + 11) v (oM (sFi G ord m (nI v)))) (o + 2) 4 (nI (bd + 1))) := (xFk.sl hm12).tr xFk.f
    have h36b : (xuI (xuI X 14 (64 * m + v) (oM (sFi G ord m (nI v)))) 0 31 (nI (bd + 1))) 0 36 = nI dp := by rw [xuI_o (Or.inr (by decide)), xuI_o (Or.inl (by decide))]; exact h36
    have h32b : (xuI (xuI X 14 (64 * m + v) (oM (sFi G ord m (nI v)))) 0 31 (nI (bd + 1))) 0 32 = nI de := by rw [xuI_o (Or.inr (by decide)), xuI_o (Or.inl (by decide))]; exact h32
    have hs1 : (xuI (xuI I (o + 59 + 13 * m + 11) v (oM (sFi G ord m (nI v)))) (o + 2) 4 (nI (bd + 1))) (o + 59 + 13 * m + 11) v = oM (sFi G ord m (nI v)) := by rw [xuI_o (Or.inl (by omega)), xuI_s]
    generalize (xuI (xuI I (o + 59 + 13 * m + 11) v (oM (sFi G ord m (nI v)))) (o + 2) 4 (nI (bd + 1))) = I1 at hs1 hc1 hf1 ⊢
    generalize (xuI (xuI X 14 (64 * m + v) (oM (sFi G ord m (nI v)))) 0 31 (nI (bd + 1))) = X1 at hp hc1 h36b h32b
    have hcc := hc1
    obtain ⟨⟨hM, ho, hG, hU, hD, hW⟩, hV, hT, hr⟩ := hcc
    cases hf : sFi G ord m (nI v) with
    | none =>
      rw [hf] at hp hs1
      refine y_aload_n dX3_callName_43 rfl ?_
      refine y_iload_n dX3_callName_44 rfl ?_
      refine y_ialdN (v) dX3_callName_45 (k2_14 (hS.2.2.2.2.1 m hmc).2) rfl (by omega) (by omega) hs1 ?_
      refine y_istore dX3_callName_46 (by first | (simp; done) | (simp; decide)) (fun x3 e_x3 => ?_)
      subst e_x3
      refine y_aload_n dX3_callName_48 rfl ?_
      refine y_iload dX3_callName_49 rfl ?_
      refine y_callV1 mX1_holds dX3_callName_51 rfl rfl hS.1.1 (Nat.le_of_ble_eq_true rfl) (kholds (d := d + 1) hS.1 ho hc12 (fun q hq e => absurd e (fun e => by have := ho12 q hq; have := nI_inj (by decide) (by omega) (show nI 20 = nI q from e); omega)) (fun _ => ?_))
      refine y_if_eq 78 dX3_callName_54 (by decide) (fun _ => ?_) (fun q => absurd q (by decide))
      refine y_iconst (v := 3) dX3_callName_78 (by decide) ?_
      exact y_ret dX3_callName_79 rfl rfl (hp.go hf1 hc1 (by show rN (X1 0 36) ≠ 0; rw [rN_of h36b (by omega)]; omega))
    | some e =>
      rw [hf] at hp hs1
      obtain ⟨q, hq, hs, hqe⟩ := sFi_4 hw ho12 hm hf
      rw [hqe] at hs1
      have hqc := ho.2.2.2.2.2 q hq
      have he20 : e / 20 = q := nI_inj (by have := (sOf_lt (hw q (ho12 q hq)).2.2.1.2 (ho12 q hq) hs).1; omega) (by have := ho12 q hq; omega) hqe
      refine y_aload_n dX3_callName_43 rfl ?_
      refine y_iload_n dX3_callName_44 rfl ?_
      refine y_ialdN (v) dX3_callName_45 (k2_14 (hS.2.2.2.2.1 m hmc).2) rfl (by omega) (by omega) hs1 ?_
      refine y_istore dX3_callName_46 (by first | (simp; done) | (simp; decide)) (fun x4 e_x4 => ?_)
      subst e_x4
      refine y_aload_n dX3_callName_48 rfl ?_
      refine y_iload dX3_callName_49 rfl ?_
      refine y_callV1 mX1_holds dX3_callName_51 rfl rfl hS.1.1 (Nat.le_of_ble_eq_true rfl) (kholds (d := d + 1) hS.1 ho hc12 (fun _ _ _ => ?_) (fun hn => absurd rfl (hn q hq)))
      refine y_if_eq 78 dX3_callName_54 (by decide) (fun q => absurd q (by decide)) (fun _ => ?_)
      refine y_aload_n dX3_callName_57 rfl ?_
      refine y_iload dX3_callName_58 rfl ?_
      refine y_aload_n dX3_callName_60 rfl ?_
      refine y_getr 1 0 dX3_callName_61 rfl rfl hS.1.1 hS.2.1 ?_
      refine y_iload dX3_callName_64 rfl ?_
      refine y_aald (q) dX3_callName_66 hS.2.2.1 rfl (by omega) (by omega) (hS.2.2.2.2.1 (q) hqc).1 ?_
      refine y_getr 2 3 dX3_callName_67 rfl rfl (hS.2.2.2.2.1 (q) hqc).2.1 (r2_3 (hS.2.2.2.2.1 (q) hqc).2) ?_
      refine y_iload_n dX3_callName_70 rfl ?_
      refine y_ialdN (v) dX3_callName_71 (k2_3 (hS.2.2.2.2.1 (q) hqc).2) rfl (by omega) (by omega) ((hM q hqc).k1 v e hv hs).2.1 ?_
      rw [← he20]
      refine y_callV2 mX3_enter dX3_callName_72 rfl rfl hX.1 (Nat.le_of_ble_eq_true rfl) (kenter (d := d) (e := e) hX hL hc1 h36b hdp hdp2 h32b hde (fun I2 f2 g2 => ?_))
      refine y_goto 79 dX3_callName_75 (by decide) ?_
      exact y_ret dX3_callName_79 rfl rfl (hp.go (hf1.tr f2) g2 (rCall_36 h36b hdp hdp2))
