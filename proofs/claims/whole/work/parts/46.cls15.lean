theorem xAt_P {K : Nat → Nat × Nat} {P P' : Nat → Nat → Option Nat} {q c : Nat} (h : xAt K P q c) (hp : P' q = P q) : xAt K P' q c := ⟨h.1, fun e he => by rw [hp]; exact h.2 e he⟩
theorem xSL_P {K : Nat → Nat × Nat} {P P' : Nat → Nat → Option Nat} {o L c : Nat} (h : xSL K P o L c) (hp : ∀ a, a ≠ o → P' a = P a) : xSL K P' o L c := by
  obtain ⟨h1, h2, h3, h4, h5, h6⟩ := h
  exact ⟨xAt_P h1 (hp _ (by omega)), by rw [hp _ (by omega)]; exact h2, h3, h4, fun m hm => ⟨by rw [hp _ (by omega)]; exact (h5 m hm).1, xAt_P (h5 m hm).2 (hp _ (by omega))⟩, h6⟩
theorem xuP_s {P : Nat → Nat → Option Nat} {a j : Nat} {x : Option Nat} : xuP P a j x a j = x := by unfold xuP; rw [if_pos ⟨rfl, rfl⟩]
theorem xuP_o {P : Nat → Nat → Option Nat} {a j b i : Nat} {x : Option Nat} (h : b ≠ a ∨ i ≠ j) : xuP P a j x b i = P b i := by
  unfold xuP
  rw [if_neg (fun c => h.elim (fun h => h c.1) (fun h => h c.2))]
theorem ktakeTrial {d : Nat} {Pp : Option Value → xH → Prop} {K : Nat → Nat × Nat} {I : Nat → Nat → Int32} {P : Nat → Nat → Option Nat} {n s : Nat} {o L Lb : Nat} {X : xX} {ord : List Nat} {lz : Bool} (hT : xSt K P o L Lb (gC X)) (hw : ∀ m, m < 12 → wfM X m) (hM : xMos I X o) (ho : xLo I X Lb ord) (hG : xLg I X Lb ord) (h8 : I Lb 8 = bI lz) (hu : xSU I X o) (hp : ∀ I', xFs o I I' → xSU I' X o → xNew I' X o ord ord lz → Pp none (K, I', (xuP (xuP P o 2 (some Lb)) o 3 (some L)), n, s)) : xC (d + 4) mX4_takeTrial [(.ref o)] (K, I, P, n, s) Pp := by
  refine y_met 0 0 ?_
  show xB (d + 4) 4 cX4_takeTrial none false (xE n s 0 0 Pp) 0 [some (.ref o), none] [] (K, I, P, n, s)
  obtain ⟨T0, Tm, Tl, Tt, Tf, Tk, hF, hX, hS, hSb, hne⟩ := id hT
  have hc12 := hS.2.2.2.1
  have hLo := hS.2.2.2.2.2
  refine y_aload_n dX4_takeTrial_0 rfl ?_
  refine y_getr 4 2 dX4_takeTrial_1 rfl rfl (And.intro T0 trivial).1 Tl ?_
  refine y_astore_n dX4_takeTrial_4 (by first | (simp; done) | (simp; decide)) ?_
  refine y_aload_n dX4_takeTrial_5 rfl ?_
  refine y_aload_n dX4_takeTrial_6 rfl ?_
  refine y_getr 4 3 dX4_takeTrial_7 rfl rfl (And.intro T0 trivial).1 Tt ?_
  refine y_putr 4 2 dX4_takeTrial_10 rfl rfl rfl (And.intro T0 trivial).1 ?_
  refine y_aload_n dX4_takeTrial_13 rfl ?_
  refine y_aload_n dX4_takeTrial_14 rfl ?_
  refine y_putr 4 3 dX4_takeTrial_15 rfl rfl rfl (And.intro T0 trivial).1 ?_
  refine y_aload_n dX4_takeTrial_18 rfl ?_
  refine y_getr 4 2 dX4_takeTrial_19 rfl rfl (And.intro T0 trivial).1 ((xuP_o (Or.inr (by decide))).trans xuP_s) ?_
  refine y_callV0 mX1_refresh dX4_takeTrial_22 rfl rfl (xSL_P hSb (P' := (xuP (xuP P o 2 (some Lb)) o 3 (some L))) (fun a h => by rw [xuP_ne h, xuP_ne h])).1.1 (Nat.le_of_ble_eq_true rfl) (krefresh (d := d) (ord := ord) (lz := lz) (xSL_P hSb (fun a h => by rw [xuP_ne h, xuP_ne h])) hw hM ho hG h8 hu (fun I2 f1 f2 f3 => ?_))
  exact y_retv dX4_takeTrial_25 rfl rfl (hp I2 f1 f2 f3)
set_option maxHeartbeats 1000000 in
theorem knload {d : Nat} {Pp : Option Value → xH → Prop} {K : Nat → Nat × Nat} {I : Nat → Nat → Int32} {P : Nat → Nat → Option Nat} {n s : Nat} {o L Lb : Nat} {X : xX} {x1 x2 : Int32} (hT : xSt K P o L Lb (gC X)) (hw : ∀ m, m < 12 → wfM X m) (hC : I o 1 = nI (gC X)) (hM : xMos I X o) (hu : xSU I X o) (hb : ((∀ k, k < gC X → x1 ≠ nI k) ∨ ∀ b, x2 ≠ bI b) → Pp (some (.int (-1))) (K, I, P, n, s)) (hf : ∀ (r : Nat) (lz : Bool) (I' : Nat → Nat → Int32), r < gC X → x1 = nI r → x2 = bI lz → (sFt X (sOrd X r) (sOrd X r)).1 ≠ 0 → (∀ a, a ≠ o + 1 → (a < Lb ∨ Lb + 5 < a) → I' a = I a) → I' (o + 1) 1 = (sFt X (sOrd X r) (sOrd X r)).2.1 → I' (o + 1) 2 = (sFt X (sOrd X r) (sOrd X r)).2.2.1 → I' (o + 1) 3 = (sFt X (sOrd X r) (sOrd X r)).2.2.2 → Pp (some (.int (sFt X (sOrd X r) (sOrd X r)).1)) (K, I', P, n, s)) (hk : ∀ (r : Nat) (lz : Bool) (I' : Nat → Nat → Int32), r < gC X → x1 = nI r → x2 = bI lz → (sFt X (sOrd X r) (sOrd X r)).1 = 0 → (∀ a, a ≠ o + 1 → (a < Lb ∨ Lb + 5 < a) → (∀ m, m < 12 → a ≠ o + 59 + 13 * m + 11 ∧ a ≠ o + 59 + 13 * m + 12) → I' a = I a) → I' (o + 1) 1 = (sFt X (sOrd X r) (sOrd X r)).2.1 → I' (o + 1) 2 = (sFt X (sOrd X r) (sOrd X r)).2.2.1 → I' (o + 1) 3 = (sFt X (sOrd X r) (sOrd X r)).2.2.2 → xLy I' X Lb r lz → xSU I' X o → xNew I' X o (sOrd X r) (sOrd X r) lz → Pp (some (.int 0)) (K, I', (xuP (xuP P o 2 (some Lb)) o 3 (some L)), n, s)) : xC (d + 14) mX4_load [(.ref o), (.int x1), (.int x2)] (K, I, P, n, s) Pp := by
  refine y_met 0 0 ?_
  show xB (d + 14) 4 cX4_load (some .int) false (xE n s 0 0 Pp) 0 [some (.ref o), some (.int x1), some (.int x2)] [] (K, I, P, n, s)
  obtain ⟨T0, Tm, Tl, Tt, Tf, Tk, hF, hX, hS, hSb, hne⟩ := id hT
  have hc12 := hS.2.2.2.1
  have hLo := hS.2.2.2.2.2
  have hLb := hSb.2.2.2.2.2
  refine y_aload_n dX4_load_0 rfl ?_
  refine y_iload_n dX4_load_1 rfl ?_
  refine y_callV1 mX4_isModule dX4_load_2 rfl rfl (And.intro T0 trivial).1 (Nat.le_of_ble_eq_true rfl) (kX4_isModule (show (K o).1 = 5 from T0) hC hc12 (fun r hr e_r => ?_) (fun b_r => ?_))
  · subst e_r
    refine y_if_eq 17 dX4_load_5 (by decide) (fun q => absurd q (by decide)) (fun _ => ?_)
    refine y_iload_n dX4_load_8 rfl ?_
    refine y_if_eq 19 dX4_load_9 (by decide) (fun c9 => ?_) (fun c9 => ?_)
    · subst c9
      refine y_aload_n dX4_load_19 rfl ?_
      refine y_getr 4 3 dX4_load_20 rfl rfl (And.intro T0 trivial).1 Tt ?_
      refine y_iload_n dX4_load_23 rfl ?_
      refine y_iload_n dX4_load_24 rfl ?_
      refine y_iconst (v := 1) dX4_load_25 (by decide) ?_
      refine y_icmp_ne 33 dX4_load_26 (by decide) (fun _ => ?_) (fun q => absurd q (by decide))
      refine y_iconst (v := 0) dX4_load_33 (by decide) ?_
      refine y_callV2 mX1_arrange dX4_load_34 rfl rfl hSb.1.1 (Nat.le_of_ble_eq_true rfl) (karrange (d := d) (lz := false) hSb hw hr hM (fun I1 a1 hy => ?_))
      refine y_aload_n dX4_load_37 rfl ?_
      refine y_getr 4 3 dX4_load_38 rfl rfl (And.intro T0 trivial).1 Tt ?_
      refine y_aload_n dX4_load_41 rfl ?_
      refine y_getr 4 4 dX4_load_42 rfl rfl (And.intro T0 trivial).1 Tf ?_
      refine y_callV1 mX1_findFault dX4_load_45 rfl rfl hSb.1.1 (Nat.le_of_ble_eq_true rfl) (kfindFault (d := d + 9) (ord := sOrd X r) hSb hF (hM.fr (fun m i _ _ => a1 _ (by omega))) hw hy.1 hy.2.1 (fun I2 hg => ?_))
      obtain ⟨g0, g1, g2, g3, g4⟩ := hg
      have hfr : ∀ a, a ≠ o + 1 → (a < Lb ∨ Lb + 5 < a) → I2 a = I a := fun a h1 h2 => (g0 a h1).trans (a1 a h2)
      have hy2 : xLy I2 X Lb r false := ⟨hy.1.fr (congrFun (g0 _ (by omega)) 3) (g0 _ (by omega)) (g0 _ (by omega)), fun v hv => (congrFun (g0 _ (by omega)) v).trans (hy.2.1 v hv), ⟨(congrFun (g0 _ (by omega)) 6).trans hy.2.2.1.1, fun p q hq => (congrFun (g0 _ (by omega)) p).trans (hy.2.2.1.2 p q hq)⟩, (congrFun (g0 _ (by omega)) 8).trans hy.2.2.2⟩
      by_cases hz : (sFt X (sOrd X r) (sOrd X r)).1 = 0
      · rw [hz] at g1
        refine y_aload_n dX4_load_48 rfl ?_
        refine y_getr 4 4 dX4_load_49 rfl rfl (And.intro T0 trivial).1 Tf ?_
        refine y_getv 0 0 dX4_load_52 rfl rfl hF.1 g1 ?_
        refine y_if_ne 62 dX4_load_55 (by decide) (fun q => absurd q (by decide)) (fun _ => ?_)
        refine y_aload_n dX4_load_58 rfl ?_
        refine y_callV0 mX4_takeTrial dX4_load_59 rfl rfl (And.intro T0 trivial).1 (Nat.le_of_ble_eq_true rfl) (ktakeTrial (d := d + 9) (ord := sOrd X r) (lz := false) hT hw (hM.fr (fun m i _ _ => hfr _ (by omega) (by omega))) hy2.1 hy2.2.1 hy2.2.2.2 (fun m v h1 h2 h3 => (congrFun (hfr _ (by omega) (by omega)) v).trans (hu m v h1 h2 h3)) (fun I4 t1 t2 t3 => ?_))
        refine y_aload_n dX4_load_62 rfl ?_
        refine y_getr 4 4 dX4_load_63 rfl rfl (And.intro T0 trivial).1 ((xuP_o (Or.inr (by decide))).trans ((xuP_o (Or.inr (by decide))).trans Tf)) ?_
        refine y_getv 0 0 dX4_load_66 rfl rfl hF.1 ((congrFun (t1.lt (by omega)) 0).trans g1) ?_
        exact y_ret dX4_load_69 rfl rfl (hk r false I4 hr rfl rfl hz (fun a h1 h2 h3 => (t1 a h3).trans (hfr a h1 h2)) ((congrFun (t1.lt (by omega)) 1).trans g2) ((congrFun (t1.lt (by omega)) 2).trans g3) ((congrFun (t1.lt (by omega)) 3).trans g4) ⟨t1.lo hLb hy2.1, t1.lg hLb hy2.2.1, ⟨(congrFun (t1.lt (by omega)) 6).trans hy2.2.2.1.1, fun p q hq => (congrFun (t1.lt (by omega)) p).trans (hy2.2.2.1.2 p q hq)⟩, (congrFun (t1.lt (by omega)) 8).trans hy2.2.2.2⟩ t2 t3)
      · refine y_aload_n dX4_load_48 rfl ?_
        refine y_getr 4 4 dX4_load_49 rfl rfl (And.intro T0 trivial).1 Tf ?_
        refine y_getv 0 0 dX4_load_52 rfl rfl hF.1 g1 ?_
        refine y_if_ne 62 dX4_load_55 (by decide) (fun _ => ?_) (fun c55 => absurd c55 hz)
        refine y_aload_n dX4_load_62 rfl ?_
        refine y_getr 4 4 dX4_load_63 rfl rfl (And.intro T0 trivial).1 Tf ?_
        refine y_getv 0 0 dX4_load_66 rfl rfl hF.1 g1 ?_
        exact y_ret dX4_load_69 rfl rfl (hf r false I2 hr rfl rfl hz hfr g2 g3 g4)
    · refine y_iload_n dX4_load_12 rfl ?_
      refine y_iconst (v := 1) dX4_load_13 (by decide) ?_
      refine y_icmp_eq 19 dX4_load_14 (by decide) (fun c14 => ?_) (fun c14 => ?_)
      · subst c14
        refine y_aload_n dX4_load_19 rfl ?_
        refine y_getr 4 3 dX4_load_20 rfl rfl (And.intro T0 trivial).1 Tt ?_
        refine y_iload_n dX4_load_23 rfl ?_
        refine y_iload_n dX4_load_24 rfl ?_
        refine y_iconst (v := 1) dX4_load_25 (by decide) ?_
        refine y_icmp_ne 33 dX4_load_26 (by decide) (fun q => absurd q (by decide)) (fun _ => ?_)
        refine y_iconst (v := 1) dX4_load_29 (by decide) ?_
        refine y_goto 34 dX4_load_30 (by decide) ?_
        refine y_callV2 mX1_arrange dX4_load_34 rfl rfl hSb.1.1 (Nat.le_of_ble_eq_true rfl) (karrange (d := d) (lz := true) hSb hw hr hM (fun I1 a1 hy => ?_))
        refine y_aload_n dX4_load_37 rfl ?_
        refine y_getr 4 3 dX4_load_38 rfl rfl (And.intro T0 trivial).1 Tt ?_
        refine y_aload_n dX4_load_41 rfl ?_
        refine y_getr 4 4 dX4_load_42 rfl rfl (And.intro T0 trivial).1 Tf ?_
        refine y_callV1 mX1_findFault dX4_load_45 rfl rfl hSb.1.1 (Nat.le_of_ble_eq_true rfl) (kfindFault (d := d + 9) (ord := sOrd X r) hSb hF (hM.fr (fun m i _ _ => a1 _ (by omega))) hw hy.1 hy.2.1 (fun I2 hg => ?_))
        obtain ⟨g0, g1, g2, g3, g4⟩ := hg
        have hfr : ∀ a, a ≠ o + 1 → (a < Lb ∨ Lb + 5 < a) → I2 a = I a := fun a h1 h2 => (g0 a h1).trans (a1 a h2)
        have hy2 : xLy I2 X Lb r true := ⟨hy.1.fr (congrFun (g0 _ (by omega)) 3) (g0 _ (by omega)) (g0 _ (by omega)), fun v hv => (congrFun (g0 _ (by omega)) v).trans (hy.2.1 v hv), ⟨(congrFun (g0 _ (by omega)) 6).trans hy.2.2.1.1, fun p q hq => (congrFun (g0 _ (by omega)) p).trans (hy.2.2.1.2 p q hq)⟩, (congrFun (g0 _ (by omega)) 8).trans hy.2.2.2⟩
        by_cases hz : (sFt X (sOrd X r) (sOrd X r)).1 = 0
        · rw [hz] at g1
          refine y_aload_n dX4_load_48 rfl ?_
          refine y_getr 4 4 dX4_load_49 rfl rfl (And.intro T0 trivial).1 Tf ?_
          refine y_getv 0 0 dX4_load_52 rfl rfl hF.1 g1 ?_
          refine y_if_ne 62 dX4_load_55 (by decide) (fun q => absurd q (by decide)) (fun _ => ?_)
          refine y_aload_n dX4_load_58 rfl ?_
          refine y_callV0 mX4_takeTrial dX4_load_59 rfl rfl (And.intro T0 trivial).1 (Nat.le_of_ble_eq_true rfl) (ktakeTrial (d := d + 9) (ord := sOrd X r) (lz := true) hT hw (hM.fr (fun m i _ _ => hfr _ (by omega) (by omega))) hy2.1 hy2.2.1 hy2.2.2.2 (fun m v h1 h2 h3 => (congrFun (hfr _ (by omega) (by omega)) v).trans (hu m v h1 h2 h3)) (fun I4 t1 t2 t3 => ?_))
          refine y_aload_n dX4_load_62 rfl ?_
          refine y_getr 4 4 dX4_load_63 rfl rfl (And.intro T0 trivial).1 ((xuP_o (Or.inr (by decide))).trans ((xuP_o (Or.inr (by decide))).trans Tf)) ?_
          refine y_getv 0 0 dX4_load_66 rfl rfl hF.1 ((congrFun (t1.lt (by omega)) 0).trans g1) ?_
          exact y_ret dX4_load_69 rfl rfl (hk r true I4 hr rfl rfl hz (fun a h1 h2 h3 => (t1 a h3).trans (hfr a h1 h2)) ((congrFun (t1.lt (by omega)) 1).trans g2) ((congrFun (t1.lt (by omega)) 2).trans g3) ((congrFun (t1.lt (by omega)) 3).trans g4) ⟨t1.lo hLb hy2.1, t1.lg hLb hy2.2.1, ⟨(congrFun (t1.lt (by omega)) 6).trans hy2.2.2.1.1, fun p q hq => (congrFun (t1.lt (by omega)) p).trans (hy2.2.2.1.2 p q hq)⟩, (congrFun (t1.lt (by omega)) 8).trans hy2.2.2.2⟩ t2 t3)
        · refine y_aload_n dX4_load_48 rfl ?_
          refine y_getr 4 4 dX4_load_49 rfl rfl (And.intro T0 trivial).1 Tf ?_
          refine y_getv 0 0 dX4_load_52 rfl rfl hF.1 g1 ?_
          refine y_if_ne 62 dX4_load_55 (by decide) (fun _ => ?_) (fun c55 => absurd c55 hz)
          refine y_aload_n dX4_load_62 rfl ?_
          refine y_getr 4 4 dX4_load_63 rfl rfl (And.intro T0 trivial).1 Tf ?_
          refine y_getv 0 0 dX4_load_66 rfl rfl hF.1 g1 ?_
          exact y_ret dX4_load_69 rfl rfl (hf r true I2 hr rfl rfl hz hfr g2 g3 g4)
      · refine y_iconst (v := (-1)) dX4_load_17 (by decide) ?_
        exact y_ret dX4_load_18 rfl rfl (hb (Or.inr (fun b e => by cases b; exact c9 e; exact c14 e)))
  · refine y_if_eq 17 dX4_load_5 (by decide) (fun _ => ?_) (fun q => absurd q (by decide))
    refine y_iconst (v := (-1)) dX4_load_17 (by decide) ?_
    exact y_ret dX4_load_18 rfl rfl (hb (Or.inl b_r))
