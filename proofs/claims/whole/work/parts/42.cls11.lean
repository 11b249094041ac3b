theorem xOut.mo {Pp : Option Value → xH → Prop} {K : Nat → Nat × Nat} {P : Nat → Nat → Option Nat} {n s : Nat} {I I2 : Nat → Nat → Int32} {G : xX} {o L : Nat} {ord sl : List Nat} {st : Nat} {y : Int32 × xX} (h : xOut Pp K P n s I G o L ord sl st y) (hf : xFk o I I2) : xOut Pp K P n s I2 G o L ord sl st y :=
  ⟨fun e I' f c => h.1 e I' (hf.tr f) c, fun e z I' f c => h.2.1 e z I' (hf.tr f) c, fun e z l I' f c => h.2.2.1 e z l I' (hf.tr f) c, fun e z q g I' f c => h.2.2.2 e z q g I' (hf.tr f) c⟩
theorem ktakeTurn {d : Nat} {Pp : Option Value → xH → Prop} {K : Nat → Nat × Nat} {I : Nat → Nat → Int32} {P : Nat → Nat → Option Nat} {n s : Nat} {o L gr dp mk : Nat} {G X : xX} {ord sl : List Nat} {st : Nat} (hX : xAt K P (o + 2) 3) (hS : xSL K P o L (gC G)) (hw : ∀ m, m < 12 → wfM G m) (hc : xCr I G X o L ord sl st) (hwr : wfR ord X dp mk) (hdp : 1 ≤ dp) (hmk : mk ≤ gr) (hgr : gr ≤ 5000) (hl : sl.length ≤ 13) (hst : st ≤ 13) (h4 : rN (X 0 38) ≥ gS G (rN (X 0 37)) → Pp (some (.int 4)) (K, I, P, n, s)) (h1 : ¬ rN (X 0 38) ≥ gS G (rN (X 0 37)) → mk = gr → Pp (some (.int 1)) (K, I, P, n, s)) (hp : ¬ rN (X 0 38) ≥ gS G (rN (X 0 37)) → mk ≠ gr → xOut Pp K P n s I G o L ord sl st (rMk G ord (xuI X 0 29 (nI (mk + 1))))) : xC (d + 4) mX3_takeTurn [(.ref (o + 2)), (.ref L), (.int (nI gr))] (K, I, P, n, s) Pp := by
  refine y_met 0 0 ?_
  show xB (d + 4) 3 cX3_takeTurn (some .int) false (xE n s 0 0 Pp) 0 [some (.ref (o + 2)), some (.ref L), some (.int (nI gr)), none, none, none] [] (K, I, P, n, s)
  have hL := hS.2.2.2.2.2
  have hc12 := hS.2.2.2.1
  obtain ⟨de, bd, sd, a1, a2, a3, a4, a5, a6, a7, a8, a9, a10, a11, a12⟩ := id hwr
  obtain ⟨m, k, b1, b2, b3, b4⟩ := a11 hdp
  obtain ⟨⟨hM, ho, hG, hU, hD, hW⟩, hV, hT, hr⟩ := id hc
  have hmc := ho.2.2.2.2.2 m b2
  have hwm := hw m (by omega)
  obtain ⟨w1, w2⟩ := hwm.2.2.2.2.2.1
  rw [rN_of b3 (by omega), rN_of b1 (by omega)] at h4 h1 hp
  refine y_aload_n dX3_takeTurn_0 rfl ?_
  refine y_getr 1 0 dX3_takeTurn_1 rfl rfl hS.1.1 hS.2.1 ?_
  refine y_aload_n dX3_takeTurn_4 rfl ?_
  refine y_getv 3 13 dX3_takeTurn_5 rfl rfl hX.1 (hr.2.1.trans b1) ?_
  refine y_aald (m) dX3_takeTurn_8 hS.2.2.1 rfl (by omega) (by omega) (hS.2.2.2.2.1 (m) hmc).1 ?_
  refine y_astore_n dX3_takeTurn_9 (by first | (simp; done) | (simp; decide)) ?_
  refine y_aload_n dX3_takeTurn_10 rfl ?_
  refine y_getv 3 14 dX3_takeTurn_11 rfl rfl hX.1 (hr.2.2.1.trans b3) ?_
  refine y_aload_n dX3_takeTurn_14 rfl ?_
  refine y_getv 2 13 dX3_takeTurn_15 rfl rfl (hS.2.2.2.2.1 (m) hmc).2.1 ((hM m hmc).s.trans w1) ?_
  refine y_icmpN_lt 23 (k) ((gS G m)) dX3_takeTurn_18 (by decide) rfl rfl (by omega) (by omega) (fun c18 => ?_) (fun c18 => ?_)
  · refine y_aload_n dX3_takeTurn_23 rfl ?_
    refine y_getv 3 2 dX3_takeTurn_24 rfl rfl hX.1 (hV.2.2.1.trans a7) ?_
    refine y_iload_n dX3_takeTurn_27 rfl ?_
    refine y_icmpN_lt 33 (mk) (gr) dX3_takeTurn_28 (by decide) rfl rfl (by omega) (by omega) (fun c28 => ?_) (fun c28 => ?_)
    · refine y_aload_n dX3_takeTurn_33 rfl ?_
      refine y_dup dX3_takeTurn_34 rfl ?_
      refine y_getv 3 2 dX3_takeTurn_35 rfl rfl hX.1 (hV.2.2.1.trans a7) ?_
      refine y_iconst (v := 1) dX3_takeTurn_38 (by decide) ?_
      refine y_iaddv (nI (mk + 1)) dX3_takeTurn_39 (nI_add (mk) (1)) ?_
      refine y_puti 3 2 dX3_takeTurn_40 rfl rfl rfl hX.1 ?_
      have hc1 := hc.fld (x := nI (mk + 1)) hL 2 29 (by omega)
      have hpp := (hp (by omega) (by omega)).mo (I2 := xuI I (o + 2) 2 (nI (mk + 1))) xFk.f
      unfold rMk at hpp
      rw [show (xuI X 0 29 (nI (mk + 1))) 0 37 = nI m from (xuI_o (Or.inr (by decide))).trans b1, show (xuI X 0 29 (nI (mk + 1))) 0 38 = nI k from (xuI_o (Or.inr (by decide))).trans b3, rN_nI (show m < 2 ^ 31 by omega), rN_nI (show k < 2 ^ 31 by omega)] at hpp
      generalize xuI I (o + 2) 2 (nI (mk + 1)) = I1 at hc1 hpp ⊢
      have hst1 : I1 (o + 2) 14 = nI k := by rw [hc1.2.2.2.2.2.1, xuI_o (Or.inr (by decide))]; exact b3
      refine y_aload_n dX3_takeTurn_43 rfl ?_
      refine y_getv 3 14 dX3_takeTurn_44 rfl rfl hX.1 hst1 ?_
      refine y_istore dX3_takeTurn_47 (by first | (simp; done) | (simp; decide)) (fun x1 e_x1 => ?_)
      subst e_x1
      refine y_aload_n dX3_takeTurn_49 rfl ?_
      refine y_dup dX3_takeTurn_50 rfl ?_
      refine y_getv 3 14 dX3_takeTurn_51 rfl rfl hX.1 hst1 ?_
      refine y_iconst (v := 1) dX3_takeTurn_54 (by decide) ?_
      refine y_iaddv (nI (k + 1)) dX3_takeTurn_55 (nI_add (k) (1)) ?_
      refine y_puti 3 14 dX3_takeTurn_56 rfl rfl rfl hX.1 ?_
      have hc2 := hc1.stp (x := nI (k + 1)) hL
      replace hpp := hpp.mo (I2 := xuI I1 (o + 2) 14 (nI (k + 1))) xFk.f
      generalize xuI I1 (o + 2) 14 (nI (k + 1)) = I2 at hc2 hpp ⊢
      obtain ⟨s1, s2, s3, s4⟩ := (hc2.1.1 m hmc).st k (by omega)
      refine y_aload_n dX3_takeTurn_59 rfl ?_
      refine y_getr 2 9 dX3_takeTurn_60 rfl rfl (hS.2.2.2.2.1 (m) hmc).2.1 (r2_9 (hS.2.2.2.2.1 (m) hmc).2) ?_
      refine y_iload dX3_takeTurn_63 rfl ?_
      refine y_ialdN (k) dX3_takeTurn_65 (k2_9 (hS.2.2.2.2.1 (m) hmc).2) rfl (by omega) (by omega) s1 ?_
      refine y_istore dX3_takeTurn_66 (by first | (simp; done) | (simp; decide)) (fun x2 e_x2 => ?_)
      subst e_x2
      refine y_aload_n dX3_takeTurn_68 rfl ?_
      refine y_aload_n dX3_takeTurn_69 rfl ?_
      refine y_iload dX3_takeTurn_70 rfl ?_
      refine y_aload_n dX3_takeTurn_72 rfl ?_
      refine y_getr 2 10 dX3_takeTurn_73 rfl rfl (hS.2.2.2.2.1 (m) hmc).2.1 (r2_10 (hS.2.2.2.2.1 (m) hmc).2) ?_
      refine y_iload dX3_takeTurn_76 rfl ?_
      refine y_ialdN (k) dX3_takeTurn_78 (k2_10 (hS.2.2.2.2.1 (m) hmc).2) rfl (by omega) (by omega) s2 ?_
      refine y_aload_n dX3_takeTurn_79 rfl ?_
      refine y_getr 2 11 dX3_takeTurn_80 rfl rfl (hS.2.2.2.2.1 (m) hmc).2.1 (r2_11 (hS.2.2.2.2.1 (m) hmc).2) ?_
      refine y_iload dX3_takeTurn_83 rfl ?_
      refine y_ialdN (k) dX3_takeTurn_85 (k2_11 (hS.2.2.2.2.1 (m) hmc).2) rfl (by omega) (by omega) s3 ?_
      refine y_aload_n dX3_takeTurn_86 rfl ?_
      refine y_getr 2 12 dX3_takeTurn_87 rfl rfl (hS.2.2.2.2.1 (m) hmc).2.1 (r2_12 (hS.2.2.2.2.1 (m) hmc).2) ?_
      refine y_iload dX3_takeTurn_90 rfl ?_
      refine y_ialdN (k) dX3_takeTurn_92 (k2_12 (hS.2.2.2.2.1 (m) hmc).2) rfl (by omega) (by omega) s4 ?_
      refine y_callV5 mX3_makeStep dX3_takeTurn_93 rfl rfl hX.1 (Nat.le_of_ble_eq_true rfl) (kmakeStep (d := d) (m := m) (k := k) (dp := dp) (de := de) (bd := bd) (sd := sd) hX hS hw hc2 ((xuI_o (Or.inr (by decide))).trans b1) b2 ((xuI_o (Or.inr (by decide))).trans a1) hdp a2 ((xuI_o (Or.inr (by decide))).trans a3) a4 ((xuI_o (Or.inr (by decide))).trans a5) (by omega) ((xuI_o (Or.inr (by decide))).trans a6) (by omega) hl hst (by omega) rfl rfl (hwm.2.2.2.2.2.2.1 k (by omega)) (show xOut _ K P n s I2 G o L ord sl st _ from ⟨fun e I' f c => y_ret dX3_takeTurn_96 rfl rfl (hpp.1 e I' f c), fun e z I' f c => y_ret dX3_takeTurn_96 rfl rfl (hpp.2.1 e z I' f c), fun e z l I' f c => y_ret dX3_takeTurn_96 rfl rfl (hpp.2.2.1 e z l I' f c), fun e z q g I' f c => y_ret dX3_takeTurn_96 rfl rfl (hpp.2.2.2 e z q g I' f c)⟩))
    · refine y_iconst (v := 1) dX3_takeTurn_31 (by decide) ?_
      exact y_ret dX3_takeTurn_32 rfl rfl (h1 (by omega) (by omega))
  · refine y_iconst (v := 4) dX3_takeTurn_21 (by decide) ?_
    exact y_ret dX3_takeTurn_22 rfl rfl (h4 (by omega))
/-- what comes of the rest of a run -/
def rEnd (G : xX) (ord : List Nat) (gr t : Nat) (r : List Nat) (X : xX) : Int32 × xX := if (rLp G ord gr t X).1 = -1 then rRuns G ord gr r (rLp G ord gr t X).2 else rLp G ord gr t X
theorem rEnd_rLp0 {G : xX} {ord : List Nat} {gr t : Nat} {X : xX} (h : rN (X 0 36) = 0) : rLp G ord gr t X = (-1, X) := by
  cases t with
  | zero => rfl
  | succ t => unfold rLp; rw [if_pos h]
theorem rRuns_start {G : xX} {ord : List Nat} {gr e : Nat} {r : List Nat} {X : xX} (h : (rCall G (xuI X 0 36 0) (some e)).1 = -1) : rRuns G ord gr (e :: r) X = rEnd G ord gr (gr + 2) r (rCall G (xuI X 0 36 0) (some e)).2 := by
  rw [rRuns_cons]
  have hg : rGo G ord gr X e = rLp G ord gr (gr + 2) (rCall G (xuI X 0 36 0) (some e)).2 := by unfold rGo; rw [if_pos h]
  rw [hg]
  rfl
def zEnd (z : Int32) : Int32 := if z = -1 then 0 else z
set_option maxHeartbeats 2000000 in
theorem kgo_loop {d o L gr : Nat} {G : xX} {ord sl : List Nat} {Q : Option Value → xH → Prop} {K : Nat → Nat × Nat} {P : Nat → Nat → Option Nat} {n s : Nat} (hX : xAt K P (o + 2) 3) (hS : xSL K P o L (gC G)) (hw : ∀ m, m < 12 → wfM G m) (hlk : lchk G ord) (hgr : gr ≤ 5000) (hl : sl.length ≤ 13) (hsl : ∀ e ∈ sl, e / 20 ∈ ord ∧ ∃ v : Nat, v < 100 ∧ G 5 e = nI v) : ∀ (u : Nat) (X : xX) (st mk dp t : Nat) (I : Nat → Nat → Int32), mk + u = gr → gr + 1 ≤ mk + t → st ≤ 13 → wfR ord X dp mk → 1 ≤ dp → xCr I G X o L ord sl st → (∀ I' x4, xFk o I I' → xCq I' G (rEnd G ord gr t (sl.drop st) X).2 o L ord → xB (d + 5) 3 cX3_go (some .int) false Q 32 [some (.ref (o + 2)), some (.ref L), some (.int (nI gr)), some (.int (zEnd (rEnd G ord gr t (sl.drop st) X).1)), x4] [] (K, I', P, n, s)) → xB (d + 5) 3 cX3_go (some .int) false Q 8 [some (.ref (o + 2)), some (.ref L), some (.int (nI gr)), some (.int (-1)), some (.int (nI mk))] [] (K, I, P, n, s) := by
  have hL := hS.2.2.2.2.2
  intro u
  induction u with
  | zero =>
    intro X st mk dp t I hu ht hst hwr hdp hc k1
    obtain rfl : mk = gr := by omega
    have ho12 : ∀ q ∈ ord, q < 12 := fun q hq => by have := hc.1.2.1.2.2.2.2.2 q hq; have := hS.2.2.2.1; omega
    obtain ⟨de, bd, sd, a1, a2, a3, a4, a5, a6, a7, a8, a9, a10, a11, a12⟩ := id hwr
    have g36 : rN (X 0 36) ≠ 0 := by rw [rN_of a1 (by omega)]; omega
    have g29 : rN (X 0 29) = mk := rN_of a7 (by omega)
    obtain ⟨t, rfl⟩ : ∃ t', t = t' + 1 := ⟨t - 1, by omega⟩
    have hlp : rLp G ord mk (t + 1) X = if rN (X 0 38) ≥ gS G (rN (X 0 37)) then (4, X) else if mk = mk then (1, X) else if (rMk G ord (xuI X 0 29 (nI (mk + 1)))).1 = -1 then rLp G ord mk t (rMk G ord (xuI X 0 29 (nI (mk + 1)))).2 else rMk G ord (xuI X 0 29 (nI (mk + 1))) := by
      conv => lhs; unfold rLp
      rw [if_neg g36, g29]
    refine y_iload dX3_go_8 rfl ?_
    refine y_iload_n dX3_go_10 rfl ?_
    refine y_icmpN_gt 32 (mk) (mk) dX3_go_11 (by decide) rfl rfl (by omega) (by omega) (fun c11 => absurd c11 (by omega)) (fun _ => ?_)
    refine y_iload_n dX3_go_14 rfl ?_
    refine y_iconst (v := (-1)) dX3_go_15 (by decide) ?_
    refine y_icmp_ne 32 dX3_go_16 (by decide) (fun q => absurd q (by decide)) (fun _ => ?_)
    refine y_aload_n dX3_go_19 rfl ?_
    refine y_aload_n dX3_go_20 rfl ?_
    refine y_iload_n dX3_go_21 rfl ?_
    refine y_callV2 mX3_takeTurn dX3_go_22 rfl rfl hX.1 (Nat.le_of_ble_eq_true rfl) (ktakeTurn (d := d) hX hS hw hc hwr hdp (Nat.le_refl _) hgr hl hst (fun c4 => ?_) (fun c4 _ => ?_) (fun _ c => absurd rfl c))
    · have hE : rEnd G ord mk (t + 1) (sl.drop st) X = (4, X) := by unfold rEnd; rw [hlp, if_pos c4, if_neg (show ¬ ((4 : Int32) = -1) by decide)]
      rw [hE] at k1
      refine y_istore_n dX3_go_25 (by first | (simp; done) | (simp; decide)) (fun x1 e_x1 => ?_)
      subst e_x1
      refine y_iinc dX3_go_26 rfl (fun x2 e_x2 => ?_)
      obtain rfl : x2 = nI (mk + 1) := by rw [e_x2]; exact nI_1 (mk)
      refine y_goto 8 dX3_go_29 (by decide) ?_
      refine y_iload dX3_go_8 rfl ?_
      refine y_iload_n dX3_go_10 rfl ?_
      refine y_icmpN_gt 32 ((mk + 1)) (mk) dX3_go_11 (by decide) rfl rfl (by omega) (by omega) (fun _ => ?_) (fun c11 => absurd c11 (by omega))
      exact k1 I _ xFk.rf hc.d
    · have hE : rEnd G ord mk (t + 1) (sl.drop st) X = (1, X) := by unfold rEnd; rw [hlp, if_neg c4, if_pos rfl, if_neg (show ¬ ((1 : Int32) = -1) by decide)]
      rw [hE] at k1
      refine y_istore_n dX3_go_25 (by first | (simp; done) | (simp; decide)) (fun x3 e_x3 => ?_)
      subst e_x3
      refine y_iinc dX3_go_26 rfl (fun x4 e_x4 => ?_)
      obtain rfl : x4 = nI (mk + 1) := by rw [e_x4]; exact nI_1 (mk)
      refine y_goto 8 dX3_go_29 (by decide) ?_
      refine y_iload dX3_go_8 rfl ?_
      refine y_iload_n dX3_go_10 rfl ?_
      refine y_icmpN_gt 32 ((mk + 1)) (mk) dX3_go_11 (by decide) rfl rfl (by omega) (by omega) (fun _ => ?_) (fun c11 => absurd c11 (by omega))
      exact k1 I _ xFk.rf hc.d
  | succ u ih =>
    intro X st mk dp t I hu ht hst hwr hdp hc k1
    have ho12 : ∀ q ∈ ord, q < 12 := fun q hq => by have := hc.1.2.1.2.2.2.2.2 q hq; have := hS.2.2.2.1; omega
    obtain ⟨de, bd, sd, a1, a2, a3, a4, a5, a6, a7, a8, a9, a10, a11, a12⟩ := id hwr
    have g36 : rN (X 0 36) ≠ 0 := by rw [rN_of a1 (by omega)]; omega
    have g29 : rN (X 0 29) = mk := rN_of a7 (by omega)
    obtain ⟨t, rfl⟩ : ∃ t', t = t' + 1 := ⟨t - 1, by omega⟩
    have hlp : rLp G ord gr (t + 1) X = if rN (X 0 38) ≥ gS G (rN (X 0 37)) then (4, X) else if mk = gr then (1, X) else if (rMk G ord (xuI X 0 29 (nI (mk + 1)))).1 = -1 then rLp G ord gr t (rMk G ord (xuI X 0 29 (nI (mk + 1)))).2 else rMk G ord (xuI X 0 29 (nI (mk + 1))) := by
      conv => lhs; unfold rLp
      rw [if_neg g36, g29]
    refine y_iload dX3_go_8 rfl ?_
    refine y_iload_n dX3_go_10 rfl ?_
    refine y_icmpN_gt 32 (mk) (gr) dX3_go_11 (by decide) rfl rfl (by omega) (by omega) (fun c11 => absurd c11 (by omega)) (fun _ => ?_)
    refine y_iload_n dX3_go_14 rfl ?_
    refine y_iconst (v := (-1)) dX3_go_15 (by decide) ?_
    refine y_icmp_ne 32 dX3_go_16 (by decide) (fun q => absurd q (by decide)) (fun _ => ?_)
    refine y_aload_n dX3_go_19 rfl ?_
    refine y_aload_n dX3_go_20 rfl ?_
    refine y_iload_n dX3_go_21 rfl ?_
    refine y_callV2 mX3_takeTurn dX3_go_22 rfl rfl hX.1 (Nat.le_of_ble_eq_true rfl) (ktakeTurn (d := d) hX hS hw hc hwr hdp (by omega) hgr hl hst (fun c4 => ?_) (fun c4 c1 => absurd c1 (by omega)) (fun c4 c1 => ?_))
    · have hE : rEnd G ord gr (t + 1) (sl.drop st) X = (4, X) := by unfold rEnd; rw [hlp, if_pos c4, if_neg (show ¬ ((4 : Int32) = -1) by decide)]
      rw [hE] at k1
      refine y_istore_n dX3_go_25 (by first | (simp; done) | (simp; decide)) (fun x1 e_x1 => ?_)
      subst e_x1
      refine y_iinc dX3_go_26 rfl (fun x2 e_x2 => ?_)
      obtain rfl : x2 = nI (mk + 1) := by rw [e_x2]; exact nI_1 (mk)
      refine y_goto 8 dX3_go_29 (by decide) ?_
      refine y_iload dX3_go_8 rfl ?_
      refine y_iload_n dX3_go_10 rfl ?_
      refine y_icmpN_gt 32 ((mk + 1)) (gr) dX3_go_11 (by decide) rfl rfl (by omega) (by omega) (fun c11 => absurd c11 (by omega)) (fun _ => ?_)
      refine y_iload_n dX3_go_14 rfl ?_
      refine y_iconst (v := (-1)) dX3_go_15 (by decide) ?_
      refine y_icmp_ne 32 dX3_go_16 (by decide) (fun _ => ?_) (fun q => absurd q (by decide))
      exact k1 I _ xFk.rf hc.d
    · obtain ⟨m, k, b1, b2, b3, b4⟩ := a11 hdp
      obtain ⟨dp2, hwr2⟩ := wfR_make (X := xuI X 0 29 (nI (mk + 1))) hw ho12 hlk (wfR_made hwr (by omega)) ⟨bd, (xuI_o (Or.inr (by decide))).trans a5, a8⟩ ⟨sd, (xuI_o (Or.inr (by decide))).trans a6, a9⟩ hdp ((xuI_o (Or.inr (by decide))).trans b1) b2 ((xuI_o (Or.inr (by decide))).trans b3) (by rw [rN_of b3 (by omega), rN_of b1 (by have := ho12 m b2; omega)] at c4; omega)
      rw [if_neg c4, if_neg c1] at hlp
      generalize rMk G ord (xuI X 0 29 (nI (mk + 1))) = y at hlp hwr2 ⊢
      refine ⟨fun e I2 f2 g2 => ?_, fun e e0 I2 f2 g2 => ?_, fun e e0 el I2 f2 g2 => ?_, fun e e0 q hq I2 f2 g2 => ?_⟩
      · have hE : rEnd G ord gr (t + 1) (sl.drop st) X = y := by unfold rEnd; rw [hlp, if_neg e, if_neg e]
        rw [hE] at k1
        rw [show zEnd y.1 = y.1 from if_neg e] at k1
        obtain ⟨z, ez⟩ : ∃ z, y.1 = z := ⟨_, rfl⟩
        rw [ez] at e k1 ⊢
        refine y_istore_n dX3_go_25 (by first | (simp; done) | (simp; decide)) (fun x3 e_x3 => ?_)
        subst e_x3
        refine y_iinc dX3_go_26 rfl (fun x4 e_x4 => ?_)
        obtain rfl : x4 = nI (mk + 1) := by rw [e_x4]; exact nI_1 (mk)
        refine y_goto 8 dX3_go_29 (by decide) ?_
        refine y_iload dX3_go_8 rfl ?_
        refine y_iload_n dX3_go_10 rfl ?_
        refine y_icmpN_gt 32 ((mk + 1)) (gr) dX3_go_11 (by decide) rfl rfl (by omega) (by omega) (fun c11 => absurd c11 (by omega)) (fun _ => ?_)
        refine y_iload_n dX3_go_14 rfl ?_
        refine y_iconst (v := (-1)) dX3_go_15 (by decide) ?_
        refine y_icmp_ne 32 dX3_go_16 (by decide) (fun _ => ?_) (fun c16 => absurd c16 e)
        exact k1 I2 _ f2 g2
      · have hE : rEnd G ord gr (t + 1) (sl.drop st) X = rEnd G ord gr t (sl.drop st) y.2 := by unfold rEnd; rw [hlp, if_pos e]
        rw [hE] at k1
        have hd2 : 1 ≤ dp2 := by obtain ⟨_, _, _, z1, z2, -⟩ := hwr2; rw [rN_of z1 (by omega)] at e0; omega
        refine y_istore_n dX3_go_25 (by first | (simp; done) | (simp; decide)) (fun x5 e_x5 => ?_)
        subst e_x5
        refine y_iinc dX3_go_26 rfl (fun x6 e_x6 => ?_)
        obtain rfl : x6 = nI (mk + 1) := by rw [e_x6]; exact nI_1 (mk)
        refine y_goto 8 dX3_go_29 (by decide) ?_
        exact ih y.2 st (mk + 1) dp2 t I2 (by omega) (by omega) hst hwr2 hd2 g2 (fun I' x4 p1 p2 => k1 I' x4 (f2.tr p1) p2)
      · have hE : rEnd G ord gr (t + 1) (sl.drop st) X = (-1, y.2) := by unfold rEnd; rw [hlp, if_pos e, rEnd_rLp0 e0, if_pos rfl, List.drop_of_length_le el]; rfl
        rw [hE] at k1
        refine y_istore_n dX3_go_25 (by first | (simp; done) | (simp; decide)) (fun x7 e_x7 => ?_)
        subst e_x7
        refine y_iinc dX3_go_26 rfl (fun x8 e_x8 => ?_)
        obtain rfl : x8 = nI (mk + 1) := by rw [e_x8]; exact nI_1 (mk)
        refine y_goto 8 dX3_go_29 (by decide) ?_
        refine y_iload dX3_go_8 rfl ?_
        refine y_iload_n dX3_go_10 rfl ?_
        refine y_icmpN_gt 32 ((mk + 1)) (gr) dX3_go_11 (by decide) rfl rfl (by omega) (by omega) (fun c11 => absurd c11 (by omega)) (fun _ => ?_)
        refine y_iload_n dX3_go_14 rfl ?_
        refine y_iconst (v := (-1)) dX3_go_15 (by decide) ?_
        refine y_icmp_ne 32 dX3_go_16 (by decide) (fun _ => ?_) (fun q => absurd q (by decide))
        exact k1 I2 _ f2 g2
      · obtain ⟨q1, q2⟩ := hsl q (List.mem_of_getElem? hq)
        have hql := (List.getElem?_eq_some_iff.mp hq).1
        obtain ⟨de2, bd2, sd2, z1, z2, z3, z4, z5, z6, z7, z8, z9, z10, z11, z12⟩ := id hwr2
        have hd0 : dp2 = 0 := by rw [rN_of z1 (by omega)] at e0; exact e0
        subst hd0
        have hwr3 : wfR ord (xuI y.2 0 36 0) 0 (mk + 1) := ⟨de2, bd2, sd2, by rw [xuI_s]; rfl, by omega, (xuI_o (Or.inr (by decide))).trans z3, z4, (xuI_o (Or.inr (by decide))).trans z5, (xuI_o (Or.inr (by decide))).trans z6, (xuI_o (Or.inr (by decide))).trans z7, z8, z9, z10, fun h => absurd h (by omega), fun i _ h => absurd h (by omega)⟩
        have hc1 : (rCall G (xuI y.2 0 36 0) (some q)).1 = -1 := by
          unfold rCall
          simp only
          rw [if_neg (by rw [xuI_s, show (0 : Int32) = nI 0 from rfl, rN_nI (by decide)]; decide)]
        obtain ⟨dp3, hwr4, hd3, -⟩ := wfR_call (G := G) (e := q) hwr3 (Or.inl rfl) q1 q2
        have hd3 := hd3 hc1
        have hdr : sl.drop st = q :: sl.drop (st + 1) := by rw [List.drop_eq_getElem_cons hql]; congr 1; rw [List.getElem?_eq_getElem hql] at hq; exact Option.some.inj hq
        have hE : rEnd G ord gr (t + 1) (sl.drop st) X = rEnd G ord gr (gr + 2) (sl.drop (st + 1)) (rCall G (xuI y.2 0 36 0) (some q)).2 := by
          conv => lhs; unfold rEnd
          rw [hlp, if_pos e, rEnd_rLp0 e0, if_pos rfl, hdr]
          exact rRuns_start hc1
        rw [hE] at k1
        refine y_istore_n dX3_go_25 (by first | (simp; done) | (simp; decide)) (fun x9 e_x9 => ?_)
        subst e_x9
        refine y_iinc dX3_go_26 rfl (fun x10 e_x10 => ?_)
        obtain rfl : x10 = nI (mk + 1) := by rw [e_x10]; exact nI_1 (mk)
        refine y_goto 8 dX3_go_29 (by decide) ?_
        exact ih _ (st + 1) (mk + 1) dp3 (gr + 2) I2 (by omega) (by omega) (by omega) hwr4 (by omega) g2 (fun I' x4 p1 p2 => k1 I' x4 (f2.tr p1) p2)
theorem kgo {d : Nat} {Pp : Option Value → xH → Prop} {K : Nat → Nat × Nat} {I : Nat → Nat → Int32} {P : Nat → Nat → Option Nat} {n s : Nat} {o L gr e0 : Nat} {G X : xX} {ord r : List Nat} (hX : xAt K P (o + 2) 3) (hS : xSL K P o L (gC G)) (hw : ∀ m, m < 12 → wfM G m) (hlk : lchk G ord) (hgr : gr ≤ 5000) (hl : (e0 :: r).length ≤ 13) (hsl : ∀ e ∈ e0 :: r, e / 20 ∈ ord ∧ ∃ v : Nat, v < 100 ∧ G 5 e = nI v) (hwc : wfC X 0) (hc : xCq I G X o L ord) (hs : xMst I G (o + 2) (e0 :: r) 0) (h12 : I (o + 2) 12 = nI 0) (hp : ∀ I', xFk o I I' → xCq I' G (rRuns G ord gr (e0 :: r) X).2 o L ord → Pp (some (.int (zEnd (rRuns G ord gr (e0 :: r) X).1))) (K, I', P, n, s)) : xC (d + 5) mX3_go [(.ref (o + 2)), (.ref L), (.int (nI gr))] (K, I, P, n, s) Pp := by
  refine y_met 0 0 ?_
  show xB (d + 5) 3 cX3_go (some .int) false (xE n s 0 0 Pp) 0 [some (.ref (o + 2)), some (.ref L), some (.int (nI gr)), none, none] [] (K, I, P, n, s)
  have hL := hS.2.2.2.2.2
  obtain ⟨de, bd, sd, a3, a4, a5, a6, a7, a8, a9, a10⟩ := hwc
  obtain ⟨s1, s2⟩ := xCr.start (e := e0) hc hs h12 hL a3 a4
  obtain ⟨q1, q2⟩ := hsl e0 List.mem_cons_self
  have hwr3 : wfR ord (xuI X 0 36 0) 0 0 := ⟨de, bd, sd, by rw [xuI_s]; rfl, by omega, (xuI_o (Or.inr (by decide))).trans a3, a4, (xuI_o (Or.inr (by decide))).trans a5, (xuI_o (Or.inr (by decide))).trans a6, (xuI_o (Or.inr (by decide))).trans a7, a8, a9, a10, fun h => absurd h (by omega), fun i _ h => absurd h (by omega)⟩
  obtain ⟨dp3, hwr4, hd3, -⟩ := wfR_call (G := G) (e := e0) hwr3 (Or.inl rfl) q1 q2
  have hd3 := hd3 s1
  rw [rRuns_start s1] at hp
  refine y_aload_n dX3_go_0 rfl ?_
  refine y_callV0 mX3_startNext dX3_go_1 rfl rfl hX.1 (Nat.le_of_ble_eq_true rfl) (kstartNext (d := d + 4) hX hs hl (Nat.zero_le _) (fun q => absurd q (by simp)) (fun e he => ?_))
  obtain rfl : e0 = e := Option.some.inj he
  refine y_istore_n dX3_go_4 (by first | (simp; done) | (simp; decide)) (fun x1 e_x1 => ?_)
  subst e_x1
  refine y_iconst (v := 0) dX3_go_5 (by decide) ?_
  refine y_istore dX3_go_6 (by first | (simp; done) | (simp; decide)) (fun x2 e_x2 => ?_)
  subst e_x2
  exact kgo_loop (d := d) hX hS hw hlk hgr hl hsl gr _ 1 0 dp3 (gr + 2) _ (by omega) (by omega) (by omega) hwr4 (by omega) s2 (fun I' x4 p1 p2 => y_iload_n dX3_go_32 rfl (y_ret dX3_go_33 rfl rfl (hp I' ((xFk.f.tr (xFk.f.tr xFk.f)).tr p1) p2)))
