theorem z1000 {x : Int32} (h : x.toInt < 1000) : (x / 1000 - 1).toInt < 0 := by
  have hx := Int32.le_toInt x
  have h1 : (x / 1000).toInt = x.toInt.tdiv 1000 := by rw [Int32.toInt_div_of_ne_right _ _ (by decide)]; rfl
  have h2 : -2147484 ≤ x.toInt.tdiv 1000 ∧ x.toInt.tdiv 1000 ≤ 0 := by
    rcases Int.le_total 0 x.toInt with q | q
    · rw [Int.tdiv_eq_ediv_of_nonneg q]; omega
    · obtain ⟨y, hy⟩ : ∃ y, x.toInt = -y := ⟨-x.toInt, by omega⟩
      rw [hy, Int.neg_tdiv, Int.tdiv_eq_ediv_of_nonneg (by omega)]
      omega
  rw [Int32.toInt_sub, h1, show (1 : Int32).toInt = 1 from rfl, Int.bmod_eq_of_le (by omega) (by omega)]
  omega
theorem rAtF_none {X : xX} {m : Nat} {y : Int32} : ∀ {t k : Nat}, rAtF X m y t k = none → ∀ j, k ≤ j → j < k + t → X 4 (20 * m + j) = 0 → X 5 (20 * m + j) ≠ y
  | 0, k, h => fun j h1 h2 => by omega
  | t + 1, k, h => fun j h1 h2 e1 e2 => by
    unfold rAtF at h
    by_cases c : X 4 (20 * m + k) = 0 ∧ X 5 (20 * m + k) = y
    · rw [if_pos c] at h; cases h
    · rw [if_neg c] at h
      by_cases hj : j = k
      · subst hj; exact c ⟨e1, e2⟩
      · exact rAtF_none h j (by omega) (by omega) e1 e2
set_option maxHeartbeats 1000000 in
theorem kcallAt {d : Nat} {Pp : Option Value → xH → Prop} {K : Nat → Nat × Nat} {I : Nat → Nat → Int32} {P : Nat → Nat → Option Nat} {n s : Nat} {o L dp de : Nat} {G X : xX} {ord sl : List Nat} {st : Nat} {x : Int32} (hX : xAt K P (o + 2) 3) (hS : xSL K P o L (gC G)) (hw : ∀ m, m < 12 → wfM G m) (hc : xCr I G X o L ord sl st) (h36 : X 0 36 = nI dp) (hdp : 1 ≤ dp) (hdp2 : dp ≤ 101) (h32 : X 0 32 = nI de) (hde : de ≤ 100) (hp : xOut Pp K P n s I G o L ord sl st (rCall G X (rAt G ord x))) : xC (d + 2) mX3_callAt [(.ref (o + 2)), (.ref L), (.int x)] (K, I, P, n, s) Pp := by
  refine y_met 0 0 ?_
  show xB (d + 2) 3 cX3_callAt (some .int) false (xE n s 0 0 Pp) 0 [some (.ref (o + 2)), some (.ref L), some (.int x), none, none, none] [] (K, I, P, n, s)
  have hc12 := hS.2.2.2.1
  obtain ⟨⟨hM, ho, hG, hU, hD, hW⟩, hV, hT, hr⟩ := id hc
  have ho12 : ∀ q ∈ ord, q < 12 := fun q hq => by have := ho.2.2.2.2.2 q hq; omega
  have hol := okl_len ho.2.2.2.2
  have hL := hS.2.2.2.2.2
  have hlost : rAt G ord x = none → Pp (some (.int 3)) (K, I, P, n, s) := fun e => by
    rw [e] at hp
    exact hp.go xFk.rf hc (by show rN (X 0 36) ≠ 0; rw [rN_of h36 (by omega)]; omega)
  have hge : ¬ x.toInt < 1000 → ∃ p : Nat, p < 2 ^ 31 - 1 ∧ x / 1000 - 1 = nI p := fun h => by
    have e1 : x = nI x.toInt.toNat := zN (by omega)
    have h2 := Int32.toInt_lt x
    refine ⟨x.toInt.toNat / 1000 - 1, by omega, ?_⟩
    have e2 : x / 1000 = nI (x.toInt.toNat / 1000) := by
      conv => lhs; rw [e1]
      exact pk_div (by omega) (by decide) (by decide)
    rw [e2]
    exact pk_sub (b := 1) (by omega)
  refine y_iload_n dX3_callAt_0 rfl ?_
  refine y_sipush (v := 1000) dX3_callAt_1 (by decide) ?_
  refine y_idiv dX3_callAt_4 (by decide) ?_
  refine y_iconst (v := 1) dX3_callAt_5 (by decide) ?_
  refine y_isub dX3_callAt_6 ?_
  refine y_istore_n dX3_callAt_7 (by first | (simp; done) | (simp; decide)) (fun z3 e_z3 => ?_)
  refine y_iload_n dX3_callAt_8 rfl ?_
  refine y_sipush (v := 1000) dX3_callAt_9 (by decide) ?_
  refine y_irem dX3_callAt_12 (by decide) ?_
  refine y_istore dX3_callAt_13 (by first | (simp; done) | (simp; decide)) (fun z4 e_z4 => ?_)
  by_cases cx : x.toInt < 1000
  · have hz := z1000 cx
    refine y_iload_n dX3_callAt_15 rfl ?_
    refine y_ifZ_lt 35 (z3.toInt) dX3_callAt_16 (by decide) rfl (fun _ => ?_) (fun c16 => absurd c16 (by rw [e_z3]; omega))
    refine y_iconst (v := 3) dX3_callAt_35 (by decide) ?_
    exact y_ret dX3_callAt_36 rfl rfl (hlost (by unfold rAt; rw [if_pos cx]))
  · obtain ⟨p, hp1, ep⟩ := hge cx
    have e_z3 := e_z3.trans ep
    subst e_z3
    have hrA : rAt G ord x = match ord[p]? with
      | none => none
      | some m => rAtF G m (x - x / 1000 * 1000) (gF G m) 0 := by
      unfold rAt
      rw [if_neg cx, ep, rN_nI (by omega)]
      all_goals (cases ord[p]? <;> rfl)
    refine y_iload_n dX3_callAt_15 rfl ?_
    refine y_ifZ_lt 35 ((p : Int)) dX3_callAt_16 (by decide) (nI_toInt (by omega)) (fun c16 => absurd c16 (by omega)) (fun _ => ?_)
    refine y_iload_n dX3_callAt_19 rfl ?_
    refine y_aload_n dX3_callAt_20 rfl ?_
    refine y_getv 1 3 dX3_callAt_21 rfl rfl hS.1.1 ho.1 ?_
    refine y_icmpN_ge 35 (p) (ord.length) dX3_callAt_24 (by decide) rfl rfl (by omega) (by omega) (fun c24 => ?_) (fun c24 => ?_)
    · rw [List.getElem?_eq_none (by omega)] at hrA
      refine y_iconst (v := 3) dX3_callAt_35 (by decide) ?_
      exact y_ret dX3_callAt_36 rfl rfl (hlost hrA)
    · obtain ⟨q, hq⟩ : ∃ q, ord[p]? = some q := ⟨_, List.getElem?_eq_getElem (by omega)⟩
      rw [hq] at hrA
      simp only at hrA
      have hqo := List.mem_of_getElem? hq
      have hqc := ho.2.2.2.2.2 q hqo
      have hq12 := ho12 q hqo
      rw [← e_z4] at hrA
      refine y_iload dX3_callAt_27 rfl ?_
      refine y_callS1 mX4_isStep 1 dX3_callAt_29 rfl rfl (Nat.le_of_ble_eq_true rfl) (kX4_isStep (fun t ht et => ?_) (fun c29 => ?_))
      · subst et
        refine y_if_ne 37 dX3_callAt_32 (by decide) (fun _ => ?_) (fun q => absurd q (by decide))
        refine y_aload_n dX3_callAt_37 rfl ?_
        refine y_getr 1 1 dX3_callAt_38 rfl rfl hS.1.1 (r1_1 hS.1) ?_
        refine y_iload_n dX3_callAt_41 rfl ?_
        refine y_ialdN (p) dX3_callAt_42 (k1_1 hS.1) rfl (by omega) (by omega) (ho.2.1 p q hq) ?_
        refine y_istore dX3_callAt_43 (by first | (simp; done) | (simp; decide)) (fun x1 e_x1 => ?_)
        subst e_x1
        cases hr1 : rAtF G q (nI t) (gF G q) 0 with
        | none =>
          rw [hr1] at hrA
          refine y_aload_n dX3_callAt_45 rfl ?_
          refine y_getr 1 0 dX3_callAt_46 rfl rfl hS.1.1 hS.2.1 ?_
          refine y_iload dX3_callAt_49 rfl ?_
          refine y_aald (q) dX3_callAt_51 hS.2.2.1 rfl (by omega) (by omega) (hS.2.2.2.2.1 (q) hqc).1 ?_
          refine y_getr 2 6 dX3_callAt_52 rfl rfl (hS.2.2.2.2.1 (q) hqc).2.1 (r2_6 (hS.2.2.2.2.1 (q) hqc).2) ?_
          refine y_iload dX3_callAt_55 rfl ?_
          refine y_baldN (t) dX3_callAt_57 (k2_6 (hS.2.2.2.2.1 (q) hqc).2) rfl (by omega) (by omega) ((hM q hqc).a0 t ht (fun j hj e4 => rAtF_none hr1 j (Nat.zero_le _) (by omega) e4)) ?_
          refine y_if_eq 72 dX3_callAt_58 (by decide) (fun _ => ?_) (fun q => absurd q (by decide))
          refine y_iconst (v := 3) dX3_callAt_72 (by decide) ?_
          exact y_ret dX3_callAt_73 rfl rfl (hlost hrA)
        | some e =>
          rw [hr1] at hrA
          obtain ⟨j, j1, j2, j3, j4, j5⟩ := rAtF_some hr1
          have he20 : e / 20 = q := by have := (hw q hq12).2.2.1.2; omega
          rw [hrA] at hp
          refine y_aload_n dX3_callAt_45 rfl ?_
          refine y_getr 1 0 dX3_callAt_46 rfl rfl hS.1.1 hS.2.1 ?_
          refine y_iload dX3_callAt_49 rfl ?_
          refine y_aald (q) dX3_callAt_51 hS.2.2.1 rfl (by omega) (by omega) (hS.2.2.2.2.1 (q) hqc).1 ?_
          refine y_getr 2 6 dX3_callAt_52 rfl rfl (hS.2.2.2.2.1 (q) hqc).2.1 (r2_6 (hS.2.2.2.2.1 (q) hqc).2) ?_
          refine y_iload dX3_callAt_55 rfl ?_
          refine y_baldN (t) dX3_callAt_57 (k2_6 (hS.2.2.2.2.1 (q) hqc).2) rfl (by omega) (by omega) ((hM q hqc).a1 t j ht (by omega) (by rw [← j3]; exact j4) (by rw [← j3]; exact j5)) ?_
          refine y_if_eq 72 dX3_callAt_58 (by decide) (fun q => absurd q (by decide)) (fun _ => ?_)
          refine y_aload_n dX3_callAt_61 rfl ?_
          refine y_iload dX3_callAt_62 rfl ?_
          refine y_iload dX3_callAt_64 rfl ?_
          rw [← he20, ← j5]
          refine y_callV2 mX3_enter dX3_callAt_66 rfl rfl hX.1 (Nat.le_of_ble_eq_true rfl) (kenter (d := d) (e := e) hX hL hc h36 hdp hdp2 h32 hde (fun I2 f2 g2 => ?_))
          refine y_goto 73 dX3_callAt_69 (by decide) ?_
          exact y_ret dX3_callAt_73 rfl rfl (hp.go f2 g2 (rCall_36 h36 hdp hdp2))
      · refine y_if_ne 37 dX3_callAt_32 (by decide) (fun q => absurd q (by decide)) (fun _ => ?_)
        refine y_iconst (v := 3) dX3_callAt_35 (by decide) ?_
        have hno : rAtF G q z4 (gF G q) 0 = none := by
          cases hr1 : rAtF G q z4 (gF G q) 0 with
          | none => rfl
          | some e =>
            obtain ⟨j, j1, j2, j3, j4, j5⟩ := rAtF_some hr1
            subst j3
            obtain ⟨v, hv1, hv2⟩ := ((hw q hq12).2.2.2.1 j (by omega)).2.2 j4
            exact absurd (j5.symm.trans hv2) (c29 v hv1)
        exact y_ret dX3_callAt_36 rfl rfl (hlost (hrA.trans hno))
theorem kreckon0 {d : Nat} {Pp : Option Value → xH → Prop} {K : Nat → Nat × Nat} {I : Nat → Nat → Int32} {P : Nat → Nat → Option Nat} {n s : Nat} {o a : Nat} {x y : Int32} (hX : xAt K P (o + 2) 3) (ha : a < 8) (hp : Pp none (K, xuI I (o + 2 + 1) a x, P, n, s)) : xC d mX3_reckon [(.ref (o + 2)), (.int 0), (.int (nI a)), (.int x), (.int y)] (K, I, P, n, s) Pp := by
  refine y_met 0 0 ?_
  show xB d 3 cX3_reckon none false (xE n s 0 0 Pp) 0 [some (.ref (o + 2)), some (.int 0), some (.int (nI a)), some (.int x), some (.int y)] [] (K, I, P, n, s)
  refine y_iload_n dX3_reckon_0 rfl ?_
  refine y_tsw dX3_reckon_1 (fun q => absurd q (by decide)) (fun _ _ => ⟨43, 44, rfl, by decide, ?_⟩)
  refine y_aload_n dX3_reckon_44 rfl ?_
  refine y_getr 3 0 dX3_reckon_45 rfl rfl hX.1 (r3_0 hX) ?_
  refine y_iload_n dX3_reckon_48 rfl ?_
  refine y_iload_n dX3_reckon_49 rfl ?_
  refine y_iast (a) dX3_reckon_50 (k3_0 hX) rfl (by omega) (by omega) ?_
  refine y_goto 170 dX3_reckon_51 (by decide) ?_
  exact y_retv dX3_reckon_170 rfl rfl hp
theorem kreckon1 {d : Nat} {Pp : Option Value → xH → Prop} {K : Nat → Nat × Nat} {I : Nat → Nat → Int32} {P : Nat → Nat → Option Nat} {n s : Nat} {o a b : Nat} {y : Int32} (hX : xAt K P (o + 2) 3) (ha : a < 8)(hb : b < 8) (hp : Pp none (K, xuI I (o + 2 + 1) a (I (o + 2 + 1) b), P, n, s)) : xC d mX3_reckon [(.ref (o + 2)), (.int 1), (.int (nI a)), (.int (nI b)), (.int y)] (K, I, P, n, s) Pp := by
  refine y_met 0 0 ?_
  show xB d 3 cX3_reckon none false (xE n s 0 0 Pp) 0 [some (.ref (o + 2)), some (.int 1), some (.int (nI a)), some (.int (nI b)), some (.int y)] [] (K, I, P, n, s)
  refine y_iload_n dX3_reckon_0 rfl ?_
  refine y_tsw dX3_reckon_1 (fun q => absurd q (by decide)) (fun _ _ => ⟨53, 54, rfl, by decide, ?_⟩)
  refine y_aload_n dX3_reckon_54 rfl ?_
  refine y_getr 3 0 dX3_reckon_55 rfl rfl hX.1 (r3_0 hX) ?_
  refine y_iload_n dX3_reckon_58 rfl ?_
  refine y_aload_n dX3_reckon_59 rfl ?_
  refine y_getr 3 0 dX3_reckon_60 rfl rfl hX.1 (r3_0 hX) ?_
  refine y_iload_n dX3_reckon_63 rfl ?_
  refine y_ialdN (b) dX3_reckon_64 (k3_0 hX) rfl (by omega) (by omega) rfl ?_
  refine y_iast (a) dX3_reckon_65 (k3_0 hX) rfl (by omega) (by omega) ?_
  refine y_goto 170 dX3_reckon_66 (by decide) ?_
  exact y_retv dX3_reckon_170 rfl rfl hp
theorem kreckon2 {d : Nat} {Pp : Option Value → xH → Prop} {K : Nat → Nat × Nat} {I : Nat → Nat → Int32} {P : Nat → Nat → Option Nat} {n s : Nat} {o a b c : Nat}  (hX : xAt K P (o + 2) 3) (ha : a < 8)(hb : b < 8)(hc : c < 8) (hp : Pp none (K, xuI I (o + 2 + 1) a (I (o + 2 + 1) b + I (o + 2 + 1) c), P, n, s)) : xC d mX3_reckon [(.ref (o + 2)), (.int 2), (.int (nI a)), (.int (nI b)), (.int (nI c))] (K, I, P, n, s) Pp := by
  refine y_met 0 0 ?_
  show xB d 3 cX3_reckon none false (xE n s 0 0 Pp) 0 [some (.ref (o + 2)), some (.int 2), some (.int (nI a)), some (.int (nI b)), some (.int (nI c))] [] (K, I, P, n, s)
  refine y_iload_n dX3_reckon_0 rfl ?_
  refine y_tsw dX3_reckon_1 (fun q => absurd q (by decide)) (fun _ _ => ⟨68, 69, rfl, by decide, ?_⟩)
  refine y_aload_n dX3_reckon_69 rfl ?_
  refine y_getr 3 0 dX3_reckon_70 rfl rfl hX.1 (r3_0 hX) ?_
  refine y_iload_n dX3_reckon_73 rfl ?_
  refine y_aload_n dX3_reckon_74 rfl ?_
  refine y_getr 3 0 dX3_reckon_75 rfl rfl hX.1 (r3_0 hX) ?_
  refine y_iload_n dX3_reckon_78 rfl ?_
  refine y_ialdN (b) dX3_reckon_79 (k3_0 hX) rfl (by omega) (by omega) rfl ?_
  refine y_aload_n dX3_reckon_80 rfl ?_
  refine y_getr 3 0 dX3_reckon_81 rfl rfl hX.1 (r3_0 hX) ?_
  refine y_iload dX3_reckon_84 rfl ?_
  refine y_ialdN (c) dX3_reckon_86 (k3_0 hX) rfl (by omega) (by omega) rfl ?_
  refine y_iadd dX3_reckon_87 ?_
  refine y_iast (a) dX3_reckon_88 (k3_0 hX) rfl (by omega) (by omega) ?_
  refine y_goto 170 dX3_reckon_89 (by decide) ?_
  exact y_retv dX3_reckon_170 rfl rfl hp
theorem kreckon3 {d : Nat} {Pp : Option Value → xH → Prop} {K : Nat → Nat × Nat} {I : Nat → Nat → Int32} {P : Nat → Nat → Option Nat} {n s : Nat} {o a b c : Nat}  (hX : xAt K P (o + 2) 3) (ha : a < 8)(hb : b < 8)(hc : c < 8) (hp : Pp none (K, xuI I (o + 2 + 1) a (I (o + 2 + 1) b - I (o + 2 + 1) c), P, n, s)) : xC d mX3_reckon [(.ref (o + 2)), (.int 3), (.int (nI a)), (.int (nI b)), (.int (nI c))] (K, I, P, n, s) Pp := by
  refine y_met 0 0 ?_
  show xB d 3 cX3_reckon none false (xE n s 0 0 Pp) 0 [some (.ref (o + 2)), some (.int 3), some (.int (nI a)), some (.int (nI b)), some (.int (nI c))] [] (K, I, P, n, s)
  refine y_iload_n dX3_reckon_0 rfl ?_
  refine y_tsw dX3_reckon_1 (fun q => absurd q (by decide)) (fun _ _ => ⟨91, 92, rfl, by decide, ?_⟩)
  refine y_aload_n dX3_reckon_92 rfl ?_
  refine y_getr 3 0 dX3_reckon_93 rfl rfl hX.1 (r3_0 hX) ?_
  refine y_iload_n dX3_reckon_96 rfl ?_
  refine y_aload_n dX3_reckon_97 rfl ?_
  refine y_getr 3 0 dX3_reckon_98 rfl rfl hX.1 (r3_0 hX) ?_
  refine y_iload_n dX3_reckon_101 rfl ?_
  refine y_ialdN (b) dX3_reckon_102 (k3_0 hX) rfl (by omega) (by omega) rfl ?_
  refine y_aload_n dX3_reckon_103 rfl ?_
  refine y_getr 3 0 dX3_reckon_104 rfl rfl hX.1 (r3_0 hX) ?_
  refine y_iload dX3_reckon_107 rfl ?_
  refine y_ialdN (c) dX3_reckon_109 (k3_0 hX) rfl (by omega) (by omega) rfl ?_
  refine y_isub dX3_reckon_110 ?_
  refine y_iast (a) dX3_reckon_111 (k3_0 hX) rfl (by omega) (by omega) ?_
  refine y_goto 170 dX3_reckon_112 (by decide) ?_
  exact y_retv dX3_reckon_170 rfl rfl hp
theorem kreckon4 {d : Nat} {Pp : Option Value → xH → Prop} {K : Nat → Nat × Nat} {I : Nat → Nat → Int32} {P : Nat → Nat → Option Nat} {n s : Nat} {o a b c : Nat}  (hX : xAt K P (o + 2) 3) (ha : a < 8)(hb : b < 8)(hc : c < 8) (hp : Pp none (K, xuI I (o + 2 + 1) a (I (o + 2 + 1) b * I (o + 2 + 1) c), P, n, s)) : xC d mX3_reckon [(.ref (o + 2)), (.int 4), (.int (nI a)), (.int (nI b)), (.int (nI c))] (K, I, P, n, s) Pp := by
  refine y_met 0 0 ?_
  show xB d 3 cX3_reckon none false (xE n s 0 0 Pp) 0 [some (.ref (o + 2)), some (.int 4), some (.int (nI a)), some (.int (nI b)), some (.int (nI c))] [] (K, I, P, n, s)
  refine y_iload_n dX3_reckon_0 rfl ?_
  refine y_tsw dX3_reckon_1 (fun q => absurd q (by decide)) (fun _ _ => ⟨114, 115, rfl, by decide, ?_⟩)
  refine y_aload_n dX3_reckon_115 rfl ?_
  refine y_getr 3 0 dX3_reckon_116 rfl rfl hX.1 (r3_0 hX) ?_
  refine y_iload_n dX3_reckon_119 rfl ?_
  refine y_aload_n dX3_reckon_120 rfl ?_
  refine y_getr 3 0 dX3_reckon_121 rfl rfl hX.1 (r3_0 hX) ?_
  refine y_iload_n dX3_reckon_124 rfl ?_
  refine y_ialdN (b) dX3_reckon_125 (k3_0 hX) rfl (by omega) (by omega) rfl ?_
  refine y_aload_n dX3_reckon_126 rfl ?_
  refine y_getr 3 0 dX3_reckon_127 rfl rfl hX.1 (r3_0 hX) ?_
  refine y_iload dX3_reckon_130 rfl ?_
  refine y_ialdN (c) dX3_reckon_132 (k3_0 hX) rfl (by omega) (by omega) rfl ?_
  refine y_imul dX3_reckon_133 ?_
  refine y_iast (a) dX3_reckon_134 (k3_0 hX) rfl (by omega) (by omega) ?_
  refine y_goto 170 dX3_reckon_135 (by decide) ?_
  exact y_retv dX3_reckon_170 rfl rfl hp
theorem kreckon5 {d : Nat} {Pp : Option Value → xH → Prop} {K : Nat → Nat × Nat} {I : Nat → Nat → Int32} {P : Nat → Nat → Option Nat} {n s : Nat} {o a b : Nat} {y : Int32} (hX : xAt K P (o + 2) 3) (ha : a < 8)(hb : b < 8) (h0 : I (o + 2 + 1) b ≤ I (o + 2 + 1) a → Pp none (K, I, P, n, s)) (h1 : ¬ I (o + 2 + 1) b ≤ I (o + 2 + 1) a → Pp none (K, xuI I (o + 2) 14 y, P, n, s)) : xC d mX3_reckon [(.ref (o + 2)), (.int 5), (.int (nI a)), (.int (nI b)), (.int y)] (K, I, P, n, s) Pp := by
  refine y_met 0 0 ?_
  show xB d 3 cX3_reckon none false (xE n s 0 0 Pp) 0 [some (.ref (o + 2)), some (.int 5), some (.int (nI a)), some (.int (nI b)), some (.int y)] [] (K, I, P, n, s)
  refine y_iload_n dX3_reckon_0 rfl ?_
  refine y_tsw dX3_reckon_1 (fun q => absurd q (by decide)) (fun _ _ => ⟨137, 138, rfl, by decide, ?_⟩)
  refine y_aload_n dX3_reckon_138 rfl ?_
  refine y_getr 3 0 dX3_reckon_139 rfl rfl hX.1 (r3_0 hX) ?_
  refine y_iload_n dX3_reckon_142 rfl ?_
  refine y_ialdN (a) dX3_reckon_143 (k3_0 hX) rfl (by omega) (by omega) rfl ?_
  refine y_aload_n dX3_reckon_144 rfl ?_
  refine y_getr 3 0 dX3_reckon_145 rfl rfl hX.1 (r3_0 hX) ?_
  refine y_iload_n dX3_reckon_148 rfl ?_
  refine y_ialdN (b) dX3_reckon_149 (k3_0 hX) rfl (by omega) (by omega) rfl ?_
  refine y_icmp_ge 170 dX3_reckon_150 (by decide) (fun c150 => ?_) (fun c150 => ?_)
  · exact y_retv dX3_reckon_170 rfl rfl (h0 c150)
  · refine y_aload_n dX3_reckon_153 rfl ?_
    refine y_iload dX3_reckon_154 rfl ?_
    refine y_puti 3 14 dX3_reckon_156 rfl rfl rfl hX.1 ?_
    refine y_goto 170 dX3_reckon_159 (by decide) ?_
    exact y_retv dX3_reckon_170 rfl rfl (h1 c150)
theorem kreckon6 {d : Nat} {Pp : Option Value → xH → Prop} {K : Nat → Nat × Nat} {I : Nat → Nat → Int32} {P : Nat → Nat → Option Nat} {n s : Nat} {o  : Nat} {x y z : Int32} (hX : xAt K P (o + 2) 3) (hp : Pp none (K, xuI I (o + 2) 14 x, P, n, s)) : xC d mX3_reckon [(.ref (o + 2)), (.int 6), (.int x), (.int y), (.int z)] (K, I, P, n, s) Pp := by
  refine y_met 0 0 ?_
  show xB d 3 cX3_reckon none false (xE n s 0 0 Pp) 0 [some (.ref (o + 2)), some (.int 6), some (.int x), some (.int y), some (.int z)] [] (K, I, P, n, s)
  refine y_iload_n dX3_reckon_0 rfl ?_
  refine y_tsw dX3_reckon_1 (fun q => absurd q (by decide)) (fun _ _ => ⟨161, 162, rfl, by decide, ?_⟩)
  refine y_aload_n dX3_reckon_162 rfl ?_
  refine y_iload_n dX3_reckon_163 rfl ?_
  refine y_puti 3 14 dX3_reckon_164 rfl rfl rfl hX.1 ?_
  refine y_goto 170 dX3_reckon_167 (by decide) ?_
  exact y_retv dX3_reckon_170 rfl rfl hp
