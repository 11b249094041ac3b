def gdOpt (X : xX) (x1 x2 : Int32) (m v : Nat) : Prop := m < gC X ∧ x1 = nI m ∧ v < 64 ∧ x2 = nI v ∧ X 10 (64 * m + v) = 0
theorem kroptional {d : Nat} {Pp : Option Value → xH → Prop} {K : Nat → Nat × Nat} {I : Nat → Nat → Int32} {P : Nat → Nat → Option Nat} {n s : Nat} {R : Nat} {X : xX} {x1 x2 : Int32} (hR : xAt K P R 5) (hA : xPg I R X) (hw : ∀ m, m < 12 → wfM X m) (h0 : I R 0 = nI (gC X)) (hg : gC X ≤ 12) (hb : (∀ m v, ¬ gdOpt X x1 x2 m v) → Pp (some (.int 0)) (K, I, P, n, s)) (hp : ∀ m v, gdOpt X x1 x2 m v → Pp (some (.int 1)) (K, xuI (xuI I (R + 10) (64 * m + v) 1) R 12 0, P, n, s)) : xC (d + 1) mX5_optional [(.ref R), (.int x1), (.int x2)] (K, I, P, n, s) Pp := by
  refine y_met 0 0 ?_
  show xB (d + 1) 5 cX5_optional (some .int) false (xE n s 0 0 Pp) 0 [some (.ref R), some (.int x1), some (.int x2)] [] (K, I, P, n, s)
  refine y_aload_n dX5_optional_0 rfl ?_
  refine y_iload_n dX5_optional_1 rfl ?_
  refine y_callV1 mX5_isModule dX5_optional_2 rfl rfl hR.1 (Nat.le_of_ble_eq_true rfl) (kX5_isModule hR.1 h0 hg (fun m hm e1 => ?_) (fun e1 => ?_))
  · subst e1
    refine y_if_eq 29 dX5_optional_5 (by decide) (fun q => absurd q (by decide)) (fun _ => ?_)
    refine y_iload_n dX5_optional_8 rfl ?_
    refine y_callS1 mX5_isName 0 dX5_optional_9 rfl rfl (Nat.le_of_ble_eq_true rfl) (kX5_isName (fun v hv e2 => ?_) (fun e2 => ?_))
    · subst e2
      refine y_if_eq 29 dX5_optional_12 (by decide) (fun q => absurd q (by decide)) (fun _ => ?_)
      refine y_aload_n dX5_optional_15 rfl ?_
      refine y_getr 5 10 dX5_optional_16 rfl rfl hR.1 (r5_10 hR) ?_
      refine y_bipush (v := 64) dX5_optional_19 (by decide) ?_
      refine y_iload_n dX5_optional_21 rfl ?_
      refine y_imulv (nI (64 * m)) dX5_optional_22 (pk_mul (64) (m)) ?_
      refine y_iload_n dX5_optional_23 rfl ?_
      refine y_iaddv (nI (((64 * m)) + v)) dX5_optional_24 (nI_add ((64 * m)) (v)) ?_
      refine y_baldN ((((64 * m)) + v)) dX5_optional_25 (k5_10 hR) rfl (by omega) (by omega) (congrFun (hA 10 (by decide) (by decide)) ((((64 * m)) + v))) ?_
      refine y_if_eq 31 dX5_optional_26 (by decide) (fun c26 => ?_) (fun c26 => ?_)
      · refine y_aload_n dX5_optional_31 rfl ?_
        refine y_getr 5 10 dX5_optional_32 rfl rfl hR.1 (r5_10 hR) ?_
        refine y_bipush (v := 64) dX5_optional_35 (by decide) ?_
        refine y_iload_n dX5_optional_37 rfl ?_
        refine y_imulv (nI (64 * m)) dX5_optional_38 (pk_mul (64) (m)) ?_
        refine y_iload_n dX5_optional_39 rfl ?_
        refine y_iaddv (nI (((64 * m)) + v)) dX5_optional_40 (nI_add ((64 * m)) (v)) ?_
        refine y_iconst (v := 1) dX5_optional_41 (by decide) ?_
        refine y_bast ((((64 * m)) + v)) dX5_optional_42 (k5_10 hR) rfl (by omega) (by omega) (by decide) ?_
        refine y_aload_n dX5_optional_43 rfl ?_
        refine y_iconst (v := 0) dX5_optional_44 (by decide) ?_
        refine y_putz 5 12 dX5_optional_45 rfl rfl rfl hR.1 (by decide) ?_
        refine y_iconst (v := 1) dX5_optional_48 (by decide) ?_
        exact y_ret dX5_optional_49 rfl rfl (hp m v ⟨hm, rfl, hv, rfl, c26⟩)
      · refine y_iconst (v := 0) dX5_optional_29 (by decide) ?_
        exact y_ret dX5_optional_30 rfl rfl (hb (fun a b g => by
          have hme := nI_inj (show m < 2 ^ 31 by omega) (show a < 2 ^ 31 by have := g.1; omega) g.2.1
          subst hme
          have hve := nI_inj (show v < 2 ^ 31 by omega) (show b < 2 ^ 31 by have := g.2.2.1; omega) g.2.2.2.1
          subst hve
          exact c26 g.2.2.2.2))
    · refine y_if_eq 29 dX5_optional_12 (by decide) (fun _ => ?_) (fun q => absurd q (by decide))
      refine y_iconst (v := 0) dX5_optional_29 (by decide) ?_
      exact y_ret dX5_optional_30 rfl rfl (hb (fun a b g => e2 b g.2.2.1 g.2.2.2.1))
  · refine y_if_eq 29 dX5_optional_5 (by decide) (fun _ => ?_) (fun q => absurd q (by decide))
    refine y_iconst (v := 0) dX5_optional_29 (by decide) ?_
    exact y_ret dX5_optional_30 rfl rfl (hb (fun a b g => e1 a g.1 g.2.1))
def gdBeg (X : xX) (x1 x2 : Int32) (m : Nat) : Prop := m < gC X ∧ x1 = nI m ∧ (x2 = -1 ∨ ∃ v : Nat, v < 64 ∧ x2 = nI v)
theorem krbeginner {d : Nat} {Pp : Option Value → xH → Prop} {K : Nat → Nat × Nat} {I : Nat → Nat → Int32} {P : Nat → Nat → Option Nat} {n s : Nat} {R : Nat} {X : xX} {x1 x2 : Int32} (hR : xAt K P R 5) (hA : xPg I R X) (hw : ∀ m, m < 12 → wfM X m) (h0 : I R 0 = nI (gC X)) (hg : gC X ≤ 12) (hb : (∀ m, ¬ gdBeg X x1 x2 m) → Pp (some (.int 0)) (K, I, P, n, s)) (hp : ∀ m, gdBeg X x1 x2 m → Pp (some (.int 1)) (K, xuI (xuI I (R + 11) m x2) R 12 0, P, n, s)) : xC (d + 1) mX5_beginner [(.ref R), (.int x1), (.int x2)] (K, I, P, n, s) Pp := by
  refine y_met 0 0 ?_
  show xB (d + 1) 5 cX5_beginner (some .int) false (xE n s 0 0 Pp) 0 [some (.ref R), some (.int x1), some (.int x2)] [] (K, I, P, n, s)
  refine y_aload_n dX5_beginner_0 rfl ?_
  refine y_iload_n dX5_beginner_1 rfl ?_
  refine y_callV1 mX5_isModule dX5_beginner_2 rfl rfl hR.1 (Nat.le_of_ble_eq_true rfl) (kX5_isModule hR.1 h0 hg (fun m hm e1 => ?_) (fun e1 => ?_))
  · subst e1
    refine y_if_eq 20 dX5_beginner_5 (by decide) (fun q => absurd q (by decide)) (fun _ => ?_)
    refine y_iload_n dX5_beginner_8 rfl ?_
    refine y_iconst (v := (-1)) dX5_beginner_9 (by decide) ?_
    refine y_icmp_eq 22 dX5_beginner_10 (by decide) (fun c10 => ?_) (fun c10 => ?_)
    · refine y_aload_n dX5_beginner_22 rfl ?_
      refine y_getr 5 11 dX5_beginner_23 rfl rfl hR.1 (r5_11 hR) ?_
      refine y_iload_n dX5_beginner_26 rfl ?_
      refine y_iload_n dX5_beginner_27 rfl ?_
      refine y_iast (m) dX5_beginner_28 (k5_11 hR) rfl (by omega) (by omega) ?_
      refine y_aload_n dX5_beginner_29 rfl ?_
      refine y_iconst (v := 0) dX5_beginner_30 (by decide) ?_
      refine y_putz 5 12 dX5_beginner_31 rfl rfl rfl hR.1 (by decide) ?_
      refine y_iconst (v := 1) dX5_beginner_34 (by decide) ?_
      exact y_ret dX5_beginner_35 rfl rfl (hp m ⟨hm, rfl, Or.inl c10⟩)
    · refine y_iload_n dX5_beginner_13 rfl ?_
      refine y_callS1 mX5_isName 0 dX5_beginner_14 rfl rfl (Nat.le_of_ble_eq_true rfl) (kX5_isName (fun v hv e2 => ?_) (fun e2 => ?_))
      · subst e2
        refine y_if_ne 22 dX5_beginner_17 (by decide) (fun _ => ?_) (fun q => absurd q (by decide))
        refine y_aload_n dX5_beginner_22 rfl ?_
        refine y_getr 5 11 dX5_beginner_23 rfl rfl hR.1 (r5_11 hR) ?_
        refine y_iload_n dX5_beginner_26 rfl ?_
        refine y_iload_n dX5_beginner_27 rfl ?_
        refine y_iast (m) dX5_beginner_28 (k5_11 hR) rfl (by omega) (by omega) ?_
        refine y_aload_n dX5_beginner_29 rfl ?_
        refine y_iconst (v := 0) dX5_beginner_30 (by decide) ?_
        refine y_putz 5 12 dX5_beginner_31 rfl rfl rfl hR.1 (by decide) ?_
        refine y_iconst (v := 1) dX5_beginner_34 (by decide) ?_
        exact y_ret dX5_beginner_35 rfl rfl (hp m ⟨hm, rfl, Or.inr ⟨v, hv, rfl⟩⟩)
      · refine y_if_ne 22 dX5_beginner_17 (by decide) (fun q => absurd q (by decide)) (fun _ => ?_)
        refine y_iconst (v := 0) dX5_beginner_20 (by decide) ?_
        exact y_ret dX5_beginner_21 rfl rfl (hb (fun a g => by
          rcases g.2.2 with e | ⟨v, hv, e⟩
          · exact c10 e
          · exact e2 v hv e))
  · refine y_if_eq 20 dX5_beginner_5 (by decide) (fun _ => ?_) (fun q => absurd q (by decide))
    refine y_iconst (v := 0) dX5_beginner_20 (by decide) ?_
    exact y_ret dX5_beginner_21 rfl rfl (hb (fun a g => e1 a g.1 g.2.1))
def gdPut (X : xX) (x1 x2 x3 x4 x5 : Int32) (m : Nat) : Prop := m < gC X ∧ x1 = nI m ∧ xStep x2 x3 x4 x5 ∧ gS X m < 100
theorem krput {d : Nat} {Pp : Option Value → xH → Prop} {K : Nat → Nat × Nat} {I : Nat → Nat → Int32} {P : Nat → Nat → Option Nat} {n s : Nat} {R : Nat} {X : xX} {x1 x2 x3 x4 x5 : Int32} (hR : xAt K P R 5) (hA : xPg I R X) (hw : ∀ m, m < 12 → wfM X m) (h0 : I R 0 = nI (gC X)) (hg : gC X ≤ 12) (hb : (∀ m, ¬ gdPut X x1 x2 x3 x4 x5 m) → Pp (some (.int (-1))) (K, I, P, n, s)) (hp : ∀ m, gdPut X x1 x2 x3 x4 x5 m → Pp (some (.int (nI (gS X m)))) (K, xuI (xuI (xuI (xuI (xuI (xuI I (R + 8) (4 * (100 * m + gS X m)) x2) (R + 8) (4 * (100 * m + gS X m) + 1) x3) (R + 8) (4 * (100 * m + gS X m) + 2) x4) (R + 8) (4 * (100 * m + gS X m) + 3) x5) (R + 9) m (nI (gS X m + 1))) R 12 0, P, n, s)) : xC (d + 2) mX5_put [(.ref R), (.int x1), (.int x2), (.int x3), (.int x4), (.int x5)] (K, I, P, n, s) Pp := by
  refine y_met 0 0 ?_
  show xB (d + 2) 5 cX5_put (some .int) false (xE n s 0 0 Pp) 0 [some (.ref R), some (.int x1), some (.int x2), some (.int x3), some (.int x4), some (.int x5), none] [] (K, I, P, n, s)
  refine y_aload_n dX5_put_0 rfl ?_
  refine y_iload_n dX5_put_1 rfl ?_
  refine y_callV1 mX5_isModule dX5_put_2 rfl rfl hR.1 (Nat.le_of_ble_eq_true rfl) (kX5_isModule hR.1 h0 hg (fun m hm e1 => ?_) (fun e1 => ?_))
  · subst e1
    obtain ⟨w1, w2⟩ := (hw m (by omega)).2.2.2.2.2.1
    refine y_if_eq 31 dX5_put_5 (by decide) (fun q => absurd q (by decide)) (fun _ => ?_)
    refine y_iload_n dX5_put_8 rfl ?_
    refine y_iload_n dX5_put_9 rfl ?_
    refine y_iload dX5_put_10 rfl ?_
    refine y_iload dX5_put_12 rfl ?_
    refine y_callS4 mX5_isGood 0 dX5_put_14 rfl rfl (Nat.le_of_ble_eq_true rfl) (kisGood (fun es => ?_) (fun es => ?_))
    · refine y_if_eq 31 dX5_put_17 (by decide) (fun q => absurd q (by decide)) (fun _ => ?_)
      refine y_aload_n dX5_put_20 rfl ?_
      refine y_getr 5 9 dX5_put_21 rfl rfl hR.1 (r5_9 hR) ?_
      refine y_iload_n dX5_put_24 rfl ?_
      refine y_ialdN (m) dX5_put_25 (k5_9 hR) rfl (by omega) (by omega) ((congrFun (hA 9 (by decide) (by decide)) m).trans w1) ?_
      refine y_bipush (v := 100) dX5_put_26 (by decide) ?_
      refine y_icmpN_ne 33 ((gS X m)) (100) dX5_put_28 (by decide) rfl rfl (by omega) (by omega) (fun c28 => ?_) (fun c28 => ?_)
      · refine y_iconst (v := 4) dX5_put_33 (by decide) ?_
        refine y_bipush (v := 100) dX5_put_34 (by decide) ?_
        refine y_iload_n dX5_put_36 rfl ?_
        refine y_imulv (nI (100 * m)) dX5_put_37 (pk_mul (100) (m)) ?_
        refine y_aload_n dX5_put_38 rfl ?_
        refine y_getr 5 9 dX5_put_39 rfl rfl hR.1 (r5_9 hR) ?_
        refine y_iload_n dX5_put_42 rfl ?_
        refine y_ialdN (m) dX5_put_43 (k5_9 hR) rfl (by omega) (by omega) ((congrFun (hA 9 (by decide) (by decide)) m).trans w1) ?_
        refine y_iaddv (nI (((100 * m)) + ((gS X m)))) dX5_put_44 (nI_add ((100 * m)) ((gS X m))) ?_
        refine y_imulv (nI (4 * ((((100 * m)) + ((gS X m)))))) dX5_put_45 (pk_mul (4) ((((100 * m)) + ((gS X m))))) ?_
        refine y_istore dX5_put_46 (by first | (simp; done) | (simp; decide)) (fun x1 e_x1 => ?_)
        subst e_x1
        refine y_aload_n dX5_put_48 rfl ?_
        refine y_getr 5 8 dX5_put_49 rfl rfl hR.1 (r5_8 hR) ?_
        refine y_iload dX5_put_52 rfl ?_
        refine y_iload_n dX5_put_54 rfl ?_
        refine y_iast ((4 * ((((100 * m)) + ((gS X m)))))) dX5_put_55 (k5_8 hR) rfl (by omega) (by omega) ?_
        refine y_aload_n dX5_put_56 rfl ?_
        refine y_getr 5 8 dX5_put_57 rfl rfl hR.1 (r5_8 hR) ?_
        refine y_iload dX5_put_60 rfl ?_
        refine y_iconst (v := 1) dX5_put_62 (by decide) ?_
        refine y_iaddv (nI (((4 * ((((100 * m)) + ((gS X m)))))) + 1)) dX5_put_63 (nI_add ((4 * ((((100 * m)) + ((gS X m)))))) (1)) ?_
        refine y_iload_n dX5_put_64 rfl ?_
        refine y_iast ((((4 * ((((100 * m)) + ((gS X m)))))) + 1)) dX5_put_65 (k5_8 hR) rfl (by omega) (by omega) ?_
        refine y_aload_n dX5_put_66 rfl ?_
        refine y_getr 5 8 dX5_put_67 rfl rfl hR.1 (r5_8 hR) ?_
        refine y_iload dX5_put_70 rfl ?_
        refine y_iconst (v := 2) dX5_put_72 (by decide) ?_
        refine y_iaddv (nI (((4 * ((((100 * m)) + ((gS X m)))))) + 2)) dX5_put_73 (nI_add ((4 * ((((100 * m)) + ((gS X m)))))) (2)) ?_
        refine y_iload dX5_put_74 rfl ?_
        refine y_iast ((((4 * ((((100 * m)) + ((gS X m)))))) + 2)) dX5_put_76 (k5_8 hR) rfl (by omega) (by omega) ?_
        refine y_aload_n dX5_put_77 rfl ?_
        refine y_getr 5 8 dX5_put_78 rfl rfl hR.1 (r5_8 hR) ?_
        refine y_iload dX5_put_81 rfl ?_
        refine y_iconst (v := 3) dX5_put_83 (by decide) ?_
        refine y_iaddv (nI (((4 * ((((100 * m)) + ((gS X m)))))) + 3)) dX5_put_84 (nI_add ((4 * ((((100 * m)) + ((gS X m)))))) (3)) ?_
        refine y_iload dX5_put_85 rfl ?_
        refine y_iast ((((4 * ((((100 * m)) + ((gS X m)))))) + 3)) dX5_put_87 (k5_8 hR) rfl (by omega) (by omega) ?_
        refine y_aload_n dX5_put_88 rfl ?_
        refine y_getr 5 9 dX5_put_89 rfl rfl hR.1 (r5_9 hR) ?_
        refine y_iload_n dX5_put_92 rfl ?_
        refine y_dup2 dX5_put_93 rfl rfl ?_
        refine y_ialdN (m) dX5_put_94 (k5_9 hR) rfl (by omega) (by omega) (show (xuI (xuI (xuI (xuI I (R + 8) (4 * (100 * m + gS X m)) x2) (R + 8) (4 * (100 * m + gS X m) + 1) x3) (R + 8) (4 * (100 * m + gS X m) + 2) x4) (R + 8) (4 * (100 * m + gS X m) + 3) x5) (R + 9) m = nI (gS X m) by rw [xuI_o (Or.inl (by omega)), xuI_o (Or.inl (by omega)), xuI_o (Or.inl (by omega)), xuI_o (Or.inl (by omega))]; exact ((congrFun (hA 9 (by decide) (by decide)) m).trans w1)) ?_
        refine y_iconst (v := 1) dX5_put_95 (by decide) ?_
        refine y_iaddv (nI (((gS X m)) + 1)) dX5_put_96 (nI_add ((gS X m)) (1)) ?_
        refine y_iast (m) dX5_put_97 (k5_9 hR) rfl (by omega) (by omega) ?_
        refine y_aload_n dX5_put_98 rfl ?_
        refine y_iconst (v := 0) dX5_put_99 (by decide) ?_
        refine y_putz 5 12 dX5_put_100 rfl rfl rfl hR.1 (by decide) ?_
        refine y_aload_n dX5_put_103 rfl ?_
        refine y_getr 5 9 dX5_put_104 rfl rfl hR.1 (r5_9 hR) ?_
        refine y_iload_n dX5_put_107 rfl ?_
        refine y_ialdN (m) dX5_put_108 (k5_9 hR) rfl (by omega) (by omega) (show xuI (xuI (xuI (xuI (xuI (xuI I (R + 8) (4 * (100 * m + gS X m)) x2) (R + 8) (4 * (100 * m + gS X m) + 1) x3) (R + 8) (4 * (100 * m + gS X m) + 2) x4) (R + 8) (4 * (100 * m + gS X m) + 3) x5) (R + 9) m (nI (gS X m + 1))) R 12 0 (R + 9) m = nI (gS X m + 1) by rw [xuI_o (Or.inl (by omega)), xuI_s]) ?_
        refine y_iconst (v := 1) dX5_put_109 (by decide) ?_
        refine y_isubv ((nI (gS X m))) dX5_put_110 (nI_pred _) ?_
        exact y_ret dX5_put_111 rfl rfl (hp m ⟨hm, rfl, es, by omega⟩)
      · refine y_iconst (v := (-1)) dX5_put_31 (by decide) ?_
        exact y_ret dX5_put_32 rfl rfl (hb (fun a g => by
          have hme := nI_inj (show m < 2 ^ 31 by omega) (show a < 2 ^ 31 by have := g.1; omega) g.2.1
          subst hme
          have := g.2.2.2
          omega))
    · refine y_if_eq 31 dX5_put_17 (by decide) (fun _ => ?_) (fun q => absurd q (by decide))
      refine y_iconst (v := (-1)) dX5_put_31 (by decide) ?_
      exact y_ret dX5_put_32 rfl rfl (hb (fun a g => es g.2.2.1))
  · refine y_if_eq 31 dX5_put_5 (by decide) (fun _ => ?_) (fun q => absurd q (by decide))
    refine y_iconst (v := (-1)) dX5_put_31 (by decide) ?_
    exact y_ret dX5_put_32 rfl rfl (hb (fun a g => e1 a g.1 g.2.1))
theorem krfault {d : Nat} {Pp : Option Value → xH → Prop} {K : Nat → Nat × Nat} {I : Nat → Nat → Int32} {P : Nat → Nat → Option Nat} {n s : Nat} {R : Nat} {x : Int32} (hR : xAt K P R 5) (hp : Pp (some (.int (if x = 0 then I R 25 else if x = 1 then I R 26 else if x = 2 then I R 27 else -1))) (K, I, P, n, s)) : xC d mX5_fault [(.ref R), (.int x)] (K, I, P, n, s) Pp := by
  refine y_met 0 0 ?_
  show xB d 5 cX5_fault (some .int) false (xE n s 0 0 Pp) 0 [some (.ref R), some (.int x)] [] (K, I, P, n, s)
  refine y_iload_n dX5_fault_0 rfl ?_
  refine y_if_ne 11 dX5_fault_1 (by decide) (fun c1 => ?_) (fun c1 => ?_)
  · refine y_iload_n dX5_fault_11 rfl ?_
    refine y_iconst (v := 1) dX5_fault_12 (by decide) ?_
    refine y_icmp_ne 23 dX5_fault_13 (by decide) (fun c13 => ?_) (fun c13 => ?_)
    · refine y_iload_n dX5_fault_23 rfl ?_
      refine y_iconst (v := 2) dX5_fault_24 (by decide) ?_
      refine y_icmp_ne 35 dX5_fault_25 (by decide) (fun c25 => ?_) (fun c25 => ?_)
      · refine y_iconst (v := (-1)) dX5_fault_35 (by decide) ?_
        rw [if_neg c1, if_neg c13, if_neg c25] at hp
        exact y_ret dX5_fault_36 rfl rfl hp
      · refine y_aload_n dX5_fault_28 rfl ?_
        refine y_geti 5 27 dX5_fault_29 rfl rfl hR.1 ?_
        refine y_goto 36 dX5_fault_32 (by decide) ?_
        rw [if_neg c1, if_neg c13, if_pos c25] at hp
        exact y_ret dX5_fault_36 rfl rfl hp
    · refine y_aload_n dX5_fault_16 rfl ?_
      refine y_geti 5 26 dX5_fault_17 rfl rfl hR.1 ?_
      refine y_goto 36 dX5_fault_20 (by decide) ?_
      rw [if_neg c1, if_pos c13] at hp
      exact y_ret dX5_fault_36 rfl rfl hp
  · refine y_aload_n dX5_fault_4 rfl ?_
    refine y_geti 5 25 dX5_fault_5 rfl rfl hR.1 ?_
    refine y_goto 36 dX5_fault_8 (by decide) ?_
    rw [if_pos c1] at hp
    exact y_ret dX5_fault_36 rfl rfl hp
theorem krorder {d : Nat} {Pp : Option Value → xH → Prop} {K : Nat → Nat × Nat} {I : Nat → Nat → Int32} {P : Nat → Nat → Option Nat} {n s : Nat} {R c : Nat} {lb : Bool} {x1 x2 : Int32} (hR : xAt K P R 5) (hl : I R 12 = bI lb) (hc : I R 15 = nI c) (hc2 : c ≤ 12) (hb : (lb = false ∨ (∀ k, k < c → x1 ≠ nI k) ∨ ∀ b, x2 ≠ bI b) → Pp (some (.int (-1))) (K, I, P, n, s)) (hp : ∀ k b, lb = true → k < c → x1 = nI k → x2 = bI b → Pp (some (.int (if b = true then I (R + 13) k else I (R + 12) k))) (K, I, P, n, s)) : xC d mX5_order [(.ref R), (.int x1), (.int x2)] (K, I, P, n, s) Pp := by
  refine y_met 0 0 ?_
  show xB d 5 cX5_order (some .int) false (xE n s 0 0 Pp) 0 [some (.ref R), some (.int x1), some (.int x2)] [] (K, I, P, n, s)
  cases lb with
  | false =>
    refine y_aload_n dX5_order_0 rfl ?_
    refine y_getv 5 12 dX5_order_1 rfl rfl hR.1 hl ?_
    refine y_if_eq 28 dX5_order_4 (by decide) (fun _ => ?_) (fun q => absurd q (by decide))
    refine y_iconst (v := (-1)) dX5_order_28 (by decide) ?_
    exact y_ret dX5_order_29 rfl rfl (hb (Or.inl rfl))
  | true =>
    refine y_aload_n dX5_order_0 rfl ?_
    refine y_getv 5 12 dX5_order_1 rfl rfl hR.1 hl ?_
    refine y_if_eq 28 dX5_order_4 (by decide) (fun q => absurd q (by decide)) (fun _ => ?_)
    refine y_iload_n dX5_order_7 rfl ?_
    refine y_ifZ_lt 28 (x1.toInt) dX5_order_8 (by decide) rfl (fun c8 => ?_) (fun c8 => ?_)
    · refine y_iconst (v := (-1)) dX5_order_28 (by decide) ?_
      exact y_ret dX5_order_29 rfl rfl (hb (Or.inr (Or.inl (znot (by omega) (Or.inl c8)))))
    · refine y_iload_n dX5_order_11 rfl ?_
      refine y_aload_n dX5_order_12 rfl ?_
      refine y_getv 5 15 dX5_order_13 rfl rfl hR.1 hc ?_
      refine y_icmpZ_ge 28 (x1.toInt) ((c : Int)) dX5_order_16 (by decide) rfl (nI_toInt (by omega)) (fun c16 => ?_) (fun c16 => ?_)
      · refine y_iconst (v := (-1)) dX5_order_28 (by decide) ?_
        exact y_ret dX5_order_29 rfl rfl (hb (Or.inr (Or.inl (znot (by omega) (Or.inr c16)))))
      · refine y_iload_n dX5_order_19 rfl ?_
        refine y_ifZ_lt 28 (x2.toInt) dX5_order_20 (by decide) rfl (fun c20 => ?_) (fun c20 => ?_)
        · refine y_iconst (v := (-1)) dX5_order_28 (by decide) ?_
          exact y_ret dX5_order_29 rfl rfl (hb (Or.inr (Or.inr (fun b e => by rw [e] at c20; cases b <;> exact absurd c20 (by decide)))))
        · refine y_iload_n dX5_order_23 rfl ?_
          refine y_iconst (v := 1) dX5_order_24 (by decide) ?_
          refine y_icmpZ_le 30 (x2.toInt) (1) dX5_order_25 (by decide) rfl rfl (fun c25 => ?_) (fun c25 => ?_)
          · obtain ⟨k, hk, ek⟩ := zof (M := c) c8 c16
            subst ek
            obtain ⟨b, eb⟩ := z01 c20 c25
            subst eb
            cases b with
            | false =>
              refine y_iload_n dX5_order_30 rfl ?_
              refine y_if_ne 43 dX5_order_31 (by decide) (fun q => absurd q (by decide)) (fun _ => ?_)
              refine y_aload_n dX5_order_34 rfl ?_
              refine y_getr 5 16 dX5_order_35 rfl rfl hR.1 (r5_16 hR) ?_
              refine y_iload_n dX5_order_38 rfl ?_
              refine y_ialdN (k) dX5_order_39 (k5_16 hR) rfl (by omega) (by omega) rfl ?_
              refine y_goto 49 dX5_order_40 (by decide) ?_
              exact y_ret dX5_order_49 rfl rfl (hp k false rfl hk rfl rfl)
            | true =>
              refine y_iload_n dX5_order_30 rfl ?_
              refine y_if_ne 43 dX5_order_31 (by decide) (fun _ => ?_) (fun q => absurd q (by decide))
              refine y_aload_n dX5_order_43 rfl ?_
              refine y_getr 5 17 dX5_order_44 rfl rfl hR.1 (r5_17 hR) ?_
              refine y_iload_n dX5_order_47 rfl ?_
              refine y_ialdN (k) dX5_order_48 (k5_17 hR) rfl (by omega) (by omega) rfl ?_
              exact y_ret dX5_order_49 rfl rfl (hp k true rfl hk rfl rfl)
          · refine y_iconst (v := (-1)) dX5_order_28 (by decide) ?_
            exact y_ret dX5_order_29 rfl rfl (hb (Or.inr (Or.inr (fun b e => by rw [e] at c25; cases b <;> exact absurd c25 (by decide)))))
theorem sPlc_none {x : Int32} : ∀ {l : List Nat} {p : Nat}, sPlc x l p = none → ∀ m ∈ l, x ≠ nI m
  | [], _, _, m, hm => by cases hm
  | q :: r, p, h, m, hm => by
    unfold sPlc at h
    split at h
    · cases h
    · rename_i e
      rcases List.mem_cons.mp hm with rfl | hm
      · exact fun z => e z.symm
      · exact sPlc_none h m hm
theorem sPlc_some {x : Int32} : ∀ {l : List Nat} {p e : Nat}, sPlc x l p = some e → ∃ m j, e = p + j ∧ l[j]? = some m ∧ x = nI m
  | [], _, _, h => by cases h
  | q :: r, p, e, h => by
    unfold sPlc at h
    split at h
    · rename_i z
      cases h
      exact ⟨q, 0, rfl, rfl, z.symm⟩
    · obtain ⟨m, j, h1, h2, h3⟩ := sPlc_some h
      exact ⟨m, j + 1, by omega, by simpa using h2, h3⟩
theorem krcomes0 {d : Nat} {Pp : Option Value → xH → Prop} {K : Nat → Nat × Nat} {I : Nat → Nat → Int32} {P : Nat → Nat → Option Nat} {n s : Nat} {R c : Nat} {x1 x2 : Int32} (hR : xAt K P R 5) (hl : I R 12 = 0) (hc : I R 15 = nI c) (hc2 : c ≤ 12) (hp : Pp (some (.int (-1))) (K, I, P, n, s)) : xC (d + 2) mX5_comes [(.ref R), (.int x1), (.int x2)] (K, I, P, n, s) Pp := by
  refine y_met 0 0 ?_
  show xB (d + 2) 5 cX5_comes (some .int) false (xE n s 0 0 Pp) 0 [some (.ref R), some (.int x1), some (.int x2)] [] (K, I, P, n, s)
  refine y_aload_n dX5_comes_0 rfl ?_
  refine y_iload_n dX5_comes_1 rfl ?_
  refine y_callV1 mX5_placeOf dX5_comes_2 rfl rfl hR.1 (Nat.le_of_ble_eq_true rfl) (kplaceOf0 hR hl hc hc2 ?_)
  refine y_iconst (v := (-1)) dX5_comes_5 (by decide) ?_
  refine y_icmp_eq 16 dX5_comes_6 (by decide) (fun _ => ?_) (fun q => absurd q (by decide))
  refine y_iconst (v := (-1)) dX5_comes_16 (by decide) ?_
  refine y_goto 38 dX5_comes_17 (by decide) ?_
  exact y_ret dX5_comes_38 rfl rfl hp
theorem krcomes1 {d : Nat} {Pp : Option Value → xH → Prop} {K : Nat → Nat × Nat} {I : Nat → Nat → Int32} {P : Nat → Nat → Option Nat} {n s : Nat} {R : Nat} {X : xX} {ord : List Nat} {x1 x2 : Int32} (hR : xAt K P R 5) (hA : xPg I R X) (hw : ∀ m, m < 12 → wfM X m) (hl : I R 12 = 1) (hc : I R 15 = nI ord.length) (ho : xHl I (R + 12) ord) (ho2 : ∀ q ∈ ord, q < 12) (ho3 : ord.length ≤ 12) (hb : ((∀ m ∈ ord, x1 ≠ nI m) ∨ ∀ v, v < 64 → x2 ≠ nI v) → Pp (some (.int (-1))) (K, I, P, n, s)) (hp : ∀ m v, m ∈ ord → x1 = nI m → v < 64 → x2 = nI v → Pp (some (.int (oM (sFi X ord m x2)))) (K, I, P, n, s)) : xC (d + 2) mX5_comes [(.ref R), (.int x1), (.int x2)] (K, I, P, n, s) Pp := by
  refine y_met 0 0 ?_
  show xB (d + 2) 5 cX5_comes (some .int) false (xE n s 0 0 Pp) 0 [some (.ref R), some (.int x1), some (.int x2)] [] (K, I, P, n, s)
  refine y_aload_n dX5_comes_0 rfl ?_
  refine y_iload_n dX5_comes_1 rfl ?_
  refine y_callV1 mX5_placeOf dX5_comes_2 rfl rfl hR.1 (Nat.le_of_ble_eq_true rfl) (kplaceOf1 hR hl hc ho ho3 (fun en => ?_) (fun e es => ?_))
  · refine y_iconst (v := (-1)) dX5_comes_5 (by decide) ?_
    refine y_icmp_eq 16 dX5_comes_6 (by decide) (fun _ => ?_) (fun q => absurd q (by decide))
    refine y_iconst (v := (-1)) dX5_comes_16 (by decide) ?_
    refine y_goto 38 dX5_comes_17 (by decide) ?_
    exact y_ret dX5_comes_38 rfl rfl (hb (Or.inl (sPlc_none en)))
  · obtain ⟨m, j, ej, hj, em⟩ := sPlc_some es
    have hmo := List.mem_of_getElem? hj
    have hm := ho2 m hmo
    have hj2 := (List.getElem?_eq_some_iff.mp hj).1
    subst em
    refine y_iconst (v := (-1)) dX5_comes_5 (by decide) ?_
    refine y_icmp_eq 16 dX5_comes_6 (by decide) (fun c6 => absurd c6 (nI_m1 (by omega))) (fun _ => ?_)
    refine y_iload_n dX5_comes_9 rfl ?_
    refine y_callS1 mX5_isName 0 dX5_comes_10 rfl rfl (Nat.le_of_ble_eq_true rfl) (kX5_isName (fun v hv e2 => ?_) (fun e2 => ?_))
    · subst e2
      refine y_if_ne 20 dX5_comes_13 (by decide) (fun _ => ?_) (fun q => absurd q (by decide))
      refine y_aload_n dX5_comes_20 rfl ?_
      refine y_aload_n dX5_comes_21 rfl ?_
      refine y_aload_n dX5_comes_22 rfl ?_
      refine y_getr 5 16 dX5_comes_23 rfl rfl hR.1 (r5_16 hR) ?_
      refine y_aload_n dX5_comes_26 rfl ?_
      refine y_getv 5 15 dX5_comes_27 rfl rfl hR.1 hc ?_
      refine y_iload_n dX5_comes_30 rfl ?_
      refine y_iload_n dX5_comes_31 rfl ?_
      refine y_callV4 mX5_find dX5_comes_32 rfl rfl hR.1 (Nat.le_of_ble_eq_true rfl) (kfind (d := d) hR hA (k5_16 hR) ho ho2 ho3 hm hw (fun ef => ?_) (fun e3 ef he => ?_))
      · refine y_callV1 mX5_moduleOf dX5_comes_35 rfl rfl hR.1 (Nat.le_of_ble_eq_true rfl) (kmoduleOf (o := none) (fun _ h => by cases h) ?_)
        have hq := hp m v hmo rfl hv rfl
        rw [ef] at hq
        exact y_ret dX5_comes_38 rfl rfl hq
      · refine y_callV1 mX5_moduleOf dX5_comes_35 rfl rfl hR.1 (Nat.le_of_ble_eq_true rfl) (kmoduleOf (o := some e3) (fun _ h => by cases h; exact he) ?_)
        have hq := hp m v hmo rfl hv rfl
        rw [ef] at hq
        exact y_ret dX5_comes_38 rfl rfl hq
    · refine y_if_ne 20 dX5_comes_13 (by decide) (fun q => absurd q (by decide)) (fun _ => ?_)
      refine y_iconst (v := (-1)) dX5_comes_16 (by decide) ?_
      refine y_goto 38 dX5_comes_17 (by decide) ?_
      exact y_ret dX5_comes_38 rfl rfl (hb (Or.inr e2))
theorem krbound0 {d : Nat} {Pp : Option Value → xH → Prop} {K : Nat → Nat × Nat} {I : Nat → Nat → Int32} {P : Nat → Nat → Option Nat} {n s : Nat} {R c : Nat} {x1 x2 : Int32} (hR : xAt K P R 5) (hl : I R 12 = 0) (hc : I R 15 = nI c) (hc2 : c ≤ 12) (hp : Pp (some (.int (-1))) (K, I, P, n, s)) : xC (d + 2) mX5_bound [(.ref R), (.int x1), (.int x2)] (K, I, P, n, s) Pp := by
  refine y_met 0 0 ?_
  show xB (d + 2) 5 cX5_bound (some .int) false (xE n s 0 0 Pp) 0 [some (.ref R), some (.int x1), some (.int x2)] [] (K, I, P, n, s)
  refine y_aload_n dX5_bound_0 rfl ?_
  refine y_iload_n dX5_bound_1 rfl ?_
  refine y_callV1 mX5_placeOf dX5_bound_2 rfl rfl hR.1 (Nat.le_of_ble_eq_true rfl) (kplaceOf0 hR hl hc hc2 ?_)
  refine y_iconst (v := (-1)) dX5_bound_5 (by decide) ?_
  refine y_icmp_eq 16 dX5_bound_6 (by decide) (fun _ => ?_) (fun q => absurd q (by decide))
  refine y_iconst (v := (-1)) dX5_bound_16 (by decide) ?_
  refine y_goto 31 dX5_bound_17 (by decide) ?_
  exact y_ret dX5_bound_31 rfl rfl hp
theorem krbound1 {d : Nat} {Pp : Option Value → xH → Prop} {K : Nat → Nat × Nat} {I : Nat → Nat → Int32} {P : Nat → Nat → Option Nat} {n s : Nat} {R : Nat} {X : xX} {ord : List Nat} {x1 x2 : Int32} (hR : xAt K P R 5) (hA : xPg I R X) (hw : ∀ m, m < 12 → wfM X m) (hl : I R 12 = 1) (hc : I R 15 = nI ord.length) (ho : xHl I (R + 12) ord) (ho2 : ∀ q ∈ ord, q < 12) (ho3 : ord.length ≤ 12) (hb : ((∀ m ∈ ord, x1 ≠ nI m) ∨ ∀ v, v < 64 → x2 ≠ nI v) → Pp (some (.int (-1))) (K, I, P, n, s)) (hp : ∀ m v, m ∈ ord → x1 = nI m → v < 64 → x2 = nI v → Pp (some (.int (I (R + 14) (64 * m + v)))) (K, I, P, n, s)) : xC (d + 2) mX5_bound [(.ref R), (.int x1), (.int x2)] (K, I, P, n, s) Pp := by
  refine y_met 0 0 ?_
  show xB (d + 2) 5 cX5_bound (some .int) false (xE n s 0 0 Pp) 0 [some (.ref R), some (.int x1), some (.int x2)] [] (K, I, P, n, s)
  refine y_aload_n dX5_bound_0 rfl ?_
  refine y_iload_n dX5_bound_1 rfl ?_
  refine y_callV1 mX5_placeOf dX5_bound_2 rfl rfl hR.1 (Nat.le_of_ble_eq_true rfl) (kplaceOf1 hR hl hc ho ho3 (fun en => ?_) (fun e es => ?_))
  · refine y_iconst (v := (-1)) dX5_bound_5 (by decide) ?_
    refine y_icmp_eq 16 dX5_bound_6 (by decide) (fun _ => ?_) (fun q => absurd q (by decide))
    refine y_iconst (v := (-1)) dX5_bound_16 (by decide) ?_
    refine y_goto 31 dX5_bound_17 (by decide) ?_
    exact y_ret dX5_bound_31 rfl rfl (hb (Or.inl (sPlc_none en)))
  · obtain ⟨m, j, ej, hj, em⟩ := sPlc_some es
    have hmo := List.mem_of_getElem? hj
    have hm := ho2 m hmo
    have hj2 := (List.getElem?_eq_some_iff.mp hj).1
    subst em
    refine y_iconst (v := (-1)) dX5_bound_5 (by decide) ?_
    refine y_icmp_eq 16 dX5_bound_6 (by decide) (fun c6 => absurd c6 (nI_m1 (by omega))) (fun _ => ?_)
    refine y_iload_n dX5_bound_9 rfl ?_
    refine y_callS1 mX5_isName 0 dX5_bound_10 rfl rfl (Nat.le_of_ble_eq_true rfl) (kX5_isName (fun v hv e2 => ?_) (fun e2 => ?_))
    · subst e2
      refine y_if_ne 20 dX5_bound_13 (by decide) (fun _ => ?_) (fun q => absurd q (by decide))
      refine y_aload_n dX5_bound_20 rfl ?_
      refine y_getr 5 18 dX5_bound_21 rfl rfl hR.1 (r5_18 hR) ?_
      refine y_bipush (v := 64) dX5_bound_24 (by decide) ?_
      refine y_iload_n dX5_bound_26 rfl ?_
      refine y_imulv (nI (64 * m)) dX5_bound_27 (pk_mul (64) (m)) ?_
      refine y_iload_n dX5_bound_28 rfl ?_
      refine y_iaddv (nI (((64 * m)) + v)) dX5_bound_29 (nI_add ((64 * m)) (v)) ?_
      refine y_ialdN ((((64 * m)) + v)) dX5_bound_30 (k5_18 hR) rfl (by omega) (by omega) rfl ?_
      exact y_ret dX5_bound_31 rfl rfl (hp m v hmo rfl hv rfl)
    · refine y_if_ne 20 dX5_bound_13 (by decide) (fun q => absurd q (by decide)) (fun _ => ?_)
      refine y_iconst (v := (-1)) dX5_bound_16 (by decide) ?_
      refine y_goto 31 dX5_bound_17 (by decide) ?_
      exact y_ret dX5_bound_31 rfl rfl (hb (Or.inr e2))
theorem krdatum0 {d : Nat} {Pp : Option Value → xH → Prop} {K : Nat → Nat × Nat} {I : Nat → Nat → Int32} {P : Nat → Nat → Option Nat} {n s : Nat} {R c : Nat} {x1 x2 : Int32} (hR : xAt K P R 5) (hl : I R 12 = 0) (hc : I R 15 = nI c) (hc2 : c ≤ 12) (hp : Pp (some (.int (-1))) (K, I, P, n, s)) : xC (d + 2) mX5_datum [(.ref R), (.int x1), (.int x2)] (K, I, P, n, s) Pp := by
  refine y_met 0 0 ?_
  show xB (d + 2) 5 cX5_datum (some .int) false (xE n s 0 0 Pp) 0 [some (.ref R), some (.int x1), some (.int x2), none] [] (K, I, P, n, s)
  refine y_aload_n dX5_datum_0 rfl ?_
  refine y_iload_n dX5_datum_1 rfl ?_
  refine y_callV1 mX5_placeOf dX5_datum_2 rfl rfl hR.1 (Nat.le_of_ble_eq_true rfl) (kplaceOf0 hR hl hc hc2 ?_)
  refine y_iconst (v := (-1)) dX5_datum_5 (by decide) ?_
  refine y_icmp_ne 11 dX5_datum_6 (by decide) (fun q => absurd q (by decide)) (fun _ => ?_)
  refine y_iconst (v := (-1)) dX5_datum_9 (by decide) ?_
  exact y_ret dX5_datum_10 rfl rfl hp
theorem krdatum1 {d : Nat} {Pp : Option Value → xH → Prop} {K : Nat → Nat × Nat} {I : Nat → Nat → Int32} {P : Nat → Nat → Option Nat} {n s : Nat} {R : Nat} {X : xX} {ord : List Nat} {x1 x2 : Int32} (hR : xAt K P R 5) (hA : xPg I R X) (hw : ∀ m, m < 12 → wfM X m) (hl : I R 12 = 1) (hc : I R 15 = nI ord.length) (ho : xHl I (R + 12) ord) (ho2 : ∀ q ∈ ord, q < 12) (ho3 : ord.length ≤ 12) (hb : (∀ m e, m ∈ ord → x1 = nI m → sOf X m x2 = some e → X 4 e ≠ 1) → Pp (some (.int (-1))) (K, I, P, n, s)) (hp : ∀ m e, m ∈ ord → x1 = nI m → sOf X m x2 = some e → X 4 e = 1 → Pp (some (.int (I (R + 15) e))) (K, I, P, n, s)) : xC (d + 2) mX5_datum [(.ref R), (.int x1), (.int x2)] (K, I, P, n, s) Pp := by
  refine y_met 0 0 ?_
  show xB (d + 2) 5 cX5_datum (some .int) false (xE n s 0 0 Pp) 0 [some (.ref R), some (.int x1), some (.int x2), none] [] (K, I, P, n, s)
  refine y_aload_n dX5_datum_0 rfl ?_
  refine y_iload_n dX5_datum_1 rfl ?_
  refine y_callV1 mX5_placeOf dX5_datum_2 rfl rfl hR.1 (Nat.le_of_ble_eq_true rfl) (kplaceOf1 hR hl hc ho ho3 (fun en => ?_) (fun e es => ?_))
  · refine y_iconst (v := (-1)) dX5_datum_5 (by decide) ?_
    refine y_icmp_ne 11 dX5_datum_6 (by decide) (fun q => absurd q (by decide)) (fun _ => ?_)
    refine y_iconst (v := (-1)) dX5_datum_9 (by decide) ?_
    exact y_ret dX5_datum_10 rfl rfl (hb (fun a e ha ea => absurd ea (sPlc_none en a ha)))
  · obtain ⟨m, j, ej, hj, em⟩ := sPlc_some es
    have hmo := List.mem_of_getElem? hj
    have hm := ho2 m hmo
    have hj2 := (List.getElem?_eq_some_iff.mp hj).1
    subst em
    refine y_iconst (v := (-1)) dX5_datum_5 (by decide) ?_
    refine y_icmp_ne 11 dX5_datum_6 (by decide) (fun _ => ?_) (fun c6 => absurd c6 (nI_m1 (by omega)))
    refine y_aload_n dX5_datum_11 rfl ?_
    refine y_iload_n dX5_datum_12 rfl ?_
    refine y_iload_n dX5_datum_13 rfl ?_
    refine y_callV2 mX5_ofName dX5_datum_14 rfl rfl hR.1 (Nat.le_of_ble_eq_true rfl) (kofName hR hA hm (hw m hm) (fun ef => ?_) (fun e3 ef => ?_))
    · refine y_istore_n dX5_datum_17 (by first | (simp; done) | (simp; decide)) (fun x1 e_x1 => ?_)
      subst e_x1
      refine y_iload_n dX5_datum_18 rfl ?_
      refine y_iconst (v := (-1)) dX5_datum_19 (by decide) ?_
      refine y_icmp_eq 33 dX5_datum_20 (by decide) (fun _ => ?_) (fun q => absurd q (by decide))
      refine y_iconst (v := (-1)) dX5_datum_33 (by decide) ?_
      refine y_goto 43 dX5_datum_34 (by decide) ?_
      exact y_ret dX5_datum_43 rfl rfl (hb (fun a e ha ea ef2 => by
        have hme := nI_inj (show m < 2 ^ 31 by omega) (show a < 2 ^ 31 by have := ho2 a ha; omega) ea
        subst hme
        rw [ef] at ef2
        cases ef2))
    · have he := (sOf_lt (hw m hm).2.2.1.2 hm ef).1
      refine y_istore_n dX5_datum_17 (by first | (simp; done) | (simp; decide)) (fun x2 e_x2 => ?_)
      subst e_x2
      refine y_iload_n dX5_datum_18 rfl ?_
      refine y_iconst (v := (-1)) dX5_datum_19 (by decide) ?_
      refine y_icmp_eq 33 dX5_datum_20 (by decide) (fun c20 => absurd c20 (nI_m1 (by omega))) (fun _ => ?_)
      refine y_aload_n dX5_datum_23 rfl ?_
      refine y_getr 5 4 dX5_datum_24 rfl rfl hR.1 (r5_4 hR) ?_
      refine y_iload_n dX5_datum_27 rfl ?_
      refine y_ialdN (e3) dX5_datum_28 (k5_4 hR) rfl (by omega) (by omega) (congrFun (hA 4 (by decide) (by decide)) (e3)) ?_
      refine y_iconst (v := 1) dX5_datum_29 (by decide) ?_
      refine y_icmp_eq 37 dX5_datum_30 (by decide) (fun c30 => ?_) (fun c30 => ?_)
      · refine y_aload_n dX5_datum_37 rfl ?_
        refine y_getr 5 19 dX5_datum_38 rfl rfl hR.1 (r5_19 hR) ?_
        refine y_iload_n dX5_datum_41 rfl ?_
        refine y_ialdN (e3) dX5_datum_42 (k5_19 hR) rfl (by omega) (by omega) rfl ?_
        exact y_ret dX5_datum_43 rfl rfl (hp m e3 hmo rfl ef c30)
      · refine y_iconst (v := (-1)) dX5_datum_33 (by decide) ?_
        refine y_goto 43 dX5_datum_34 (by decide) ?_
        exact y_ret dX5_datum_43 rfl rfl (hb (fun a e ha ea ef2 => by
          have hme := nI_inj (show m < 2 ^ 31 by omega) (show a < 2 ^ 31 by have := ho2 a ha; omega) ea
          subst hme
          rw [ef] at ef2
          cases ef2
          exact c30))
theorem krcount {d : Nat} {Pp : Option Value → xH → Prop} {K : Nat → Nat × Nat} {I : Nat → Nat → Int32} {P : Nat → Nat → Option Nat} {n s : Nat} {R : Nat} {x : Int32} {lb : Bool} (hR : xAt K P R 5) (hl : I R 12 = bI lb) (hp : Pp (some (.int (if x = 0 then I R 29 else if x = 1 then I R 30 else if x = 2 then I R 31 else if x = 3 then I R 32 else if x = 4 then (if lb = true then I R 15 else 0) else if x = 5 then I R 0 else -1))) (K, I, P, n, s)) : xC d mX5_count [(.ref R), (.int x)] (K, I, P, n, s) Pp := by
  refine y_met 0 0 ?_
  show xB d 5 cX5_count (some .int) false (xE n s 0 0 Pp) 0 [some (.ref R), some (.int x)] [] (K, I, P, n, s)
  refine y_iload_n dX5_count_0 rfl ?_
  refine y_tsw dX5_count_1 (fun c1 => ⟨81, by decide, ?_⟩) (fun c1a c1b => ?_)
  · refine y_iconst (v := (-1)) dX5_count_81 (by decide) ?_
    rw [if_neg (show ¬ x = 0 from fun e => by rw [e] at c1; revert c1; decide), if_neg (show ¬ x = 1 from fun e => by rw [e] at c1; revert c1; decide), if_neg (show ¬ x = 2 from fun e => by rw [e] at c1; revert c1; decide), if_neg (show ¬ x = 3 from fun e => by rw [e] at c1; revert c1; decide), if_neg (show ¬ x = 4 from fun e => by rw [e] at c1; revert c1; decide), if_neg (show ¬ x = 5 from fun e => by rw [e] at c1; revert c1; decide)] at hp
    exact y_ret dX5_count_82 rfl rfl hp
  · have c1c : (x).toInt = 0 ∨ (x).toInt = 1 ∨ (x).toInt = 2 ∨ (x).toInt = 3 ∨ (x).toInt = 4 ∨ (x).toInt = 5 := by omega
    rcases c1c with e1 | e1 | e1 | e1 | e1 | e1
    · refine ⟨39, 40, by rw [e1]; rfl, by decide, ?_⟩
      obtain rfl : x = 0 := z_eq e1 rfl
      refine y_aload_n dX5_count_40 rfl ?_
      refine y_geti 5 29 dX5_count_41 rfl rfl hR.1 ?_
      rw [if_pos rfl] at hp
      exact y_ret dX5_count_44 rfl rfl hp
    · refine ⟨44, 45, by rw [e1]; rfl, by decide, ?_⟩
      obtain rfl : x = 1 := z_eq e1 rfl
      refine y_aload_n dX5_count_45 rfl ?_
      refine y_geti 5 30 dX5_count_46 rfl rfl hR.1 ?_
      rw [if_neg (by decide), if_pos rfl] at hp
      exact y_ret dX5_count_49 rfl rfl hp
    · refine ⟨49, 50, by rw [e1]; rfl, by decide, ?_⟩
      obtain rfl : x = 2 := z_eq e1 rfl
      refine y_aload_n dX5_count_50 rfl ?_
      refine y_geti 5 31 dX5_count_51 rfl rfl hR.1 ?_
      rw [if_neg (by decide), if_neg (by decide), if_pos rfl] at hp
      exact y_ret dX5_count_54 rfl rfl hp
    · refine ⟨54, 55, by rw [e1]; rfl, by decide, ?_⟩
      obtain rfl : x = 3 := z_eq e1 rfl
      refine y_aload_n dX5_count_55 rfl ?_
      refine y_geti 5 32 dX5_count_56 rfl rfl hR.1 ?_
      rw [if_neg (by decide), if_neg (by decide), if_neg (by decide), if_pos rfl] at hp
      exact y_ret dX5_count_59 rfl rfl hp
    · refine ⟨59, 60, by rw [e1]; rfl, by decide, ?_⟩
      obtain rfl : x = 4 := z_eq e1 rfl
      cases lb with
      | false =>
        refine y_aload_n dX5_count_60 rfl ?_
        refine y_getv 5 12 dX5_count_61 rfl rfl hR.1 hl ?_
        refine y_if_eq 74 dX5_count_64 (by decide) (fun _ => ?_) (fun q => absurd q (by decide))
        refine y_iconst (v := 0) dX5_count_74 (by decide) ?_
        rw [if_neg (by decide), if_neg (by decide), if_neg (by decide), if_neg (by decide), if_pos rfl, if_neg (by decide)] at hp
        exact y_ret dX5_count_75 rfl rfl hp
      | true =>
        refine y_aload_n dX5_count_60 rfl ?_
        refine y_getv 5 12 dX5_count_61 rfl rfl hR.1 hl ?_
        refine y_if_eq 74 dX5_count_64 (by decide) (fun q => absurd q (by decide)) (fun _ => ?_)
        refine y_aload_n dX5_count_67 rfl ?_
        refine y_geti 5 15 dX5_count_68 rfl rfl hR.1 ?_
        refine y_goto 75 dX5_count_71 (by decide) ?_
        rw [if_neg (by decide), if_neg (by decide), if_neg (by decide), if_neg (by decide), if_pos rfl, if_pos rfl] at hp
        exact y_ret dX5_count_75 rfl rfl hp
    · refine ⟨75, 76, by rw [e1]; rfl, by decide, ?_⟩
      obtain rfl : x = 5 := z_eq e1 rfl
      refine y_aload_n dX5_count_76 rfl ?_
      refine y_geti 5 0 dX5_count_77 rfl rfl hR.1 ?_
      rw [if_neg (by decide), if_neg (by decide), if_neg (by decide), if_neg (by decide), if_neg (by decide), if_pos rfl] at hp
      exact y_ret dX5_count_80 rfl rfl hp
theorem krsaid {d : Nat} {Pp : Option Value → xH → Prop} {K : Nat → Nat × Nat} {I : Nat → Nat → Int32} {P : Nat → Nat → Option Nat} {n s : Nat} {R c : Nat} {x : Int32} (hR : xAt K P R 5) (hc : I R 30 = nI c) (hc2 : c ≤ 10000) (hb : (∀ k, k < 60 → k < c → x ≠ nI k) → Pp (some (.int 0)) (K, I, P, n, s)) (hp : ∀ k, k < 60 → k < c → x = nI k → Pp (some (.int (I (R + 21) k))) (K, I, P, n, s)) : xC d mX5_said [(.ref R), (.int x)] (K, I, P, n, s) Pp := by
  refine y_met 0 0 ?_
  show xB d 5 cX5_said (some .int) false (xE n s 0 0 Pp) 0 [some (.ref R), some (.int x)] [] (K, I, P, n, s)
  refine y_iload_n dX5_said_0 rfl ?_
  refine y_ifZ_lt 18 (x.toInt) dX5_said_1 (by decide) rfl (fun c1 => ?_) (fun c1 => ?_)
  · refine y_iconst (v := 0) dX5_said_18 (by decide) ?_
    refine y_goto 28 dX5_said_19 (by decide) ?_
    exact y_ret dX5_said_28 rfl rfl (hb (fun k h1 h2 e => by rw [e, nI_toInt (by omega)] at c1; omega))
  · refine y_iload_n dX5_said_4 rfl ?_
    refine y_aload_n dX5_said_5 rfl ?_
    refine y_getv 5 30 dX5_said_6 rfl rfl hR.1 hc ?_
    refine y_icmpZ_ge 18 (x.toInt) ((c : Int)) dX5_said_9 (by decide) rfl (nI_toInt (by omega)) (fun c9 => ?_) (fun c9 => ?_)
    · refine y_iconst (v := 0) dX5_said_18 (by decide) ?_
      refine y_goto 28 dX5_said_19 (by decide) ?_
      exact y_ret dX5_said_28 rfl rfl (hb (fun k h1 h2 e => by rw [e, nI_toInt (by omega)] at c9; omega))
    · refine y_iload_n dX5_said_12 rfl ?_
      refine y_bipush (v := 60) dX5_said_13 (by decide) ?_
      refine y_icmpZ_lt 22 (x.toInt) (60) dX5_said_15 (by decide) rfl rfl (fun c15 => ?_) (fun c15 => ?_)
      · obtain ⟨k, hk, ek⟩ := zof (M := 60) c1 (by show ¬ x.toInt ≥ 60; omega)
        subst ek
        refine y_aload_n dX5_said_22 rfl ?_
        refine y_getr 5 33 dX5_said_23 rfl rfl hR.1 (r5_33 hR) ?_
        refine y_iload_n dX5_said_26 rfl ?_
        refine y_ialdN (k) dX5_said_27 (k5_33 hR) rfl (by omega) (by omega) rfl ?_
        exact y_ret dX5_said_28 rfl rfl (hp k hk (by rw [nI_toInt (by omega)] at c9; omega) rfl)
      · refine y_iconst (v := 0) dX5_said_18 (by decide) ?_
        refine y_goto 28 dX5_said_19 (by decide) ?_
        exact y_ret dX5_said_28 rfl rfl (hb (fun k h1 h2 e => by rw [e, nI_toInt (by omega)] at c15; omega))
theorem krregister {d : Nat} {Pp : Option Value → xH → Prop} {K : Nat → Nat × Nat} {I : Nat → Nat → Int32} {P : Nat → Nat → Option Nat} {n s : Nat} {R : Nat} {x : Int32} (hR : xAt K P R 5) (hb : (∀ k, k < 8 → x ≠ nI k) → Pp (some (.int 0)) (K, I, P, n, s)) (hp : ∀ k, k < 8 → x = nI k → Pp (some (.int (I (R + 20) k))) (K, I, P, n, s)) : xC (d + 1) mX5_register [(.ref R), (.int x)] (K, I, P, n, s) Pp := by
  refine y_met 0 0 ?_
  show xB (d + 1) 5 cX5_register (some .int) false (xE n s 0 0 Pp) 0 [some (.ref R), some (.int x)] [] (K, I, P, n, s)
  refine y_iload_n dX5_register_0 rfl ?_
  refine y_callS1 mX5_isRegister 0 dX5_register_1 rfl rfl (Nat.le_of_ble_eq_true rfl) (kX5_isRegister (fun k hk ek => ?_) (fun nk => ?_))
  · subst ek
    refine y_if_eq 16 dX5_register_4 (by decide) (fun q => absurd q (by decide)) (fun _ => ?_)
    refine y_aload_n dX5_register_7 rfl ?_
    refine y_getr 5 28 dX5_register_8 rfl rfl hR.1 (r5_28 hR) ?_
    refine y_iload_n dX5_register_11 rfl ?_
    refine y_ialdN (k) dX5_register_12 (k5_28 hR) rfl (by omega) (by omega) rfl ?_
    refine y_goto 17 dX5_register_13 (by decide) ?_
    exact y_ret dX5_register_17 rfl rfl (hp k hk rfl)
  · refine y_if_eq 16 dX5_register_4 (by decide) (fun _ => ?_) (fun q => absurd q (by decide))
    refine y_iconst (v := 0) dX5_register_16 (by decide) ?_
    exact y_ret dX5_register_17 rfl rfl (hb nk)
theorem krcheck {d : Nat} {Pp : Option Value → xH → Prop} {K : Nat → Nat × Nat} {I : Nat → Nat → Int32} {P : Nat → Nat → Option Nat} {n s : Nat} {R : Nat} (hp : Pp (some (.int 1)) (K, I, P, n, s)) : xC d mX5_check [(.ref R)] (K, I, P, n, s) Pp := by
  refine y_met 0 0 ?_
  show xB d 5 cX5_check (some .int) false (xE n s 0 0 Pp) 0 [some (.ref R)] [] (K, I, P, n, s)
  refine y_iconst (v := 1) dX5_check_0 (by decide) ?_
  exact y_ret dX5_check_1 rfl rfl hp
