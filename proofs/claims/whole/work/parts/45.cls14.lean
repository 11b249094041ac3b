/-- the station and its parts, in their places; L is loaded, Lb is for trials -/
def xSt (K : Nat → Nat × Nat) (P : Nat → Nat → Option Nat) (o L Lb c : Nat) : Prop := (K o).1 = 5 ∧ P o 0 = some (o + 22) ∧ P o 2 = some L ∧ P o 3 = some Lb ∧ P o 4 = some (o + 1) ∧ P o 5 = some (o + 2) ∧ xAt K P (o + 1) 0 ∧ xAt K P (o + 2) 3 ∧ xSL K P o L c ∧ xSL K P o Lb c ∧ L ≠ Lb
theorem knneed {d : Nat} {Pp : Option Value → xH → Prop} {K : Nat → Nat × Nat} {I : Nat → Nat → Int32} {P : Nat → Nat → Option Nat} {n s : Nat} {o L Lb : Nat} {X : xX} {x1 x2 : Int32} (hT : xSt K P o L Lb (gC X)) (hw : ∀ m, m < 12 → wfM X m) (hC : I o 1 = nI (gC X)) (hM : xMos I X o) (hb : (∀ m x, ¬ gdNeed X x1 x2 m x) → Pp (some (.int (-1))) (K, I, P, n, s)) (hp : ∀ m x I', gdNeed X x1 x2 m x → xFl L (xuI (xuI I (o + 59 + 13 * m + 1) (gN X m) (nI x)) (o + 59 + 13 * m) 1 (nI (gN X m + 1))) I' → I' L 3 = 0 → (∀ j, j < 12 → I' (L + 2) j = -1) → Pp (some (.int (nI (gN X m + 1)))) (K, I', P, n, s)) : xC (d + 2) mX4_need [(.ref o), (.int x1), (.int x2)] (K, I, P, n, s) Pp := by
  refine y_met 0 0 ?_
  show xB (d + 2) 4 cX4_need (some .int) false (xE n s 0 0 Pp) 0 [some (.ref o), some (.int x1), some (.int x2)] [] (K, I, P, n, s)
  obtain ⟨T0, Tm, Tl, Tt, Tf, Tk, hF, hX, hS, hSb, hne⟩ := id hT
  have hc12 := hS.2.2.2.1
  have hLo := hS.2.2.2.2.2
  refine y_aload_n dX4_need_0 rfl ?_
  refine y_iload_n dX4_need_1 rfl ?_
  refine y_callV1 mX4_isModule dX4_need_2 rfl rfl (And.intro T0 trivial).1 (Nat.le_of_ble_eq_true rfl) (kX4_isModule (show (K o).1 = 5 from T0) hC hc12 (fun m hm e_m => ?_) (fun b_m => ?_))
  · subst e_m
    refine y_if_eq 29 dX4_need_5 (by decide) (fun q => absurd q (by decide)) (fun _ => ?_)
    refine y_aload_n dX4_need_8 rfl ?_
    refine y_iload_n dX4_need_9 rfl ?_
    refine y_callV1 mX4_isModule dX4_need_10 rfl rfl (And.intro T0 trivial).1 (Nat.le_of_ble_eq_true rfl) (kX4_isModule (show (K o).1 = 5 from T0) hC hc12 (fun x hx e_x => ?_) (fun b_x => ?_))
    · subst e_x
      refine y_if_eq 29 dX4_need_13 (by decide) (fun q => absurd q (by decide)) (fun _ => ?_)
      refine y_aload_n dX4_need_16 rfl ?_
      refine y_getr 4 0 dX4_need_17 rfl rfl (And.intro T0 trivial).1 Tm ?_
      refine y_iload_n dX4_need_20 rfl ?_
      refine y_aald (m) dX4_need_21 hS.2.2.1 rfl (by omega) (by omega) (hS.2.2.2.2.1 (m) hm).1 ?_
      refine y_iload_n dX4_need_22 rfl ?_
      refine y_callV1 mX2_addNeed dX4_need_23 rfl rfl (hS.2.2.2.2.1 (m) hm).2.1 (Nat.le_of_ble_eq_true rfl) (kaddNeed (d := d + 1) (hS.2.2.2.2.1 m hm).2 (hM m hm) (hw m (by omega)) (show x < 12 by omega) (fun c23 => ?_) (fun c23 c23b => ?_))
      · refine y_if_ne 31 dX4_need_26 (by decide) (fun q => absurd q (by decide)) (fun _ => ?_)
        refine y_iconst (v := (-1)) dX4_need_29 (by decide) ?_
        exact y_ret dX4_need_30 rfl rfl (hb (fun m2 x2 g => c23 (by obtain ⟨g1, g2, g3, g4, g5, g6⟩ := g; have := nI_inj (by omega) (by omega) g2; subst this; exact ⟨g5, fun k hk => g6 k hk⟩)))
      · refine y_if_ne 31 dX4_need_26 (by decide) (fun _ => ?_) (fun q => absurd q (by decide))
        refine y_aload_n dX4_need_31 rfl ?_
        refine y_getr 4 2 dX4_need_32 rfl rfl (And.intro T0 trivial).1 Tl ?_
        refine y_callV0 mX1_clear dX4_need_35 rfl rfl hS.1.1 (Nat.le_of_ble_eq_true rfl) (kclear (d := d) hS.1 (fun I2 f1 f2 f3 f4 => ?_))
        refine y_aload_n dX4_need_38 rfl ?_
        refine y_getr 4 0 dX4_need_39 rfl rfl (And.intro T0 trivial).1 Tm ?_
        refine y_iload_n dX4_need_42 rfl ?_
        refine y_aald (m) dX4_need_43 hS.2.2.1 rfl (by omega) (by omega) (hS.2.2.2.2.1 (m) hm).1 ?_
        refine y_getv 2 1 dX4_need_44 rfl rfl (hS.2.2.2.2.1 (m) hm).2.1 ((congrFun (f1 _ (by omega)) 1).trans xuI_s) ?_
        exact y_ret dX4_need_47 rfl rfl (hp m x I2 ⟨hm, rfl, hx, rfl, c23, c23b⟩ f1 f2 f4)
    · refine y_if_eq 29 dX4_need_13 (by decide) (fun _ => ?_) (fun q => absurd q (by decide))
      refine y_iconst (v := (-1)) dX4_need_29 (by decide) ?_
      exact y_ret dX4_need_30 rfl rfl (hb (fun m2 x g => b_x x g.2.2.1 g.2.2.2.1))
  · refine y_if_eq 29 dX4_need_5 (by decide) (fun _ => ?_) (fun q => absurd q (by decide))
    refine y_iconst (v := (-1)) dX4_need_29 (by decide) ?_
    exact y_ret dX4_need_30 rfl rfl (hb (fun m x g => b_m m g.1 g.2.1))
set_option maxHeartbeats 1000000 in
theorem kndefine {d : Nat} {Pp : Option Value → xH → Prop} {K : Nat → Nat × Nat} {I : Nat → Nat → Int32} {P : Nat → Nat → Option Nat} {n s : Nat} {o L Lb : Nat} {X : xX} {x1 x2 x3 x4 x5 : Int32} (hT : xSt K P o L Lb (gC X)) (hw : ∀ m, m < 12 → wfM X m) (hC : I o 1 = nI (gC X)) (hM : xMos I X o) (hb : (∀ m v, ¬ gdDef X x1 x2 x3 x4 x5 m v) → Pp (some (.int (-1))) (K, I, P, n, s)) (hp1 : ∀ m v I', gdDef X x1 x2 x3 x4 x5 m v → x3 = 1 → xFl L (xuI (xuI (xuI (xuI I (o + 59 + 13 * m + 2) v x3) (o + 59 + 13 * m + 3) v x4) (o + 59 + 13 * m + 4) v x5) (o + 59 + 13 * m) 5 (nI (gF X m + 1))) I' → I' L 3 = 0 → (∀ j, j < 12 → I' (L + 2) j = -1) → Pp (some (.int (nI (gF X m + 1)))) (K, I', P, n, s)) (hp0 : ∀ m v t I', gdDef X x1 x2 x3 x4 x5 m v → x3 = 0 → t < 100 → x4 = nI t → xFl L (xuI (xuI (xuI (xuI (xuI I (o + 59 + 13 * m + 2) v x3) (o + 59 + 13 * m + 3) v x4) (o + 59 + 13 * m + 4) v x5) (o + 59 + 13 * m + 5) t 1) (o + 59 + 13 * m) 5 (nI (gF X m + 1))) I' → I' L 3 = 0 → (∀ j, j < 12 → I' (L + 2) j = -1) → Pp (some (.int (nI (gF X m + 1)))) (K, I', P, n, s)) : xC (d + 2) mX4_define [(.ref o), (.int x1), (.int x2), (.int x3), (.int x4), (.int x5)] (K, I, P, n, s) Pp := by
  refine y_met 0 0 ?_
  show xB (d + 2) 4 cX4_define (some .int) false (xE n s 0 0 Pp) 0 [some (.ref o), some (.int x1), some (.int x2), some (.int x3), some (.int x4), some (.int x5), none] [] (K, I, P, n, s)
  obtain ⟨T0, Tm, Tl, Tt, Tf, Tk, hF, hX, hS, hSb, hne⟩ := id hT
  have hc12 := hS.2.2.2.1
  have hLo := hS.2.2.2.2.2
  refine y_aload_n dX4_define_0 rfl ?_
  refine y_iload_n dX4_define_1 rfl ?_
  refine y_callV1 mX4_isModule dX4_define_2 rfl rfl (And.intro T0 trivial).1 (Nat.le_of_ble_eq_true rfl) (kX4_isModule (show (K o).1 = 5 from T0) hC hc12 (fun m hm e_m => ?_) (fun b_m => ?_))
  · subst e_m
    refine y_if_eq 26 dX4_define_5 (by decide) (fun q => absurd q (by decide)) (fun _ => ?_)
    refine y_iload_n dX4_define_8 rfl ?_
    refine y_callS1 mX4_isName 0 dX4_define_9 rfl rfl (Nat.le_of_ble_eq_true rfl) (kX4_isName (fun v hv e_v => ?_) (fun b_v => ?_))
    · subst e_v
      refine y_if_eq 26 dX4_define_12 (by decide) (fun q => absurd q (by decide)) (fun _ => ?_)
      refine y_iload dX4_define_15 rfl ?_
      refine y_ifZ_lt 26 (x5.toInt) dX4_define_17 (by decide) rfl (fun c17 => ?_) (fun c17 => ?_)
      · refine y_iconst (v := (-1)) dX4_define_26 (by decide) ?_
        exact y_ret dX4_define_27 rfl rfl (hb (fun m2 v2 g => (by obtain ⟨t, t1, t2⟩ := g.2.2.2.2.2.2.1; rw [t2, nI_toInt (by omega)] at c17; omega)))
      · refine y_iload dX4_define_20 rfl ?_
        refine y_iconst (v := 5) dX4_define_22 (by decide) ?_
        refine y_icmpZ_le 28 (x5.toInt) (5) dX4_define_23 (by decide) rfl rfl (fun c23 => ?_) (fun c23 => ?_)
        · have hx5 : ∃ t : Nat, t < 6 ∧ x5 = nI t := ⟨x5.toInt.toNat, by omega, zN c17⟩
          refine y_iload_n dX4_define_28 rfl ?_
          refine y_iconst (v := 1) dX4_define_29 (by decide) ?_
          refine y_icmp_eq 45 dX4_define_30 (by decide) (fun c30 => ?_) (fun c30 => ?_)
          · subst c30
            refine y_iconst (v := 1) dX4_define_45 (by decide) ?_
            refine y_goto 50 dX4_define_46 (by decide) ?_
            refine y_istore dX4_define_50 (by first | (simp; done) | (simp; decide)) (fun x1 e_x1 => ?_)
            subst e_x1
            refine y_iload dX4_define_52 rfl ?_
            refine y_if_eq 75 dX4_define_54 (by decide) (fun q => absurd q (by decide)) (fun _ => ?_)
            by_cases hn : sOf X m (nI v) = none ∧ gF X m < 20
            · refine y_aload_n dX4_define_57 rfl ?_
              refine y_getr 4 0 dX4_define_58 rfl rfl (And.intro T0 trivial).1 Tm ?_
              refine y_iload_n dX4_define_61 rfl ?_
              refine y_aald (m) dX4_define_62 hS.2.2.1 rfl (by omega) (by omega) (hS.2.2.2.2.1 (m) hm).1 ?_
              refine y_iload_n dX4_define_63 rfl ?_
              refine y_iload_n dX4_define_64 rfl ?_
              refine y_iload dX4_define_65 rfl ?_
              refine y_iload dX4_define_67 rfl ?_
              refine y_callV4 mX2_addDefinition dX4_define_69 rfl rfl (hS.2.2.2.2.1 (m) hm).2.1 (Nat.le_of_ble_eq_true rfl) (kaddDef1 (d := d + 1) (hS.2.2.2.2.1 m hm).2 (hM m hm) (hw m (by omega)) hv hn.1 hn.2 ?_)
              refine y_if_ne 77 dX4_define_72 (by decide) (fun _ => ?_) (fun q => absurd q (by decide))
              refine y_aload_n dX4_define_77 rfl ?_
              refine y_getr 4 2 dX4_define_78 rfl rfl (And.intro T0 trivial).1 Tl ?_
              refine y_callV0 mX1_clear dX4_define_81 rfl rfl hS.1.1 (Nat.le_of_ble_eq_true rfl) (kclear (d := d) hS.1 (fun I2 f1 f2 f3 f4 => ?_))
              refine y_aload_n dX4_define_84 rfl ?_
              refine y_getr 4 0 dX4_define_85 rfl rfl (And.intro T0 trivial).1 Tm ?_
              refine y_iload_n dX4_define_88 rfl ?_
              refine y_aald (m) dX4_define_89 hS.2.2.1 rfl (by omega) (by omega) (hS.2.2.2.2.1 (m) hm).1 ?_
              refine y_getv 2 5 dX4_define_90 rfl rfl (hS.2.2.2.2.1 (m) hm).2.1 ((congrFun (f1 _ (by omega)) 5).trans xuI_s) ?_
              exact y_ret dX4_define_93 rfl rfl (hp1 m v I2 ⟨hm, rfl, hv, rfl, Or.inr rfl, fun c => absurd c (by decide), hx5, hn.1, hn.2⟩ rfl f1 f2 f4)
            · refine y_aload_n dX4_define_57 rfl ?_
              refine y_getr 4 0 dX4_define_58 rfl rfl (And.intro T0 trivial).1 Tm ?_
              refine y_iload_n dX4_define_61 rfl ?_
              refine y_aald (m) dX4_define_62 hS.2.2.1 rfl (by omega) (by omega) (hS.2.2.2.2.1 (m) hm).1 ?_
              refine y_iload_n dX4_define_63 rfl ?_
              refine y_iload_n dX4_define_64 rfl ?_
              refine y_iload dX4_define_65 rfl ?_
              refine y_iload dX4_define_67 rfl ?_
              refine y_callV4 mX2_addDefinition dX4_define_69 rfl rfl (hS.2.2.2.2.1 (m) hm).2.1 (Nat.le_of_ble_eq_true rfl) (kaddDef0 (d := d + 1) (hS.2.2.2.2.1 m hm).2 (hM m hm) (hw m (by omega)) hv hn ?_)
              · refine y_if_ne 77 dX4_define_72 (by decide) (fun q => absurd q (by decide)) (fun _ => ?_)
                refine y_iconst (v := (-1)) dX4_define_75 (by decide) ?_
                exact y_ret dX4_define_76 rfl rfl (hb (fun m2 v2 g => hn (by obtain ⟨g1, g2, g3, g4, g5, g6, g7, g8, g9⟩ := g; have := nI_inj (by omega) (by omega) g2; subst this; exact ⟨g8, g9⟩)))
          · refine y_iload_n dX4_define_33 rfl ?_
            refine y_if_ne 49 dX4_define_34 (by decide) (fun c34 => ?_) (fun c34 => ?_)
            · refine y_iconst (v := 0) dX4_define_49 (by decide) ?_
              refine y_istore dX4_define_50 (by first | (simp; done) | (simp; decide)) (fun x2 e_x2 => ?_)
              subst e_x2
              refine y_iload dX4_define_52 rfl ?_
              refine y_if_eq 75 dX4_define_54 (by decide) (fun _ => ?_) (fun q => absurd q (by decide))
              refine y_iconst (v := (-1)) dX4_define_75 (by decide) ?_
              exact y_ret dX4_define_76 rfl rfl (hb (fun m2 v2 g => g.2.2.2.2.1.elim c34 c30))
            · have c34e := c34
              subst c34e
              refine y_iload dX4_define_37 rfl ?_
              refine y_callS1 mX4_isStep 0 dX4_define_39 rfl rfl (Nat.le_of_ble_eq_true rfl) (kX4_isStep (fun t ht e_t => ?_) (fun b_t => ?_))
              · subst e_t
                refine y_if_eq 49 dX4_define_42 (by decide) (fun q => absurd q (by decide)) (fun _ => ?_)
                refine y_iconst (v := 1) dX4_define_45 (by decide) ?_
                refine y_goto 50 dX4_define_46 (by decide) ?_
                refine y_istore dX4_define_50 (by first | (simp; done) | (simp; decide)) (fun x3 e_x3 => ?_)
                subst e_x3
                refine y_iload dX4_define_52 rfl ?_
                refine y_if_eq 75 dX4_define_54 (by decide) (fun q => absurd q (by decide)) (fun _ => ?_)
                by_cases hn : sOf X m (nI v) = none ∧ gF X m < 20
                · refine y_aload_n dX4_define_57 rfl ?_
                  refine y_getr 4 0 dX4_define_58 rfl rfl (And.intro T0 trivial).1 Tm ?_
                  refine y_iload_n dX4_define_61 rfl ?_
                  refine y_aald (m) dX4_define_62 hS.2.2.1 rfl (by omega) (by omega) (hS.2.2.2.2.1 (m) hm).1 ?_
                  refine y_iload_n dX4_define_63 rfl ?_
                  refine y_iload_n dX4_define_64 rfl ?_
                  refine y_iload dX4_define_65 rfl ?_
                  refine y_iload dX4_define_67 rfl ?_
                  refine y_callV4 mX2_addDefinition dX4_define_69 rfl rfl (hS.2.2.2.2.1 (m) hm).2.1 (Nat.le_of_ble_eq_true rfl) (kaddDef2 (d := d + 1) (hS.2.2.2.2.1 m hm).2 (hM m hm) (hw m (by omega)) hv ht hn.1 hn.2 ?_)
                  refine y_if_ne 77 dX4_define_72 (by decide) (fun _ => ?_) (fun q => absurd q (by decide))
                  refine y_aload_n dX4_define_77 rfl ?_
                  refine y_getr 4 2 dX4_define_78 rfl rfl (And.intro T0 trivial).1 Tl ?_
                  refine y_callV0 mX1_clear dX4_define_81 rfl rfl hS.1.1 (Nat.le_of_ble_eq_true rfl) (kclear (d := d) hS.1 (fun I2 f1 f2 f3 f4 => ?_))
                  refine y_aload_n dX4_define_84 rfl ?_
                  refine y_getr 4 0 dX4_define_85 rfl rfl (And.intro T0 trivial).1 Tm ?_
                  refine y_iload_n dX4_define_88 rfl ?_
                  refine y_aald (m) dX4_define_89 hS.2.2.1 rfl (by omega) (by omega) (hS.2.2.2.2.1 (m) hm).1 ?_
                  refine y_getv 2 5 dX4_define_90 rfl rfl (hS.2.2.2.2.1 (m) hm).2.1 ((congrFun (f1 _ (by omega)) 5).trans xuI_s) ?_
                  exact y_ret dX4_define_93 rfl rfl (hp0 m v t I2 ⟨hm, rfl, hv, rfl, Or.inl rfl, fun _ => ⟨t, ht, rfl⟩, hx5, hn.1, hn.2⟩ rfl ht rfl f1 f2 f4)
                · refine y_aload_n dX4_define_57 rfl ?_
                  refine y_getr 4 0 dX4_define_58 rfl rfl (And.intro T0 trivial).1 Tm ?_
                  refine y_iload_n dX4_define_61 rfl ?_
                  refine y_aald (m) dX4_define_62 hS.2.2.1 rfl (by omega) (by omega) (hS.2.2.2.2.1 (m) hm).1 ?_
                  refine y_iload_n dX4_define_63 rfl ?_
                  refine y_iload_n dX4_define_64 rfl ?_
                  refine y_iload dX4_define_65 rfl ?_
                  refine y_iload dX4_define_67 rfl ?_
                  refine y_callV4 mX2_addDefinition dX4_define_69 rfl rfl (hS.2.2.2.2.1 (m) hm).2.1 (Nat.le_of_ble_eq_true rfl) (kaddDef0 (d := d + 1) (hS.2.2.2.2.1 m hm).2 (hM m hm) (hw m (by omega)) hv hn ?_)
                  · refine y_if_ne 77 dX4_define_72 (by decide) (fun q => absurd q (by decide)) (fun _ => ?_)
                    refine y_iconst (v := (-1)) dX4_define_75 (by decide) ?_
                    exact y_ret dX4_define_76 rfl rfl (hb (fun m2 v2 g => hn (by obtain ⟨g1, g2, g3, g4, g5, g6, g7, g8, g9⟩ := g; have := nI_inj (by omega) (by omega) g2; subst this; exact ⟨g8, g9⟩)))
              · refine y_if_eq 49 dX4_define_42 (by decide) (fun _ => ?_) (fun q => absurd q (by decide))
                refine y_iconst (v := 0) dX4_define_49 (by decide) ?_
                refine y_istore dX4_define_50 (by first | (simp; done) | (simp; decide)) (fun x4 e_x4 => ?_)
                subst e_x4
                refine y_iload dX4_define_52 rfl ?_
                refine y_if_eq 75 dX4_define_54 (by decide) (fun _ => ?_) (fun q => absurd q (by decide))
                refine y_iconst (v := (-1)) dX4_define_75 (by decide) ?_
                exact y_ret dX4_define_76 rfl rfl (hb (fun m2 v2 g => (by obtain ⟨t, t1, t2⟩ := g.2.2.2.2.2.1 c34; exact b_t t t1 t2)))
        · refine y_iconst (v := (-1)) dX4_define_26 (by decide) ?_
          exact y_ret dX4_define_27 rfl rfl (hb (fun m2 v2 g => (by obtain ⟨t, t1, t2⟩ := g.2.2.2.2.2.2.1; rw [t2, nI_toInt (by omega)] at c23; omega)))
    · refine y_if_eq 26 dX4_define_12 (by decide) (fun _ => ?_) (fun q => absurd q (by decide))
      refine y_iconst (v := (-1)) dX4_define_26 (by decide) ?_
      exact y_ret dX4_define_27 rfl rfl (hb (fun m2 v2 g => b_v v2 g.2.2.1 g.2.2.2.1))
  · refine y_if_eq 26 dX4_define_5 (by decide) (fun _ => ?_) (fun q => absurd q (by decide))
    refine y_iconst (v := (-1)) dX4_define_26 (by decide) ?_
    exact y_ret dX4_define_27 rfl rfl (hb (fun m2 v2 g => b_m m2 g.1 g.2.1))
theorem knoptional {d : Nat} {Pp : Option Value → xH → Prop} {K : Nat → Nat × Nat} {I : Nat → Nat → Int32} {P : Nat → Nat → Option Nat} {n s : Nat} {o L Lb : Nat} {X : xX} {x1 x2 : Int32} (hT : xSt K P o L Lb (gC X)) (hw : ∀ m, m < 12 → wfM X m) (hC : I o 1 = nI (gC X)) (hM : xMos I X o) (hb : (∀ m v, ¬ gdOpt X x1 x2 m v) → Pp (some (.int 0)) (K, I, P, n, s)) (hp : ∀ m v I', gdOpt X x1 x2 m v → xFl L (xuI I (o + 59 + 13 * m + 6) v 1) I' → I' L 3 = 0 → (∀ j, j < 12 → I' (L + 2) j = -1) → Pp (some (.int 1)) (K, I', P, n, s)) : xC (d + 2) mX4_optional [(.ref o), (.int x1), (.int x2)] (K, I, P, n, s) Pp := by
  refine y_met 0 0 ?_
  show xB (d + 2) 4 cX4_optional (some .int) false (xE n s 0 0 Pp) 0 [some (.ref o), some (.int x1), some (.int x2)] [] (K, I, P, n, s)
  obtain ⟨T0, Tm, Tl, Tt, Tf, Tk, hF, hX, hS, hSb, hne⟩ := id hT
  have hc12 := hS.2.2.2.1
  have hLo := hS.2.2.2.2.2
  refine y_aload_n dX4_optional_0 rfl ?_
  refine y_iload_n dX4_optional_1 rfl ?_
  refine y_callV1 mX4_isModule dX4_optional_2 rfl rfl (And.intro T0 trivial).1 (Nat.le_of_ble_eq_true rfl) (kX4_isModule (show (K o).1 = 5 from T0) hC hc12 (fun m hm e_m => ?_) (fun b_m => ?_))
  · subst e_m
    refine y_if_eq 29 dX4_optional_5 (by decide) (fun q => absurd q (by decide)) (fun _ => ?_)
    refine y_iload_n dX4_optional_8 rfl ?_
    refine y_callS1 mX4_isName 0 dX4_optional_9 rfl rfl (Nat.le_of_ble_eq_true rfl) (kX4_isName (fun v hv e_v => ?_) (fun b_v => ?_))
    · subst e_v
      refine y_if_eq 29 dX4_optional_12 (by decide) (fun q => absurd q (by decide)) (fun _ => ?_)
      refine y_aload_n dX4_optional_15 rfl ?_
      refine y_getr 4 0 dX4_optional_16 rfl rfl (And.intro T0 trivial).1 Tm ?_
      refine y_iload_n dX4_optional_19 rfl ?_
      refine y_aald (m) dX4_optional_20 hS.2.2.1 rfl (by omega) (by omega) (hS.2.2.2.2.1 (m) hm).1 ?_
      refine y_getr 2 7 dX4_optional_21 rfl rfl (hS.2.2.2.2.1 (m) hm).2.1 (r2_7 (hS.2.2.2.2.1 (m) hm).2) ?_
      refine y_iload_n dX4_optional_24 rfl ?_
      refine y_baldN (v) dX4_optional_25 (k2_7 (hS.2.2.2.2.1 (m) hm).2) rfl (by omega) (by omega) ((hM m hm).op v hv) ?_
      refine y_if_eq 31 dX4_optional_26 (by decide) (fun c26 => ?_) (fun c26 => ?_)
      · refine y_aload_n dX4_optional_31 rfl ?_
        refine y_getr 4 0 dX4_optional_32 rfl rfl (And.intro T0 trivial).1 Tm ?_
        refine y_iload_n dX4_optional_35 rfl ?_
        refine y_aald (m) dX4_optional_36 hS.2.2.1 rfl (by omega) (by omega) (hS.2.2.2.2.1 (m) hm).1 ?_
        refine y_getr 2 7 dX4_optional_37 rfl rfl (hS.2.2.2.2.1 (m) hm).2.1 (r2_7 (hS.2.2.2.2.1 (m) hm).2) ?_
        refine y_iload_n dX4_optional_40 rfl ?_
        refine y_iconst (v := 1) dX4_optional_41 (by decide) ?_
        refine y_bast (v) dX4_optional_42 (k2_7 (hS.2.2.2.2.1 (m) hm).2) rfl (by omega) (by omega) (by decide) ?_
        refine y_aload_n dX4_optional_43 rfl ?_
        refine y_getr 4 2 dX4_optional_44 rfl rfl (And.intro T0 trivial).1 Tl ?_
        refine y_callV0 mX1_clear dX4_optional_47 rfl rfl hS.1.1 (Nat.le_of_ble_eq_true rfl) (kclear (d := d) hS.1 (fun I2 f1 f2 f3 f4 => ?_))
        refine y_iconst (v := 1) dX4_optional_50 (by decide) ?_
        exact y_ret dX4_optional_51 rfl rfl (hp m v I2 ⟨hm, rfl, hv, rfl, c26⟩ f1 f2 f4)
      · refine y_iconst (v := 0) dX4_optional_29 (by decide) ?_
        exact y_ret dX4_optional_30 rfl rfl (hb (fun m2 v2 g => c26 (by obtain ⟨g1, g2, g3, g4, g5⟩ := g; have e1 := nI_inj (by omega) (by omega) g2; have e2 := nI_inj (by omega) (by omega) g4; subst e1; subst e2; exact g5)))
    · refine y_if_eq 29 dX4_optional_12 (by decide) (fun _ => ?_) (fun q => absurd q (by decide))
      refine y_iconst (v := 0) dX4_optional_29 (by decide) ?_
      exact y_ret dX4_optional_30 rfl rfl (hb (fun m2 v2 g => b_v v2 g.2.2.1 g.2.2.2.1))
  · refine y_if_eq 29 dX4_optional_5 (by decide) (fun _ => ?_) (fun q => absurd q (by decide))
    refine y_iconst (v := 0) dX4_optional_29 (by decide) ?_
    exact y_ret dX4_optional_30 rfl rfl (hb (fun m2 v2 g => b_m m2 g.1 g.2.1))
theorem knbeginner {d : Nat} {Pp : Option Value → xH → Prop} {K : Nat → Nat × Nat} {I : Nat → Nat → Int32} {P : Nat → Nat → Option Nat} {n s : Nat} {o L Lb : Nat} {X : xX} {x1 x2 : Int32} (hT : xSt K P o L Lb (gC X)) (hw : ∀ m, m < 12 → wfM X m) (hC : I o 1 = nI (gC X)) (hM : xMos I X o) (hb : (∀ m, ¬ gdBeg X x1 x2 m) → Pp (some (.int 0)) (K, I, P, n, s)) (hp : ∀ m I', gdBeg X x1 x2 m → xFl L (xuI I (o + 59 + 13 * m) 8 x2) I' → I' L 3 = 0 → (∀ j, j < 12 → I' (L + 2) j = -1) → Pp (some (.int 1)) (K, I', P, n, s)) : xC (d + 2) mX4_beginner [(.ref o), (.int x1), (.int x2)] (K, I, P, n, s) Pp := by
  refine y_met 0 0 ?_
  show xB (d + 2) 4 cX4_beginner (some .int) false (xE n s 0 0 Pp) 0 [some (.ref o), some (.int x1), some (.int x2)] [] (K, I, P, n, s)
  obtain ⟨T0, Tm, Tl, Tt, Tf, Tk, hF, hX, hS, hSb, hne⟩ := id hT
  have hc12 := hS.2.2.2.1
  have hLo := hS.2.2.2.2.2
  refine y_aload_n dX4_beginner_0 rfl ?_
  refine y_iload_n dX4_beginner_1 rfl ?_
  refine y_callV1 mX4_isModule dX4_beginner_2 rfl rfl (And.intro T0 trivial).1 (Nat.le_of_ble_eq_true rfl) (kX4_isModule (show (K o).1 = 5 from T0) hC hc12 (fun m hm e_m => ?_) (fun b_m => ?_))
  · subst e_m
    refine y_if_eq 20 dX4_beginner_5 (by decide) (fun q => absurd q (by decide)) (fun _ => ?_)
    refine y_iload_n dX4_beginner_8 rfl ?_
    refine y_iconst (v := (-1)) dX4_beginner_9 (by decide) ?_
    refine y_icmp_eq 22 dX4_beginner_10 (by decide) (fun c10 => ?_) (fun c10 => ?_)
    · refine y_aload_n dX4_beginner_22 rfl ?_
      refine y_getr 4 0 dX4_beginner_23 rfl rfl (And.intro T0 trivial).1 Tm ?_
      refine y_iload_n dX4_beginner_26 rfl ?_
      refine y_aald (m) dX4_beginner_27 hS.2.2.1 rfl (by omega) (by omega) (hS.2.2.2.2.1 (m) hm).1 ?_
      refine y_iload_n dX4_beginner_28 rfl ?_
      refine y_puti 2 8 dX4_beginner_29 rfl rfl rfl (hS.2.2.2.2.1 (m) hm).2.1 ?_
      refine y_aload_n dX4_beginner_32 rfl ?_
      refine y_getr 4 2 dX4_beginner_33 rfl rfl (And.intro T0 trivial).1 Tl ?_
      refine y_callV0 mX1_clear dX4_beginner_36 rfl rfl hS.1.1 (Nat.le_of_ble_eq_true rfl) (kclear (d := d) hS.1 (fun I2 f1 f2 f3 f4 => ?_))
      refine y_iconst (v := 1) dX4_beginner_39 (by decide) ?_
      exact y_ret dX4_beginner_40 rfl rfl (hp m I2 ⟨hm, rfl, Or.inl c10⟩ f1 f2 f4)
    · refine y_iload_n dX4_beginner_13 rfl ?_
      refine y_callS1 mX4_isName 0 dX4_beginner_14 rfl rfl (Nat.le_of_ble_eq_true rfl) (kX4_isName (fun v hv e_v => ?_) (fun b_v => ?_))
      · subst e_v
        refine y_if_ne 22 dX4_beginner_17 (by decide) (fun _ => ?_) (fun q => absurd q (by decide))
        refine y_aload_n dX4_beginner_22 rfl ?_
        refine y_getr 4 0 dX4_beginner_23 rfl rfl (And.intro T0 trivial).1 Tm ?_
        refine y_iload_n dX4_beginner_26 rfl ?_
        refine y_aald (m) dX4_beginner_27 hS.2.2.1 rfl (by omega) (by omega) (hS.2.2.2.2.1 (m) hm).1 ?_
        refine y_iload_n dX4_beginner_28 rfl ?_
        refine y_puti 2 8 dX4_beginner_29 rfl rfl rfl (hS.2.2.2.2.1 (m) hm).2.1 ?_
        refine y_aload_n dX4_beginner_32 rfl ?_
        refine y_getr 4 2 dX4_beginner_33 rfl rfl (And.intro T0 trivial).1 Tl ?_
        refine y_callV0 mX1_clear dX4_beginner_36 rfl rfl hS.1.1 (Nat.le_of_ble_eq_true rfl) (kclear (d := d) hS.1 (fun I2 f1 f2 f3 f4 => ?_))
        refine y_iconst (v := 1) dX4_beginner_39 (by decide) ?_
        exact y_ret dX4_beginner_40 rfl rfl (hp m I2 ⟨hm, rfl, Or.inr ⟨v, hv, rfl⟩⟩ f1 f2 f4)
      · refine y_if_ne 22 dX4_beginner_17 (by decide) (fun q => absurd q (by decide)) (fun _ => ?_)
        refine y_iconst (v := 0) dX4_beginner_20 (by decide) ?_
        exact y_ret dX4_beginner_21 rfl rfl (hb (fun m2 g => g.2.2.elim c10 (fun ⟨v2, h1, h2⟩ => b_v v2 h1 h2)))
  · refine y_if_eq 20 dX4_beginner_5 (by decide) (fun _ => ?_) (fun q => absurd q (by decide))
    refine y_iconst (v := 0) dX4_beginner_20 (by decide) ?_
    exact y_ret dX4_beginner_21 rfl rfl (hb (fun m2 g => b_m m2 g.1 g.2.1))
theorem knput {d : Nat} {Pp : Option Value → xH → Prop} {K : Nat → Nat × Nat} {I : Nat → Nat → Int32} {P : Nat → Nat → Option Nat} {n s : Nat} {o L Lb : Nat} {X : xX} {x1 x2 x3 x4 x5 : Int32} (hT : xSt K P o L Lb (gC X)) (hw : ∀ m, m < 12 → wfM X m) (hC : I o 1 = nI (gC X)) (hM : xMos I X o) (hb : (∀ m, ¬ gdPut X x1 x2 x3 x4 x5 m) → Pp (some (.int (-1))) (K, I, P, n, s)) (hp : ∀ m I', gdPut X x1 x2 x3 x4 x5 m → xFl L (xuI (xuI (xuI (xuI (xuI I (o + 59 + 13 * m + 7) (gS X m) x2) (o + 59 + 13 * m + 8) (gS X m) x3) (o + 59 + 13 * m + 9) (gS X m) x4) (o + 59 + 13 * m + 10) (gS X m) x5) (o + 59 + 13 * m) 13 (nI (gS X m + 1))) I' → I' L 3 = 0 → (∀ j, j < 12 → I' (L + 2) j = -1) → Pp (some (.int (nI (gS X m)))) (K, I', P, n, s)) : xC (d + 2) mX4_put [(.ref o), (.int x1), (.int x2), (.int x3), (.int x4), (.int x5)] (K, I, P, n, s) Pp := by
  refine y_met 0 0 ?_
  show xB (d + 2) 4 cX4_put (some .int) false (xE n s 0 0 Pp) 0 [some (.ref o), some (.int x1), some (.int x2), some (.int x3), some (.int x4), some (.int x5)] [] (K, I, P, n, s)
  obtain ⟨T0, Tm, Tl, Tt, Tf, Tk, hF, hX, hS, hSb, hne⟩ := id hT
  have hc12 := hS.2.2.2.1
  have hLo := hS.2.2.2.2.2
  refine y_aload_n dX4_put_0 rfl ?_
  refine y_iload_n dX4_put_1 rfl ?_
  refine y_callV1 mX4_isModule dX4_put_2 rfl rfl (And.intro T0 trivial).1 (Nat.le_of_ble_eq_true rfl) (kX4_isModule (show (K o).1 = 5 from T0) hC hc12 (fun m hm e_m => ?_) (fun b_m => ?_))
  · subst e_m
    refine y_if_eq 38 dX4_put_5 (by decide) (fun q => absurd q (by decide)) (fun _ => ?_)
    refine y_iload_n dX4_put_8 rfl ?_
    refine y_iload_n dX4_put_9 rfl ?_
    refine y_iload dX4_put_10 rfl ?_
    refine y_iload dX4_put_12 rfl ?_
    refine y_callS4 mX4_isWellFormed 0 dX4_put_14 rfl rfl (Nat.le_of_ble_eq_true rfl) (kisWellFormed (d := d) (fun c14 => ?_) (fun c14 => ?_))
    · refine y_if_eq 38 dX4_put_17 (by decide) (fun q => absurd q (by decide)) (fun _ => ?_)
      refine y_aload_n dX4_put_20 rfl ?_
      refine y_getr 4 0 dX4_put_21 rfl rfl (And.intro T0 trivial).1 Tm ?_
      refine y_iload_n dX4_put_24 rfl ?_
      refine y_aald (m) dX4_put_25 hS.2.2.1 rfl (by omega) (by omega) (hS.2.2.2.2.1 (m) hm).1 ?_
      refine y_iload_n dX4_put_26 rfl ?_
      refine y_iload_n dX4_put_27 rfl ?_
      refine y_iload dX4_put_28 rfl ?_
      refine y_iload dX4_put_30 rfl ?_
      refine y_callV4 mX2_addStep dX4_put_32 rfl rfl (hS.2.2.2.2.1 (m) hm).2.1 (Nat.le_of_ble_eq_true rfl) (kaddStep (d := d + 1) (hS.2.2.2.2.1 m hm).2 (hM m hm) (hw m (by omega)) (fun c32 => ?_) (fun c32 => ?_))
      · refine y_if_ne 40 dX4_put_35 (by decide) (fun q => absurd q (by decide)) (fun _ => ?_)
        refine y_iconst (v := (-1)) dX4_put_38 (by decide) ?_
        exact y_ret dX4_put_39 rfl rfl (hb (fun m2 g => c32 (by obtain ⟨g1, g2, g3, g4⟩ := g; have e1 := nI_inj (by omega) (by omega) g2; subst e1; exact g4)))
      · refine y_if_ne 40 dX4_put_35 (by decide) (fun _ => ?_) (fun q => absurd q (by decide))
        refine y_aload_n dX4_put_40 rfl ?_
        refine y_getr 4 2 dX4_put_41 rfl rfl (And.intro T0 trivial).1 Tl ?_
        refine y_callV0 mX1_clear dX4_put_44 rfl rfl hS.1.1 (Nat.le_of_ble_eq_true rfl) (kclear (d := d) hS.1 (fun I2 f1 f2 f3 f4 => ?_))
        refine y_aload_n dX4_put_47 rfl ?_
        refine y_getr 4 0 dX4_put_48 rfl rfl (And.intro T0 trivial).1 Tm ?_
        refine y_iload_n dX4_put_51 rfl ?_
        refine y_aald (m) dX4_put_52 hS.2.2.1 rfl (by omega) (by omega) (hS.2.2.2.2.1 (m) hm).1 ?_
        refine y_getv 2 13 dX4_put_53 rfl rfl (hS.2.2.2.2.1 (m) hm).2.1 ((congrFun (f1 _ (by omega)) 13).trans xuI_s) ?_
        refine y_iconst (v := 1) dX4_put_56 (by decide) ?_
        refine y_isubv ((nI (gS X m))) dX4_put_57 ((pk_sub (b := 1) (by omega)).trans (congrArg nI (by omega))) ?_
        exact y_ret dX4_put_58 rfl rfl (hp m I2 ⟨hm, rfl, c14, c32⟩ f1 f2 f4)
    · refine y_if_eq 38 dX4_put_17 (by decide) (fun _ => ?_) (fun q => absurd q (by decide))
      refine y_iconst (v := (-1)) dX4_put_38 (by decide) ?_
      exact y_ret dX4_put_39 rfl rfl (hb (fun m2 g => c14 g.2.2.1))
  · refine y_if_eq 38 dX4_put_5 (by decide) (fun _ => ?_) (fun q => absurd q (by decide))
    refine y_iconst (v := (-1)) dX4_put_38 (by decide) ?_
    exact y_ret dX4_put_39 rfl rfl (hb (fun m2 g => b_m m2 g.1 g.2.1))
