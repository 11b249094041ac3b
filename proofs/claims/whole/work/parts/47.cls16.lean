theorem knfault {d : Nat} {Pp : Option Value → xH → Prop} {K : Nat → Nat × Nat} {I : Nat → Nat → Int32} {P : Nat → Nat → Option Nat} {n s : Nat} {o L Lb : Nat} {X : xX} {x : Int32} (hT : xSt K P o L Lb (gC X)) (hp : Pp (some (.int (if x = 0 then I (o + 1) 1 else if x = 1 then I (o + 1) 2 else if x = 2 then I (o + 1) 3 else -1))) (K, I, P, n, s)) : xC d mX4_fault [(.ref o), (.int x)] (K, I, P, n, s) Pp := by
  refine y_met 0 0 ?_
  show xB d 4 cX4_fault (some .int) false (xE n s 0 0 Pp) 0 [some (.ref o), some (.int x)] [] (K, I, P, n, s)
  obtain ⟨T0, Tm, Tl, Tt, Tf, Tk, hF, hX, hS, hSb, hne⟩ := id hT
  have hc12 := hS.2.2.2.1
  have hLo := hS.2.2.2.2.2
  refine y_iload_n dX4_fault_0 rfl ?_
  refine y_tsw dX4_fault_1 (fun c1 => ⟨52, by decide, ?_⟩) (fun c1a c1b => ?_)
  · refine y_iconst (v := (-1)) dX4_fault_52 (by decide) ?_
    rw [if_neg (fun c => by rw [c] at c1; exact absurd c1 (by decide)), if_neg (fun c => by rw [c] at c1; exact absurd c1 (by decide)), if_neg (fun c => by rw [c] at c1; exact absurd c1 (by decide))] at hp
    exact y_ret dX4_fault_53 rfl rfl hp
  · have c1c : (x).toInt = 0 ∨ (x).toInt = 1 ∨ (x).toInt = 2 := by omega
    rcases c1c with e1 | e1 | e1
    · refine ⟨27, 28, by rw [e1]; rfl, by decide, ?_⟩
      refine y_aload_n dX4_fault_28 rfl ?_
      refine y_getr 4 4 dX4_fault_29 rfl rfl (And.intro T0 trivial).1 Tf ?_
      refine y_geti 0 1 dX4_fault_32 rfl rfl hF.1 ?_
      rw [if_pos (z_eq e1 rfl)] at hp
      exact y_ret dX4_fault_35 rfl rfl hp
    · refine ⟨35, 36, by rw [e1]; rfl, by decide, ?_⟩
      refine y_aload_n dX4_fault_36 rfl ?_
      refine y_getr 4 4 dX4_fault_37 rfl rfl (And.intro T0 trivial).1 Tf ?_
      refine y_geti 0 2 dX4_fault_40 rfl rfl hF.1 ?_
      rw [if_neg (fun c => absurd (congrArg Int32.toInt c) (by rw [e1]; decide)), if_pos (z_eq e1 rfl)] at hp
      exact y_ret dX4_fault_43 rfl rfl hp
    · refine ⟨43, 44, by rw [e1]; rfl, by decide, ?_⟩
      refine y_aload_n dX4_fault_44 rfl ?_
      refine y_getr 4 4 dX4_fault_45 rfl rfl (And.intro T0 trivial).1 Tf ?_
      refine y_geti 0 3 dX4_fault_48 rfl rfl hF.1 ?_
      rw [if_neg (fun c => absurd (congrArg Int32.toInt c) (by rw [e1]; decide)), if_neg (fun c => absurd (congrArg Int32.toInt c) (by rw [e1]; decide)), if_pos (z_eq e1 rfl)] at hp
      exact y_ret dX4_fault_51 rfl rfl hp
theorem kncount {d : Nat} {Pp : Option Value → xH → Prop} {K : Nat → Nat × Nat} {I : Nat → Nat → Int32} {P : Nat → Nat → Option Nat} {n s : Nat} {o L Lb : Nat} {X : xX} {x : Int32} (hT : xSt K P o L Lb (gC X)) (hp : Pp (some (.int (if x = 0 then I (o + 2) 2 else if x = 1 then I (o + 2) 3 else if x = 2 then I (o + 2) 4 else if x = 3 then I (o + 2) 5 else if x = 4 then I L 3 else if x = 5 then I o 1 else -1))) (K, I, P, n, s)) : xC d mX4_count [(.ref o), (.int x)] (K, I, P, n, s) Pp := by
  refine y_met 0 0 ?_
  show xB d 4 cX4_count (some .int) false (xE n s 0 0 Pp) 0 [some (.ref o), some (.int x)] [] (K, I, P, n, s)
  obtain ⟨T0, Tm, Tl, Tt, Tf, Tk, hF, hX, hS, hSb, hne⟩ := id hT
  have hc12 := hS.2.2.2.1
  have hLo := hS.2.2.2.2.2
  refine y_iload_n dX4_count_0 rfl ?_
  refine y_tsw dX4_count_1 (fun c1 => ⟨85, by decide, ?_⟩) (fun c1a c1b => ?_)
  · refine y_iconst (v := (-1)) dX4_count_85 (by decide) ?_
    rw [if_neg (fun c => by rw [c] at c1; exact absurd c1 (by decide)), if_neg (fun c => by rw [c] at c1; exact absurd c1 (by decide)), if_neg (fun c => by rw [c] at c1; exact absurd c1 (by decide)), if_neg (fun c => by rw [c] at c1; exact absurd c1 (by decide)), if_neg (fun c => by rw [c] at c1; exact absurd c1 (by decide)), if_neg (fun c => by rw [c] at c1; exact absurd c1 (by decide))] at hp
    exact y_ret dX4_count_86 rfl rfl hp
  · have c1c : (x).toInt = 0 ∨ (x).toInt = 1 ∨ (x).toInt = 2 ∨ (x).toInt = 3 ∨ (x).toInt = 4 ∨ (x).toInt = 5 := by omega
    rcases c1c with e1 | e1 | e1 | e1 | e1 | e1
    · refine ⟨39, 40, by rw [e1]; rfl, by decide, ?_⟩
      refine y_aload_n dX4_count_40 rfl ?_
      refine y_getr 4 5 dX4_count_41 rfl rfl (And.intro T0 trivial).1 Tk ?_
      refine y_geti 3 2 dX4_count_44 rfl rfl hX.1 ?_
      rw [if_pos (z_eq e1 rfl)] at hp
      exact y_ret dX4_count_47 rfl rfl hp
    · refine ⟨47, 48, by rw [e1]; rfl, by decide, ?_⟩
      refine y_aload_n dX4_count_48 rfl ?_
      refine y_getr 4 5 dX4_count_49 rfl rfl (And.intro T0 trivial).1 Tk ?_
      refine y_geti 3 3 dX4_count_52 rfl rfl hX.1 ?_
      rw [if_neg (fun c => absurd (congrArg Int32.toInt c) (by rw [e1]; decide)), if_pos (z_eq e1 rfl)] at hp
      exact y_ret dX4_count_55 rfl rfl hp
    · refine ⟨55, 56, by rw [e1]; rfl, by decide, ?_⟩
      refine y_aload_n dX4_count_56 rfl ?_
      refine y_getr 4 5 dX4_count_57 rfl rfl (And.intro T0 trivial).1 Tk ?_
      refine y_geti 3 4 dX4_count_60 rfl rfl hX.1 ?_
      rw [if_neg (fun c => absurd (congrArg Int32.toInt c) (by rw [e1]; decide)), if_neg (fun c => absurd (congrArg Int32.toInt c) (by rw [e1]; decide)), if_pos (z_eq e1 rfl)] at hp
      exact y_ret dX4_count_63 rfl rfl hp
    · refine ⟨63, 64, by rw [e1]; rfl, by decide, ?_⟩
      refine y_aload_n dX4_count_64 rfl ?_
      refine y_getr 4 5 dX4_count_65 rfl rfl (And.intro T0 trivial).1 Tk ?_
      refine y_geti 3 5 dX4_count_68 rfl rfl hX.1 ?_
      rw [if_neg (fun c => absurd (congrArg Int32.toInt c) (by rw [e1]; decide)), if_neg (fun c => absurd (congrArg Int32.toInt c) (by rw [e1]; decide)), if_neg (fun c => absurd (congrArg Int32.toInt c) (by rw [e1]; decide)), if_pos (z_eq e1 rfl)] at hp
      exact y_ret dX4_count_71 rfl rfl hp
    · refine ⟨71, 72, by rw [e1]; rfl, by decide, ?_⟩
      refine y_aload_n dX4_count_72 rfl ?_
      refine y_getr 4 2 dX4_count_73 rfl rfl (And.intro T0 trivial).1 Tl ?_
      refine y_geti 1 3 dX4_count_76 rfl rfl hS.1.1 ?_
      rw [if_neg (fun c => absurd (congrArg Int32.toInt c) (by rw [e1]; decide)), if_neg (fun c => absurd (congrArg Int32.toInt c) (by rw [e1]; decide)), if_neg (fun c => absurd (congrArg Int32.toInt c) (by rw [e1]; decide)), if_neg (fun c => absurd (congrArg Int32.toInt c) (by rw [e1]; decide)), if_pos (z_eq e1 rfl)] at hp
      exact y_ret dX4_count_79 rfl rfl hp
    · refine ⟨79, 80, by rw [e1]; rfl, by decide, ?_⟩
      refine y_aload_n dX4_count_80 rfl ?_
      refine y_geti 4 1 dX4_count_81 rfl rfl (And.intro T0 trivial).1 ?_
      rw [if_neg (fun c => absurd (congrArg Int32.toInt c) (by rw [e1]; decide)), if_neg (fun c => absurd (congrArg Int32.toInt c) (by rw [e1]; decide)), if_neg (fun c => absurd (congrArg Int32.toInt c) (by rw [e1]; decide)), if_neg (fun c => absurd (congrArg Int32.toInt c) (by rw [e1]; decide)), if_neg (fun c => absurd (congrArg Int32.toInt c) (by rw [e1]; decide)), if_pos (z_eq e1 rfl)] at hp
      exact y_ret dX4_count_84 rfl rfl hp
theorem knorder {d : Nat} {Pp : Option Value → xH → Prop} {K : Nat → Nat × Nat} {I : Nat → Nat → Int32} {P : Nat → Nat → Option Nat} {n s : Nat} {o L Lb : Nat} {X : xX} {x1 x2 : Int32} {ord : List Nat} (hT : xSt K P o L Lb (gC X)) (ho : xLo I X L ord) (hb : ((∀ k, k < ord.length → x1 ≠ nI k) ∨ ∀ b, x2 ≠ bI b) → Pp (some (.int (-1))) (K, I, P, n, s)) (hp : ∀ k b, k < ord.length → x1 = nI k → x2 = bI b → Pp (some (.int (if b = true then I (L + 3) k else I (L + 1) k))) (K, I, P, n, s)) : xC d mX4_order [(.ref o), (.int x1), (.int x2)] (K, I, P, n, s) Pp := by
  refine y_met 0 0 ?_
  show xB d 4 cX4_order (some .int) false (xE n s 0 0 Pp) 0 [some (.ref o), some (.int x1), some (.int x2)] [] (K, I, P, n, s)
  obtain ⟨T0, Tm, Tl, Tt, Tf, Tk, hF, hX, hS, hSb, hne⟩ := id hT
  have hc12 := hS.2.2.2.1
  have hLo := hS.2.2.2.2.2
  have hol := okl_len ho.2.2.2.2
  refine y_iload_n dX4_order_0 rfl ?_
  refine y_ifZ_lt 15 (x1.toInt) dX4_order_1 (by decide) rfl (fun c1 => ?_) (fun c1 => ?_)
  · refine y_iconst (v := (-1)) dX4_order_15 (by decide) ?_
    exact y_ret dX4_order_16 rfl rfl (hb (Or.inl (fun k hk e => by rw [e, nI_toInt (by omega)] at c1; omega)))
  · refine y_iload_n dX4_order_4 rfl ?_
    refine y_aload_n dX4_order_5 rfl ?_
    refine y_getr 4 2 dX4_order_6 rfl rfl (And.intro T0 trivial).1 Tl ?_
    refine y_getv 1 3 dX4_order_9 rfl rfl hS.1.1 ho.1 ?_
    refine y_icmpZ_lt 17 (x1.toInt) ((ord.length : Int)) dX4_order_12 (by decide) rfl (nI_toInt (by omega)) (fun c12 => ?_) (fun c12 => ?_)
    · obtain ⟨k, hk0⟩ : ∃ k : Nat, x1.toInt = k := ⟨x1.toInt.toNat, by omega⟩
      obtain rfl : x1 = nI k := by have := zN c1; rw [hk0, Int.toNat_natCast] at this; exact this
      have hk : k < ord.length := by omega
      refine y_iload_n dX4_order_17 rfl ?_
      refine y_if_ne 31 dX4_order_18 (by decide) (fun c18 => ?_) (fun c18 => ?_)
      · refine y_iload_n dX4_order_31 rfl ?_
        refine y_iconst (v := 1) dX4_order_32 (by decide) ?_
        refine y_icmp_ne 48 dX4_order_33 (by decide) (fun c33 => ?_) (fun c33 => ?_)
        · refine y_iconst (v := (-1)) dX4_order_48 (by decide) ?_
          exact y_ret dX4_order_49 rfl rfl (hb (Or.inr (fun b e => by cases b; exact c18 e; exact c33 e)))
        · refine y_aload_n dX4_order_36 rfl ?_
          refine y_getr 4 2 dX4_order_37 rfl rfl (And.intro T0 trivial).1 Tl ?_
          refine y_getr 1 4 dX4_order_40 rfl rfl hS.1.1 (r1_4 hS.1) ?_
          refine y_iload_n dX4_order_43 rfl ?_
          refine y_ialdN (k) dX4_order_44 (k1_4 hS.1) rfl (by omega) (by omega) rfl ?_
          refine y_goto 49 dX4_order_45 (by decide) ?_
          exact y_ret dX4_order_49 rfl rfl (hp k true hk rfl c33)
      · refine y_aload_n dX4_order_21 rfl ?_
        refine y_getr 4 2 dX4_order_22 rfl rfl (And.intro T0 trivial).1 Tl ?_
        refine y_getr 1 1 dX4_order_25 rfl rfl hS.1.1 (r1_1 hS.1) ?_
        refine y_iload_n dX4_order_28 rfl ?_
        refine y_ialdN (k) dX4_order_29 (k1_1 hS.1) rfl (by omega) (by omega) rfl ?_
        exact y_ret dX4_order_30 rfl rfl (hp k false hk rfl c18)
    · refine y_iconst (v := (-1)) dX4_order_15 (by decide) ?_
      exact y_ret dX4_order_16 rfl rfl (hb (Or.inl (fun k hk e => by rw [e, nI_toInt (by omega)] at c12; omega)))
theorem kncomes {d : Nat} {Pp : Option Value → xH → Prop} {K : Nat → Nat × Nat} {I : Nat → Nat → Int32} {P : Nat → Nat → Option Nat} {n s : Nat} {o L Lb : Nat} {X : xX} {x1 x2 : Int32} {ord : List Nat} (hT : xSt K P o L Lb (gC X)) (hw : ∀ m, m < 12 → wfM X m) (hM : xMos I X o) (ho : xLo I X L ord) (hG : ord ≠ [] → xLg I X L ord) (hb : ((∀ m ∈ ord, x1 ≠ nI m) ∨ ∀ v, v < 64 → x2 ≠ nI v) → Pp (some (.int (-1))) (K, I, P, n, s)) (hp : ∀ m v, m ∈ ord → x1 = nI m → v < 64 → x2 = nI v → Pp (some (.int (oM (sFi X ord m x2)))) (K, I, P, n, s)) : xC (d + 2) mX4_comes [(.ref o), (.int x1), (.int x2)] (K, I, P, n, s) Pp := by
  refine y_met 0 0 ?_
  show xB (d + 2) 4 cX4_comes (some .int) false (xE n s 0 0 Pp) 0 [some (.ref o), some (.int x1), some (.int x2)] [] (K, I, P, n, s)
  obtain ⟨T0, Tm, Tl, Tt, Tf, Tk, hF, hX, hS, hSb, hne⟩ := id hT
  have hc12 := hS.2.2.2.1
  have hLo := hS.2.2.2.2.2
  refine y_aload_n dX4_comes_0 rfl ?_
  refine y_getr 4 2 dX4_comes_1 rfl rfl (And.intro T0 trivial).1 Tl ?_
  refine y_iload_n dX4_comes_4 rfl ?_
  refine y_callV1 mX1_holds dX4_comes_5 rfl rfl hS.1.1 (Nat.le_of_ble_eq_true rfl) (kholds hS.1 ho hc12 (fun m hm e_m => ?_) (fun b_m => ?_))
  · subst e_m
    have hmc := ho.2.2.2.2.2 m hm
    refine y_if_eq 30 dX4_comes_8 (by decide) (fun q => absurd q (by decide)) (fun _ => ?_)
    refine y_iload_n dX4_comes_11 rfl ?_
    refine y_callS1 mX4_isName 0 dX4_comes_12 rfl rfl (Nat.le_of_ble_eq_true rfl) (kX4_isName (fun v hv e_v => ?_) (fun b_v => ?_))
    · subst e_v
      refine y_if_eq 30 dX4_comes_15 (by decide) (fun q => absurd q (by decide)) (fun _ => ?_)
      refine y_aload_n dX4_comes_18 rfl ?_
      refine y_getr 4 2 dX4_comes_19 rfl rfl (And.intro T0 trivial).1 Tl ?_
      refine y_iload_n dX4_comes_22 rfl ?_
      refine y_iload_n dX4_comes_23 rfl ?_
      refine y_callV2 mX1_giverOf dX4_comes_24 rfl rfl hS.1.1 (Nat.le_of_ble_eq_true rfl) (kgiverOf (d := d) (ord := ord) hS hM (hG (List.ne_nil_of_mem hm)) hw hmc hv ?_)
      refine y_goto 31 dX4_comes_27 (by decide) ?_
      exact y_ret dX4_comes_31 rfl rfl (hp m v hm rfl hv rfl)
    · refine y_if_eq 30 dX4_comes_15 (by decide) (fun _ => ?_) (fun q => absurd q (by decide))
      refine y_iconst (v := (-1)) dX4_comes_30 (by decide) ?_
      exact y_ret dX4_comes_31 rfl rfl (hb (Or.inr b_v))
  · refine y_if_eq 30 dX4_comes_8 (by decide) (fun _ => ?_) (fun q => absurd q (by decide))
    refine y_iconst (v := (-1)) dX4_comes_30 (by decide) ?_
    exact y_ret dX4_comes_31 rfl rfl (hb (Or.inl b_m))
theorem knbound {d : Nat} {Pp : Option Value → xH → Prop} {K : Nat → Nat × Nat} {I : Nat → Nat → Int32} {P : Nat → Nat → Option Nat} {n s : Nat} {o L Lb : Nat} {X : xX} {x1 x2 : Int32} {ord : List Nat} (hT : xSt K P o L Lb (gC X)) (ho : xLo I X L ord) (hb : ((∀ m ∈ ord, x1 ≠ nI m) ∨ ∀ v, v < 64 → x2 ≠ nI v) → Pp (some (.int (-1))) (K, I, P, n, s)) (hp : ∀ m v, m ∈ ord → x1 = nI m → v < 64 → x2 = nI v → Pp (some (.int (I (o + 59 + 13 * m + 11) v))) (K, I, P, n, s)) : xC (d + 2) mX4_bound [(.ref o), (.int x1), (.int x2)] (K, I, P, n, s) Pp := by
  refine y_met 0 0 ?_
  show xB (d + 2) 4 cX4_bound (some .int) false (xE n s 0 0 Pp) 0 [some (.ref o), some (.int x1), some (.int x2)] [] (K, I, P, n, s)
  obtain ⟨T0, Tm, Tl, Tt, Tf, Tk, hF, hX, hS, hSb, hne⟩ := id hT
  have hc12 := hS.2.2.2.1
  have hLo := hS.2.2.2.2.2
  refine y_aload_n dX4_bound_0 rfl ?_
  refine y_getr 4 2 dX4_bound_1 rfl rfl (And.intro T0 trivial).1 Tl ?_
  refine y_iload_n dX4_bound_4 rfl ?_
  refine y_callV1 mX1_holds dX4_bound_5 rfl rfl hS.1.1 (Nat.le_of_ble_eq_true rfl) (kholds hS.1 ho hc12 (fun m hm e_m => ?_) (fun b_m => ?_))
  · subst e_m
    have hmc := ho.2.2.2.2.2 m hm
    refine y_if_eq 32 dX4_bound_8 (by decide) (fun q => absurd q (by decide)) (fun _ => ?_)
    refine y_iload_n dX4_bound_11 rfl ?_
    refine y_callS1 mX4_isName 0 dX4_bound_12 rfl rfl (Nat.le_of_ble_eq_true rfl) (kX4_isName (fun v hv e_v => ?_) (fun b_v => ?_))
    · subst e_v
      refine y_if_eq 32 dX4_bound_15 (by decide) (fun q => absurd q (by decide)) (fun _ => ?_)
      refine y_aload_n dX4_bound_18 rfl ?_
      refine y_getr 4 0 dX4_bound_19 rfl rfl (And.intro T0 trivial).1 Tm ?_
      refine y_iload_n dX4_bound_22 rfl ?_
      refine y_aald (m) dX4_bound_23 hS.2.2.1 rfl (by omega) (by omega) (hS.2.2.2.2.1 (m) hmc).1 ?_
      refine y_getr 2 14 dX4_bound_24 rfl rfl (hS.2.2.2.2.1 (m) hmc).2.1 (r2_14 (hS.2.2.2.2.1 (m) hmc).2) ?_
      refine y_iload_n dX4_bound_27 rfl ?_
      refine y_ialdN (v) dX4_bound_28 (k2_14 (hS.2.2.2.2.1 (m) hmc).2) rfl (by omega) (by omega) rfl ?_
      refine y_goto 33 dX4_bound_29 (by decide) ?_
      exact y_ret dX4_bound_33 rfl rfl (hp m v hm rfl hv rfl)
    · refine y_if_eq 32 dX4_bound_15 (by decide) (fun _ => ?_) (fun q => absurd q (by decide))
      refine y_iconst (v := (-1)) dX4_bound_32 (by decide) ?_
      exact y_ret dX4_bound_33 rfl rfl (hb (Or.inr b_v))
  · refine y_if_eq 32 dX4_bound_8 (by decide) (fun _ => ?_) (fun q => absurd q (by decide))
    refine y_iconst (v := (-1)) dX4_bound_32 (by decide) ?_
    exact y_ret dX4_bound_33 rfl rfl (hb (Or.inl b_m))
theorem kndatum {d : Nat} {Pp : Option Value → xH → Prop} {K : Nat → Nat × Nat} {I : Nat → Nat → Int32} {P : Nat → Nat → Option Nat} {n s : Nat} {o L Lb : Nat} {X : xX} {x1 x2 : Int32} {ord : List Nat} (hT : xSt K P o L Lb (gC X)) (hw : ∀ m, m < 12 → wfM X m) (hM : xMos I X o) (ho : xLo I X L ord) (hb : (∀ m e, m ∈ ord → x1 = nI m → sOf X m x2 = some e → X 4 e ≠ 1) → Pp (some (.int (-1))) (K, I, P, n, s)) (hp : ∀ m v e, m ∈ ord → x1 = nI m → v < 64 → x2 = nI v → sOf X m x2 = some e → X 4 e = 1 → Pp (some (.int (I (o + 59 + 13 * m + 12) v))) (K, I, P, n, s)) : xC (d + 2) mX4_datum [(.ref o), (.int x1), (.int x2)] (K, I, P, n, s) Pp := by
  refine y_met 0 0 ?_
  show xB (d + 2) 4 cX4_datum (some .int) false (xE n s 0 0 Pp) 0 [some (.ref o), some (.int x1), some (.int x2)] [] (K, I, P, n, s)
  obtain ⟨T0, Tm, Tl, Tt, Tf, Tk, hF, hX, hS, hSb, hne⟩ := id hT
  have hc12 := hS.2.2.2.1
  have hLo := hS.2.2.2.2.2
  refine y_aload_n dX4_datum_0 rfl ?_
  refine y_getr 4 2 dX4_datum_1 rfl rfl (And.intro T0 trivial).1 Tl ?_
  refine y_iload_n dX4_datum_4 rfl ?_
  refine y_callV1 mX1_holds dX4_datum_5 rfl rfl hS.1.1 (Nat.le_of_ble_eq_true rfl) (kholds hS.1 ho hc12 (fun m hm e_m => ?_) (fun b_m => ?_))
  · subst e_m
    have hmc := ho.2.2.2.2.2 m hm
    refine y_if_eq 33 dX4_datum_8 (by decide) (fun q => absurd q (by decide)) (fun _ => ?_)
    refine y_iload_n dX4_datum_11 rfl ?_
    refine y_callS1 mX4_isName 0 dX4_datum_12 rfl rfl (Nat.le_of_ble_eq_true rfl) (kX4_isName (fun v hv e_v => ?_) (fun b_v => ?_))
    · subst e_v
      refine y_if_eq 33 dX4_datum_15 (by decide) (fun q => absurd q (by decide)) (fun _ => ?_)
      cases hs : sOf X m (nI v) with
      | none =>
        refine y_aload_n dX4_datum_18 rfl ?_
        refine y_getr 4 0 dX4_datum_19 rfl rfl (And.intro T0 trivial).1 Tm ?_
        refine y_iload_n dX4_datum_22 rfl ?_
        refine y_aald (m) dX4_datum_23 hS.2.2.1 rfl (by omega) (by omega) (hS.2.2.2.2.1 (m) hmc).1 ?_
        refine y_getr 2 2 dX4_datum_24 rfl rfl (hS.2.2.2.2.1 (m) hmc).2.1 (r2_2 (hS.2.2.2.2.1 (m) hmc).2) ?_
        refine y_iload_n dX4_datum_27 rfl ?_
        refine y_ialdN (v) dX4_datum_28 (k2_2 (hS.2.2.2.2.1 (m) hmc).2) rfl (by omega) (by omega) ((hM m hmc).k0 v hv hs) ?_
        refine y_iconst (v := 1) dX4_datum_29 (by decide) ?_
        refine y_icmp_eq 35 dX4_datum_30 (by decide) (fun q => absurd q (by decide)) (fun _ => ?_)
        refine y_iconst (v := (-1)) dX4_datum_33 (by decide) ?_
        exact y_ret dX4_datum_34 rfl rfl (hb (fun m2 e2 h1 h2 h3 => (by have := nI_inj (by omega) (by have := ho.2.2.2.2.2 m2 h1; omega) h2; subst this; rw [hs] at h3; cases h3)))
      | some e =>
        refine y_aload_n dX4_datum_18 rfl ?_
        refine y_getr 4 0 dX4_datum_19 rfl rfl (And.intro T0 trivial).1 Tm ?_
        refine y_iload_n dX4_datum_22 rfl ?_
        refine y_aald (m) dX4_datum_23 hS.2.2.1 rfl (by omega) (by omega) (hS.2.2.2.2.1 (m) hmc).1 ?_
        refine y_getr 2 2 dX4_datum_24 rfl rfl (hS.2.2.2.2.1 (m) hmc).2.1 (r2_2 (hS.2.2.2.2.1 (m) hmc).2) ?_
        refine y_iload_n dX4_datum_27 rfl ?_
        refine y_ialdN (v) dX4_datum_28 (k2_2 (hS.2.2.2.2.1 (m) hmc).2) rfl (by omega) (by omega) ((hM m hmc).k1 v e hv hs).1 ?_
        refine y_iconst (v := 1) dX4_datum_29 (by decide) ?_
        refine y_icmp_eq 35 dX4_datum_30 (by decide) (fun c30 => ?_) (fun c30 => ?_)
        · refine y_aload_n dX4_datum_35 rfl ?_
          refine y_getr 4 0 dX4_datum_36 rfl rfl (And.intro T0 trivial).1 Tm ?_
          refine y_iload_n dX4_datum_39 rfl ?_
          refine y_aald (m) dX4_datum_40 hS.2.2.1 rfl (by omega) (by omega) (hS.2.2.2.2.1 (m) hmc).1 ?_
          refine y_getr 2 15 dX4_datum_41 rfl rfl (hS.2.2.2.2.1 (m) hmc).2.1 (r2_15 (hS.2.2.2.2.1 (m) hmc).2) ?_
          refine y_iload_n dX4_datum_44 rfl ?_
          refine y_ialdN (v) dX4_datum_45 (k2_15 (hS.2.2.2.2.1 (m) hmc).2) rfl (by omega) (by omega) rfl ?_
          exact y_ret dX4_datum_46 rfl rfl (hp m v e hm rfl hv rfl hs c30)
        · refine y_iconst (v := (-1)) dX4_datum_33 (by decide) ?_
          exact y_ret dX4_datum_34 rfl rfl (hb (fun m2 e2 h1 h2 h3 => (by have := nI_inj (by omega) (by have := ho.2.2.2.2.2 m2 h1; omega) h2; subst this; rw [hs] at h3; cases h3; exact c30)))
    · refine y_if_eq 33 dX4_datum_15 (by decide) (fun _ => ?_) (fun q => absurd q (by decide))
      refine y_iconst (v := (-1)) dX4_datum_33 (by decide) ?_
      exact y_ret dX4_datum_34 rfl rfl (hb (fun m2 e2 h1 h2 h3 => (by obtain ⟨j, j1, j2, j3⟩ := sOf_some h3; obtain ⟨v, v1, v2⟩ := ((hw m2 (by have := ho.2.2.2.2.2 m2 h1; omega)).2.2.2.1 j j1).1; rw [← j2] at v2; exact absurd (j3.symm.trans v2) (b_v v v1))))
  · refine y_if_eq 33 dX4_datum_8 (by decide) (fun _ => ?_) (fun q => absurd q (by decide))
    refine y_iconst (v := (-1)) dX4_datum_33 (by decide) ?_
    exact y_ret dX4_datum_34 rfl rfl (hb (fun m2 e2 h1 h2 h3 => absurd h2 (b_m m2 h1)))
theorem knsaid {d : Nat} {Pp : Option Value → xH → Prop} {K : Nat → Nat × Nat} {I : Nat → Nat → Int32} {P : Nat → Nat → Option Nat} {n s : Nat} {o L Lb : Nat} {X : xX} {x : Int32} {c : Nat} (hT : xSt K P o L Lb (gC X)) (hc : I (o + 2) 3 = nI c) (hc2 : c ≤ 10000) (hb : (∀ k, k < 60 → k < c → x ≠ nI k) → Pp (some (.int 0)) (K, I, P, n, s)) (hp : ∀ k, k < 60 → k < c → x = nI k → Pp (some (.int (I (o + 2 + 2) k))) (K, I, P, n, s)) : xC d mX4_said [(.ref o), (.int x)] (K, I, P, n, s) Pp := by
  refine y_met 0 0 ?_
  show xB d 4 cX4_said (some .int) false (xE n s 0 0 Pp) 0 [some (.ref o), some (.int x)] [] (K, I, P, n, s)
  obtain ⟨T0, Tm, Tl, Tt, Tf, Tk, hF, hX, hS, hSb, hne⟩ := id hT
  have hc12 := hS.2.2.2.1
  have hLo := hS.2.2.2.2.2
  refine y_iload_n dX4_said_0 rfl ?_
  refine y_ifZ_lt 33 (x.toInt) dX4_said_1 (by decide) rfl (fun c1 => ?_) (fun c1 => ?_)
  · refine y_iconst (v := 0) dX4_said_33 (by decide) ?_
    exact y_ret dX4_said_34 rfl rfl (hb (fun k h1 h2 e => by rw [e, nI_toInt (by omega)] at c1; omega))
  · refine y_iload_n dX4_said_4 rfl ?_
    refine y_bipush (v := 60) dX4_said_5 (by decide) ?_
    refine y_icmpZ_ge 33 (x.toInt) (60) dX4_said_7 (by decide) rfl rfl (fun c7 => ?_) (fun c7 => ?_)
    · refine y_iconst (v := 0) dX4_said_33 (by decide) ?_
      exact y_ret dX4_said_34 rfl rfl (hb (fun k h1 h2 e => by rw [e, nI_toInt (by omega)] at c7; omega))
    · obtain ⟨k, hk, rfl⟩ := zof (M := 60) c1 c7
      refine y_iload_n dX4_said_10 rfl ?_
      refine y_aload_n dX4_said_11 rfl ?_
      refine y_getr 4 5 dX4_said_12 rfl rfl (And.intro T0 trivial).1 Tk ?_
      refine y_getv 3 3 dX4_said_15 rfl rfl hX.1 hc ?_
      refine y_icmpN_ge 33 (k) (c) dX4_said_18 (by decide) rfl rfl (by omega) (by omega) (fun c18 => ?_) (fun c18 => ?_)
      · refine y_iconst (v := 0) dX4_said_33 (by decide) ?_
        exact y_ret dX4_said_34 rfl rfl (hb (fun k2 h1 h2 e => by have := nI_inj (by omega) (by omega) e; omega))
      · have c18 : k < c := by omega
        refine y_aload_n dX4_said_21 rfl ?_
        refine y_getr 4 5 dX4_said_22 rfl rfl (And.intro T0 trivial).1 Tk ?_
        refine y_getr 3 1 dX4_said_25 rfl rfl hX.1 (r3_1 hX) ?_
        refine y_iload_n dX4_said_28 rfl ?_
        refine y_ialdN (k) dX4_said_29 (k3_1 hX) rfl (by omega) (by omega) rfl ?_
        refine y_goto 34 dX4_said_30 (by decide) ?_
        exact y_ret dX4_said_34 rfl rfl (hp k hk c18 rfl)
theorem knregister {d : Nat} {Pp : Option Value → xH → Prop} {K : Nat → Nat × Nat} {I : Nat → Nat → Int32} {P : Nat → Nat → Option Nat} {n s : Nat} {o L Lb : Nat} {X : xX} {x : Int32} (hT : xSt K P o L Lb (gC X)) (hb : (∀ k, k < 8 → x ≠ nI k) → Pp (some (.int 0)) (K, I, P, n, s)) (hp : ∀ k, k < 8 → x = nI k → Pp (some (.int (I (o + 2 + 1) k))) (K, I, P, n, s)) : xC (d + 1) mX4_register [(.ref o), (.int x)] (K, I, P, n, s) Pp := by
  refine y_met 0 0 ?_
  show xB (d + 1) 4 cX4_register (some .int) false (xE n s 0 0 Pp) 0 [some (.ref o), some (.int x)] [] (K, I, P, n, s)
  obtain ⟨T0, Tm, Tl, Tt, Tf, Tk, hF, hX, hS, hSb, hne⟩ := id hT
  have hc12 := hS.2.2.2.1
  have hLo := hS.2.2.2.2.2
  refine y_iload_n dX4_register_0 rfl ?_
  refine y_callS1 mX4_isRegister 0 dX4_register_1 rfl rfl (Nat.le_of_ble_eq_true rfl) (kX4_isRegister (fun k hk e_k => ?_) (fun b_k => ?_))
  · subst e_k
    refine y_if_eq 19 dX4_register_4 (by decide) (fun q => absurd q (by decide)) (fun _ => ?_)
    refine y_aload_n dX4_register_7 rfl ?_
    refine y_getr 4 5 dX4_register_8 rfl rfl (And.intro T0 trivial).1 Tk ?_
    refine y_getr 3 0 dX4_register_11 rfl rfl hX.1 (r3_0 hX) ?_
    refine y_iload_n dX4_register_14 rfl ?_
    refine y_ialdN (k) dX4_register_15 (k3_0 hX) rfl (by omega) (by omega) rfl ?_
    refine y_goto 20 dX4_register_16 (by decide) ?_
    exact y_ret dX4_register_20 rfl rfl (hp k hk rfl)
  · refine y_if_eq 19 dX4_register_4 (by decide) (fun _ => ?_) (fun q => absurd q (by decide))
    refine y_iconst (v := 0) dX4_register_19 (by decide) ?_
    exact y_ret dX4_register_20 rfl rfl (hb b_k)
theorem kncheck {d : Nat} {Pp : Option Value → xH → Prop} {K : Nat → Nat × Nat} {I : Nat → Nat → Int32} {P : Nat → Nat → Option Nat} {n s : Nat} {o L Lb : Nat} {X : xX} {ord : List Nat} (hT : xSt K P o L Lb (gC X)) (hw : ∀ m, m < 12 → wfM X m) (hM : xMos I X o) (ho : xLo I X L ord) (hG : ord ≠ [] → xLg I X L ord) (hsl : ∀ m v, m ∈ ord → v < 64 → I (o + 59 + 13 * m + 11) v = -1 ∨ I (o + 59 + 13 * m + 11) v = 21 ∨ I (o + 59 + 13 * m + 11) v = oM (sFi X ord m (nI v))) (hp : Pp (some (.int 1)) (K, I, P, n, s)) : xC (d + 3) mX4_check [(.ref o)] (K, I, P, n, s) Pp := by
  refine y_met 0 0 ?_
  show xB (d + 3) 4 cX4_check (some .int) false (xE n s 0 0 Pp) 0 [some (.ref o)] [] (K, I, P, n, s)
  obtain ⟨T0, Tm, Tl, Tt, Tf, Tk, hF, hX, hS, hSb, hne⟩ := id hT
  have hc12 := hS.2.2.2.1
  have hLo := hS.2.2.2.2.2
  refine y_aload_n dX4_check_0 rfl ?_
  refine y_getr 4 2 dX4_check_1 rfl rfl (And.intro T0 trivial).1 Tl ?_
  refine y_callV0 mX1_isTrulyBound dX4_check_4 rfl rfl hS.1.1 (Nat.le_of_ble_eq_true rfl) (kisTrulyBound (d := d) (ord := ord) hS hw hM ho hG hsl ?_)
  refine y_if_eq 14 dX4_check_7 (by decide) (fun q => absurd q (by decide)) (fun _ => ?_)
  refine y_iconst (v := 1) dX4_check_10 (by decide) ?_
  refine y_goto 15 dX4_check_11 (by decide) ?_
  exact y_ret dX4_check_15 rfl rfl hp
theorem knrun0 {d : Nat} {Pp : Option Value → xH → Prop} {K : Nat → Nat × Nat} {I : Nat → Nat → Int32} {P : Nat → Nat → Option Nat} {n s : Nat} {o L Lb : Nat} {X : xX} {x1 x2 : Int32} (hT : xSt K P o L Lb (gC X)) (h3 : I L 3 = 0) (hp : Pp (some (.int (-1))) (K, I, P, n, s)) : xC d mX4_run [(.ref o), (.int x1), (.int x2)] (K, I, P, n, s) Pp := by
  refine y_met 0 0 ?_
  show xB d 4 cX4_run (some .int) false (xE n s 0 0 Pp) 0 [some (.ref o), some (.int x1), some (.int x2), none] [] (K, I, P, n, s)
  obtain ⟨T0, Tm, Tl, Tt, Tf, Tk, hF, hX, hS, hSb, hne⟩ := id hT
  have hc12 := hS.2.2.2.1
  have hLo := hS.2.2.2.2.2
  refine y_aload_n dX4_run_0 rfl ?_
  refine y_getr 4 2 dX4_run_1 rfl rfl (And.intro T0 trivial).1 Tl ?_
  refine y_getv 1 3 dX4_run_4 rfl rfl hS.1.1 h3 ?_
  refine y_if_eq 28 dX4_run_7 (by decide) (fun _ => ?_) (fun q => absurd q (by decide))
  refine y_iconst (v := (-1)) dX4_run_28 (by decide) ?_
  exact y_ret dX4_run_29 rfl rfl hp
theorem xCq_new {I : Nat → Nat → Int32} {G X : xX} {o L : Nat} {ord : List Nat} {lz : Bool} (hM : xMos I G o) (ho : xLo I G L ord) (hG : xLg I G L ord) (hg : gC G ≤ 12) (hw : ∀ m, m < 12 → wfM G m) (hu : xSU I G o) (hn : xNew I G o ord ord lz) (h1 : ∀ k, k < 8 → I (o + 2 + 1) k = 0) (h2 : ∀ k, k < 60 → I (o + 2 + 2) k = X 21 k) (f2 : I (o + 2) 2 = 0) (f3 : I (o + 2) 3 = 0) (f4 : I (o + 2) 4 = 0) (f5 : I (o + 2) 5 = 0) : xCq I G (rFr G ord lz X) o L ord := by
  have h14 : ∀ m v, m ∈ ord → v < 64 → rFr G ord lz X 14 (64 * m + v) = sSl G ord lz m v := fun m v hm hv => by
    have := ho.2.2.2.2.2 m hm
    unfold rFr
    rw [if_pos ⟨rfl, by omega⟩, show (64 * m + v) / 64 = m by omega, show (64 * m + v) % 64 = v by omega, if_pos hm]
  refine ⟨⟨hM, ho, hG, hu, fun m hm => ⟨fun v hv => ?_, fun v e hv hs => ?_⟩, fun m v hm hv => ⟨fun c => ?_, fun c => ?_⟩⟩, ⟨fun k hk => ?_, fun k hk => ?_, ?_, ?_, ?_, ?_⟩⟩
  · rw [h14 m v hm hv]; exact (hn m hm).1 v hv
  · have := ho.2.2.2.2.2 m hm
    have hlt := (sOf_lt (hw m (by omega)).2.2.1.2 (by omega) hs).1
    rw [(hn m hm).2 v e hv hs]
    unfold rFr
    rw [if_neg (by omega), if_pos ⟨rfl, hlt⟩]
  · rw [h14 m v hm hv]
    unfold sSl
    rw [if_pos c]
    cases lz
    · exact Or.inr rfl
    · exact Or.inl rfl
  · rw [h14 m v hm hv]; exact sSl_no c
  · rw [h1 k hk]
    unfold rFr
    rw [if_neg (by omega), if_neg (by omega), if_pos ⟨rfl, hk⟩]
  · rw [h2 k hk]
    unfold rFr
    rw [if_neg (by omega), if_neg (by omega), if_neg (by omega), if_neg (by omega)]
  · rw [f2]; rfl
  · rw [f3]; rfl
  · rw [f4]; rfl
  · rw [f5]; rfl
theorem wfC_new {G X : xX} {ord : List Nat} {lz : Bool} : wfC (rFr G ord lz X) 0 := ⟨0, 0, 0, rfl, by omega, rfl, rfl, rfl, by omega, by omega, by omega⟩
theorem rBg_mem {G : xX} {ord : List Nat} : ∀ {l : List Nat} {e : Nat}, e ∈ rBg G ord l → ∃ m ∈ l, G 11 m ≠ -1 ∧ sFi G ord m (G 11 m) = some e
  | [], e, h => by cases h
  | m :: r, e, h => by
    rw [rBg_cons] at h
    rcases List.mem_append.mp h with h | h
    · by_cases c : G 11 m = -1
      · rw [if_pos c] at h; cases h
      · rw [if_neg c] at h
        cases hs : sFi G ord m (G 11 m) with
        | none => rw [hs] at h; cases h
        | some e2 =>
          rw [hs] at h
          rw [List.mem_singleton.mp h]
          exact ⟨m, List.mem_cons_self, c, hs⟩
    · obtain ⟨q, h1, h2⟩ := rBg_mem h
      exact ⟨q, List.mem_cons_of_mem _ h1, h2⟩
set_option maxHeartbeats 1000000 in
theorem knrun1 {d : Nat} {Pp : Option Value → xH → Prop} {K : Nat → Nat × Nat} {I : Nat → Nat → Int32} {P : Nat → Nat → Option Nat} {n s : Nat} {o L Lb : Nat} {X : xX} {Y : xX} {x1 x2 : Int32} {ord beg : List Nat} {r : Nat} {lz : Bool} (hT : xSt K P o L Lb (gC X)) (hw : ∀ m, m < 12 → wfM X m) (hM : xMos I X o) (ho : xLo I X L ord) (hG : xLg I X L ord) (hbg : xLb I L beg) (h8 : I L 8 = bI lz) (hu : xSU I X o) (hV : xMv I Y (o + 2)) (hr0 : ord[0]? = some r) (hbl : beg.length = ord.length) (hbo : ∀ q ∈ beg, q ∈ ord) (hlk : lchk X ord) (hlb : lchkB X ord) (hb : (∀ v gr e, ¬ gdRun X ord r x1 x2 v gr e) → Pp (some (.int (-1))) (K, I, P, n, s)) (hp : ∀ v gr e I', gdRun X ord r x1 x2 v gr e → xFk o I I' → xCq I' X (rRuns X ord gr (rBg X ord beg ++ [e]) (rFr X ord lz Y)).2 o L ord → Pp (some (.int (zEnd (rRuns X ord gr (rBg X ord beg ++ [e]) (rFr X ord lz Y)).1))) (K, I', P, n, s)) : xC (d + 6) mX4_run [(.ref o), (.int x1), (.int x2)] (K, I, P, n, s) Pp := by
  refine y_met 0 0 ?_
  show xB (d + 6) 4 cX4_run (some .int) false (xE n s 0 0 Pp) 0 [some (.ref o), some (.int x1), some (.int x2), none] [] (K, I, P, n, s)
  obtain ⟨T0, Tm, Tl, Tt, Tf, Tk, hF, hX, hS, hSb, hne⟩ := id hT
  have hc12 := hS.2.2.2.1
  have hLo := hS.2.2.2.2.2
  have hol := okl_len ho.2.2.2.2
  have ho12 : ∀ q ∈ ord, q < 12 := fun q hq => by have := ho.2.2.2.2.2 q hq; omega
  have hro := List.mem_of_getElem? hr0
  have hrc := ho.2.2.2.2.2 r hro
  have hpos : 0 < ord.length := (List.getElem?_eq_some_iff.mp hr0).1
  refine y_aload_n dX4_run_0 rfl ?_
  refine y_getr 4 2 dX4_run_1 rfl rfl (And.intro T0 trivial).1 Tl ?_
  refine y_getv 1 3 dX4_run_4 rfl rfl hS.1.1 ho.1 ?_
  refine y_if_eq 28 dX4_run_7 (by decide) (fun c7 => absurd c7 (fun q => by have := nI_inj (by omega) (by decide) (show nI ord.length = nI 0 from q); omega)) (fun _ => ?_)
  refine y_iload_n dX4_run_10 rfl ?_
  refine y_callS1 mX4_isName 0 dX4_run_11 rfl rfl (Nat.le_of_ble_eq_true rfl) (kX4_isName (fun v hv e_v => ?_) (fun b_v => ?_))
  · subst e_v
    refine y_if_eq 28 dX4_run_14 (by decide) (fun q => absurd q (by decide)) (fun _ => ?_)
    refine y_iload_n dX4_run_17 rfl ?_
    refine y_ifZ_lt 28 (x2.toInt) dX4_run_18 (by decide) rfl (fun c18 => ?_) (fun c18 => ?_)
    · refine y_iconst (v := (-1)) dX4_run_28 (by decide) ?_
      exact y_ret dX4_run_29 rfl rfl (hb (fun v2 gr2 e2 g => (by have := g.2.2.1; rw [g.2.2.2.1, nI_toInt (by omega)] at c18; omega)))
    · refine y_iload_n dX4_run_21 rfl ?_
      refine y_sipush (v := 5000) dX4_run_22 (by decide) ?_
      refine y_icmpZ_le 30 (x2.toInt) (5000) dX4_run_25 (by decide) rfl rfl (fun c25 => ?_) (fun c25 => ?_)
      · obtain ⟨gr, hgr0⟩ : ∃ gr : Nat, x2.toInt = gr := ⟨x2.toInt.toNat, by omega⟩
        obtain rfl : x2 = nI gr := by have := zN c18; rw [hgr0, Int.toNat_natCast] at this; exact this
        have c25 : gr ≤ 5000 := by omega
        refine y_aload_n dX4_run_30 rfl ?_
        refine y_getr 4 2 dX4_run_31 rfl rfl (And.intro T0 trivial).1 Tl ?_
        refine y_aload_n dX4_run_34 rfl ?_
        refine y_getr 4 2 dX4_run_35 rfl rfl (And.intro T0 trivial).1 Tl ?_
        refine y_getr 1 1 dX4_run_38 rfl rfl hS.1.1 (r1_1 hS.1) ?_
        refine y_iconst (v := 0) dX4_run_41 (by decide) ?_
        refine y_ialdN (0) dX4_run_42 (k1_1 hS.1) rfl (by omega) (by omega) (ho.2.1 0 r hr0) ?_
        refine y_iload_n dX4_run_43 rfl ?_
        refine y_callV2 mX1_giverOf dX4_run_44 rfl rfl hS.1.1 (Nat.le_of_ble_eq_true rfl) (kgiverOf (d := d + 4) (ord := ord) hS hM hG hw hrc hv ?_)
        refine y_istore_n dX4_run_47 (by first | (simp; done) | (simp; decide)) (fun x3 e_x3 => ?_)
        cases hf : sFi X ord r (nI v) with
        | none =>
          rw [hf] at e_x3
          obtain rfl : x3 = 20 := e_x3
          refine y_aload_n dX4_run_48 rfl ?_
          refine y_getr 4 2 dX4_run_49 rfl rfl (And.intro T0 trivial).1 Tl ?_
          refine y_iload_n dX4_run_52 rfl ?_
          refine y_callV1 mX1_holds dX4_run_53 rfl rfl hS.1.1 (Nat.le_of_ble_eq_true rfl) (kholds hS.1 ho hc12 (fun q hq e => absurd e (fun e => by have := ho12 q hq; have := nI_inj (by decide) (by omega) (show nI 20 = nI q from e); omega)) (fun _ => ?_))
          refine y_if_eq 73 dX4_run_56 (by decide) (fun _ => ?_) (fun q => absurd q (by decide))
          refine y_iconst (v := (-1)) dX4_run_73 (by decide) ?_
          exact y_ret dX4_run_74 rfl rfl (hb (fun v2 gr2 e2 g => (by have := g.2.2.2.2.1; rw [hf] at this; cases this)))
        | some e =>
          rw [hf] at e_x3
          obtain ⟨q, hq, hs4, hqe⟩ := sFi_4 hw ho12 hro hf
          rw [hqe] at e_x3
          subst e_x3
          have hqc := ho.2.2.2.2.2 q hq
          refine y_aload_n dX4_run_48 rfl ?_
          refine y_getr 4 2 dX4_run_49 rfl rfl (And.intro T0 trivial).1 Tl ?_
          refine y_iload_n dX4_run_52 rfl ?_
          refine y_callV1 mX1_holds dX4_run_53 rfl rfl hS.1.1 (Nat.le_of_ble_eq_true rfl) (kholds hS.1 ho hc12 (fun _ _ _ => ?_) (fun hn => absurd rfl (hn q hq)))
          refine y_if_eq 73 dX4_run_56 (by decide) (fun q => absurd q (by decide)) (fun _ => ?_)
          refine y_aload_n dX4_run_59 rfl ?_
          refine y_getr 4 0 dX4_run_60 rfl rfl (And.intro T0 trivial).1 Tm ?_
          refine y_iload_n dX4_run_63 rfl ?_
          refine y_aald (q) dX4_run_64 hS.2.2.1 rfl (by omega) (by omega) (hS.2.2.2.2.1 (q) hqc).1 ?_
          refine y_getr 2 2 dX4_run_65 rfl rfl (hS.2.2.2.2.1 (q) hqc).2.1 (r2_2 (hS.2.2.2.2.1 (q) hqc).2) ?_
          refine y_iload_n dX4_run_68 rfl ?_
          refine y_ialdN (v) dX4_run_69 (k2_2 (hS.2.2.2.2.1 (q) hqc).2) rfl (by omega) (by omega) ((hM q hqc).k1 v e hv hs4).1 ?_
          refine y_if_eq 75 dX4_run_70 (by decide) (fun c70 => ?_) (fun c70 => ?_)
          · refine y_aload_n dX4_run_75 rfl ?_
            refine y_getr 4 2 dX4_run_76 rfl rfl (And.intro T0 trivial).1 Tl ?_
            refine y_callV0 mX1_refresh dX4_run_79 rfl rfl hS.1.1 (Nat.le_of_ble_eq_true rfl) (krefresh (d := d + 2) (ord := ord) (lz := lz) hS hw hM ho hG h8 hu (fun I1 r1 r2 r3 => ?_))
            refine y_aload_n dX4_run_82 rfl ?_
            refine y_getr 4 5 dX4_run_83 rfl rfl (And.intro T0 trivial).1 Tk ?_
            refine y_aload_n dX4_run_86 rfl ?_
            refine y_getr 4 2 dX4_run_87 rfl rfl (And.intro T0 trivial).1 Tl ?_
            refine y_iload_n dX4_run_90 rfl ?_
            have hM1 := r1.mos hM
            have ho1 := r1.lo hLo ho
            have hG1 := r1.lg hLo hG
            have hb1 : xLb I1 L beg := ⟨(congrFun (r1.lt (by omega)) 6).trans hbg.1, fun p q hq => (congrFun (r1.lt (by omega)) p).trans (hbg.2 p q hq)⟩
            refine y_callV2 mX3_prepare dX4_run_91 rfl rfl hX.1 (Nat.le_of_ble_eq_true rfl) (kprepare (d := d + 2) hX hS hw hM1 ho1 hG1 hbo (by omega) hb1 hr0 hv hf (fun I2 p1 p2 p3 p4 p5 p6 p7 p8 p9 p10 => ?_))
            refine y_aload_n dX4_run_94 rfl ?_
            refine y_getr 4 5 dX4_run_95 rfl rfl (And.intro T0 trivial).1 Tk ?_
            refine y_aload_n dX4_run_98 rfl ?_
            refine y_getr 4 2 dX4_run_99 rfl rfl (And.intro T0 trivial).1 Tl ?_
            refine y_iload_n dX4_run_102 rfl ?_
            have hq2 : xCq I2 X (rFr X ord lz Y) o L ord := xCq_new (hM1.fr (fun m i _ _ => p1 _ (by omega))) (ho1.fr (congrFun (p1 _ (by omega)) 3) (p1 _ (by omega)) (p1 _ (by omega))) (fun v hv => (congrFun (p1 _ (by omega)) v).trans (hG1 v hv)) hc12 hw (fun m v a b c => (congrFun (p1 _ (by omega)) v).trans (r2 m v a b c)) (fun m hm => ⟨fun v hv => (congrFun (p1 _ (by omega)) v).trans ((r3 m hm).1 v hv), fun v e hv hs => (congrFun (p1 _ (by omega)) v).trans ((r3 m hm).2 v e hv hs)⟩) p3 (fun k hk => (congrFun p2 k).trans ((congrFun (r1.lt (by omega)) k).trans (hV.2.1 k hk))) p4 p5 p6 p7
            have hsl : ∀ e2 ∈ rBg X ord beg ++ [e], e2 / 20 ∈ ord ∧ ∃ v : Nat, v < 100 ∧ X 5 e2 = nI v := fun e2 he2 => by
              rcases List.mem_append.mp he2 with z | z
              · obtain ⟨m, m1, m2, m3⟩ := rBg_mem z
                obtain ⟨q2, hq2, hs2⟩ := sFi_mem (hbo m m1) m3
                exact def5 hw ho12 hq2 hs2 (hlb m e2 (hbo m m1) m2 m3)
              · rw [List.mem_singleton.mp z]; exact def5 hw ho12 hq hs4 c70
            have hpp := hp v gr e
            obtain ⟨e0, rr, her⟩ : ∃ e0 rr, rBg X ord beg ++ [e] = e0 :: rr := by cases h : rBg X ord beg with | nil => exact ⟨e, [], rfl⟩ | cons a b => exact ⟨a, b ++ [e], rfl⟩
            rw [her] at hpp hsl p9 p10
            refine y_callV2 mX3_go dX4_run_103 rfl rfl hX.1 (Nat.le_of_ble_eq_true rfl) (kgo (d := d) (ord := ord) hX hS hw hlk c25 p10 hsl wfC_new hq2 p9 p8 (fun I3 g1 g2 => ?_))
            exact y_ret dX4_run_106 rfl rfl (hpp I3 ⟨hv, rfl, c25, rfl, hf, c70⟩ ((r1.k.tr (fun a p => p1 a (by omega))).tr g1) g2)
          · refine y_iconst (v := (-1)) dX4_run_73 (by decide) ?_
            exact y_ret dX4_run_74 rfl rfl (hb (fun v2 gr2 e2 g => (by have := g.2.2.2.2.1; rw [hf] at this; cases this; exact c70 g.2.2.2.2.2)))
      · refine y_iconst (v := (-1)) dX4_run_28 (by decide) ?_
        exact y_ret dX4_run_29 rfl rfl (hb (fun v2 gr2 e2 g => (by have := g.2.2.1; rw [g.2.2.2.1, nI_toInt (by omega)] at c25; omega)))
  · refine y_if_eq 28 dX4_run_14 (by decide) (fun _ => ?_) (fun q => absurd q (by decide))
    refine y_iconst (v := (-1)) dX4_run_28 (by decide) ?_
    exact y_ret dX4_run_29 rfl rfl (hb (fun v2 gr2 e2 g => b_v v2 g.1 g.2.1))
