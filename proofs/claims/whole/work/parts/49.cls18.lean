theorem xLay_le : ∀ c, c < 6 → ∀ e ∈ xLay c, e.2.1 ≤ 23 := by
  intro c hc
  have : c = 0 ∨ c = 1 ∨ c = 2 ∨ c = 3 ∨ c = 4 ∨ c = 5 := by omega
  rcases this with rfl | rfl | rfl | rfl | rfl | rfl <;> decide
def xSp (c : Nat) : Nat := match c with
  | 1 => 5
  | 2 => 12
  | 3 => 6
  | 5 => 23
  | _ => 0
theorem xLay_sp : ∀ c, c < 6 → ∀ e ∈ xLay c, e.2.1 ≤ xSp c := by
  intro c hc
  have : c = 0 ∨ c = 1 ∨ c = 2 ∨ c = 3 ∨ c = 4 ∨ c = 5 := by omega
  rcases this with rfl | rfl | rfl | rfl | rfl | rfl <;> decide
theorem xAt.fr {K K' : Nat → Nat × Nat} {P P' : Nat → Nat → Option Nat} {q c : Nat} (h : xAt K P q c) (hc : c < 6) (hK : ∀ a, q ≤ a → a ≤ q + xSp c → K' a = K a) (hP : P' q = P q) : xAt K' P' q c := by
  refine ⟨by rw [hK q (Nat.le_refl _) (by omega)]; exact h.1, fun e he => ?_⟩
  rw [hP, hK (q + e.2.1) (by omega) (by have := xLay_sp c hc e he; omega)]
  exact h.2 e he
theorem knmodule0 {d : Nat} {Pp : Option Value → xH → Prop} {K : Nat → Nat × Nat} {I : Nat → Nat → Int32} {P : Nat → Nat → Option Nat} {n s : Nat} {o L Lb : Nat} {X : xX} (hT : xSt K P o L Lb (gC X)) (hC : I o 1 = nI (gC X)) (hg : gC X = 12) (hp : Pp (some (.int (-1))) (K, I, P, n, s)) : xC (d + 2) mX4_module [(.ref o)] (K, I, P, n, s) Pp := by
  refine y_met 0 0 ?_
  show xB (d + 2) 4 cX4_module (some .int) false (xE n s 0 0 Pp) 0 [some (.ref o)] [] (K, I, P, n, s)
  obtain ⟨T0, Tm, Tl, Tt, Tf, Tk, hF, hX, hS, hSb, hne⟩ := id hT
  have hc12 := hS.2.2.2.1
  have hLo := hS.2.2.2.2.2
  refine y_aload_n dX4_module_0 rfl ?_
  refine y_getv 4 1 dX4_module_1 rfl rfl (And.intro T0 trivial).1 hC ?_
  refine y_bipush (v := 12) dX4_module_4 (by decide) ?_
  refine y_icmpN_lt 11 ((gC X)) (12) dX4_module_6 (by decide) rfl rfl (by omega) (by omega) (fun c6 => absurd c6 (by omega)) (fun _ => ?_)
  refine y_iconst (v := (-1)) dX4_module_9 (by decide) ?_
  exact y_ret dX4_module_10 rfl rfl hp
theorem knmodule {d : Nat} {Pp : Option Value → xH → Prop} {K : Nat → Nat × Nat} {I : Nat → Nat → Int32} {P : Nat → Nat → Option Nat} {s : Nat} {o L Lb : Nat} {X : xX} (hT : xSt K P o L Lb (gC X)) (hC : I o 1 = nI (gC X)) (hg : gC X < 12) (hp : ∀ (K' : Nat → Nat × Nat) (I' : Nat → Nat → Int32) (P' : Nat → Nat → Option Nat), (∀ a, a < (o + 59 + 13 * gC X) → K' a = K a) → (∀ a, a < (o + 59 + 13 * gC X) → a ≠ o → I' a = I a) → I' o 1 = nI (gC X + 1) → (∀ a, a < (o + 59 + 13 * gC X) → a ≠ o + 22 → P' a = P a) → (∀ k, k ≠ gC X → P' (o + 22) k = P (o + 22) k) → P' (o + 22) (gC X) = some (o + 59 + 13 * gC X) → xAt K' P' (o + 59 + 13 * gC X) 2 → I' (o + 59 + 13 * gC X) 1 = 0 → I' (o + 59 + 13 * gC X) 5 = 0 → I' (o + 59 + 13 * gC X) 8 = -1 → I' (o + 59 + 13 * gC X) 13 = 0 → (∀ j, j < 64 → I' ((o + 59 + 13 * gC X) + 2) j = -1) → (∀ j, j < 64 → I' ((o + 59 + 13 * gC X) + 11) j = -1) → (∀ j, I' ((o + 59 + 13 * gC X) + 5) j = 0) → (∀ j, I' ((o + 59 + 13 * gC X) + 6) j = 0) → Pp (some (.int (nI (gC X)))) (K', I', P', (o + 59 + 13 * gC X) + 13, s + 16 + 890)) : xC (d + 2) mX4_module [(.ref o)] (K, I, P, (o + 59 + 13 * gC X), s) Pp := by
  refine y_met 13 906 ?_
  show xB (d + 2) 4 cX4_module (some .int) false (xE (o + 59 + 13 * gC X) s 13 906 Pp) 0 [some (.ref o)] [] (K, I, P, (o + 59 + 13 * gC X), s)
  obtain ⟨T0, Tm, Tl, Tt, Tf, Tk, hF, hX, hS, hSb, hne⟩ := id hT
  have hc12 := hS.2.2.2.1
  have hLo := hS.2.2.2.2.2
  obtain ⟨N, hN⟩ : ∃ N, N = (o + 59 + 13 * gC X) := ⟨_, rfl⟩
  rw [← hN] at hp ⊢
  refine y_aload_n dX4_module_0 rfl ?_
  refine y_getv 4 1 dX4_module_1 rfl rfl (And.intro T0 trivial).1 hC ?_
  refine y_bipush (v := 12) dX4_module_4 (by decide) ?_
  refine y_icmpN_lt 11 ((gC X)) (12) dX4_module_6 (by decide) rfl rfl (by omega) (by omega) (fun _ => ?_) (fun c6 => absurd c6 (by omega))
  refine y_aload_n dX4_module_11 rfl ?_
  refine y_getr 4 0 dX4_module_12 rfl rfl (And.intro T0 trivial).1 Tm ?_
  refine y_aload_n dX4_module_15 rfl ?_
  refine y_getv 4 1 dX4_module_16 rfl rfl (And.intro T0 trivial).1 hC ?_
  refine z_new 2 N (N + 1) (s + 16) dX4_module_19 rfl rfl rfl rfl ?_
  refine y_dup dX4_module_22 rfl ?_
  refine y_callI0 mX2_init dX4_module_23 rfl rfl (Nat.le_of_ble_eq_true rfl) (kiX2 (d := d) (q := N) (by rw [xuK_s]) (fun K1 I1 P1 k1 i1 p1 a1 f1 f5 f8 f13 g2 g11 g5 g6 => ⟨rfl, ?_⟩))
  refine y_aast ((gC X)) dX4_module_26 (show K1 (o + 22) = (102, 12) by rw [k1 _ (by omega), xuK_ne (by omega)]; exact hS.2.2.1) rfl (by omega) (by omega) (by rw [k1 N (by omega), xuK_s]) ?_
  refine y_aload_n dX4_module_27 rfl ?_
  refine y_dup dX4_module_28 rfl ?_
  refine y_getv 4 1 dX4_module_29 rfl rfl (show (K1 o).1 = 5 by rw [k1 o (by omega), xuK_ne (by omega)]; exact T0) (show I1 o 1 = nI (gC X) by rw [i1 o (by omega), xuR_ne (by omega)]; exact hC) ?_
  refine y_iconst (v := 1) dX4_module_32 (by decide) ?_
  refine y_iaddv (nI (((gC X)) + 1)) dX4_module_33 (nI_add ((gC X)) (1)) ?_
  refine y_puti 4 1 dX4_module_34 rfl rfl rfl (show (K1 o).1 = 5 by rw [k1 o (by omega), xuK_ne (by omega)]; exact T0) ?_
  refine y_aload_n dX4_module_37 rfl ?_
  refine y_getv 4 1 dX4_module_38 rfl rfl (show (K1 o).1 = 5 by rw [k1 o (by omega), xuK_ne (by omega)]; exact T0) xuI_s ?_
  refine y_iconst (v := 1) dX4_module_41 (by decide) ?_
  refine y_isubv ((nI (gC X))) dX4_module_42 ((pk_sub (b := 1) (by omega)).trans (congrArg nI (by omega))) ?_
  refine y_ret dX4_module_43 rfl rfl (hp K1 _ _ (fun a h => ?_) (fun a h h2 => ?_) xuI_s (fun a h h2 => ?_) (fun k hk => ?_) xuP_s ?_ ?_ ?_ ?_ ?_ (fun j hj => ?_) (fun j hj => ?_) (fun j => ?_) (fun j => ?_))
  · rw [k1 a (by omega), xuK_ne (by omega)]
  · rw [xuI_ne h2, i1 a (by omega), xuR_ne (by omega)]
  · rw [xuP_ne h2, p1 a (by omega), xuQ_ne (by omega)]
  · rw [xuP_o (Or.inr hk), p1 _ (by omega), xuQ_ne (by omega)]
  · exact xAt_P a1 (xuP_ne (by omega))
  · rw [xuI_ne (by omega)]; exact f1
  · rw [xuI_ne (by omega)]; exact f5
  · rw [xuI_ne (by omega)]; exact f8
  · rw [xuI_ne (by omega)]; exact f13
  · rw [xuI_ne (by omega)]; exact g2 j hj
  · rw [xuI_ne (by omega)]; exact g11 j hj
  · rw [xuI_ne (by omega)]; exact g5 j
  · rw [xuI_ne (by omega)]; exact g6 j
theorem kst_row {d o : Nat} {Q : Option Value → xH → Prop} {K : Nat → Nat × Nat} {I : Nat → Nat → Int32} {n s : Nat} (hrow : K (o + 22) = (102, 12)) (hbl : (K (o + 9)).1 = 3) : ∀ (t i : Nat) (P : Nat → Nat → Option Nat), i + t = 12 → (∀ P' x3, (∀ a, a ≠ o + 22 → P' a = P a) → xB d 4 cX4_init none true Q 63 [some (.ref o), some (.ref (o + 9)), some (.ref (o + 22)), some (.int x3)] [] (K, I, P', n, s)) → xB d 4 cX4_init none true Q 47 [some (.ref o), some (.ref (o + 9)), some (.ref (o + 22)), some (.int (nI i))] [] (K, I, P, n, s) := by
  intro t
  induction t with
  | zero =>
    intro i P hi k1
    obtain rfl : i = 12 := by omega
    refine y_iload_n dX4_init_47 rfl ?_
    refine y_bipush (v := 12) dX4_init_48 (by decide) ?_
    refine y_icmpN_ge 63 (12) (12) dX4_init_50 (by decide) rfl rfl (by omega) (by omega) (fun _ => ?_) (fun c50 => absurd c50 (by omega))
    exact k1 P _ (fun _ _ => rfl)
  | succ t ih =>
    intro i P hi k1
    refine y_iload_n dX4_init_47 rfl ?_
    refine y_bipush (v := 12) dX4_init_48 (by decide) ?_
    refine y_icmpN_ge 63 (i) (12) dX4_init_50 (by decide) rfl rfl (by omega) (by omega) (fun c50 => absurd c50 (by omega)) (fun _ => ?_)
    refine y_aload_n dX4_init_53 rfl ?_
    refine y_iload_n dX4_init_54 rfl ?_
    refine y_aload_n dX4_init_55 rfl ?_
    refine y_aast (i) dX4_init_56 hrow rfl (by omega) (by omega) hbl ?_
    refine y_iinc dX4_init_57 rfl (fun x1 e_x1 => ?_)
    obtain rfl : x1 = nI (i + 1) := by rw [e_x1]; exact nI_1 (i)
    refine y_goto 47 dX4_init_60 (by decide) ?_
    exact ih (i + 1) _ (by omega) (fun P' x3 h => k1 P' x3 (fun a ha => (h a ha).trans (xuP_ne ha)))
set_option maxHeartbeats 1000000 in
theorem kiX4 {d : Nat} {Pp : Option Value → xH → Prop} {K : Nat → Nat × Nat} {I : Nat → Nat → Int32} {P : Nat → Nat → Option Nat} {s : Nat} {o : Nat} (hq : (K o).1 = 5) (hp : ∀ (K' : Nat → Nat × Nat) (I' : Nat → Nat → Int32) (P' : Nat → Nat → Option Nat), (∀ a, a < o → K' a = K a) → (∀ a, a < o → I' a = I a) → xSt K' P' o (o + 23) (o + 29) 0 → I' o 1 = 0 → I' (o + 1) 1 = -1 → I' (o + 1) 2 = -1 → I' (o + 1) 3 = -1 → (∀ k, k ∈ [2, 3, 4, 5, 12] → I' (o + 2) k = 0) → (∀ i j, 1 ≤ i → i ≤ 6 → I' (o + 2 + i) j = 0) → I' (o + 23) 3 = 0 → (∀ j, j < 12 → I' (o + 23 + 2) j = -1) → Pp none (K', I', P', o + 35, s + 1473)) : xC (d + 2) mX4_init [(.ref o)] (K, I, P, o + 1, s) Pp := by
  refine y_met 34 1473 ?_
  show xB (d + 2) 4 cX4_init none true (xE (o + 1) s 34 1473 Pp) 0 [some (.ref o), none, none, none] [] (K, I, P, o + 1, s)
  refine y_aload_n dX4_init_0 rfl ?_
  refine y_obj dX4_init_1 rfl (Nat.le_of_ble_eq_true rfl) ?_
  refine y_aload_n dX4_init_4 rfl ?_
  refine y_iconst (v := 0) dX4_init_5 (by decide) ?_
  refine y_puti 4 1 dX4_init_6 rfl rfl rfl hq ?_
  refine y_aload_n dX4_init_9 rfl ?_
  refine z_new 0 (o + 1) (o + 1 + 1) (s + 4) dX4_init_10 rfl rfl rfl rfl ?_
  refine y_dup dX4_init_13 rfl ?_
  refine y_callI0 mX0_init dX4_init_14 rfl rfl (Nat.le_of_ble_eq_true rfl) (kiX0 (d := d) (q := o + 1) (by rw [xuK_s]) (fun K1 I1 P1 k1 i1 p1 a1 e0 e1 e2 e3 => ⟨rfl, ?_⟩))
  have ko1 : (K1 o).1 = 5 := by rw [k1 o (by omega), xuK_ne (by omega)]; exact hq
  refine y_putr 4 4 dX4_init_17 rfl rfl rfl ko1 ?_
  refine y_aload_n dX4_init_20 rfl ?_
  refine z_new 3 (o + 2) (o + 2 + 1) (s + 4 + 15) dX4_init_21 rfl rfl rfl rfl ?_
  refine y_dup dX4_init_24 rfl ?_
  refine y_callI0 mX3_init dX4_init_25 rfl rfl (Nat.le_of_ble_eq_true rfl) (kiX3 (d := d) (q := o + 2) (by rw [xuK_s]) (fun K2 I2 P2 k2 i2 p2 a2 b1 b2 => ⟨rfl, ?_⟩))
  have ko2 : (K2 o).1 = 5 := by rw [k2 o (by omega), xuK_ne (by omega)]; exact ko1
  refine y_putr 4 5 dX4_init_28 rfl rfl rfl ko2 ?_
  refine z_new 2 (o + 9) (o + 9 + 1) (s + 4 + 15 + 294 + 16) dX4_init_31 rfl rfl rfl rfl ?_
  refine y_dup dX4_init_34 rfl ?_
  refine y_callI0 mX2_init dX4_init_35 rfl rfl (Nat.le_of_ble_eq_true rfl) (kiX2 (d := d) (q := o + 9) (by rw [xuK_s]) (fun K3 I3 P3 k3 i3 p3 a3 _ _ _ _ _ _ _ _ => ⟨rfl, ?_⟩))
  have ko3 : (K3 o).1 = 5 := by rw [k3 o (by omega), xuK_ne (by omega)]; exact ko2
  refine y_astore_n dX4_init_38 (by first | (simp; done) | (simp; decide)) ?_
  refine y_bipush (v := 12) dX4_init_39 (by decide) ?_
  refine z_newm 12 (o + 22) (o + 23) (s + 4 + 15 + 294 + 16 + 890 + 12) dX4_init_41 rfl (by decide) rfl rfl rfl rfl ?_
  refine y_astore_n dX4_init_44 (by first | (simp; done) | (simp; decide)) ?_
  refine y_iconst (v := 0) dX4_init_45 (by decide) ?_
  refine y_istore_n dX4_init_46 (by first | (simp; done) | (simp; decide)) (fun x1 e_x1 => ?_)
  subst e_x1
  obtain ⟨K4, hK4⟩ : ∃ K4, K4 = xuK K3 (o + 22) (102, 12) := ⟨_, rfl⟩
  rw [← hK4]
  have hrow : K4 (o + 22) = (102, 12) := by rw [hK4, xuK_s]
  have k4 : ∀ a, a ≠ o + 22 → K4 a = K3 a := fun a h => by rw [hK4, xuK_ne h]
  have hbl : (K4 (o + 9)).1 = 3 := by rw [k4 _ (by omega), k3 _ (by omega), xuK_s]
  have ko4 : (K4 o).1 = 5 := by rw [k4 _ (by omega)]; exact ko3
  refine kst_row hrow hbl 12 0 _ rfl (fun P4 x3 p4 => ?_)
  refine y_aload_n dX4_init_63 rfl ?_
  refine y_aload_n dX4_init_64 rfl ?_
  refine y_putr 4 0 dX4_init_65 rfl rfl rfl ko4 ?_
  refine y_aload_n dX4_init_68 rfl ?_
  refine z_new 1 (o + 23) (o + 23 + 1) (s + 4 + 15 + 294 + 16 + 890 + 12 + 9) dX4_init_69 rfl rfl rfl rfl ?_
  refine y_dup dX4_init_72 rfl ?_
  refine y_aload_n dX4_init_73 rfl ?_
  refine y_callI1 mX1_init dX4_init_74 rfl rfl (Nat.le_of_ble_eq_true rfl) (kiX1 (d := d) (q := o + 23) (by rw [xuK_s]) (fun K5 I5 P5 k5 i5 p5 a5 m5 l3 _ l2 => ⟨rfl, ?_⟩))
  have ko5 : (K5 o).1 = 5 := by rw [k5 o (by omega), xuK_ne (by omega)]; exact ko4
  refine y_putr 4 2 dX4_init_77 rfl rfl rfl ko5 ?_
  refine y_aload_n dX4_init_80 rfl ?_
  refine z_new 1 (o + 29) (o + 29 + 1) (s + 4 + 15 + 294 + 16 + 890 + 12 + 9 + 112 + 9) dX4_init_81 rfl rfl rfl rfl ?_
  refine y_dup dX4_init_84 rfl ?_
  refine y_aload_n dX4_init_85 rfl ?_
  refine y_callI1 mX1_init dX4_init_86 rfl rfl (Nat.le_of_ble_eq_true rfl) (kiX1 (d := d) (q := o + 29) (by rw [xuK_s]) (fun K6 I6 P6 k6 i6 p6 a6 m6 _ _ _ => ⟨rfl, ?_⟩))
  have ko6 : (K6 o).1 = 5 := by rw [k6 o (by omega), xuK_ne (by omega)]; exact ko5
  refine y_putr 4 3 dX4_init_89 rfl rfl rfl ko6 ?_
  have kk6 : ∀ a, a < o + 29 → K6 a = K5 a := fun a h => by rw [k6 a (by omega), xuK_ne (by omega)]
  have kk5 : ∀ a, a < o + 23 → K6 a = K4 a := fun a h => by rw [kk6 a (by omega), k5 a (by omega), xuK_ne (by omega)]
  have kk4 : ∀ a, a < o + 22 → K6 a = K3 a := fun a h => by rw [kk5 a (by omega), k4 a (by omega)]
  have kk3 : ∀ a, a < o + 9 → K6 a = K2 a := fun a h => by rw [kk4 a (by omega), k3 a (by omega), xuK_ne (by omega)]
  have kk2 : ∀ a, a < o + 2 → K6 a = K1 a := fun a h => by rw [kk3 a (by omega), k2 a (by omega), xuK_ne (by omega)]
  have kk1 : ∀ a, a < o → K6 a = K a := fun a h => by rw [kk2 a (by omega), k1 a (by omega), xuK_ne (by omega)]
  have ii6 : ∀ a, a < o + 29 → I6 a = I5 a := fun a h => by rw [i6 a (by omega), xuR_ne (by omega)]
  have ii5 : ∀ a, a < o + 23 → I6 a = I3 a := fun a h => by rw [ii6 a (by omega), i5 a (by omega), xuR_ne (by omega)]
  have ii3 : ∀ a, a < o + 9 → I6 a = I2 a := fun a h => by rw [ii5 a (by omega), i3 a (by omega), xuR_ne (by omega)]
  have ii2 : ∀ a, a < o + 2 → I6 a = I1 a := fun a h => by rw [ii3 a (by omega), i2 a (by omega), xuR_ne (by omega)]
  have ii1 : ∀ a, a < o + 1 → I6 a = xuI I o 1 0 a := fun a h => by rw [ii2 a (by omega), i1 a (by omega), xuR_ne (by omega)]
  have pp6 : ∀ a, a < o + 29 → a ≠ o → (xuP P6 o 3 (some (o + 29))) a = P5 a := fun a h h2 => by rw [xuP_ne h2, p6 a (by omega), xuQ_ne (by omega), xuP_ne h2]
  have pp5 : ∀ a, a < o + 23 → a ≠ o → (xuP P6 o 3 (some (o + 29))) a = P4 a := fun a h h2 => by rw [pp6 a (by omega) h2, p5 a (by omega), xuQ_ne (by omega), xuP_ne h2]
  have pp4 : ∀ a, a < o + 22 → a ≠ o → (xuP P6 o 3 (some (o + 29))) a = P3 a := fun a h h2 => by rw [pp5 a (by omega) h2, p4 a (by omega), xuQ_ne (by omega)]
  have pp3 : ∀ a, a < o + 9 → a ≠ o → (xuP P6 o 3 (some (o + 29))) a = P2 a := fun a h h2 => by rw [pp4 a (by omega) h2, p3 a (by omega), xuQ_ne (by omega), xuP_ne h2]
  have pp2 : ∀ a, a < o + 2 → a ≠ o → (xuP P6 o 3 (some (o + 29))) a = P1 a := fun a h h2 => by rw [pp3 a (by omega) h2, p2 a (by omega), xuQ_ne (by omega), xuP_ne h2]
  have po6 : P6 o = xuP P5 o 2 (some (o + 23)) o := by rw [p6 o (by omega), xuQ_ne (by omega)]
  have po5 : P5 o = xuP P4 o 0 (some (o + 22)) o := by rw [p5 o (by omega), xuQ_ne (by omega)]
  have po4 : P4 o = P3 o := by rw [p4 o (by omega), xuQ_ne (by omega)]
  have po3 : P3 o = xuP P2 o 5 (some (o + 2)) o := by rw [p3 o (by omega), xuQ_ne (by omega)]
  have po2 : P2 o = xuP P1 o 4 (some (o + 1)) o := by rw [p2 o (by omega), xuQ_ne (by omega)]
  have hno : ∀ m, m < 0 → (xuP P6 o 3 (some (o + 29))) (o + 22) m = some (o + 59 + 13 * m) ∧ xAt K6 (xuP P6 o 3 (some (o + 29))) (o + 59 + 13 * m) 2 := fun m hm => absurd hm (by omega)
  have hrow6 : K6 (o + 22) = (102, 12) := by rw [kk5 _ (by omega)]; exact hrow
  refine y_retv dX4_init_92 rfl rfl (hp K6 I6 (xuP P6 o 3 (some (o + 29))) kk1 (fun a h => by rw [ii1 a (by omega), xuI_ne (by omega)]) ⟨ko6, ?_, ?_, xuP_s, ?_, ?_, ?_, ?_, ⟨?_, ?_, hrow6, by omega, hno, Or.inl rfl⟩, ⟨?_, ?_, hrow6, by omega, hno, Or.inr rfl⟩, by omega⟩ ?_ ?_ ?_ ?_ ?_ ?_ ?_ ?_)
  · rw [xuP_o (Or.inr (by decide)), po6, xuP_o (Or.inr (by decide)), po5, xuP_s]
  · rw [xuP_o (Or.inr (by decide)), po6, xuP_s]
  · rw [xuP_o (Or.inr (by decide)), po6, xuP_o (Or.inr (by decide)), po5, xuP_o (Or.inr (by decide)), po4, po3, xuP_o (Or.inr (by decide)), po2, xuP_s]
  · rw [xuP_o (Or.inr (by decide)), po6, xuP_o (Or.inr (by decide)), po5, xuP_o (Or.inr (by decide)), po4, po3, xuP_s]
  · exact a1.fr (by decide) (fun a h1 h2 => kk2 a (by simp only [xSp] at h2; omega)) (pp2 _ (by omega) (by omega))
  · exact a2.fr (by decide) (fun a h1 h2 => kk3 a (by simp only [xSp] at h2; omega)) (pp3 _ (by omega) (by omega))
  · exact a5.fr (by decide) (fun a h1 h2 => kk6 a (by simp only [xSp] at h2; omega)) (pp6 _ (by omega) (by omega))
  · rw [pp6 _ (by omega) (by omega)]; exact m5
  · exact a6.fr (by decide) (fun a h1 h2 => rfl) (xuP_ne (by omega))
  · rw [xuP_ne (by omega)]; exact m6
  · rw [ii1 o (by omega), xuI_s]
  · rw [ii2 _ (by omega)]; exact e1
  · rw [ii2 _ (by omega)]; exact e2
  · rw [ii2 _ (by omega)]; exact e3
  · intro k hk; rw [ii3 _ (by omega)]; exact b1 k hk
  · intro i j h1 h2; rw [ii3 _ (by omega)]; exact b2 i j h1 h2
  · rw [ii6 _ (by omega)]; exact l3
  · intro j hj; rw [ii6 _ (by omega)]; exact l2 j hj
