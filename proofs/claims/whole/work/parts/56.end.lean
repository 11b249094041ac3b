def xX0 : xX := fun i j => if i = 0 ∧ (j = 25 ∨ j = 26 ∨ j = 27) then -1 else 0
theorem xX0_r {i j : Nat} (h : i ≠ 0) : xX0 i j = 0 := if_neg (fun c => h c.1)
theorem xX0_C : gC xX0 = 0 := rfl
theorem xX0_wf : xWf xX0 := by
  refine ⟨rfl, by rw [xX0_C]; omega, fun m hm => ?_, fun m _ _ => ⟨xX0_r (by decide), xX0_r (by decide), xX0_r (by decide), fun v _ => xX0_r (by decide)⟩⟩
  have n2 : gN xX0 m = 0 := gN_of (xX0_r (by decide)) (by decide)
  have n7 : gF xX0 m = 0 := gF_of (xX0_r (by decide)) (by decide)
  have n9 : gS xX0 m = 0 := gS_of (xX0_r (by decide)) (by decide)
  exact wfM.of ⟨⟨by rw [n2]; exact xX0_r (by decide), by omega⟩, fun k hk => by omega⟩ ⟨⟨by rw [n7]; exact xX0_r (by decide), by omega⟩, fun k hk => by omega, fun j k hj => by omega⟩ ⟨⟨by rw [n9]; exact xX0_r (by decide), by omega⟩, fun k hk => by omega⟩ (Or.inr ⟨0, by decide, xX0_r (by decide)⟩) (fun j _ => Or.inl (xX0_r (by decide)))
theorem xSt0_fr {K K' : Nat → Nat × Nat} {P P' : Nat → Nat → Option Nat} {o : Nat} (h : xSt K P o (o + 23) (o + 29) 0) (fK : ∀ a, a < o + 35 → K' a = K a) (fP : ∀ a, a < o + 35 → P' a = P a) : xSt K' P' o (o + 23) (o + 29) 0 := by
  obtain ⟨T0, Tm, Tl, Tt, Tf, Tk, hF, hXa, hS, hSb, hne⟩ := h
  have hr0 : K' (o + 22) = (102, 12) := by rw [fK _ (by omega)]; exact hS.2.2.1
  refine ⟨by rw [fK _ (by omega)]; exact T0, by rw [fP _ (by omega)]; exact Tm, by rw [fP _ (by omega)]; exact Tl, by rw [fP _ (by omega)]; exact Tt, by rw [fP _ (by omega)]; exact Tf, by rw [fP _ (by omega)]; exact Tk, hF.fr (by decide) (fun a h1 h2 => fK a (by simp only [xSp] at h2; omega)) (fP _ (by omega)), hXa.fr (by decide) (fun a h1 h2 => fK a (by simp only [xSp] at h2; omega)) (fP _ (by omega)), ⟨hS.1.fr (by decide) (fun a h1 h2 => fK a (by simp only [xSp] at h2; omega)) (fP _ (by omega)), by rw [fP _ (by omega)]; exact hS.2.1, hr0, by omega, fun m hm => absurd hm (by omega), Or.inl rfl⟩, ⟨hSb.1.fr (by decide) (fun a h1 h2 => fK a (by simp only [xSp] at h2; omega)) (fP _ (by omega)), by rw [fP _ (by omega)]; exact hSb.2.1, hr0, by omega, fun m hm => absurd hm (by omega), Or.inr rfl⟩, hne⟩
theorem x_law_at {d n b L : Nat} {xs : Nat → Int32} (hL : L ≤ 3072) (hb : b < n) : xB (d + 20) 6 cL_law (some .boolean) false (fun r h' => r = some (.int 1) ∧ h'.2.2.2.1 ≤ n + 600000 ∧ h'.2.2.2.2 ≤ 7302250) 0 [some (.ref b), none, none, none] [] (xK0 b L, xI0 b xs, fun _ _ => none, n, 0) := by
  refine z_new 4 n (n + 1) 6 dL_law_0 rfl rfl rfl rfl ?_
  refine y_dup dL_law_3 rfl ?_
  refine y_callI0 mX4_init dL_law_4 rfl rfl (Nat.le_of_ble_eq_true rfl) (kiX4 (d := d + 17) (o := n) (by rw [xuK_s]) (fun K1 I1 P1 k1 i1 hst f1 e1 e2 e3 m1 m2 l3 l2 => ⟨rfl, ?_⟩))
  refine y_astore_n dL_law_7 (by first | (simp; done) | (simp; decide)) ?_
  refine z_new 5 (n + 35) (n + 35 + 1) (6 + 1473 + 39) dL_law_8 rfl rfl rfl rfl ?_
  refine y_dup dL_law_11 rfl ?_
  refine y_callI0 mX5_init dL_law_12 rfl rfl (Nat.le_of_ble_eq_true rfl) (kiX5 (d := d + 18) (q := n + 35) (by rw [xuK_s]) (fun j => xuR_s) (fun K2 I2 P2 k2 i2 p2 a2 z1 z2 => ⟨rfl, ?_⟩))
  refine y_astore_n dL_law_15 (by first | (simp; done) | (simp; decide)) ?_
  refine y_iconst (v := 0) dL_law_16 (by decide) ?_
  refine y_istore_n dL_law_17 (by first | (simp; done) | (simp; decide)) (fun x1 e_x1 => ?_)
  subst e_x1
  have fK : ∀ a, a < n + 35 → K2 a = K1 a := fun a h => by rw [k2 a (by omega), xuK_ne (by omega)]
  have fI : ∀ a, a < n + 35 → I2 a = I1 a := fun a h => by rw [i2 a (by omega), xuR_ne (by omega)]
  have fP : ∀ a, a < n + 35 → P2 a = P1 a := fun a h => by rw [p2 a (by omega), xuQ_ne (by omega)]
  have hre : xRe I2 (n + 35) xX0 := fun i hi => by
    funext j
    by_cases c : i = 0
    · subst c
      rw [Nat.add_zero, z2 j]
      unfold xX0
      by_cases c2 : j = 25 ∨ j = 26 ∨ j = 27
      · rw [if_pos c2, if_pos ⟨rfl, c2⟩]
      · rw [if_neg c2, if_neg (fun c => c2 c.2)]
    · rw [z1 i j (by omega) hi, xX0_r c]
  refine klaw_loop (d := d) (o := n) hb hL (fun K I P n2 s2 ls h1 h2 => ?_) L 0 K2 I2 P2 _ _ (n + 23) (n + 29) xX0 xX0 (by omega) (by omega) ⟨⟨xSt0_fr hst fK fP, ?_, xX0_wf, fun m hm => absurd hm (by rw [xX0_C]; omega), fun m v hm => absurd hm (by rw [xX0_C]; omega), ⟨fun k hk => ?_, fun k hk => ?_, ?_, ?_, ?_, ?_⟩, ⟨?_, ?_, ?_⟩, ⟨0, 0, 0, 0, rfl, by omega, rfl, rfl, rfl, by omega, by omega, by omega⟩, ⟨rfl, fun _ _ _ => rfl⟩, Or.inl ⟨rfl, xLo_nil ?_ (fun j hj => ?_), 0, by omega, rfl⟩⟩, hre, a2, ?_, ?_, ?_⟩
  · refine y_iconst (v := 1) dL_law_663 (by decide) ?_
    exact x_retz dL_law_664 (Or.inr rfl) ⟨rfl, (show n2 ≤ n + 600000 by omega), (show s2 ≤ 7302250 by omega)⟩
  · rw [fI _ (by omega)]; exact f1
  · rw [fI _ (by omega), m2 1 k (by decide) (by decide)]; exact (xX0_r (by decide)).symm
  · rw [fI _ (by omega), m2 2 k (by decide) (by decide)]; exact (xX0_r (by decide)).symm
  · rw [fI _ (by omega)]; exact m1 2 (by decide)
  · rw [fI _ (by omega)]; exact m1 3 (by decide)
  · rw [fI _ (by omega)]; exact m1 4 (by decide)
  · rw [fI _ (by omega)]; exact m1 5 (by decide)
  · rw [fI _ (by omega)]; exact e1
  · rw [fI _ (by omega)]; exact e2
  · rw [fI _ (by omega)]; exact e3
  · rw [fI _ (by omega)]; exact l3
  · rw [fI _ (by omega)]; exact l2 j hj
  · rw [fK b (by omega), k1 b hb, xuK_ne (by omega)]; exact if_pos rfl
  · rw [xX0_C]
  · rw [xX0_C]; decide
theorem x_law : xLaw := ⟨80, by decide, fun _ _ _ _ hL hb => x_law_at (d := 60) hL hb⟩
