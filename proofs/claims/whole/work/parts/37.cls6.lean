theorem sUC_iff {X : xX} {m : Nat} {x : Int32} : ∀ (t k : Nat), sUC X m x t k = true ↔ ∃ j, k ≤ j ∧ j < k + t ∧ sOp X m j = 7 ∧ sAr X m j 1 = x
  | 0, k => ⟨fun h => (by cases h), fun ⟨j, h1, h2, _⟩ => by omega⟩
  | t + 1, k => by
    unfold sUC
    rw [Bool.or_eq_true, sUC_iff t (k + 1), Bool.and_eq_true, decide_eq_true_eq, decide_eq_true_eq]
    constructor
    · rintro (⟨h1, h2⟩ | ⟨j, h1, h2, h3, h4⟩)
      · exact ⟨k, Nat.le_refl _, by omega, h1, h2⟩
      · exact ⟨j, by omega, by omega, h3, h4⟩
    · rintro ⟨j, h1, h2, h3, h4⟩
      by_cases e : j = k
      · subst e; exact Or.inl ⟨h3, h4⟩
      · exact Or.inr ⟨j, by omega, by omega, h3, h4⟩
/-- slots of names that no step calls -/
def xSU (I : Nat → Nat → Int32) (G : xX) (o : Nat) : Prop := ∀ m v, m < gC G → v < 64 → sUC G m (nI v) (gS G m) 0 = false → I (o + 59 + 13 * m + 11) v = -1
/-- slots and data of the loaded modules -/
def xSD (I : Nat → Nat → Int32) (G X : xX) (o : Nat) (ord : List Nat) : Prop := ∀ m, m ∈ ord → (∀ v, v < 64 → I (o + 59 + 13 * m + 11) v = X 14 (64 * m + v)) ∧ (∀ v e, v < 64 → sOf G m (nI v) = some e → I (o + 59 + 13 * m + 12) v = X 15 e)
/-- only slots and data may change -/
def xFs (o : Nat) (I I' : Nat → Nat → Int32) : Prop := ∀ a, (∀ m, m < 12 → a ≠ o + 59 + 13 * m + 11 ∧ a ≠ o + 59 + 13 * m + 12) → I' a = I a
theorem xFs.rf {o : Nat} {I : Nat → Nat → Int32} : xFs o I I := fun _ _ => rfl
theorem xFs.tr {o : Nat} {I I' I2 : Nat → Nat → Int32} (h : xFs o I I') (h2 : xFs o I' I2) : xFs o I I2 := fun a p => (h2 a p).trans (h a p)
theorem xFs.mos {o : Nat} {G : xX} {I I' : Nat → Nat → Int32} (h : xFs o I I') (hM : xMos I G o) : xMos I' G o := hM.fr (fun m i _ _ => h _ (fun m' _ => by omega))
theorem xFs.lt {o a : Nat} {I I' : Nat → Nat → Int32} (h : xFs o I I') (ha : a < o + 59) : I' a = I a := h a (fun m' _ => by omega)
theorem xFs.lo {o L : Nat} {G : xX} {ord : List Nat} {I I' : Nat → Nat → Int32} (h : xFs o I I') (hL : L = o + 23 ∨ L = o + 29) (ho : xLo I G L ord) : xLo I' G L ord := ho.fr (by rw [h.lt (by omega)]) (h.lt (by omega)) (h.lt (by omega))
theorem xFs.lg {o L : Nat} {G : xX} {ord : List Nat} {I I' : Nat → Nat → Int32} (h : xFs o I I') (hL : L = o + 23 ∨ L = o + 29) (ho : xLg I G L ord) : xLg I' G L ord := fun v hv => by rw [h.lt (by omega)]; exact ho v hv
set_option maxHeartbeats 1000000 in
theorem krs_loop {d o L m : Nat} {G : xX} {ord : List Nat} {lz : Bool} {Q : Option Value → xH → Prop} {K : Nat → Nat × Nat} {P : Nat → Nat → Option Nat} {n s : Nat} (hS : xSL K P o L (gC G)) (hw : ∀ m, m < 12 → wfM G m) (hm : m < gC G) : ∀ (t k : Nat) (I : Nat → Nat → Int32) (v4 : Option Value), k + t = gS G m → xMos I G o → xLg I G L ord → I L 8 = bI lz → (∀ v, v < 64 → sUC G m (nI v) (gS G m) 0 = false → I (o + 59 + 13 * m + 11) v = -1) → (∀ v j, v < 64 → j < k → sOp G m j = 7 → sAr G m j 1 = nI v → I (o + 59 + 13 * m + 11) v = (if lz = true then 21 else oM (sFi G ord m (nI v)))) → (∀ I' ls, (∀ a, a ≠ o + 59 + 13 * m + 11 → I' a = I a) → (∀ v, v < 64 → I' (o + 59 + 13 * m + 11) v = sSl G ord lz m v) → xB (d + 2) 1 cX1_refreshSlots none false Q 68 ls [] (K, I', P, n, s)) → xB (d + 2) 1 cX1_refreshSlots none false Q 9 [some (.ref L), some (.int (nI m)), some (.ref (o + 59 + 13 * m)), some (.int (nI k)), v4] [] (K, I, P, n, s) := by
  have hc := hS.2.2.2.1
  have hL := hS.2.2.2.2.2
  have hwm := hw m (by omega)
  obtain ⟨w1, w2⟩ := hwm.2.2.2.2.2.1
  intro t
  induction t with
  | zero =>
    intro k I v4 hk hM hG h8 hu hd k1
    refine y_iload_n dX1_refreshSlots_9 rfl ?_
    refine y_aload_n dX1_refreshSlots_10 rfl ?_
    refine y_getv 2 13 dX1_refreshSlots_11 rfl rfl (hS.2.2.2.2.1 m hm).2.1 ((hM m hm).s.trans w1) ?_
    refine y_icmpN_ge 68 (k) ((gS G m)) dX1_refreshSlots_14 (by decide) rfl rfl (by omega) (by omega) (fun _ => ?_) (fun c14 => absurd c14 (by omega))
    refine k1 I _ (fun _ _ => rfl) (fun v hv => ?_)
    unfold sSl
    by_cases c : sUC G m (nI v) (gS G m) 0 = true
    · rw [if_pos c]
      obtain ⟨j, j1, j2, j3, j4⟩ := (sUC_iff _ _).mp c
      exact hd v j hv (by omega) j3 j4
    · rw [if_neg c]; exact hu v hv (by simpa using c)
  | succ t ih =>
    intro k I v4 hk hM hG h8 hu hd k1
    have hkl : k < gS G m := by omega
    obtain ⟨s1, s2, s3, s4⟩ := (hM m hm).st k hkl
    have hst := hwm.2.2.2.2.2.2.1 k hkl
    refine y_iload_n dX1_refreshSlots_9 rfl ?_
    refine y_aload_n dX1_refreshSlots_10 rfl ?_
    refine y_getv 2 13 dX1_refreshSlots_11 rfl rfl (hS.2.2.2.2.1 m hm).2.1 ((hM m hm).s.trans w1) ?_
    refine y_icmpN_ge 68 (k) ((gS G m)) dX1_refreshSlots_14 (by decide) rfl rfl (by omega) (by omega) (fun c14 => absurd c14 (by omega)) (fun _ => ?_)
    refine y_aload_n dX1_refreshSlots_17 rfl ?_
    refine y_getr 2 9 dX1_refreshSlots_18 rfl rfl (hS.2.2.2.2.1 m hm).2.1 (r2_9 (hS.2.2.2.2.1 m hm).2) ?_
    refine y_iload_n dX1_refreshSlots_21 rfl ?_
    refine y_ialdN (k) dX1_refreshSlots_22 (k2_9 (hS.2.2.2.2.1 m hm).2) rfl (by omega) (by omega) s1 ?_
    refine y_bipush (v := 7) dX1_refreshSlots_23 (by decide) ?_
    refine y_icmp_ne 62 dX1_refreshSlots_25 (by decide) (fun c25 => ?_) (fun c25 => ?_)
    · refine y_iinc dX1_refreshSlots_62 rfl (fun x1 e_x1 => ?_)
      obtain rfl : x1 = nI (k + 1) := by rw [e_x1]; exact nI_1 (k)
      refine y_goto 9 dX1_refreshSlots_65 (by decide) ?_
      exact ih (k + 1) I _ (by omega) hM hG h8 hu (fun v j hv hj e1 e2 => by
        by_cases ej : j = k
        · subst ej; exact absurd e1 c25
        · exact hd v j hv (by omega) e1 e2) k1
    · rw [c25] at hst
      obtain ⟨a, ha, ha2⟩ := xs7.mp hst
      refine y_aload_n dX1_refreshSlots_28 rfl ?_
      refine y_getr 2 10 dX1_refreshSlots_29 rfl rfl (hS.2.2.2.2.1 m hm).2.1 (r2_10 (hS.2.2.2.2.1 m hm).2) ?_
      refine y_iload_n dX1_refreshSlots_32 rfl ?_
      refine y_ialdN (k) dX1_refreshSlots_33 (k2_10 (hS.2.2.2.2.1 m hm).2) rfl (by omega) (by omega) (s2.trans ha2) ?_
      refine y_istore dX1_refreshSlots_34 (by first | (simp; done) | (simp; decide)) (fun x2 e_x2 => ?_)
      subst e_x2
      refine y_aload_n dX1_refreshSlots_36 rfl ?_
      refine y_getr 2 14 dX1_refreshSlots_37 rfl rfl (hS.2.2.2.2.1 m hm).2.1 (r2_14 (hS.2.2.2.2.1 m hm).2) ?_
      refine y_iload dX1_refreshSlots_40 rfl ?_
      cases hlz : lz with
      | true =>
        have h8b := h8
        rw [hlz] at h8b
        refine y_aload_n dX1_refreshSlots_42 rfl ?_
        refine y_getv 1 8 dX1_refreshSlots_43 rfl rfl hS.1.1 h8b ?_
        refine y_if_eq 54 dX1_refreshSlots_46 (by decide) (fun q => absurd q (by decide)) (fun _ => ?_)
        refine y_bipush (v := 21) dX1_refreshSlots_49 (by decide) ?_
        refine y_goto 61 dX1_refreshSlots_51 (by decide) ?_
        refine y_iast (a) dX1_refreshSlots_61 (k2_14 (hS.2.2.2.2.1 m hm).2) rfl (by omega) (by omega) ?_
        refine y_iinc dX1_refreshSlots_62 rfl (fun x3 e_x3 => ?_)
        obtain rfl : x3 = nI (k + 1) := by rw [e_x3]; exact nI_1 (k)
        refine y_goto 9 dX1_refreshSlots_65 (by decide) ?_
        have hf : ∀ b, b ≠ o + 59 + 13 * m + 11 → xuI I (o + 59 + 13 * m + 11) a 21 b = I b := fun b hb => xuI_ne hb
        refine ih (k + 1) _ _ (by omega) (hM.fr (fun m2 i _ _ => hf _ (by omega))) (fun v hv => by rw [hf _ (by omega)]; exact hG v hv) (by rw [hf _ (by omega)]; exact h8) (fun v hv c => ?_) (fun v j hv hj e1 e2 => ?_) (fun I' ls p1 p2 => k1 I' ls (fun b hb => (p1 b hb).trans (hf b hb)) p2)
        · by_cases e : v = a
          · subst e; exact absurd ((sUC_iff (gS G m) 0).mpr ⟨k, Nat.zero_le _, by omega, c25, ha2⟩) (by rw [c]; decide)
          · rw [xuI_o (Or.inr e)]; exact hu v hv c
        · by_cases e : v = a
          · subst e; rw [xuI_s]; rw [hlz, if_pos rfl]
          · rw [xuI_o (Or.inr e)]
            refine hd v j hv ?_ e1 e2
            by_cases ej : j = k
            · subst ej; exact absurd (nI_inj (by omega) (by omega) (e2.symm.trans ha2)) e
            · omega
      | false =>
        have h8b := h8
        rw [hlz] at h8b
        refine y_aload_n dX1_refreshSlots_42 rfl ?_
        refine y_getv 1 8 dX1_refreshSlots_43 rfl rfl hS.1.1 h8b ?_
        refine y_if_eq 54 dX1_refreshSlots_46 (by decide) (fun _ => ?_) (fun q => absurd q (by decide))
        refine y_aload_n dX1_refreshSlots_54 rfl ?_
        refine y_iload_n dX1_refreshSlots_55 rfl ?_
        refine y_iload dX1_refreshSlots_56 rfl ?_
        refine y_callV2 mX1_giverOf dX1_refreshSlots_58 rfl rfl hS.1.1 (Nat.le_of_ble_eq_true rfl) (kgiverOf (d := d) (ord := ord) hS hM hG hw hm ha ?_)
        refine y_iast (a) dX1_refreshSlots_61 (k2_14 (hS.2.2.2.2.1 m hm).2) rfl (by omega) (by omega) ?_
        refine y_iinc dX1_refreshSlots_62 rfl (fun x4 e_x4 => ?_)
        obtain rfl : x4 = nI (k + 1) := by rw [e_x4]; exact nI_1 (k)
        refine y_goto 9 dX1_refreshSlots_65 (by decide) ?_
        have hf : ∀ b, b ≠ o + 59 + 13 * m + 11 → xuI I (o + 59 + 13 * m + 11) a (oM (sFi G ord m (nI a))) b = I b := fun b hb => xuI_ne hb
        refine ih (k + 1) _ _ (by omega) (hM.fr (fun m2 i _ _ => hf _ (by omega))) (fun v hv => by rw [hf _ (by omega)]; exact hG v hv) (by rw [hf _ (by omega)]; exact h8) (fun v hv c => ?_) (fun v j hv hj e1 e2 => ?_) (fun I' ls p1 p2 => k1 I' ls (fun b hb => (p1 b hb).trans (hf b hb)) p2)
        · by_cases e : v = a
          · subst e; exact absurd ((sUC_iff (gS G m) 0).mpr ⟨k, Nat.zero_le _, by omega, c25, ha2⟩) (by rw [c]; decide)
          · rw [xuI_o (Or.inr e)]; exact hu v hv c
        · by_cases e : v = a
          · subst e; rw [xuI_s]; rw [hlz, if_neg (by decide)]
          · rw [xuI_o (Or.inr e)]
            refine hd v j hv ?_ e1 e2
            by_cases ej : j = k
            · subst ej; exact absurd (nI_inj (by omega) (by omega) (e2.symm.trans ha2)) e
            · omega
theorem krefreshSlots {d : Nat} {Pp : Option Value → xH → Prop} {K : Nat → Nat × Nat} {I : Nat → Nat → Int32} {P : Nat → Nat → Option Nat} {n s : Nat} {o L m : Nat} {G : xX} {ord : List Nat} {lz : Bool} (hS : xSL K P o L (gC G)) (hw : ∀ m, m < 12 → wfM G m) (hm : m < gC G) (hM : xMos I G o) (hG : xLg I G L ord) (h8 : I L 8 = bI lz) (hu : ∀ v, v < 64 → sUC G m (nI v) (gS G m) 0 = false → I (o + 59 + 13 * m + 11) v = -1) (hp : ∀ I', (∀ a, a ≠ o + 59 + 13 * m + 11 → I' a = I a) → (∀ v, v < 64 → I' (o + 59 + 13 * m + 11) v = sSl G ord lz m v) → Pp none (K, I', P, n, s)) : xC (d + 2) mX1_refreshSlots [(.ref L), (.int (nI m))] (K, I, P, n, s) Pp := by
  refine y_met 0 0 ?_
  show xB (d + 2) 1 cX1_refreshSlots none false (xE n s 0 0 Pp) 0 [some (.ref L), some (.int (nI m)), none, none, none] [] (K, I, P, n, s)
  have hc := hS.2.2.2.1
  refine y_aload_n dX1_refreshSlots_0 rfl ?_
  refine y_getr 1 0 dX1_refreshSlots_1 rfl rfl hS.1.1 hS.2.1 ?_
  refine y_iload_n dX1_refreshSlots_4 rfl ?_
  refine y_aald (m) dX1_refreshSlots_5 hS.2.2.1 rfl (by omega) (by omega) (hS.2.2.2.2.1 (m) hm).1 ?_
  refine y_astore_n dX1_refreshSlots_6 (by first | (simp; done) | (simp; decide)) ?_
  refine y_iconst (v := 0) dX1_refreshSlots_7 (by decide) ?_
  refine y_istore_n dX1_refreshSlots_8 (by first | (simp; done) | (simp; decide)) (fun x1 e_x1 => ?_)
  subst e_x1
  exact krs_loop (d := d) hS hw hm (gS G m) 0 I _ (by omega) hM hG h8 hu (fun v j _ hj => absurd hj (by omega)) (fun I' ls p1 p2 => y_retv dX1_refreshSlots_68 rfl rfl (hp I' p1 p2))
/-- slots and data as they are when a load or a run begins -/
def xNew (I : Nat → Nat → Int32) (G : xX) (o : Nat) (ord l : List Nat) (lz : Bool) : Prop := ∀ m, m ∈ l → (∀ v, v < 64 → I (o + 59 + 13 * m + 11) v = sSl G ord lz m v) ∧ (∀ v e, v < 64 → sOf G m (nI v) = some e → I (o + 59 + 13 * m + 12) v = G 5 e)
theorem sSl_no {G : xX} {ord : List Nat} {lz : Bool} {m v : Nat} (h : sUC G m (nI v) (gS G m) 0 = false) : sSl G ord lz m v = -1 := by
  unfold sSl
  rw [h, if_neg (by decide)]
theorem krf_loop {d o L : Nat} {G : xX} {ord : List Nat} {lz : Bool} {Q : Option Value → xH → Prop} {K : Nat → Nat × Nat} {P : Nat → Nat → Option Nat} {n s : Nat} (hS : xSL K P o L (gC G)) (hw : ∀ m, m < 12 → wfM G m) : ∀ (l : List Nat) (p : Nat) (I : Nat → Nat → Int32) (v2 : Option Value), p ≤ ord.length → ord.drop p = l → xMos I G o → xLo I G L ord → xLg I G L ord → I L 8 = bI lz → xSU I G o → xNew I G o ord (ord.take p) lz → (∀ I' ls, xFs o I I' → xSU I' G o → xNew I' G o ord ord lz → xB (d + 3) 1 cX1_refresh none false Q 53 ls [] (K, I', P, n, s)) → xB (d + 3) 1 cX1_refresh none false Q 2 [some (.ref L), some (.int (nI p)), v2] [] (K, I, P, n, s) := by
  have hc := hS.2.2.2.1
  have hL := hS.2.2.2.2.2
  intro l
  induction l with
  | nil =>
    intro p I v2 hp hd hM ho hG h8 hu hn k1
    have h1 := drop_nil hd
    have hol := okl_len ho.2.2.2.2
    rw [List.take_of_length_le h1] at hn
    refine y_iload_n dX1_refresh_2 rfl ?_
    refine y_aload_n dX1_refresh_3 rfl ?_
    refine y_getv 1 3 dX1_refresh_4 rfl rfl hS.1.1 ho.1 ?_
    refine y_icmpN_ge 53 (p) (ord.length) dX1_refresh_7 (by decide) rfl rfl (by omega) (by omega) (fun _ => ?_) (fun c7 => absurd c7 (by omega))
    exact k1 I _ xFs.rf hu hn
  | cons q r ih =>
    intro p I v2 hp hd hM ho hG h8 hu hn k1
    obtain ⟨g1, g2, g3⟩ := drop_get hd
    have hol := okl_len ho.2.2.2.2
    have hq := ho.2.2.2.2.2 q (List.mem_of_getElem? g2)
    have hq12 : q < 12 := by omega
    refine y_iload_n dX1_refresh_2 rfl ?_
    refine y_aload_n dX1_refresh_3 rfl ?_
    refine y_getv 1 3 dX1_refresh_4 rfl rfl hS.1.1 ho.1 ?_
    refine y_icmpN_ge 53 (p) (ord.length) dX1_refresh_7 (by decide) rfl rfl (by omega) (by omega) (fun c7 => absurd c7 (by omega)) (fun _ => ?_)
    refine y_aload_n dX1_refresh_10 rfl ?_
    refine y_getr 1 1 dX1_refresh_11 rfl rfl hS.1.1 (r1_1 hS.1) ?_
    refine y_iload_n dX1_refresh_14 rfl ?_
    refine y_ialdN (p) dX1_refresh_15 (k1_1 hS.1) rfl (by omega) (by omega) (ho.2.1 p q g2) ?_
    refine y_istore_n dX1_refresh_16 (by first | (simp; done) | (simp; decide)) (fun x1 e_x1 => ?_)
    subst e_x1
    refine y_aload_n dX1_refresh_17 rfl ?_
    refine y_getr 1 0 dX1_refresh_18 rfl rfl hS.1.1 hS.2.1 ?_
    refine y_iload_n dX1_refresh_21 rfl ?_
    refine y_aald (q) dX1_refresh_22 hS.2.2.1 rfl (by omega) (by omega) (hS.2.2.2.2.1 (q) hq).1 ?_
    refine y_getr 2 3 dX1_refresh_23 rfl rfl (hS.2.2.2.2.1 (q) hq).2.1 (r2_3 (hS.2.2.2.2.1 (q) hq).2) ?_
    refine y_iconst (v := 0) dX1_refresh_26 (by decide) ?_
    refine y_aload_n dX1_refresh_27 rfl ?_
    refine y_getr 1 0 dX1_refresh_28 rfl rfl hS.1.1 hS.2.1 ?_
    refine y_iload_n dX1_refresh_31 rfl ?_
    refine y_aald (q) dX1_refresh_32 hS.2.2.1 rfl (by omega) (by omega) (hS.2.2.2.2.1 (q) hq).1 ?_
    refine y_getr 2 15 dX1_refresh_33 rfl rfl (hS.2.2.2.2.1 (q) hq).2.1 (r2_15 (hS.2.2.2.2.1 (q) hq).2) ?_
    refine y_iconst (v := 0) dX1_refresh_36 (by decide) ?_
    refine y_bipush (v := 64) dX1_refresh_37 (by decide) ?_
    refine y_copy 64 0 0 64 64 dX1_refresh_39 rfl (Nat.le_of_ble_eq_true rfl) rfl rfl rfl (k2_3 (hS.2.2.2.2.1 q hq).2) (k2_15 (hS.2.2.2.2.1 q hq).2) (by omega) (by omega) (by omega) (by omega) (by omega) ?_
    have hj : ∀ a, a ≠ o + 59 + 13 * q + 12 → (xuR I (o + 59 + 13 * q + 12) (va_cpy (I (o + 59 + 13 * q + 3)) (I (o + 59 + 13 * q + 12)) 0 0 64)) a = I a := fun a h => by unfold xuR; funext j; rw [if_neg h]
    have hj2 : ∀ v, v < 64 → (xuR I (o + 59 + 13 * q + 12) (va_cpy (I (o + 59 + 13 * q + 3)) (I (o + 59 + 13 * q + 12)) 0 0 64)) (o + 59 + 13 * q + 12) v = I (o + 59 + 13 * q + 3) v := fun v hv => by unfold xuR va_cpy; rw [if_pos rfl, if_pos ⟨Nat.zero_le _, by omega⟩, Nat.zero_add, Nat.sub_zero]
    generalize (xuR I (o + 59 + 13 * q + 12) (va_cpy (I (o + 59 + 13 * q + 3)) (I (o + 59 + 13 * q + 12)) 0 0 64)) = I2 at hj hj2 ⊢
    have hf2 : xFs o I I2 := fun a h => hj a (h q hq12).2
    refine y_aload_n dX1_refresh_42 rfl ?_
    refine y_iload_n dX1_refresh_43 rfl ?_
    refine y_callV1 mX1_refreshSlots dX1_refresh_44 rfl rfl hS.1.1 (Nat.le_of_ble_eq_true rfl) (krefreshSlots (d := d) (ord := ord) (lz := lz) hS hw hq (hf2.mos hM) (hf2.lg hL hG) (by rw [hf2.lt (by omega)]; exact h8) (fun v hv c => by rw [hj _ (by omega)]; exact hu q v hq hv c) (fun I3 r1 r2 => ?_))
    have hf3 : xFs o I I3 := hf2.tr (fun a h => r1 a (h q hq12).1)
    have hu3 : xSU I3 G o := fun m v h1 h2 h3 => by
      by_cases e : m = q
      · subst e; rw [r2 v h2]; exact sSl_no h3
      · rw [r1 _ (by omega), hj _ (by omega)]; exact hu m v h1 h2 h3
    have hn3 : xNew I3 G o ord (ord.take (p + 1)) lz := fun m hm => by
      by_cases e : m = q
      · subst e
        exact ⟨r2, fun v e2 hv hs => by rw [r1 _ (by omega), hj2 v hv]; exact ((hM m hq).k1 v e2 hv hs).2.1⟩
      · obtain ⟨n1, n2⟩ := hn m (((take_mem g2 m).mp hm).resolve_right e)
        exact ⟨fun v hv => by rw [r1 _ (by omega), hj _ (by omega)]; exact n1 v hv, fun v e2 hv hs => by rw [r1 _ (by omega), hj _ (by omega)]; exact n2 v e2 hv hs⟩
    refine y_iinc dX1_refresh_47 rfl (fun x2 e_x2 => ?_)
    obtain rfl : x2 = nI (p + 1) := by rw [e_x2]; exact nI_1 (p)
    refine y_goto 2 dX1_refresh_50 (by decide) ?_
    exact ih (p + 1) I3 _ g1 g3 (hf3.mos hM) (hf3.lo hL ho) (hf3.lg hL hG) (by rw [hf3.lt (by omega)]; exact h8) hu3 hn3 (fun I' ls p1 p2 p3 => k1 I' ls (hf3.tr p1) p2 p3)
theorem krefresh {d : Nat} {Pp : Option Value → xH → Prop} {K : Nat → Nat × Nat} {I : Nat → Nat → Int32} {P : Nat → Nat → Option Nat} {n s : Nat} {o L : Nat} {G : xX} {ord : List Nat} {lz : Bool} (hS : xSL K P o L (gC G)) (hw : ∀ m, m < 12 → wfM G m) (hM : xMos I G o) (ho : xLo I G L ord) (hG : xLg I G L ord) (h8 : I L 8 = bI lz) (hu : xSU I G o) (hp : ∀ I', xFs o I I' → xSU I' G o → xNew I' G o ord ord lz → Pp none (K, I', P, n, s)) : xC (d + 3) mX1_refresh [(.ref L)] (K, I, P, n, s) Pp := by
  refine y_met 0 0 ?_
  show xB (d + 3) 1 cX1_refresh none false (xE n s 0 0 Pp) 0 [some (.ref L), none, none] [] (K, I, P, n, s)
  refine y_iconst (v := 0) dX1_refresh_0 (by decide) ?_
  refine y_istore_n dX1_refresh_1 (by first | (simp; done) | (simp; decide)) (fun x1 e_x1 => ?_)
  subst e_x1
  exact krf_loop (d := d) hS hw ord 0 I _ (Nat.zero_le _) rfl hM ho hG h8 hu (fun m hm => by simp at hm) (fun I' ls p1 p2 p3 => y_retv dX1_refresh_53 rfl rfl (hp I' p1 p2 p3))
theorem ktb_in {d o L : Nat} {G : xX} {ord : List Nat} {Q : Option Value → xH → Prop} {K : Nat → Nat × Nat} {I : Nat → Nat → Int32} {P : Nat → Nat → Option Nat} {n s : Nat} (hS : xSL K P o L (gC G)) (hw : ∀ m, m < 12 → wfM G m) (hM : xMos I G o) (ho : xLo I G L ord) (hG : ord ≠ [] → xLg I G L ord) (hsl : ∀ m v, m ∈ ord → v < 64 → I (o + 59 + 13 * m + 11) v = -1 ∨ I (o + 59 + 13 * m + 11) v = 21 ∨ I (o + 59 + 13 * m + 11) v = oM (sFi G ord m (nI v))) {p q : Nat} (hqo : q ∈ ord) : ∀ (t v : Nat) (v4 : Option Value), v + t = 64 → (∀ x3 v4', xB (d + 2) 1 cX1_isTrulyBound (some .boolean) false Q 70 [some (.ref L), some (.int (nI p)), some (.int (nI q)), some (.int x3), v4'] [] (K, I, P, n, s)) → xB (d + 2) 1 cX1_isTrulyBound (some .boolean) false Q 19 [some (.ref L), some (.int (nI p)), some (.int (nI q)), some (.int (nI v)), v4] [] (K, I, P, n, s) := by
  have hc := hS.2.2.2.1
  have hq := ho.2.2.2.2.2 q hqo
  intro t
  induction t with
  | zero =>
    intro v v4 hv k1
    obtain rfl : v = 64 := by omega
    refine y_iload_n dX1_isTrulyBound_19 rfl ?_
    refine y_bipush (v := 64) dX1_isTrulyBound_20 (by decide) ?_
    refine y_icmpN_ge 70 (64) (64) dX1_isTrulyBound_22 (by decide) rfl rfl (by omega) (by omega) (fun _ => ?_) (fun c22 => absurd c22 (by omega))
    exact k1 _ _
  | succ t ih =>
    intro v v4 hv k1
    refine y_iload_n dX1_isTrulyBound_19 rfl ?_
    refine y_bipush (v := 64) dX1_isTrulyBound_20 (by decide) ?_
    refine y_icmpN_ge 70 (v) (64) dX1_isTrulyBound_22 (by decide) rfl rfl (by omega) (by omega) (fun c22 => absurd c22 (by omega)) (fun _ => ?_)
    refine y_aload_n dX1_isTrulyBound_25 rfl ?_
    refine y_getr 1 0 dX1_isTrulyBound_26 rfl rfl hS.1.1 hS.2.1 ?_
    refine y_iload_n dX1_isTrulyBound_29 rfl ?_
    refine y_aald (q) dX1_isTrulyBound_30 hS.2.2.1 rfl (by omega) (by omega) (hS.2.2.2.2.1 (q) hq).1 ?_
    refine y_getr 2 14 dX1_isTrulyBound_31 rfl rfl (hS.2.2.2.2.1 (q) hq).2.1 (r2_14 (hS.2.2.2.2.1 (q) hq).2) ?_
    refine y_iload_n dX1_isTrulyBound_34 rfl ?_
    refine y_ialdN (v) dX1_isTrulyBound_35 (k2_14 (hS.2.2.2.2.1 (q) hq).2) rfl (by omega) (by omega) rfl ?_
    refine y_istore dX1_isTrulyBound_36 (by first | (simp; done) | (simp; decide)) (fun x1 e_x1 => ?_)
    subst e_x1
    refine y_iload dX1_isTrulyBound_38 rfl ?_
    refine y_iconst (v := (-1)) dX1_isTrulyBound_40 (by decide) ?_
    refine y_icmp_eq 64 dX1_isTrulyBound_41 (by decide) (fun c41 => ?_) (fun c41 => ?_)
    · refine y_iinc dX1_isTrulyBound_64 rfl (fun x2 e_x2 => ?_)
      obtain rfl : x2 = nI (v + 1) := by rw [e_x2]; exact nI_1 (v)
      refine y_goto 19 dX1_isTrulyBound_67 (by decide) ?_
      exact ih (v + 1) _ (by omega) k1
    · refine y_iload dX1_isTrulyBound_44 rfl ?_
      refine y_bipush (v := 21) dX1_isTrulyBound_46 (by decide) ?_
      refine y_icmp_eq 64 dX1_isTrulyBound_48 (by decide) (fun c48 => ?_) (fun c48 => ?_)
      · refine y_iinc dX1_isTrulyBound_64 rfl (fun x3 e_x3 => ?_)
        obtain rfl : x3 = nI (v + 1) := by rw [e_x3]; exact nI_1 (v)
        refine y_goto 19 dX1_isTrulyBound_67 (by decide) ?_
        exact ih (v + 1) _ (by omega) k1
      · refine y_iload dX1_isTrulyBound_51 rfl ?_
        refine y_aload_n dX1_isTrulyBound_53 rfl ?_
        refine y_iload_n dX1_isTrulyBound_54 rfl ?_
        refine y_iload_n dX1_isTrulyBound_55 rfl ?_
        refine y_callV2 mX1_giverOf dX1_isTrulyBound_56 rfl rfl hS.1.1 (Nat.le_of_ble_eq_true rfl) (kgiverOf (d := d) (ord := ord) hS hM (hG (List.ne_nil_of_mem hqo)) hw hq (show v < 64 by omega) ?_)
        refine y_icmp_eq 64 dX1_isTrulyBound_59 (by decide) (fun _ => ?_) (fun c59 => absurd c59 (fun c => (hsl q v hqo (by omega)).elim c41 (fun c2 => c2.elim c48 c)))
        refine y_iinc dX1_isTrulyBound_64 rfl (fun x4 e_x4 => ?_)
        obtain rfl : x4 = nI (v + 1) := by rw [e_x4]; exact nI_1 (v)
        refine y_goto 19 dX1_isTrulyBound_67 (by decide) ?_
        exact ih (v + 1) _ (by omega) k1
theorem ktb_out {d o L : Nat} {G : xX} {ord : List Nat} {Q : Option Value → xH → Prop} {K : Nat → Nat × Nat} {I : Nat → Nat → Int32} {P : Nat → Nat → Option Nat} {n s : Nat} (hS : xSL K P o L (gC G)) (hw : ∀ m, m < 12 → wfM G m) (hM : xMos I G o) (ho : xLo I G L ord) (hG : ord ≠ [] → xLg I G L ord) (hsl : ∀ m v, m ∈ ord → v < 64 → I (o + 59 + 13 * m + 11) v = -1 ∨ I (o + 59 + 13 * m + 11) v = 21 ∨ I (o + 59 + 13 * m + 11) v = oM (sFi G ord m (nI v))) : ∀ (l : List Nat) (p : Nat) (v2 v3 v4 : Option Value), p ≤ ord.length → ord.drop p = l → (∀ ls, xB (d + 2) 1 cX1_isTrulyBound (some .boolean) false Q 76 ls [] (K, I, P, n, s)) → xB (d + 2) 1 cX1_isTrulyBound (some .boolean) false Q 2 [some (.ref L), some (.int (nI p)), v2, v3, v4] [] (K, I, P, n, s) := by
  have hc := hS.2.2.2.1
  have hol := okl_len ho.2.2.2.2
  intro l
  induction l with
  | nil =>
    intro p v2 v3 v4 hp hd k1
    have h1 := drop_nil hd
    refine y_iload_n dX1_isTrulyBound_2 rfl ?_
    refine y_aload_n dX1_isTrulyBound_3 rfl ?_
    refine y_getv 1 3 dX1_isTrulyBound_4 rfl rfl hS.1.1 ho.1 ?_
    refine y_icmpN_ge 76 (p) (ord.length) dX1_isTrulyBound_7 (by decide) rfl rfl (by omega) (by omega) (fun _ => ?_) (fun c7 => absurd c7 (by omega))
    exact k1 _
  | cons q r ih =>
    intro p v2 v3 v4 hp hd k1
    obtain ⟨g1, g2, g3⟩ := drop_get hd
    have hqo := List.mem_of_getElem? g2
    have hq := ho.2.2.2.2.2 q hqo
    refine y_iload_n dX1_isTrulyBound_2 rfl ?_
    refine y_aload_n dX1_isTrulyBound_3 rfl ?_
    refine y_getv 1 3 dX1_isTrulyBound_4 rfl rfl hS.1.1 ho.1 ?_
    refine y_icmpN_ge 76 (p) (ord.length) dX1_isTrulyBound_7 (by decide) rfl rfl (by omega) (by omega) (fun c7 => absurd c7 (by omega)) (fun _ => ?_)
    refine y_aload_n dX1_isTrulyBound_10 rfl ?_
    refine y_getr 1 1 dX1_isTrulyBound_11 rfl rfl hS.1.1 (r1_1 hS.1) ?_
    refine y_iload_n dX1_isTrulyBound_14 rfl ?_
    refine y_ialdN (p) dX1_isTrulyBound_15 (k1_1 hS.1) rfl (by omega) (by omega) (ho.2.1 p q g2) ?_
    refine y_istore_n dX1_isTrulyBound_16 (by first | (simp; done) | (simp; decide)) (fun x1 e_x1 => ?_)
    subst e_x1
    refine y_iconst (v := 0) dX1_isTrulyBound_17 (by decide) ?_
    refine y_istore_n dX1_isTrulyBound_18 (by first | (simp; done) | (simp; decide)) (fun x2 e_x2 => ?_)
    subst e_x2
    refine ktb_in hS hw hM ho hG hsl hqo 64 0 _ rfl (fun x3 v4' => ?_)
    refine y_iinc dX1_isTrulyBound_70 rfl (fun y e_y => ?_)
    obtain rfl : y = nI (p + 1) := by rw [e_y]; exact nI_1 p
    refine y_goto 2 dX1_isTrulyBound_73 (by decide) ?_
    exact ih (p + 1) _ _ _ g1 g3 k1
theorem kisTrulyBound {d : Nat} {Pp : Option Value → xH → Prop} {K : Nat → Nat × Nat} {I : Nat → Nat → Int32} {P : Nat → Nat → Option Nat} {n s : Nat} {o L : Nat} {G : xX} {ord : List Nat} (hS : xSL K P o L (gC G)) (hw : ∀ m, m < 12 → wfM G m) (hM : xMos I G o) (ho : xLo I G L ord) (hG : ord ≠ [] → xLg I G L ord) (hsl : ∀ m v, m ∈ ord → v < 64 → I (o + 59 + 13 * m + 11) v = -1 ∨ I (o + 59 + 13 * m + 11) v = 21 ∨ I (o + 59 + 13 * m + 11) v = oM (sFi G ord m (nI v))) (hp : Pp (some (.int 1)) (K, I, P, n, s)) : xC (d + 2) mX1_isTrulyBound [(.ref L)] (K, I, P, n, s) Pp := by
  refine y_met 0 0 ?_
  show xB (d + 2) 1 cX1_isTrulyBound (some .boolean) false (xE n s 0 0 Pp) 0 [some (.ref L), none, none, none, none] [] (K, I, P, n, s)
  refine y_iconst (v := 0) dX1_isTrulyBound_0 (by decide) ?_
  refine y_istore_n dX1_isTrulyBound_1 (by first | (simp; done) | (simp; decide)) (fun x1 e_x1 => ?_)
  subst e_x1
  refine ktb_out (d := d) hS hw hM ho hG hsl ord 0 _ _ _ (Nat.zero_le _) rfl (fun ls => ?_)
  refine y_iconst (v := 1) dX1_isTrulyBound_76 (by decide) ?_
  exact y_retz dX1_isTrulyBound_77 rfl rfl (Or.inr rfl) hp
theorem kaddressOf {d : Nat} {Pp : Option Value → xH → Prop} {K : Nat → Nat × Nat} {I : Nat → Nat → Int32} {P : Nat → Nat → Option Nat} {n s : Nat} {o L m v : Nat} {G : xX} {ord : List Nat} (hS : xSL K P o L (gC G)) (hM : xMos I G o) (hw : ∀ m, m < 12 → wfM G m) (ho : xLo I G L ord) (hG : xLg I G L ord) (hm : m ∈ ord) (hv : v < 64) (hp : Pp (some (.int (rAd G ord (sFi G ord m (nI v))))) (K, I, P, n, s)) : xC (d + 2) mX1_addressOf [(.ref L), (.int (nI m)), (.int (nI v))] (K, I, P, n, s) Pp := by
  refine y_met 0 0 ?_
  show xB (d + 2) 1 cX1_addressOf (some .int) false (xE n s 0 0 Pp) 0 [some (.ref L), some (.int (nI m)), some (.int (nI v)), none] [] (K, I, P, n, s)
  have hc := hS.2.2.2.1
  have ho12 : ∀ q ∈ ord, q < 12 := fun q hq => by have := ho.2.2.2.2.2 q hq; omega
  have hmc := ho.2.2.2.2.2 m hm
  refine y_aload_n dX1_addressOf_0 rfl ?_
  refine y_iload_n dX1_addressOf_1 rfl ?_
  refine y_iload_n dX1_addressOf_2 rfl ?_
  refine y_callV2 mX1_giverOf dX1_addressOf_3 rfl rfl hS.1.1 (Nat.le_of_ble_eq_true rfl) (kgiverOf (d := d) hS hM hG hw hmc hv ?_)
  refine y_istore_n dX1_addressOf_6 (by first | (simp; done) | (simp; decide)) (fun x3 e_x3 => ?_)
  cases hf : sFi G ord m (nI v) with
  | none =>
    rw [hf] at hp e_x3
    obtain rfl : x3 = 20 := e_x3
    refine y_aload_n dX1_addressOf_7 rfl ?_
    refine y_iload_n dX1_addressOf_8 rfl ?_
    refine y_callV1 mX1_holds dX1_addressOf_9 rfl rfl hS.1.1 (Nat.le_of_ble_eq_true rfl) (kholds (d := d + 1) hS.1 ho hc (fun q hq e => absurd e (fun e => by have := ho12 q hq; have := nI_inj (by decide) (by omega) (show nI 20 = nI q from e); omega)) (fun _ => ?_))
    refine y_if_eq 42 dX1_addressOf_12 (by decide) (fun _ => ?_) (fun q => absurd q (by decide))
    refine y_iconst (v := 0) dX1_addressOf_42 (by decide) ?_
    exact y_ret dX1_addressOf_43 rfl rfl hp
  | some e =>
    rw [hf] at hp e_x3
    obtain ⟨q, hq, hs, hqe⟩ := sFi_4 hw ho12 hm hf
    rw [hqe] at e_x3
    subst e_x3
    have hqc := ho.2.2.2.2.2 q hq
    obtain ⟨p, hp1, hp2⟩ := List.getElem_of_mem hq
    have hpp : ord[p]? = some q := by rw [List.getElem?_eq_getElem hp1, hp2]
    have he20 : e / 20 = q := nI_inj (by have := (sOf_lt (hw q (ho12 q hq)).2.2.1.2 (ho12 q hq) hs).1; omega) (by have := ho12 q hq; omega) hqe
    have hpl : sPlc (nI (e / 20)) ord 0 = some p := by
      rw [he20]
      cases hsp : sPlc (nI q) ord 0 with
      | none => exact absurd rfl (sPlc_none hsp q hq)
      | some p2 =>
        obtain ⟨m2, j, e1, e2, e3⟩ := sPlc_some hsp
        have hm2 : m2 = q := nI_inj (by have := ho12 m2 (List.mem_of_getElem? e2); omega) (by have := ho12 q hq; omega) e3.symm
        subst hm2
        have hjl := (List.getElem?_eq_some_iff.mp e2).1
        rw [show p2 = j by omega]
        exact congrArg some ((List.getElem?_inj hjl ho.2.2.2.2.1).mp (e2.trans hpp.symm))
    have hr : rAd G ord (some e) = 1000 * (nI p + 1) + G 5 e := by unfold rAd; simp only; rw [hpl]; rfl
    rw [hr] at hp
    refine y_aload_n dX1_addressOf_7 rfl ?_
    refine y_iload_n dX1_addressOf_8 rfl ?_
    refine y_callV1 mX1_holds dX1_addressOf_9 rfl rfl hS.1.1 (Nat.le_of_ble_eq_true rfl) (kholds (d := d + 1) hS.1 ho hc (fun _ _ _ => ?_) (fun hn => absurd rfl (hn q hq)))
    refine y_if_eq 42 dX1_addressOf_12 (by decide) (fun q => absurd q (by decide)) (fun _ => ?_)
    refine y_sipush (v := 1000) dX1_addressOf_15 (by decide) ?_
    refine y_aload_n dX1_addressOf_18 rfl ?_
    refine y_getr 1 2 dX1_addressOf_19 rfl rfl hS.1.1 (r1_2 hS.1) ?_
    refine y_iload_n dX1_addressOf_22 rfl ?_
    refine y_ialdN (q) dX1_addressOf_23 (k1_2 hS.1) rfl (by omega) (by omega) (ho.2.2.1 p q hpp) ?_
    refine y_iconst (v := 1) dX1_addressOf_24 (by decide) ?_
    refine y_iadd dX1_addressOf_25 ?_
    refine y_imul dX1_addressOf_26 ?_
    refine y_aload_n dX1_addressOf_27 rfl ?_
    refine y_getr 1 0 dX1_addressOf_28 rfl rfl hS.1.1 hS.2.1 ?_
    refine y_iload_n dX1_addressOf_31 rfl ?_
    refine y_aald (q) dX1_addressOf_32 hS.2.2.1 rfl (by omega) (by omega) (hS.2.2.2.2.1 (q) hqc).1 ?_
    refine y_getr 2 3 dX1_addressOf_33 rfl rfl (hS.2.2.2.2.1 (q) hqc).2.1 (r2_3 (hS.2.2.2.2.1 (q) hqc).2) ?_
    refine y_iload_n dX1_addressOf_36 rfl ?_
    refine y_ialdN (v) dX1_addressOf_37 (k2_3 (hS.2.2.2.2.1 (q) hqc).2) rfl (by omega) (by omega) ((hM q hqc).k1 v e hv hs).2.1 ?_
    refine y_iadd dX1_addressOf_38 ?_
    refine y_goto 43 dX1_addressOf_39 (by decide) ?_
    exact y_ret dX1_addressOf_43 rfl rfl hp
