/-! the module at q says what module m of the other memory G says -/
def xMo (I : Nat → Nat → Int32) (G : xX) (q m : Nat) : Prop :=
  (I q 1 = G 2 m) ∧ (∀ k, k < gN G m → I (q + 1) k = G 1 (6 * m + k)) ∧ (∀ v, v < 64 → sOf G m (nI v) = none → I (q + 2) v = -1) ∧ (∀ v e, v < 64 → sOf G m (nI v) = some e → I (q + 2) v = G 4 e ∧ I (q + 3) v = G 5 e ∧ I (q + 4) v = G 6 e) ∧ (I q 5 = G 7 m) ∧ (∀ t j, t < 100 → j < gF G m → G 4 (20 * m + j) = 0 → G 5 (20 * m + j) = nI t → I (q + 5) t = 1) ∧ (∀ t, t < 100 → (∀ j, j < gF G m → G 4 (20 * m + j) = 0 → G 5 (20 * m + j) ≠ nI t) → I (q + 5) t = 0) ∧ (∀ v, v < 64 → I (q + 6) v = G 10 (64 * m + v)) ∧ (I q 8 = G 11 m) ∧ (I q 13 = G 9 m) ∧ (∀ k, k < gS G m → I (q + 7) k = sOp G m k ∧ I (q + 8) k = sAr G m k 1 ∧ I (q + 9) k = sAr G m k 2 ∧ I (q + 10) k = sAr G m k 3)
theorem xMo.n {I : Nat → Nat → Int32} {G : xX} {q m : Nat} (h : xMo I G q m) : I q 1 = G 2 m := h.1
theorem xMo.d {I : Nat → Nat → Int32} {G : xX} {q m : Nat} (h : xMo I G q m) : ∀ k, k < gN G m → I (q + 1) k = G 1 (6 * m + k) := h.2.1
theorem xMo.k0 {I : Nat → Nat → Int32} {G : xX} {q m : Nat} (h : xMo I G q m) : ∀ v, v < 64 → sOf G m (nI v) = none → I (q + 2) v = -1 := h.2.2.1
theorem xMo.k1 {I : Nat → Nat → Int32} {G : xX} {q m : Nat} (h : xMo I G q m) : ∀ v e, v < 64 → sOf G m (nI v) = some e → I (q + 2) v = G 4 e ∧ I (q + 3) v = G 5 e ∧ I (q + 4) v = G 6 e := h.2.2.2.1
theorem xMo.f {I : Nat → Nat → Int32} {G : xX} {q m : Nat} (h : xMo I G q m) : I q 5 = G 7 m := h.2.2.2.2.1
theorem xMo.a1 {I : Nat → Nat → Int32} {G : xX} {q m : Nat} (h : xMo I G q m) : ∀ t j, t < 100 → j < gF G m → G 4 (20 * m + j) = 0 → G 5 (20 * m + j) = nI t → I (q + 5) t = 1 := h.2.2.2.2.2.1
theorem xMo.a0 {I : Nat → Nat → Int32} {G : xX} {q m : Nat} (h : xMo I G q m) : ∀ t, t < 100 → (∀ j, j < gF G m → G 4 (20 * m + j) = 0 → G 5 (20 * m + j) ≠ nI t) → I (q + 5) t = 0 := h.2.2.2.2.2.2.1
theorem xMo.op {I : Nat → Nat → Int32} {G : xX} {q m : Nat} (h : xMo I G q m) : ∀ v, v < 64 → I (q + 6) v = G 10 (64 * m + v) := h.2.2.2.2.2.2.2.1
theorem xMo.b {I : Nat → Nat → Int32} {G : xX} {q m : Nat} (h : xMo I G q m) : I q 8 = G 11 m := h.2.2.2.2.2.2.2.2.1
theorem xMo.s {I : Nat → Nat → Int32} {G : xX} {q m : Nat} (h : xMo I G q m) : I q 13 = G 9 m := h.2.2.2.2.2.2.2.2.2.1
theorem xMo.st {I : Nat → Nat → Int32} {G : xX} {q m : Nat} (h : xMo I G q m) : ∀ k, k < gS G m → I (q + 7) k = sOp G m k ∧ I (q + 8) k = sAr G m k 1 ∧ I (q + 9) k = sAr G m k 2 ∧ I (q + 10) k = sAr G m k 3 := h.2.2.2.2.2.2.2.2.2.2
theorem xMo.fr {I I' : Nat → Nat → Int32} {G : xX} {q m : Nat} (h : xMo I G q m) (f : ∀ i, i ≤ 10 → I' (q + i) = I (q + i)) : xMo I' G q m := by
  unfold xMo at h ⊢
  rw [show I' q = I q from f 0 (by omega), f 1 (by omega), f 2 (by omega), f 3 (by omega), f 4 (by omega), f 5 (by omega), f 6 (by omega), f 7 (by omega), f 8 (by omega), f 9 (by omega), f 10 (by omega)]
  exact h
/-- every module that there is -/
def xMos (I : Nat → Nat → Int32) (G : xX) (o : Nat) : Prop := ∀ m, m < gC G → xMo I G (o + 59 + 13 * m) m
theorem xMos.fr {I I' : Nat → Nat → Int32} {G : xX} {o : Nat} (h : xMos I G o) (f : ∀ m i, m < gC G → i ≤ 10 → I' (o + 59 + 13 * m + i) = I (o + 59 + 13 * m + i)) : xMos I' G o := fun m hm => (h m hm).fr (fun i hi => f m i hm hi)
/-- a layout, the row of modules, and the modules, in their places -/
def xSL (K : Nat → Nat × Nat) (P : Nat → Nat → Option Nat) (o L c : Nat) : Prop := xAt K P L 1 ∧ P L 0 = some (o + 22) ∧ K (o + 22) = (102, 12) ∧ c ≤ 12 ∧ (∀ m, m < c → P (o + 22) m = some (o + 59 + 13 * m) ∧ xAt K P (o + 59 + 13 * m) 2) ∧ (L = o + 23 ∨ L = o + 29)
/-- the order in a layout -/
def xLo (I : Nat → Nat → Int32) (G : xX) (L : Nat) (ord : List Nat) : Prop := I L 3 = nI ord.length ∧ xHl I (L + 1) ord ∧ (∀ p m : Nat, ord[p]? = some m → I (L + 2) m = nI p) ∧ (∀ m, m < 12 → m ∉ ord → I (L + 2) m = -1) ∧ okl (gC G) ord
/-- who gives each name to all -/
def xLg (I : Nat → Nat → Int32) (G : xX) (L : Nat) (ord : List Nat) : Prop := ∀ v, v < 64 → I (L + 5) v = oM (sAm G (nI v) ord none)
def xLb (I : Nat → Nat → Int32) (L : Nat) (beg : List Nat) : Prop := I L 6 = nI beg.length ∧ xHl I (L + 3) beg
theorem xLo.fr {I I' : Nat → Nat → Int32} {G : xX} {L : Nat} {ord : List Nat} (h : xLo I G L ord) (f0 : I' L 3 = I L 3) (f1 : I' (L + 1) = I (L + 1)) (f2 : I' (L + 2) = I (L + 2)) : xLo I' G L ord := by
  unfold xLo xHl at h ⊢
  rw [f0, f1, f2]
  exact h
theorem sOf_4 {G : xX} {m e : Nat} {x : Int32} (hw : wfM G m) (h : sOf G m x = some e) : G 4 e = 0 ∨ G 4 e = 1 := by
  obtain ⟨j, j1, j2, -⟩ := sOf_some h
  subst j2
  exact (hw.2.2.2.1 j j1).2.1
theorem sOf_4n {G : xX} {m e : Nat} {x : Int32} (hw : wfM G m) (h : sOf G m x = some e) : G 4 e ≠ -1 := by
  rcases sOf_4 hw h with q | q <;> rw [q] <;> decide
theorem kkeepsToItself {d : Nat} {Pp : Option Value → xH → Prop} {K : Nat → Nat × Nat} {I : Nat → Nat → Int32} {P : Nat → Nat → Option Nat} {n s : Nat} {q m v : Nat} {G : xX} (hq : xAt K P q 2) (hm : xMo I G q m) (hw : wfM G m) (hv : v < 64) (h1 : ∀ e, sOf G m (nI v) = some e → G 6 e &&& 6 ≠ 0 → Pp (some (.int 1)) (K, I, P, n, s)) (h0 : (∀ e, sOf G m (nI v) = some e → G 6 e &&& 6 = 0) → Pp (some (.int 0)) (K, I, P, n, s)) : xC d mX2_keepsToItself [(.ref q), (.int (nI v))] (K, I, P, n, s) Pp := by
  refine y_met 0 0 ?_
  show xB d 2 cX2_keepsToItself (some .boolean) false (xE n s 0 0 Pp) 0 [some (.ref q), some (.int (nI v))] [] (K, I, P, n, s)
  cases hs : sOf G m (nI v) with
  | none =>
    refine y_aload_n dX2_keepsToItself_0 rfl ?_
    refine y_getr 2 2 dX2_keepsToItself_1 rfl rfl hq.1 (r2_2 hq) ?_
    refine y_iload_n dX2_keepsToItself_4 rfl ?_
    refine y_ialdN (v) dX2_keepsToItself_5 (k2_2 hq) rfl (by omega) (by omega) (hm.k0 v hv hs) ?_
    refine y_iconst (v := (-1)) dX2_keepsToItself_6 (by decide) ?_
    refine y_icmp_eq 26 dX2_keepsToItself_7 (by decide) (fun _ => ?_) (fun q => absurd q (by decide))
    refine y_iconst (v := 0) dX2_keepsToItself_26 (by decide) ?_
    exact y_retz dX2_keepsToItself_27 rfl rfl (Or.inl rfl) (h0 (fun e2 he2 => by rw [hs] at he2; cases he2))
  | some e =>
    have hk := hm.k1 v e hv hs
    refine y_aload_n dX2_keepsToItself_0 rfl ?_
    refine y_getr 2 2 dX2_keepsToItself_1 rfl rfl hq.1 (r2_2 hq) ?_
    refine y_iload_n dX2_keepsToItself_4 rfl ?_
    refine y_ialdN (v) dX2_keepsToItself_5 (k2_2 hq) rfl (by omega) (by omega) hk.1 ?_
    refine y_iconst (v := (-1)) dX2_keepsToItself_6 (by decide) ?_
    refine y_icmp_eq 26 dX2_keepsToItself_7 (by decide) (fun c7 => absurd c7 (sOf_4n hw hs)) (fun _ => ?_)
    refine y_aload_n dX2_keepsToItself_10 rfl ?_
    refine y_getr 2 4 dX2_keepsToItself_11 rfl rfl hq.1 (r2_4 hq) ?_
    refine y_iload_n dX2_keepsToItself_14 rfl ?_
    refine y_ialdN (v) dX2_keepsToItself_15 (k2_4 hq) rfl (by omega) (by omega) hk.2.2 ?_
    refine y_bipush (v := 6) dX2_keepsToItself_16 (by decide) ?_
    refine y_iand dX2_keepsToItself_18 ?_
    refine y_if_eq 26 dX2_keepsToItself_19 (by decide) (fun c19 => ?_) (fun c19 => ?_)
    · refine y_iconst (v := 0) dX2_keepsToItself_26 (by decide) ?_
      exact y_retz dX2_keepsToItself_27 rfl rfl (Or.inl rfl) (h0 (fun e2 he2 => by rw [hs] at he2; cases he2; exact c19))
    · refine y_iconst (v := 1) dX2_keepsToItself_22 (by decide) ?_
      refine y_goto 27 dX2_keepsToItself_23 (by decide) ?_
      exact y_retz dX2_keepsToItself_27 rfl rfl (Or.inr rfl) (h1 e hs c19)
theorem koffers {d : Nat} {Pp : Option Value → xH → Prop} {K : Nat → Nat × Nat} {I : Nat → Nat → Int32} {P : Nat → Nat → Option Nat} {n s : Nat} {q m v : Nat} {G : xX} (hq : xAt K P q 2) (hm : xMo I G q m) (hw : wfM G m) (hv : v < 64) (h1 : ∀ e, sOf G m (nI v) = some e → G 6 e &&& 4 = 0 → Pp (some (.int 1)) (K, I, P, n, s)) (h0 : (∀ e, sOf G m (nI v) = some e → G 6 e &&& 4 ≠ 0) → Pp (some (.int 0)) (K, I, P, n, s)) : xC d mX2_offers [(.ref q), (.int (nI v))] (K, I, P, n, s) Pp := by
  refine y_met 0 0 ?_
  show xB d 2 cX2_offers (some .boolean) false (xE n s 0 0 Pp) 0 [some (.ref q), some (.int (nI v))] [] (K, I, P, n, s)
  cases hs : sOf G m (nI v) with
  | none =>
    refine y_aload_n dX2_offers_0 rfl ?_
    refine y_getr 2 2 dX2_offers_1 rfl rfl hq.1 (r2_2 hq) ?_
    refine y_iload_n dX2_offers_4 rfl ?_
    refine y_ialdN (v) dX2_offers_5 (k2_2 hq) rfl (by omega) (by omega) (hm.k0 v hv hs) ?_
    refine y_iconst (v := (-1)) dX2_offers_6 (by decide) ?_
    refine y_icmp_eq 25 dX2_offers_7 (by decide) (fun _ => ?_) (fun q => absurd q (by decide))
    refine y_iconst (v := 0) dX2_offers_25 (by decide) ?_
    exact y_retz dX2_offers_26 rfl rfl (Or.inl rfl) (h0 (fun e2 he2 => by rw [hs] at he2; cases he2))
  | some e =>
    have hk := hm.k1 v e hv hs
    refine y_aload_n dX2_offers_0 rfl ?_
    refine y_getr 2 2 dX2_offers_1 rfl rfl hq.1 (r2_2 hq) ?_
    refine y_iload_n dX2_offers_4 rfl ?_
    refine y_ialdN (v) dX2_offers_5 (k2_2 hq) rfl (by omega) (by omega) hk.1 ?_
    refine y_iconst (v := (-1)) dX2_offers_6 (by decide) ?_
    refine y_icmp_eq 25 dX2_offers_7 (by decide) (fun c7 => absurd c7 (sOf_4n hw hs)) (fun _ => ?_)
    refine y_aload_n dX2_offers_10 rfl ?_
    refine y_getr 2 4 dX2_offers_11 rfl rfl hq.1 (r2_4 hq) ?_
    refine y_iload_n dX2_offers_14 rfl ?_
    refine y_ialdN (v) dX2_offers_15 (k2_4 hq) rfl (by omega) (by omega) hk.2.2 ?_
    refine y_iconst (v := 4) dX2_offers_16 (by decide) ?_
    refine y_iand dX2_offers_17 ?_
    refine y_if_ne 25 dX2_offers_18 (by decide) (fun c18 => ?_) (fun c18 => ?_)
    · refine y_iconst (v := 0) dX2_offers_25 (by decide) ?_
      exact y_retz dX2_offers_26 rfl rfl (Or.inl rfl) (h0 (fun e2 he2 => by rw [hs] at he2; cases he2; exact c18))
    · refine y_iconst (v := 1) dX2_offers_21 (by decide) ?_
      refine y_goto 26 dX2_offers_22 (by decide) ?_
      exact y_retz dX2_offers_26 rfl rfl (Or.inr rfl) (h1 e hs c18)
theorem kisWeak {d : Nat} {Pp : Option Value → xH → Prop} {K : Nat → Nat × Nat} {I : Nat → Nat → Int32} {P : Nat → Nat → Option Nat} {n s : Nat} {q m v e : Nat} {G : xX} (hq : xAt K P q 2) (hm : xMo I G q m) (hv : v < 64) (hs : sOf G m (nI v) = some e) (h1 : G 6 e &&& 1 ≠ 0 → Pp (some (.int 1)) (K, I, P, n, s)) (h0 : G 6 e &&& 1 = 0 → Pp (some (.int 0)) (K, I, P, n, s)) : xC d mX2_isWeak [(.ref q), (.int (nI v))] (K, I, P, n, s) Pp := by
  refine y_met 0 0 ?_
  show xB d 2 cX2_isWeak (some .boolean) false (xE n s 0 0 Pp) 0 [some (.ref q), some (.int (nI v))] [] (K, I, P, n, s)
  have hk := hm.k1 v e hv hs
  refine y_aload_n dX2_isWeak_0 rfl ?_
  refine y_getr 2 4 dX2_isWeak_1 rfl rfl hq.1 (r2_4 hq) ?_
  refine y_iload_n dX2_isWeak_4 rfl ?_
  refine y_ialdN (v) dX2_isWeak_5 (k2_4 hq) rfl (by omega) (by omega) hk.2.2 ?_
  refine y_iconst (v := 1) dX2_isWeak_6 (by decide) ?_
  refine y_iand dX2_isWeak_7 ?_
  refine y_if_eq 15 dX2_isWeak_8 (by decide) (fun c8 => ?_) (fun c8 => ?_)
  · refine y_iconst (v := 0) dX2_isWeak_15 (by decide) ?_
    exact y_retz dX2_isWeak_16 rfl rfl (Or.inl rfl) (h0 c8)
  · refine y_iconst (v := 1) dX2_isWeak_11 (by decide) ?_
    refine y_goto 16 dX2_isWeak_12 (by decide) ?_
    exact y_retz dX2_isWeak_16 rfl rfl (Or.inr rfl) (h1 c8)
theorem knameUsedAt {d : Nat} {Pp : Option Value → xH → Prop} {K : Nat → Nat × Nat} {I : Nat → Nat → Int32} {P : Nat → Nat → Option Nat} {n s : Nat} {q m k : Nat} {G : xX} (hq : xAt K P q 2) (hm : xMo I G q m) (hk : k < gS G m) (hk2 : gS G m ≤ 100) (h1 : 6 < (sOp G m k).toInt → (sOp G m k).toInt < 11 → Pp (some (.int (sNm G m k))) (K, I, P, n, s)) (h0 : ¬ (6 < (sOp G m k).toInt ∧ (sOp G m k).toInt < 11) → Pp (some (.int (-1))) (K, I, P, n, s)) : xC d mX2_nameUsedAt [(.ref q), (.int (nI k))] (K, I, P, n, s) Pp := by
  refine y_met 0 0 ?_
  show xB d 2 cX2_nameUsedAt (some .int) false (xE n s 0 0 Pp) 0 [some (.ref q), some (.int (nI k))] [] (K, I, P, n, s)
  obtain ⟨s1, s2, s3, s4⟩ := hm.st k hk
  refine y_aload_n dX2_nameUsedAt_0 rfl ?_
  refine y_getr 2 9 dX2_nameUsedAt_1 rfl rfl hq.1 (r2_9 hq) ?_
  refine y_iload_n dX2_nameUsedAt_4 rfl ?_
  refine y_ialdN (k) dX2_nameUsedAt_5 (k2_9 hq) rfl (by omega) (by omega) s1 ?_
  refine y_tsw dX2_nameUsedAt_6 (fun c6 => ⟨50, by decide, ?_⟩) (fun c6a c6b => ?_)
  · refine y_iconst (v := (-1)) dX2_nameUsedAt_50 (by decide) ?_
    exact y_ret dX2_nameUsedAt_51 rfl rfl (h0 (by omega))
  · have c6c : (sOp G m k).toInt = 7 ∨ (sOp G m k).toInt = 8 ∨ (sOp G m k).toInt = 9 ∨ (sOp G m k).toInt = 10 := by omega
    rcases c6c with e6 | e6 | e6 | e6
    · refine ⟨30, 36, by rw [e6]; rfl, by decide, ?_⟩
      refine y_aload_n dX2_nameUsedAt_36 rfl ?_
      refine y_getr 2 10 dX2_nameUsedAt_37 rfl rfl hq.1 (r2_10 hq) ?_
      refine y_iload_n dX2_nameUsedAt_40 rfl ?_
      refine y_ialdN (k) dX2_nameUsedAt_41 (k2_10 hq) rfl (by omega) (by omega) s2 ?_
      have h2 := h1 (by omega) (by omega)
      unfold sNm at h2
      rw [if_pos (Or.inl (z_eq e6 rfl))] at h2
      exact y_ret dX2_nameUsedAt_42 rfl rfl h2
    · refine ⟨37, 43, by rw [e6]; rfl, by decide, ?_⟩
      refine y_aload_n dX2_nameUsedAt_43 rfl ?_
      refine y_getr 2 11 dX2_nameUsedAt_44 rfl rfl hq.1 (r2_11 hq) ?_
      refine y_iload_n dX2_nameUsedAt_47 rfl ?_
      refine y_ialdN (k) dX2_nameUsedAt_48 (k2_11 hq) rfl (by omega) (by omega) s3 ?_
      have h2 := h1 (by omega) (by omega)
      unfold sNm at h2
      rw [if_neg (fun c => c.elim (fun c => absurd (congrArg Int32.toInt c) (by rw [e6]; decide)) (fun c => absurd (congrArg Int32.toInt c) (by rw [e6]; decide)))] at h2
      exact y_ret dX2_nameUsedAt_49 rfl rfl h2
    · refine ⟨30, 36, by rw [e6]; rfl, by decide, ?_⟩
      refine y_aload_n dX2_nameUsedAt_36 rfl ?_
      refine y_getr 2 10 dX2_nameUsedAt_37 rfl rfl hq.1 (r2_10 hq) ?_
      refine y_iload_n dX2_nameUsedAt_40 rfl ?_
      refine y_ialdN (k) dX2_nameUsedAt_41 (k2_10 hq) rfl (by omega) (by omega) s2 ?_
      have h2 := h1 (by omega) (by omega)
      unfold sNm at h2
      rw [if_pos (Or.inr (z_eq e6 rfl))] at h2
      exact y_ret dX2_nameUsedAt_42 rfl rfl h2
    · refine ⟨37, 43, by rw [e6]; rfl, by decide, ?_⟩
      refine y_aload_n dX2_nameUsedAt_43 rfl ?_
      refine y_getr 2 11 dX2_nameUsedAt_44 rfl rfl hq.1 (r2_11 hq) ?_
      refine y_iload_n dX2_nameUsedAt_47 rfl ?_
      refine y_ialdN (k) dX2_nameUsedAt_48 (k2_11 hq) rfl (by omega) (by omega) s3 ?_
      have h2 := h1 (by omega) (by omega)
      unfold sNm at h2
      rw [if_neg (fun c => c.elim (fun c => absurd (congrArg Int32.toInt c) (by rw [e6]; decide)) (fun c => absurd (congrArg Int32.toInt c) (by rw [e6]; decide)))] at h2
      exact y_ret dX2_nameUsedAt_49 rfl rfl h2
theorem kkindWantedAt {d : Nat} {Pp : Option Value → xH → Prop} {K : Nat → Nat × Nat} {I : Nat → Nat → Int32} {P : Nat → Nat → Option Nat} {n s : Nat} {q m k : Nat} {G : xX} (hq : xAt K P q 2) (hm : xMo I G q m) (hk : k < gS G m) (hk2 : gS G m ≤ 100) (h1 : (sOp G m k = 8 ∨ sOp G m k = 9) → Pp (some (.int 1)) (K, I, P, n, s)) (h0 : ¬ (sOp G m k = 8 ∨ sOp G m k = 9) → Pp (some (.int 0)) (K, I, P, n, s)) : xC d mX2_kindWantedAt [(.ref q), (.int (nI k))] (K, I, P, n, s) Pp := by
  refine y_met 0 0 ?_
  show xB d 2 cX2_kindWantedAt (some .int) false (xE n s 0 0 Pp) 0 [some (.ref q), some (.int (nI k))] [] (K, I, P, n, s)
  obtain ⟨s1, s2, s3, s4⟩ := hm.st k hk
  refine y_aload_n dX2_kindWantedAt_0 rfl ?_
  refine y_getr 2 9 dX2_kindWantedAt_1 rfl rfl hq.1 (r2_9 hq) ?_
  refine y_iload_n dX2_kindWantedAt_4 rfl ?_
  refine y_ialdN (k) dX2_kindWantedAt_5 (k2_9 hq) rfl (by omega) (by omega) s1 ?_
  refine y_bipush (v := 8) dX2_kindWantedAt_6 (by decide) ?_
  refine y_icmp_eq 22 dX2_kindWantedAt_8 (by decide) (fun c8 => ?_) (fun c8 => ?_)
  · refine y_iconst (v := 1) dX2_kindWantedAt_22 (by decide) ?_
    refine y_goto 27 dX2_kindWantedAt_23 (by decide) ?_
    exact y_ret dX2_kindWantedAt_27 rfl rfl (h1 (Or.inl c8))
  · refine y_aload_n dX2_kindWantedAt_11 rfl ?_
    refine y_getr 2 9 dX2_kindWantedAt_12 rfl rfl hq.1 (r2_9 hq) ?_
    refine y_iload_n dX2_kindWantedAt_15 rfl ?_
    refine y_ialdN (k) dX2_kindWantedAt_16 (k2_9 hq) rfl (by omega) (by omega) s1 ?_
    refine y_bipush (v := 9) dX2_kindWantedAt_17 (by decide) ?_
    refine y_icmp_ne 26 dX2_kindWantedAt_19 (by decide) (fun c19 => ?_) (fun c19 => ?_)
    · refine y_iconst (v := 0) dX2_kindWantedAt_26 (by decide) ?_
      exact y_ret dX2_kindWantedAt_27 rfl rfl (h0 (fun c => c.elim c8 c19))
    · refine y_iconst (v := 1) dX2_kindWantedAt_22 (by decide) ?_
      refine y_goto 27 dX2_kindWantedAt_23 (by decide) ?_
      exact y_ret dX2_kindWantedAt_27 rfl rfl (h1 (Or.inr c19))
theorem kholds {d : Nat} {Pp : Option Value → xH → Prop} {K : Nat → Nat × Nat} {I : Nat → Nat → Int32} {P : Nat → Nat → Option Nat} {n s : Nat} {L : Nat} {G : xX} {ord : List Nat} {x : Int32} (hL : xAt K P L 1) (ho : xLo I G L ord) (hg : gC G ≤ 12) (h1 : ∀ m, m ∈ ord → x = nI m → Pp (some (.int 1)) (K, I, P, n, s)) (h0 : (∀ m ∈ ord, x ≠ nI m) → Pp (some (.int 0)) (K, I, P, n, s)) : xC d mX1_holds [(.ref L), (.int x)] (K, I, P, n, s) Pp := by
  refine y_met 0 0 ?_
  show xB d 1 cX1_holds (some .boolean) false (xE n s 0 0 Pp) 0 [some (.ref L), some (.int x)] [] (K, I, P, n, s)
  obtain ⟨o1, o2, o3, o4, o5⟩ := ho
  have o6 : ∀ m ∈ ord, m < 12 := fun m hm => by have := o5.2 m hm; omega
  refine y_iload_n dX1_holds_0 rfl ?_
  refine y_ifZ_lt 24 (x.toInt) dX1_holds_1 (by decide) rfl (fun c1 => ?_) (fun c1 => ?_)
  · refine y_iconst (v := 0) dX1_holds_24 (by decide) ?_
    exact y_retz dX1_holds_25 rfl rfl (Or.inl rfl) (h0 (fun m hm e => absurd c1 (by rw [e, nI_toInt (by have := o6 m hm; omega)]; omega)))
  · refine y_iload_n dX1_holds_4 rfl ?_
    refine y_bipush (v := 12) dX1_holds_5 (by decide) ?_
    refine y_icmpZ_ge 24 (x.toInt) (12) dX1_holds_7 (by decide) rfl rfl (fun c7 => ?_) (fun c7 => ?_)
    · refine y_iconst (v := 0) dX1_holds_24 (by decide) ?_
      exact y_retz dX1_holds_25 rfl rfl (Or.inl rfl) (h0 (fun m hm e => absurd c7 (by have := o6 m hm; rw [e, nI_toInt (by omega)]; omega)))
    · obtain ⟨j, hj12, rfl⟩ := zof (M := 12) c1 c7
      refine y_aload_n dX1_holds_10 rfl ?_
      refine y_getr 1 2 dX1_holds_11 rfl rfl hL.1 (r1_2 hL) ?_
      refine y_iload_n dX1_holds_14 rfl ?_
      refine y_ialdN (j) dX1_holds_15 (k1_2 hL) rfl (by omega) (by omega) rfl ?_
      refine y_iconst (v := (-1)) dX1_holds_16 (by decide) ?_
      refine y_icmp_eq 24 dX1_holds_17 (by decide) (fun c17 => ?_) (fun c17 => ?_)
      · refine y_iconst (v := 0) dX1_holds_24 (by decide) ?_
        exact y_retz dX1_holds_25 rfl rfl (Or.inl rfl) (h0 (fun m hm e => by obtain ⟨p, hp, e2⟩ := List.getElem_of_mem hm; have := o3 p m (by rw [List.getElem?_eq_getElem hp, e2]); rw [← nI_inj (by omega) (by have := o6 m hm; omega) e, c17] at this; exact nI_m1 (by have := okl_len o5; omega) this.symm))
      · refine y_iconst (v := 1) dX1_holds_20 (by decide) ?_
        refine y_goto 25 dX1_holds_21 (by decide) ?_
        have hj : j ∈ ord := Classical.byContradiction (fun q => c17 (o4 j hj12 q))
        exact y_retz dX1_holds_25 rfl rfl (Or.inr rfl) (h1 j hj rfl)
theorem kgiverOf {d : Nat} {Pp : Option Value → xH → Prop} {K : Nat → Nat × Nat} {I : Nat → Nat → Int32} {P : Nat → Nat → Option Nat} {n s : Nat} {o L m v : Nat} {G : xX} {ord : List Nat} (hS : xSL K P o L (gC G)) (hM : xMos I G o) (hG : xLg I G L ord) (hw : ∀ m, m < 12 → wfM G m) (hm : m < gC G) (hv : v < 64) (hp : Pp (some (.int (oM (sFi G ord m (nI v))))) (K, I, P, n, s)) : xC (d + 1) mX1_giverOf [(.ref L), (.int (nI m)), (.int (nI v))] (K, I, P, n, s) Pp := by
  refine y_met 0 0 ?_
  show xB (d + 1) 1 cX1_giverOf (some .int) false (xE n s 0 0 Pp) 0 [some (.ref L), some (.int (nI m)), some (.int (nI v))] [] (K, I, P, n, s)
  have hm12 : m < 12 := by have := hS.2.2.2.1; omega
  refine y_aload_n dX1_giverOf_0 rfl ?_
  refine y_getr 1 0 dX1_giverOf_1 rfl rfl hS.1.1 hS.2.1 ?_
  refine y_iload_n dX1_giverOf_4 rfl ?_
  refine y_aald (m) dX1_giverOf_5 hS.2.2.1 rfl (by omega) (by omega) (hS.2.2.2.2.1 m hm).1 ?_
  refine y_iload_n dX1_giverOf_6 rfl ?_
  refine y_callV1 mX2_keepsToItself dX1_giverOf_7 rfl rfl (hS.2.2.2.2.1 m hm).2.1 (Nat.le_of_ble_eq_true rfl) (kkeepsToItself (hS.2.2.2.2.1 m hm).2 (hM m hm) (hw m hm12) hv (fun e hs hh => ?_) (fun hh => ?_))
  · refine y_if_eq 17 dX1_giverOf_10 (by decide) (fun q => absurd q (by decide)) (fun _ => ?_)
    refine y_iload_n dX1_giverOf_13 rfl ?_
    refine y_goto 23 dX1_giverOf_14 (by decide) ?_
    have h2 : oM (sFi G ord m (nI v)) = nI m := by unfold sFi; rw [hs]; simp only; rw [if_neg hh]; show nI (e / 20) = nI m; rw [(sOf_lt (hw m hm12).2.2.1.2 hm12 hs).2]
    rw [h2] at hp
    exact y_ret dX1_giverOf_23 rfl rfl hp
  · refine y_if_eq 17 dX1_giverOf_10 (by decide) (fun _ => ?_) (fun q => absurd q (by decide))
    refine y_aload_n dX1_giverOf_17 rfl ?_
    refine y_getr 1 7 dX1_giverOf_18 rfl rfl hS.1.1 (r1_7 hS.1) ?_
    refine y_iload_n dX1_giverOf_21 rfl ?_
    refine y_ialdN (v) dX1_giverOf_22 (k1_7 hS.1) rfl (by omega) (by omega) (hG v hv) ?_
    have h2 : sFi G ord m (nI v) = sAm G (nI v) ord none := by
      unfold sFi
      cases hs : sOf G m (nI v) with
      | none => rfl
      | some e => simp only; rw [if_pos (hh e hs)]
    rw [h2] at hp
    exact y_ret dX1_giverOf_23 rfl rfl hp
