theorem kan_loop {d q m x : Nat} {G : xX} {Q : Option Value → xH → Prop} {K : Nat → Nat × Nat} {I : Nat → Nat → Int32} {P : Nat → Nat → Option Nat} {n s : Nat} (hq : xAt K P q 2) (hm : xMo I G q m) (hw : wfM G m) (hx : x < 12) : ∀ (t k : Nat), k + t = gN G m → ((∀ j, k ≤ j → j < gN G m → G 1 (6 * m + j) ≠ nI x) → ∀ x2, xB d 2 cX2_addNeed (some .boolean) false Q 39 [some (.ref q), some (.int (nI x)), some (.int x2)] [] (K, I, P, n, s)) → (∀ j ls, j < gN G m → G 1 (6 * m + j) = nI x → xB d 2 cX2_addNeed (some .boolean) false Q 31 ls [] (K, I, P, n, s)) → xB d 2 cX2_addNeed (some .boolean) false Q 13 [some (.ref q), some (.int (nI x)), some (.int (nI k))] [] (K, I, P, n, s) := by
  obtain ⟨⟨w1, w2⟩, w3, -⟩ := hw
  intro t
  induction t with
  | zero =>
    intro k hk k0 k1
    refine y_iload_n dX2_addNeed_13 rfl ?_
    refine y_aload_n dX2_addNeed_14 rfl ?_
    refine y_getv 2 1 dX2_addNeed_15 rfl rfl hq.1 (hm.n.trans w1) ?_
    refine y_icmpN_ge 39 (k) ((gN G m)) dX2_addNeed_18 (by decide) rfl rfl (by omega) (by omega) (fun _ => ?_) (fun c18 => absurd c18 (by omega))
    exact k0 (fun j h1 h2 => by omega) _
  | succ t ih =>
    intro k hk k0 k1
    refine y_iload_n dX2_addNeed_13 rfl ?_
    refine y_aload_n dX2_addNeed_14 rfl ?_
    refine y_getv 2 1 dX2_addNeed_15 rfl rfl hq.1 (hm.n.trans w1) ?_
    refine y_icmpN_ge 39 (k) ((gN G m)) dX2_addNeed_18 (by decide) rfl rfl (by omega) (by omega) (fun c18 => absurd c18 (by omega)) (fun _ => ?_)
    refine y_aload_n dX2_addNeed_21 rfl ?_
    refine y_getr 2 0 dX2_addNeed_22 rfl rfl hq.1 (r2_0 hq) ?_
    refine y_iload_n dX2_addNeed_25 rfl ?_
    refine y_ialdN (k) dX2_addNeed_26 (k2_0 hq) rfl (by omega) (by omega) (hm.d k (by omega)) ?_
    refine y_iload_n dX2_addNeed_27 rfl ?_
    refine y_icmp_ne 33 dX2_addNeed_28 (by decide) (fun c28 => ?_) (fun c28 => ?_)
    · refine y_iinc dX2_addNeed_33 rfl (fun x1 e_x1 => ?_)
      obtain rfl : x1 = nI (k + 1) := by rw [e_x1]; exact nI_1 (k)
      refine y_goto 13 dX2_addNeed_36 (by decide) ?_
      refine ih (k + 1) (by omega) (fun h => k0 (fun j h1 h2 => ?_)) k1
      by_cases e : j = k
      · subst e; exact c28
      · exact h j (by omega) h2
    · exact k1 k _ (by omega) c28
theorem kaddNeed {d : Nat} {Pp : Option Value → xH → Prop} {K : Nat → Nat × Nat} {I : Nat → Nat → Int32} {P : Nat → Nat → Option Nat} {n s : Nat} {q m x : Nat} {G : xX} (hq : xAt K P q 2) (hm : xMo I G q m) (hw : wfM G m) (hx : x < 12) (h0 : ¬ (gN G m < 6 ∧ ∀ k, k < gN G m → G 1 (6 * m + k) ≠ nI x) → Pp (some (.int 0)) (K, I, P, n, s)) (h1 : gN G m < 6 → (∀ k, k < gN G m → G 1 (6 * m + k) ≠ nI x) → Pp (some (.int 1)) (K, (xuI (xuI I (q + 1) (gN G m) (nI x)) q 1 (nI (gN G m + 1))), P, n, s)) : xC d mX2_addNeed [(.ref q), (.int (nI x))] (K, I, P, n, s) Pp := by
  refine y_met 0 0 ?_
  show xB d 2 cX2_addNeed (some .boolean) false (xE n s 0 0 Pp) 0 [some (.ref q), some (.int (nI x)), none] [] (K, I, P, n, s)
  obtain ⟨⟨w1, w2⟩, w3, -⟩ := id hw
  refine y_aload_n dX2_addNeed_0 rfl ?_
  refine y_getv 2 1 dX2_addNeed_1 rfl rfl hq.1 (hm.n.trans w1) ?_
  refine y_bipush (v := 6) dX2_addNeed_4 (by decide) ?_
  refine y_icmpN_lt 11 ((gN G m)) (6) dX2_addNeed_6 (by decide) rfl rfl (by omega) (by omega) (fun c6 => ?_) (fun c6 => ?_)
  · refine y_iconst (v := 0) dX2_addNeed_11 (by decide) ?_
    refine y_istore_n dX2_addNeed_12 (by first | (simp; done) | (simp; decide)) (fun x1 e_x1 => ?_)
    subst e_x1
    refine kan_loop hq hm hw hx (gN G m) 0 (by omega) (fun hn x2 => ?_) (fun j ls h1 h2 => ?_)
    · refine y_aload_n dX2_addNeed_39 rfl ?_
      refine y_getr 2 0 dX2_addNeed_40 rfl rfl hq.1 (r2_0 hq) ?_
      refine y_aload_n dX2_addNeed_43 rfl ?_
      refine y_getv 2 1 dX2_addNeed_44 rfl rfl hq.1 (hm.n.trans w1) ?_
      refine y_iload_n dX2_addNeed_47 rfl ?_
      refine y_iast ((gN G m)) dX2_addNeed_48 (k2_0 hq) rfl (by omega) (by omega) ?_
      refine y_aload_n dX2_addNeed_49 rfl ?_
      refine y_dup dX2_addNeed_50 rfl ?_
      refine y_getv 2 1 dX2_addNeed_51 rfl rfl hq.1 ((xuI_o (Or.inl (by omega))).trans (hm.n.trans w1)) ?_
      refine y_iconst (v := 1) dX2_addNeed_54 (by decide) ?_
      refine y_iaddv (nI (((gN G m)) + 1)) dX2_addNeed_55 (nI_add ((gN G m)) (1)) ?_
      refine y_puti 2 1 dX2_addNeed_56 rfl rfl rfl hq.1 ?_
      refine y_iconst (v := 1) dX2_addNeed_59 (by decide) ?_
      exact y_retz dX2_addNeed_60 rfl rfl (Or.inr rfl) (h1 (by omega) (fun k hk => hn k (Nat.zero_le _) hk))
    · refine y_iconst (v := 0) dX2_addNeed_31 (by decide) ?_
      exact y_retz dX2_addNeed_32 rfl rfl (Or.inl rfl) (h0 (fun c => c.2 j h1 h2))
  · refine y_iconst (v := 0) dX2_addNeed_9 (by decide) ?_
    exact y_retz dX2_addNeed_10 rfl rfl (Or.inl rfl) (h0 (fun c => absurd c.1 (by omega)))
theorem kaddDef0 {d : Nat} {Pp : Option Value → xH → Prop} {K : Nat → Nat × Nat} {I : Nat → Nat → Int32} {P : Nat → Nat → Option Nat} {n s : Nat} {q m v : Nat} {G : xX} {x3 x4 x5 : Int32} (hq : xAt K P q 2) (hm : xMo I G q m) (hw : wfM G m) (hv : v < 64) (hn : ¬ (sOf G m (nI v) = none ∧ gF G m < 20)) (h0 : Pp (some (.int 0)) (K, I, P, n, s)) : xC d mX2_addDefinition [(.ref q), (.int (nI v)), (.int x3), (.int x4), (.int x5)] (K, I, P, n, s) Pp := by
  refine y_met 0 0 ?_
  show xB d 2 cX2_addDefinition (some .boolean) false (xE n s 0 0 Pp) 0 [some (.ref q), some (.int (nI v)), some (.int x3), some (.int x4), some (.int x5)] [] (K, I, P, n, s)
  cases hs : sOf G m (nI v) with
  | none =>
    obtain ⟨w1, w2⟩ := hw.2.2.1
    refine y_aload_n dX2_addDefinition_0 rfl ?_
    refine y_getr 2 2 dX2_addDefinition_1 rfl rfl hq.1 (r2_2 hq) ?_
    refine y_iload_n dX2_addDefinition_4 rfl ?_
    refine y_ialdN (v) dX2_addDefinition_5 (k2_2 hq) rfl (by omega) (by omega) (hm.k0 v hv hs) ?_
    refine y_iconst (v := (-1)) dX2_addDefinition_6 (by decide) ?_
    refine y_icmp_ne 19 dX2_addDefinition_7 (by decide) (fun q => absurd q (by decide)) (fun _ => ?_)
    refine y_aload_n dX2_addDefinition_10 rfl ?_
    refine y_getv 2 5 dX2_addDefinition_11 rfl rfl hq.1 (hm.f.trans w1) ?_
    refine y_bipush (v := 20) dX2_addDefinition_14 (by decide) ?_
    refine y_icmpN_lt 21 ((gF G m)) (20) dX2_addDefinition_16 (by decide) rfl rfl (by omega) (by omega) (fun c16 => absurd c16 (fun c => hn ⟨hs, c⟩)) (fun _ => ?_)
    refine y_iconst (v := 0) dX2_addDefinition_19 (by decide) ?_
    exact y_retz dX2_addDefinition_20 rfl rfl (Or.inl rfl) h0
  | some e =>
    refine y_aload_n dX2_addDefinition_0 rfl ?_
    refine y_getr 2 2 dX2_addDefinition_1 rfl rfl hq.1 (r2_2 hq) ?_
    refine y_iload_n dX2_addDefinition_4 rfl ?_
    refine y_ialdN (v) dX2_addDefinition_5 (k2_2 hq) rfl (by omega) (by omega) (hm.k1 v e hv hs).1 ?_
    refine y_iconst (v := (-1)) dX2_addDefinition_6 (by decide) ?_
    refine y_icmp_ne 19 dX2_addDefinition_7 (by decide) (fun _ => ?_) (fun c7 => absurd c7 (sOf_4n hw hs))
    refine y_iconst (v := 0) dX2_addDefinition_19 (by decide) ?_
    exact y_retz dX2_addDefinition_20 rfl rfl (Or.inl rfl) h0
theorem kaddDef1 {d : Nat} {Pp : Option Value → xH → Prop} {K : Nat → Nat × Nat} {I : Nat → Nat → Int32} {P : Nat → Nat → Option Nat} {n s : Nat} {q m v  : Nat} {G : xX} {x4 x5 : Int32} (hq : xAt K P q 2) (hm : xMo I G q m) (hw : wfM G m) (hv : v < 64) (hs : sOf G m (nI v) = none) (hf : gF G m < 20) (h1 : Pp (some (.int 1)) (K, (xuI (xuI (xuI (xuI I (q + 2) v 1) (q + 3) v x4) (q + 4) v x5) q 5 (nI (gF G m + 1))), P, n, s)) : xC d mX2_addDefinition [(.ref q), (.int (nI v)), (.int 1), (.int x4), (.int x5)] (K, I, P, n, s) Pp := by
  refine y_met 0 0 ?_
  show xB d 2 cX2_addDefinition (some .boolean) false (xE n s 0 0 Pp) 0 [some (.ref q), some (.int (nI v)), some (.int 1), some (.int x4), some (.int x5)] [] (K, I, P, n, s)
  obtain ⟨w1, w2⟩ := hw.2.2.1
  refine y_aload_n dX2_addDefinition_0 rfl ?_
  refine y_getr 2 2 dX2_addDefinition_1 rfl rfl hq.1 (r2_2 hq) ?_
  refine y_iload_n dX2_addDefinition_4 rfl ?_
  refine y_ialdN (v) dX2_addDefinition_5 (k2_2 hq) rfl (by omega) (by omega) (hm.k0 v hv hs) ?_
  refine y_iconst (v := (-1)) dX2_addDefinition_6 (by decide) ?_
  refine y_icmp_ne 19 dX2_addDefinition_7 (by decide) (fun q => absurd q (by decide)) (fun _ => ?_)
  refine y_aload_n dX2_addDefinition_10 rfl ?_
  refine y_getv 2 5 dX2_addDefinition_11 rfl rfl hq.1 (hm.f.trans w1) ?_
  refine y_bipush (v := 20) dX2_addDefinition_14 (by decide) ?_
  refine y_icmpN_lt 21 ((gF G m)) (20) dX2_addDefinition_16 (by decide) rfl rfl (by omega) (by omega) (fun _ => ?_) (fun c16 => absurd c16 (by omega))
  refine y_aload_n dX2_addDefinition_21 rfl ?_
  refine y_getr 2 2 dX2_addDefinition_22 rfl rfl hq.1 (r2_2 hq) ?_
  refine y_iload_n dX2_addDefinition_25 rfl ?_
  refine y_iload_n dX2_addDefinition_26 rfl ?_
  refine y_iast (v) dX2_addDefinition_27 (k2_2 hq) rfl (by omega) (by omega) ?_
  refine y_aload_n dX2_addDefinition_28 rfl ?_
  refine y_getr 2 3 dX2_addDefinition_29 rfl rfl hq.1 (r2_3 hq) ?_
  refine y_iload_n dX2_addDefinition_32 rfl ?_
  refine y_iload_n dX2_addDefinition_33 rfl ?_
  refine y_iast (v) dX2_addDefinition_34 (k2_3 hq) rfl (by omega) (by omega) ?_
  refine y_aload_n dX2_addDefinition_35 rfl ?_
  refine y_getr 2 4 dX2_addDefinition_36 rfl rfl hq.1 (r2_4 hq) ?_
  refine y_iload_n dX2_addDefinition_39 rfl ?_
  refine y_iload dX2_addDefinition_40 rfl ?_
  refine y_iast (v) dX2_addDefinition_42 (k2_4 hq) rfl (by omega) (by omega) ?_
  refine y_iload_n dX2_addDefinition_43 rfl ?_
  refine y_if_ne 54 dX2_addDefinition_44 (by decide) (fun _ => ?_) (fun q => absurd q (by decide))
  refine y_aload_n dX2_addDefinition_54 rfl ?_
  refine y_dup dX2_addDefinition_55 rfl ?_
  refine y_getv 2 5 dX2_addDefinition_56 rfl rfl hq.1 ((xuI_o (Or.inl (by omega))).trans ((xuI_o (Or.inl (by omega))).trans ((xuI_o (Or.inl (by omega))).trans (hm.f.trans w1)))) ?_
  refine y_iconst (v := 1) dX2_addDefinition_59 (by decide) ?_
  refine y_iaddv (nI (((gF G m)) + 1)) dX2_addDefinition_60 (nI_add ((gF G m)) (1)) ?_
  refine y_puti 2 5 dX2_addDefinition_61 rfl rfl rfl hq.1 ?_
  refine y_iconst (v := 1) dX2_addDefinition_64 (by decide) ?_
  exact y_retz dX2_addDefinition_65 rfl rfl (Or.inr rfl) h1
theorem kaddDef2 {d : Nat} {Pp : Option Value → xH → Prop} {K : Nat → Nat × Nat} {I : Nat → Nat → Int32} {P : Nat → Nat → Option Nat} {n s : Nat} {q m v t : Nat} {G : xX} {x5 : Int32} (hq : xAt K P q 2) (hm : xMo I G q m) (hw : wfM G m) (hv : v < 64) (ht : t < 100) (hs : sOf G m (nI v) = none) (hf : gF G m < 20) (h1 : Pp (some (.int 1)) (K, (xuI (xuI (xuI (xuI (xuI I (q + 2) v 0) (q + 3) v (nI t)) (q + 4) v x5) (q + 5) t 1) q 5 (nI (gF G m + 1))), P, n, s)) : xC d mX2_addDefinition [(.ref q), (.int (nI v)), (.int 0), (.int (nI t)), (.int x5)] (K, I, P, n, s) Pp := by
  refine y_met 0 0 ?_
  show xB d 2 cX2_addDefinition (some .boolean) false (xE n s 0 0 Pp) 0 [some (.ref q), some (.int (nI v)), some (.int 0), some (.int (nI t)), some (.int x5)] [] (K, I, P, n, s)
  obtain ⟨w1, w2⟩ := hw.2.2.1
  refine y_aload_n dX2_addDefinition_0 rfl ?_
  refine y_getr 2 2 dX2_addDefinition_1 rfl rfl hq.1 (r2_2 hq) ?_
  refine y_iload_n dX2_addDefinition_4 rfl ?_
  refine y_ialdN (v) dX2_addDefinition_5 (k2_2 hq) rfl (by omega) (by omega) (hm.k0 v hv hs) ?_
  refine y_iconst (v := (-1)) dX2_addDefinition_6 (by decide) ?_
  refine y_icmp_ne 19 dX2_addDefinition_7 (by decide) (fun q => absurd q (by decide)) (fun _ => ?_)
  refine y_aload_n dX2_addDefinition_10 rfl ?_
  refine y_getv 2 5 dX2_addDefinition_11 rfl rfl hq.1 (hm.f.trans w1) ?_
  refine y_bipush (v := 20) dX2_addDefinition_14 (by decide) ?_
  refine y_icmpN_lt 21 ((gF G m)) (20) dX2_addDefinition_16 (by decide) rfl rfl (by omega) (by omega) (fun _ => ?_) (fun c16 => absurd c16 (by omega))
  refine y_aload_n dX2_addDefinition_21 rfl ?_
  refine y_getr 2 2 dX2_addDefinition_22 rfl rfl hq.1 (r2_2 hq) ?_
  refine y_iload_n dX2_addDefinition_25 rfl ?_
  refine y_iload_n dX2_addDefinition_26 rfl ?_
  refine y_iast (v) dX2_addDefinition_27 (k2_2 hq) rfl (by omega) (by omega) ?_
  refine y_aload_n dX2_addDefinition_28 rfl ?_
  refine y_getr 2 3 dX2_addDefinition_29 rfl rfl hq.1 (r2_3 hq) ?_
  refine y_iload_n dX2_addDefinition_32 rfl ?_
  refine y_iload_n dX2_addDefinition_33 rfl ?_
  refine y_iast (v) dX2_addDefinition_34 (k2_3 hq) rfl (by omega) (by omega) ?_
  refine y_aload_n dX2_addDefinition_35 rfl ?_
  refine y_getr 2 4 dX2_addDefinition_36 rfl rfl hq.1 (r2_4 hq) ?_
  refine y_iload_n dX2_addDefinition_39 rfl ?_
  refine y_iload dX2_addDefinition_40 rfl ?_
  refine y_iast (v) dX2_addDefinition_42 (k2_4 hq) rfl (by omega) (by omega) ?_
  refine y_iload_n dX2_addDefinition_43 rfl ?_
  refine y_if_ne 54 dX2_addDefinition_44 (by decide) (fun q => absurd q (by decide)) (fun _ => ?_)
  refine y_aload_n dX2_addDefinition_47 rfl ?_
  refine y_getr 2 6 dX2_addDefinition_48 rfl rfl hq.1 (r2_6 hq) ?_
  refine y_iload_n dX2_addDefinition_51 rfl ?_
  refine y_iconst (v := 1) dX2_addDefinition_52 (by decide) ?_
  refine y_bast (t) dX2_addDefinition_53 (k2_6 hq) rfl (by omega) (by omega) (by decide) ?_
  refine y_aload_n dX2_addDefinition_54 rfl ?_
  refine y_dup dX2_addDefinition_55 rfl ?_
  refine y_getv 2 5 dX2_addDefinition_56 rfl rfl hq.1 ((xuI_o (Or.inl (by omega))).trans ((xuI_o (Or.inl (by omega))).trans ((xuI_o (Or.inl (by omega))).trans ((xuI_o (Or.inl (by omega))).trans (hm.f.trans w1))))) ?_
  refine y_iconst (v := 1) dX2_addDefinition_59 (by decide) ?_
  refine y_iaddv (nI (((gF G m)) + 1)) dX2_addDefinition_60 (nI_add ((gF G m)) (1)) ?_
  refine y_puti 2 5 dX2_addDefinition_61 rfl rfl rfl hq.1 ?_
  refine y_iconst (v := 1) dX2_addDefinition_64 (by decide) ?_
  exact y_retz dX2_addDefinition_65 rfl rfl (Or.inr rfl) h1
theorem kaddStep {d : Nat} {Pp : Option Value → xH → Prop} {K : Nat → Nat × Nat} {I : Nat → Nat → Int32} {P : Nat → Nat → Option Nat} {n s : Nat} {q m : Nat} {G : xX} {x1 x2 x3 x4 : Int32} (hq : xAt K P q 2) (hm : xMo I G q m) (hw : wfM G m) (h0 : ¬ gS G m < 100 → Pp (some (.int 0)) (K, I, P, n, s)) (h1 : gS G m < 100 → Pp (some (.int 1)) (K, (xuI (xuI (xuI (xuI (xuI I (q + 7) (gS G m) x1) (q + 8) (gS G m) x2) (q + 9) (gS G m) x3) (q + 10) (gS G m) x4) q 13 (nI (gS G m + 1))), P, n, s)) : xC d mX2_addStep [(.ref q), (.int x1), (.int x2), (.int x3), (.int x4)] (K, I, P, n, s) Pp := by
  refine y_met 0 0 ?_
  show xB d 2 cX2_addStep (some .boolean) false (xE n s 0 0 Pp) 0 [some (.ref q), some (.int x1), some (.int x2), some (.int x3), some (.int x4)] [] (K, I, P, n, s)
  obtain ⟨w1, w2⟩ := hw.2.2.2.2.2.1
  have hs := hm.s.trans w1
  refine y_aload_n dX2_addStep_0 rfl ?_
  refine y_getv 2 13 dX2_addStep_1 rfl rfl hq.1 hs ?_
  refine y_bipush (v := 100) dX2_addStep_4 (by decide) ?_
  refine y_icmpN_lt 11 ((gS G m)) (100) dX2_addStep_6 (by decide) rfl rfl (by omega) (by omega) (fun c6 => ?_) (fun c6 => ?_)
  · refine y_aload_n dX2_addStep_11 rfl ?_
    refine y_getr 2 9 dX2_addStep_12 rfl rfl hq.1 (r2_9 hq) ?_
    refine y_aload_n dX2_addStep_15 rfl ?_
    refine y_getv 2 13 dX2_addStep_16 rfl rfl hq.1 hs ?_
    refine y_iload_n dX2_addStep_19 rfl ?_
    refine y_iast ((gS G m)) dX2_addStep_20 (k2_9 hq) rfl (by omega) (by omega) ?_
    refine y_aload_n dX2_addStep_21 rfl ?_
    refine y_getr 2 10 dX2_addStep_22 rfl rfl hq.1 (r2_10 hq) ?_
    refine y_aload_n dX2_addStep_25 rfl ?_
    refine y_getv 2 13 dX2_addStep_26 rfl rfl hq.1 ((xuI_o (Or.inl (by omega))).trans hs) ?_
    refine y_iload_n dX2_addStep_29 rfl ?_
    refine y_iast ((gS G m)) dX2_addStep_30 (k2_10 hq) rfl (by omega) (by omega) ?_
    refine y_aload_n dX2_addStep_31 rfl ?_
    refine y_getr 2 11 dX2_addStep_32 rfl rfl hq.1 (r2_11 hq) ?_
    refine y_aload_n dX2_addStep_35 rfl ?_
    refine y_getv 2 13 dX2_addStep_36 rfl rfl hq.1 ((xuI_o (Or.inl (by omega))).trans ((xuI_o (Or.inl (by omega))).trans hs)) ?_
    refine y_iload_n dX2_addStep_39 rfl ?_
    refine y_iast ((gS G m)) dX2_addStep_40 (k2_11 hq) rfl (by omega) (by omega) ?_
    refine y_aload_n dX2_addStep_41 rfl ?_
    refine y_getr 2 12 dX2_addStep_42 rfl rfl hq.1 (r2_12 hq) ?_
    refine y_aload_n dX2_addStep_45 rfl ?_
    refine y_getv 2 13 dX2_addStep_46 rfl rfl hq.1 ((xuI_o (Or.inl (by omega))).trans ((xuI_o (Or.inl (by omega))).trans ((xuI_o (Or.inl (by omega))).trans hs))) ?_
    refine y_iload dX2_addStep_49 rfl ?_
    refine y_iast ((gS G m)) dX2_addStep_51 (k2_12 hq) rfl (by omega) (by omega) ?_
    refine y_aload_n dX2_addStep_52 rfl ?_
    refine y_dup dX2_addStep_53 rfl ?_
    refine y_getv 2 13 dX2_addStep_54 rfl rfl hq.1 ((xuI_o (Or.inl (by omega))).trans ((xuI_o (Or.inl (by omega))).trans ((xuI_o (Or.inl (by omega))).trans ((xuI_o (Or.inl (by omega))).trans hs)))) ?_
    refine y_iconst (v := 1) dX2_addStep_57 (by decide) ?_
    refine y_iaddv (nI (((gS G m)) + 1)) dX2_addStep_58 (nI_add ((gS G m)) (1)) ?_
    refine y_puti 2 13 dX2_addStep_59 rfl rfl rfl hq.1 ?_
    refine y_iconst (v := 1) dX2_addStep_62 (by decide) ?_
    exact y_retz dX2_addStep_63 rfl rfl (Or.inr rfl) (h1 (by omega))
  · refine y_iconst (v := 0) dX2_addStep_9 (by decide) ?_
    exact y_retz dX2_addStep_10 rfl rfl (Or.inl rfl) (h0 (by omega))
