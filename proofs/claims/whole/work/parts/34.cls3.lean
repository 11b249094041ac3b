/-- where the search of beginners stands: met, and begun -/
def xLD (I : Nat → Nat → Int32) (G : xX) (L : Nat) (z : List Nat × List Nat) : Prop := (∀ q, q < 12 → I (L + 4) q = bI (decide (q ∈ z.1))) ∧ okl (gC G) z.1 ∧ I L 6 = nI z.2.length ∧ xHl I (L + 3) z.2 ∧ z.2.length ≤ z.1.length
/-- what the search may change -/
def xFb (L : Nat) (I I' : Nat → Nat → Int32) : Prop := ∀ a j, a ≠ L + 3 → a ≠ L + 4 → (a ≠ L ∨ j ≠ 6) → I' a j = I a j
theorem xFb.rf {L : Nat} {I : Nat → Nat → Int32} : xFb L I I := fun _ _ _ _ _ => rfl
theorem xFb.tr {L : Nat} {I I' I2 : Nat → Nat → Int32} (h : xFb L I I') (h2 : xFb L I' I2) : xFb L I I2 := fun a j p q r => (h2 a j p q r).trans (h a j p q r)
theorem xFb.L {L : Nat} {I I' : Nat → Nat → Int32} (h : xFb L I I') : xFl L I I' := fun a p => funext fun j => h a j (by omega) (by omega) (Or.inl (by omega))
theorem xLD_met {I : Nat → Nat → Int32} {G : xX} {L m : Nat} {z : List Nat × List Nat} (h : xLD I G L z) (hm : m < gC G) (hn : m ∉ z.1) : xLD (xuI I (L + 4) m 1) G L (z.1 ++ [m], z.2) := by
  obtain ⟨h1, h2, h3, h4, h5⟩ := h
  refine ⟨fun q hq => ?_, okl_add h2 hm hn, by rw [xuI_o (Or.inl (by omega))]; exact h3, xHl_put h4 (Or.inl (by omega)), by simp only [List.length_append, List.length_singleton]; omega⟩
  by_cases e : q = m
  · subst e
    rw [xuI_s, decide_eq_true (by simp)]; rfl
  · rw [xuI_o (Or.inr e), h1 q hq]
    congr 1
    simp [e]
theorem xLD_beg {I : Nat → Nat → Int32} {G : xX} {L m : Nat} {z : List Nat × List Nat} (h : xLD I G L z) (hl : z.2.length < z.1.length) : xLD (xuI (xuI I (L + 3) z.2.length (nI m)) L 6 (nI (z.2.length + 1))) G L (z.1, z.2 ++ [m]) := by
  obtain ⟨h1, h2, h3, h4, h5⟩ := h
  refine ⟨fun q hq => ?_, h2, by rw [xuI_s]; simp, xHl_put (xHl_add (xHl_put h4 (Or.inr (Nat.le_refl _))) (by rw [xuI_s])) (Or.inl (by omega)), by simp only [List.length_append, List.length_singleton]; omega⟩
  rw [xuI_o (Or.inl (by omega)), xuI_o (Or.inl (by omega))]
  exact h1 q hq
theorem kbf_in {d o L : Nat} {G : xX} {K : Nat → Nat × Nat} {P : Nat → Nat → Option Nat} {n s : Nat} (hS : xSL K P o L (gC G)) (hw : ∀ m, m < 12 → wfM G m) {f : Nat} (ihf : ∀ (I : Nat → Nat → Int32) (m dep : Nat) (z : List Nat × List Nat) (Pp : Option Value → xH → Prop), dep + f = 12 → m < gC G → xMos I G o → xLD I G L z → (∀ I', xFb L I I' → xLD I' G L (sDfs G f m z) → Pp none (K, I', P, n, s)) → xC (d + f) mX1_beginFrom [.ref L, .int (nI m), .int (nI dep)] (K, I, P, n, s) Pp) {Q : Option Value → xH → Prop} {m dep : Nat} (hm : m < gC G) (hdep : dep + (f + 1) = 12) : ∀ (t k : Nat) (I : Nat → Nat → Int32) (z : List Nat × List Nat), xMos I G o → k + t = gN G m → xLD I G L z → (∀ I' x4, xFb L I I' → xLD I' G L (sLp (sDfs G f) G m t k z) → xB (d + (f + 1)) 1 cX1_beginFrom none false Q 62 [some (.ref L), some (.int (nI m)), some (.int (nI dep)), some (.ref (o + 59 + 13 * m)), some (.int x4)] [] (K, I', P, n, s)) → xB (d + (f + 1)) 1 cX1_beginFrom none false Q 33 [some (.ref L), some (.int (nI m)), some (.int (nI dep)), some (.ref (o + 59 + 13 * m)), some (.int (nI k))] [] (K, I, P, n, s) := by
  have hc := hS.2.2.2.1
  obtain ⟨⟨w1, w2⟩, w3, -⟩ := hw m (by omega)
  intro t
  induction t with
  | zero =>
    intro k I z hM hk hb k1
    refine y_iload dX1_beginFrom_33 rfl ?_
    refine y_aload_n dX1_beginFrom_35 rfl ?_
    refine y_getv 2 1 dX1_beginFrom_36 rfl rfl (hS.2.2.2.2.1 m hm).2.1 ((hM m hm).n.trans w1) ?_
    refine y_icmpN_ge 62 (k) ((gN G m)) dX1_beginFrom_39 (by decide) rfl rfl (by omega) (by omega) (fun _ => ?_) (fun c39 => absurd c39 (by omega))
    exact k1 I _ xFb.rf hb
  | succ t ih =>
    intro k I z hM hk hb k1
    obtain ⟨w4, w5⟩ := w3 k (by omega)
    unfold sLp at k1
    refine y_iload dX1_beginFrom_33 rfl ?_
    refine y_aload_n dX1_beginFrom_35 rfl ?_
    refine y_getv 2 1 dX1_beginFrom_36 rfl rfl (hS.2.2.2.2.1 m hm).2.1 ((hM m hm).n.trans w1) ?_
    refine y_icmpN_ge 62 (k) ((gN G m)) dX1_beginFrom_39 (by decide) rfl rfl (by omega) (by omega) (fun c39 => absurd c39 (by omega)) (fun _ => ?_)
    refine y_aload_n dX1_beginFrom_42 rfl ?_
    refine y_aload_n dX1_beginFrom_43 rfl ?_
    refine y_getr 2 0 dX1_beginFrom_44 rfl rfl (hS.2.2.2.2.1 m hm).2.1 (r2_0 (hS.2.2.2.2.1 m hm).2) ?_
    refine y_iload dX1_beginFrom_47 rfl ?_
    refine y_ialdN (k) dX1_beginFrom_49 (k2_0 (hS.2.2.2.2.1 m hm).2) rfl (by omega) (by omega) (((hM m hm).d k (by omega)).trans w4) ?_
    refine y_iload_n dX1_beginFrom_50 rfl ?_
    refine y_iconst (v := 1) dX1_beginFrom_51 (by decide) ?_
    refine y_iaddv (nI (dep + 1)) dX1_beginFrom_52 (nI_add (dep) (1)) ?_
    refine y_callS3 mX1_beginFrom 0 dX1_beginFrom_53 rfl rfl (Nat.le_of_ble_eq_true rfl) (ihf I (gD G m k) (dep + 1) z _ (by omega) w5 hM hb (fun I2 f1 f2 => ?_))
    refine y_iinc dX1_beginFrom_56 rfl (fun x1 e_x1 => ?_)
    obtain rfl : x1 = nI (k + 1) := by rw [e_x1]; exact nI_1 (k)
    refine y_goto 33 dX1_beginFrom_59 (by decide) ?_
    exact ih (k + 1) I2 _ (f1.L.mos hS hM) (by omega) f2 (fun I' x4 p1 p2 => k1 I' x4 (f1.tr p1) p2)
theorem kbeginFrom {d o L : Nat} {G : xX} {K : Nat → Nat × Nat} {P : Nat → Nat → Option Nat} {n s : Nat} (hS : xSL K P o L (gC G)) (hw : ∀ m, m < 12 → wfM G m) : ∀ (f : Nat), ∀ (I : Nat → Nat → Int32) (m dep : Nat) (z : List Nat × List Nat) (Pp : Option Value → xH → Prop), dep + f = 12 → m < gC G → xMos I G o → xLD I G L z → (∀ I', xFb L I I' → xLD I' G L (sDfs G f m z) → Pp none (K, I', P, n, s)) → xC (d + f) mX1_beginFrom [.ref L, .int (nI m), .int (nI dep)] (K, I, P, n, s) Pp := by
  have hc := hS.2.2.2.1
  intro f
  induction f with
  | zero =>
    intro I m dep z Pp hdep hm hM hb hp
    obtain rfl : dep = 12 := by omega
    refine y_met 0 0 ?_
    show xB (d + 0) 1 cX1_beginFrom none false (xE n s 0 0 Pp) 0 [some (.ref L), some (.int (nI m)), some (.int (nI 12)), none, none] [] (K, I, P, n, s)
    refine y_aload_n dX1_beginFrom_0 rfl ?_
    refine y_getr 1 5 dX1_beginFrom_1 rfl rfl hS.1.1 (r1_5 hS.1) ?_
    refine y_iload_n dX1_beginFrom_4 rfl ?_
    refine y_baldN (m) dX1_beginFrom_5 (k1_5 hS.1) rfl (by omega) (by omega) (hb.1 m (by omega)) ?_
    refine y_if_ne 15 dX1_beginFrom_6 (by decide) (fun c6 => ?_) (fun c6 => ?_)
    · exact y_retv dX1_beginFrom_15 rfl rfl (hp I xFb.rf hb)
    · refine y_iload_n dX1_beginFrom_9 rfl ?_
      refine y_bipush (v := 12) dX1_beginFrom_10 (by decide) ?_
      refine y_icmpN_lt 16 (12) (12) dX1_beginFrom_12 (by decide) rfl rfl (by omega) (by omega) (fun c12 => absurd c12 (by omega)) (fun _ => ?_)
      exact y_retv dX1_beginFrom_15 rfl rfl (hp I xFb.rf hb)
  | succ f ihf =>
    intro I m dep z Pp hdep hm hM hb hp
    refine y_met 0 0 ?_
    show xB (d + (f + 1)) 1 cX1_beginFrom none false (xE n s 0 0 Pp) 0 [some (.ref L), some (.int (nI m)), some (.int (nI dep)), none, none] [] (K, I, P, n, s)
    by_cases hin : m ∈ z.1
    · rw [sDfs_in hin] at hp
      refine y_aload_n dX1_beginFrom_0 rfl ?_
      refine y_getr 1 5 dX1_beginFrom_1 rfl rfl hS.1.1 (r1_5 hS.1) ?_
      refine y_iload_n dX1_beginFrom_4 rfl ?_
      refine y_baldN (m) dX1_beginFrom_5 (k1_5 hS.1) rfl (by omega) (by omega) (show I (L + 4) m = 1 by rw [hb.1 m (by omega), decide_eq_true hin]; rfl) ?_
      refine y_if_ne 15 dX1_beginFrom_6 (by decide) (fun _ => ?_) (fun q => absurd q (by decide))
      exact y_retv dX1_beginFrom_15 rfl rfl (hp I xFb.rf hb)
    · rw [sDfs_out hin] at hp
      have hM2 : xMos (xuI I (L + 4) m 1) G o := xFl.mos (xFl.u (by omega) (by omega)) hS hM
      refine y_aload_n dX1_beginFrom_0 rfl ?_
      refine y_getr 1 5 dX1_beginFrom_1 rfl rfl hS.1.1 (r1_5 hS.1) ?_
      refine y_iload_n dX1_beginFrom_4 rfl ?_
      refine y_baldN (m) dX1_beginFrom_5 (k1_5 hS.1) rfl (by omega) (by omega) (show I (L + 4) m = 0 by rw [hb.1 m (by omega), decide_eq_false hin]; rfl) ?_
      refine y_if_ne 15 dX1_beginFrom_6 (by decide) (fun q => absurd q (by decide)) (fun _ => ?_)
      refine y_iload_n dX1_beginFrom_9 rfl ?_
      refine y_bipush (v := 12) dX1_beginFrom_10 (by decide) ?_
      refine y_icmpN_lt 16 (dep) (12) dX1_beginFrom_12 (by decide) rfl rfl (by omega) (by omega) (fun _ => ?_) (fun c12 => absurd c12 (by omega))
      refine y_aload_n dX1_beginFrom_16 rfl ?_
      refine y_getr 1 5 dX1_beginFrom_17 rfl rfl hS.1.1 (r1_5 hS.1) ?_
      refine y_iload_n dX1_beginFrom_20 rfl ?_
      refine y_iconst (v := 1) dX1_beginFrom_21 (by decide) ?_
      refine y_bast (m) dX1_beginFrom_22 (k1_5 hS.1) rfl (by omega) (by omega) (by decide) ?_
      refine y_aload_n dX1_beginFrom_23 rfl ?_
      refine y_getr 1 0 dX1_beginFrom_24 rfl rfl hS.1.1 hS.2.1 ?_
      refine y_iload_n dX1_beginFrom_27 rfl ?_
      refine y_aald (m) dX1_beginFrom_28 hS.2.2.1 rfl (by omega) (by omega) (hS.2.2.2.2.1 m hm).1 ?_
      refine y_astore_n dX1_beginFrom_29 (by first | (simp; done) | (simp; decide)) ?_
      refine y_iconst (v := 0) dX1_beginFrom_30 (by decide) ?_
      refine y_istore dX1_beginFrom_31 (by first | (simp; done) | (simp; decide)) (fun x1 e_x1 => ?_)
      subst e_x1
      refine kbf_in hS hw ihf hm hdep (gN G m) 0 _ (z.1 ++ [m], z.2) hM2 (by omega) (xLD_met hb hm hin) (fun I2 x4 f1 f2 => ?_)
      have hlen := sLp_len (X := G) (m := m) (g := sDfs G f) (fun o z => sDfs_len f o z) (gN G m) 0 (z.1 ++ [m], z.2)
      simp only [List.length_append, List.length_singleton] at hlen
      generalize sLp (sDfs G f) G m (gN G m) 0 (z.1 ++ [m], z.2) = y at hp f2 hlen
      have hyl := okl_len f2.2.1
      have h5 := hb.2.2.2.2
      refine y_aload_n dX1_beginFrom_62 rfl ?_
      refine y_getv 1 6 dX1_beginFrom_63 rfl rfl hS.1.1 f2.2.2.1 ?_
      refine y_bipush (v := 12) dX1_beginFrom_66 (by decide) ?_
      refine y_icmpN_ge 91 (y.2.length) (12) dX1_beginFrom_68 (by decide) rfl rfl (by omega) (by omega) (fun c68 => absurd c68 (by omega)) (fun _ => ?_)
      refine y_aload_n dX1_beginFrom_71 rfl ?_
      refine y_getr 1 4 dX1_beginFrom_72 rfl rfl hS.1.1 (r1_4 hS.1) ?_
      refine y_aload_n dX1_beginFrom_75 rfl ?_
      refine y_getv 1 6 dX1_beginFrom_76 rfl rfl hS.1.1 f2.2.2.1 ?_
      refine y_iload_n dX1_beginFrom_79 rfl ?_
      refine y_iast (y.2.length) dX1_beginFrom_80 (k1_4 hS.1) rfl (by omega) (by omega) ?_
      refine y_aload_n dX1_beginFrom_81 rfl ?_
      refine y_dup dX1_beginFrom_82 rfl ?_
      refine y_getv 1 6 dX1_beginFrom_83 rfl rfl hS.1.1 ((xuI_o (Or.inl (by omega))).trans f2.2.2.1) ?_
      refine y_iconst (v := 1) dX1_beginFrom_86 (by decide) ?_
      refine y_iaddv (nI (y.2.length + 1)) dX1_beginFrom_87 (nI_add (y.2.length) (1)) ?_
      refine y_puti 1 6 dX1_beginFrom_88 rfl rfl rfl hS.1.1 ?_
      have f0 : xFb L I (xuI I (L + 4) m 1) := fun a j p q r => xuI_o (Or.inl q)
      exact y_retv dX1_beginFrom_91 rfl rfl (hp _ (f0.tr (f1.tr (fun a j p q r => by rw [xuI_o r, xuI_o (Or.inl p)]))) (xLD_beg f2 (by omega)))
