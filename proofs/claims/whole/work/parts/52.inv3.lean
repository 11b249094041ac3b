/-! the program's functions depend on the program's rows alone -/
def xE10 (G G' : xX) : Prop := ∀ i, 1 ≤ i → i ≤ 10 → G' i = G i
section
variable {G G' : xX}
theorem gN_e (he : xE10 G G') (m : Nat) : gN G' m = gN G m := gN_c (by rw [he 2 (by decide) (by decide)])
theorem gD_e (he : xE10 G G') (m k : Nat) : gD G' m k = gD G m k := by unfold gD; rw [he 1 (by decide) (by decide)]
theorem gS_e (he : xE10 G G') (m : Nat) : gS G' m = gS G m := gS_c (by rw [he 9 (by decide) (by decide)])
theorem sOp_e (he : xE10 G G') (m k : Nat) : sOp G' m k = sOp G m k := by unfold sOp; rw [he 8 (by decide) (by decide)]
theorem sAr_e (he : xE10 G G') (m k i : Nat) : sAr G' m k i = sAr G m k i := by unfold sAr; rw [he 8 (by decide) (by decide)]
theorem sOf_e (he : xE10 G G') (m : Nat) (x : Int32) : sOf G' m x = sOf G m x := sOf_c (by rw [he 7 (by decide) (by decide)]) (fun j _ => by rw [he 3 (by decide) (by decide)])
theorem sAm_e (he : xE10 G G') (x : Int32) : ∀ (l : List Nat) (w : Option Nat), sAm G' x l w = sAm G x l w
  | [], w => rfl
  | p :: r, w => by
    unfold sAm
    rw [sOf_e he, he 6 (by decide) (by decide)]
    cases sOf G p x with
    | none => exact sAm_e he x r w
    | some d => simp only [sAm_e he x r]
theorem sFi_e (he : xE10 G G') (ord : List Nat) (m : Nat) (x : Int32) : sFi G' ord m x = sFi G ord m x := by
  unfold sFi
  rw [sOf_e he, sAm_e he, he 6 (by decide) (by decide)]
theorem sAdds_e (he : xE10 G G') (m : Nat) : ∀ (t k : Nat) (l : List Nat), sAdds G' m t k l = sAdds G m t k l
  | 0, k, l => rfl
  | t + 1, k, l => by
    unfold sAdds
    rw [gD_e he, sAdds_e he m t]
theorem sBfs_e (he : xE10 G G') : ∀ (t p : Nat) (l : List Nat), sBfs G' t p l = sBfs G t p l
  | 0, p, l => rfl
  | t + 1, p, l => by
    unfold sBfs
    cases l[p]? with
    | none => rfl
    | some m => simp only; rw [gN_e he, sAdds_e he, sBfs_e he t]
theorem sOrd_e (he : xE10 G G') (r : Nat) : sOrd G' r = sOrd G r := sBfs_e he 12 0 [r]
theorem sLp_e (he : xE10 G G') {g g' : Nat → List Nat × List Nat → List Nat × List Nat} (hg : ∀ o z, g' o z = g o z) (m : Nat) : ∀ (t k : Nat) (z : List Nat × List Nat), sLp g' G' m t k z = sLp g G m t k z
  | 0, k, z => rfl
  | t + 1, k, z => by
    unfold sLp
    rw [gD_e he, hg, sLp_e he hg m t]
theorem sDfs_e (he : xE10 G G') : ∀ (f m : Nat) (z : List Nat × List Nat), sDfs G' f m z = sDfs G f m z
  | 0, m, z => rfl
  | f + 1, m, z => by
    by_cases h : m ∈ z.1
    · rw [sDfs_in h, sDfs_in h]
    · rw [sDfs_out h, sDfs_out h, gN_e he, sLp_e he (fun o z => sDfs_e he f o z)]
theorem sBeg_e (he : xE10 G G') (r : Nat) : sBeg G' r = sBeg G r := by unfold sBeg; rw [sDfs_e he]
theorem sUse_e (he : xE10 G G') (ord : List Nat) (m : Nat) (x : Int32) (fn : Bool) : sUse G' ord m x fn = sUse G ord m x fn := by
  unfold sUse
  rw [sFi_e he, he 10 (by decide) (by decide), he 4 (by decide) (by decide)]
theorem sNm_e (he : xE10 G G') (m k : Nat) : sNm G' m k = sNm G m k := by
  unfold sNm
  rw [sOp_e he, sAr_e he, sAr_e he]
theorem sLkS_e (he : xE10 G G') (ord : List Nat) (m : Nat) : ∀ (t k : Nat), sLkS G' ord m t k = sLkS G ord m t k
  | 0, k => rfl
  | t + 1, k => by
    unfold sLkS
    rw [sOp_e he, sUse_e he, sNm_e he, sLkS_e he ord m t]
theorem sLk_e (he : xE10 G G') (ord : List Nat) (m : Nat) (h11 : G' 11 m = G 11 m) : sLk G' ord m = sLk G ord m := by
  unfold sLk
  rw [h11, gS_e he, sLkS_e he, sUse_e he]
theorem sFt_e (he : xE10 G G') (ord : List Nat) : ∀ (l : List Nat), (∀ m ∈ l, G' 11 m = G 11 m) → sFt G' ord l = sFt G ord l
  | [], _ => rfl
  | m :: r, h => by
    unfold sFt
    rw [sLk_e he ord m (h m List.mem_cons_self), sFt_e he ord r (fun q hq => h q (List.mem_cons_of_mem _ hq))]
theorem sUC_e (he : xE10 G G') (m : Nat) (x : Int32) : ∀ (t k : Nat), sUC G' m x t k = sUC G m x t k
  | 0, k => rfl
  | t + 1, k => by
    unfold sUC
    rw [sOp_e he, sAr_e he, sUC_e he m x t]
theorem sFt_z {ord : List Nat} : ∀ {l : List Nat}, (sFt G ord l).1 = 0 → sFt G ord l = (0, -1, -1, -1)
  | [], _ => rfl
  | m :: r, h => by
    unfold sFt at h ⊢
    by_cases c : (sLk G ord m).1 = 0
    · rw [if_pos c] at h ⊢; exact sFt_z h
    · rw [if_neg c] at h; exact absurd h c
end
theorem xPr.e {G X : xX} (h : xPr G X) : ∀ i, 1 ≤ i → i ≤ 11 → X i = G i := h.2
/-- one module more -/
theorem xCl.mod {K K' : Nat → Nat × Nat} {I I' : Nat → Nat → Int32} {P P' : Nat → Nat → Option Nat} {o L Lb N : Nat} {G X G' X' : xX} (h : xCl K I P o L Lb G X) (hN : N = o + 59 + 13 * gC G) (hg : gC G < 12) (fK : ∀ a, a < N → K' a = K a) (fI : ∀ a, a < N → a ≠ o → I' a = I a) (i1 : I' o 1 = nI (gC G + 1)) (fP : ∀ a, a < N → a ≠ o + 22 → P' a = P a) (pk : ∀ k, k ≠ gC G → P' (o + 22) k = P (o + 22) k) (pc : P' (o + 22) (gC G) = some N) (ha : xAt K' P' N 2) (f1 : I' N 1 = 0) (f5 : I' N 5 = 0) (f8 : I' N 8 = -1) (f13 : I' N 13 = 0) (g2 : ∀ j, j < 64 → I' (N + 2) j = -1) (g11 : ∀ j, j < 64 → I' (N + 11) j = -1) (g5 : ∀ j, I' (N + 5) j = 0) (g6 : ∀ j, I' (N + 6) j = 0) (hG : G' = xuI (xuI G 11 (gC G) (-1)) 0 0 (nI (gC G + 1))) (hX : X' = xuI (xuI X 11 (gC G) (-1)) 0 0 (nI (gC G + 1))) : gC G' = gC G + 1 ∧ xCl K' I' P' o L Lb G' X' := by
  obtain ⟨h1, h2, ⟨w0, w1, w2, w3⟩, h4, h5, h6, h7, ⟨mk, h8⟩, h9, h10⟩ := h
  obtain ⟨T0, Tm, Tl, Tt, Tf, Tk, hF, hXa, hS, hSb, hne⟩ := h1
  have hLo := hS.2.2.2.2.2
  have hLb := hSb.2.2.2.2.2
  have he : xE10 G G' := fun i i1 i2 => by rw [hG, xuI_ne (by omega), xuI_ne (by omega)]
  have e11 : ∀ m, m ≠ gC G → G' 11 m = G 11 m := fun m hm => by rw [hG, xuI_ne (by decide), xuI_o (Or.inr hm)]
  have e11c : G' 11 (gC G) = -1 := by rw [hG, xuI_ne (by decide), xuI_s]
  have e00 : G' 0 0 = nI (gC G + 1) := by rw [hG, xuI_s]
  have hC : gC G' = gC G + 1 := by
    have : gC G' = (G' 0 0).toNatClampNeg := rfl
    rw [this, e00, nI_clamp (by omega)]
  have x0 : ∀ k, k ≠ 0 → X' 0 k = X 0 k := fun k hk => by rw [hX, xuI_o (Or.inr hk), xuI_ne (by decide)]
  have xr : ∀ i, 12 ≤ i → X' i = X i := fun i hi => by rw [hX, xuI_ne (by omega), xuI_ne (by omega)]
  have hr0 : K' (o + 22) = (102, 12) := by rw [fK _ (by omega)]; exact hS.2.2.1
  have hml : ∀ m, m < gC G' → P' (o + 22) m = some (o + 59 + 13 * m) ∧ xAt K' P' (o + 59 + 13 * m) 2 := fun m hm => by
    by_cases e : m = gC G
    · subst e; rw [← hN]; exact ⟨pc, ha⟩
    · have := hS.2.2.2.2.1 m (by omega)
      exact ⟨by rw [pk m e]; exact this.1, this.2.fr (by decide) (fun a h1 h2 => fK a (by simp only [xSp] at h2; omega)) (fP _ (by omega) (by omega))⟩
  have aL : ∀ L0, L0 = o + 23 ∨ L0 = o + 29 → xAt K P L0 1 → P L0 0 = some (o + 22) → xSL K' P' o L0 (gC G') := fun L0 hh q1 q2 => ⟨q1.fr (by decide) (fun a h1 h2 => fK a (by simp only [xSp] at h2; omega)) (fP _ (by omega) (by omega)), by rw [fP _ (by omega) (by omega)]; exact q2, hr0, by omega, hml, hh⟩
  refine ⟨hC, ⟨by rw [fK _ (by omega)]; exact T0, by rw [fP o (by omega) (by omega)]; exact Tm, by rw [fP o (by omega) (by omega)]; exact Tl, by rw [fP o (by omega) (by omega)]; exact Tt, by rw [fP o (by omega) (by omega)]; exact Tf, by rw [fP o (by omega) (by omega)]; exact Tk, hF.fr (by decide) (fun a h1 h2 => fK a (by simp only [xSp] at h2; omega)) (fP _ (by omega) (by omega)), hXa.fr (by decide) (fun a h1 h2 => fK a (by simp only [xSp] at h2; omega)) (fP _ (by omega) (by omega)), aL L hLo hS.1 hS.2.1, aL Lb hLb hSb.1 hSb.2.1, hne⟩, by rw [hC]; exact i1, ⟨by rw [e00, hC], by omega, fun m hm => ?_, fun m m1 m2 => ?_⟩, fun m hm => ?_, fun m v m1 m2 m3 => ?_, h6.fr (fun j _ => by rw [fI _ (by omega) (by omega)]) (fI _ (by omega) (by omega)) (fI _ (by omega) (by omega)) (xr _ (by decide)) (xr _ (by decide)) (fun j hj => x0 j (mem_ne hj (by decide))), ?_, ⟨mk, ?_⟩, ?_, ?_⟩
  · refine wfM.of ((w2 m hm).pN.cg (by rw [he 2 (by decide) (by decide)]) (fun k _ => by rw [he 1 (by decide) (by decide)]) (by omega)) ((w2 m hm).pD.cg (by rw [he 7 (by decide) (by decide)]) (fun i j _ _ _ => by rw [he i (by omega) (by omega)])) ((w2 m hm).pS.cg (by rw [he 9 (by decide) (by decide)]) (fun j _ => by rw [he 8 (by decide) (by decide)])) ?_ ((w2 m hm).pO.cg (fun v _ => by rw [he 10 (by decide) (by decide)]))
    by_cases e : m = gC G
    · subst e; exact Or.inl e11c
    · exact (w2 m hm).pB.cg (e11 m e)
  · rw [he 2 (by decide) (by decide), he 7 (by decide) (by decide), he 9 (by decide) (by decide), he 10 (by decide) (by decide)]
    exact w3 m (by omega) m2
  · by_cases e : m = gC G
    · subst e
      obtain ⟨z2, z7, z9, z10⟩ := w3 _ (Nat.le_refl _) hg
      have n2 : G' 2 (gC G) = nI 0 := by rw [he 2 (by decide) (by decide), z2]; rfl
      have n7 : G' 7 (gC G) = nI 0 := by rw [he 7 (by decide) (by decide), z7]; rfl
      have n9 : G' 9 (gC G) = nI 0 := by rw [he 9 (by decide) (by decide), z9]; rfl
      have k2 := gN_of n2 (by decide)
      have k7 := gF_of n7 (by decide)
      have k9 := gS_of n9 (by decide)
      rw [← hN]
      refine xMo.of ⟨by rw [f1, n2]; rfl, fun k hk => by omega⟩ ⟨fun v hv _ => g2 v hv, fun v e hv c => ?_, by rw [f5, n7]; rfl, fun t j _ hj => by omega, fun t _ _ => g5 t⟩ (fun v hv => by rw [g6, he 10 (by decide) (by decide), z10 v hv]) (by unfold mB; rw [f8, e11c]) ⟨by rw [f13, n9]; rfl, fun k hk => by omega⟩
      obtain ⟨j, j1, -⟩ := sOf_some c
      omega
    · exact xMo_other h4 w2 w1 (by omega) (fun i hi => fI _ (by omega) (by omega)) (by rw [he 2 (by decide) (by decide)]) (fun k _ => by rw [he 1 (by decide) (by decide)]) (by rw [he 7 (by decide) (by decide)]) (fun i j _ _ _ => by rw [he i (by omega) (by omega)]) (fun v _ => by rw [he 10 (by decide) (by decide)]) (e11 m e) (by rw [he 9 (by decide) (by decide)]) (fun j _ => by rw [he 8 (by decide) (by decide)])
  · by_cases e : m = gC G
    · subst e; rw [← hN]; exact g11 v m2
    · rw [fI _ (by omega) (by omega)]
      rw [gS_e he, sUC_e he] at m3
      exact h5 m v (by omega) m2 m3
  · unfold xFv at h7 ⊢
    rw [fI _ (by omega) (by omega), x0 25 (by decide), x0 26 (by decide), x0 27 (by decide)]; exact h7
  · obtain ⟨de, bd, sd, a1, a2, a3, a4, a5, a6, a7, a8⟩ := h8
    exact ⟨de, bd, sd, (x0 32 (by decide)).trans a1, a2, (x0 31 (by decide)).trans a3, (x0 30 (by decide)).trans a4, (x0 29 (by decide)).trans a5, a6, a7, a8⟩
  · rw [hG, hX]
    have := h9.u (a := 11) (j := gC G) (x := -1) (by decide)
    exact ⟨by rw [xuI_s, xuI_s], fun i i1 i2 => by rw [xuI_ne (by omega), xuI_ne (b := i) (a := 0) (by omega)]; exact this.2 i i1 i2⟩
  · rcases h10 with ⟨u1, u2, u3⟩ | ⟨r, lz, l1, l2, ⟨y1, y2, y3, y4⟩, l4, l5, l6⟩
    · refine Or.inl ⟨(x0 12 (by decide)).trans u1, ?_, ?_⟩
      · have := u2.fr (I' := I') (by rw [fI _ (by omega) (by omega)]) (fI _ (by omega) (by omega)) (fI _ (by omega) (by omega))
        exact ⟨this.1, this.2.1, this.2.2.1, this.2.2.2.1, okl0⟩
      · rw [x0 15 (by decide)]; exact u3
    · have hob := (sOB w2 w1 l1).1
      have hord : ∀ m ∈ sOrd G r, m < gC G := hob.2
      refine Or.inr ⟨r, lz, by omega, ?_, ⟨?_, fun v hv => ?_, ⟨?_, fun p m hp => ?_⟩, by rw [fI _ (by omega) (by omega)]; exact y4⟩, ?_, ?_, ?_⟩
      · unfold xLd at l2 ⊢
        rw [sOrd_e he, sBeg_e he]
        exact ⟨(x0 12 (by decide)).trans l2.1, (x0 13 (by decide)).trans l2.2.1, (x0 14 (by decide)).trans l2.2.2.1, (x0 15 (by decide)).trans l2.2.2.2.1, fun p m hp => by rw [xr (0 + 12) (by decide)]; exact l2.2.2.2.2.1 p m hp, fun p m hp => by rw [xr (0 + 13) (by decide)]; exact l2.2.2.2.2.2 p m hp⟩
      · rw [sOrd_e he]
        have := y1.fr (I' := I') (by rw [fI _ (by omega) (by omega)]) (fI _ (by omega) (by omega)) (fI _ (by omega) (by omega))
        exact ⟨this.1, this.2.1, this.2.2.1, this.2.2.2.1, this.2.2.2.2.1, fun q hq => by have := hord q hq; omega⟩
      · rw [fI _ (by omega) (by omega), sOrd_e he, sAm_e he]; exact y2 v hv
      · rw [fI _ (by omega) (by omega), sBeg_e he]; exact y3.1
      · rw [fI _ (by omega) (by omega)]; rw [sBeg_e he] at hp; exact y3.2 p m hp
      · rw [sOrd_e he]
        intro m hm
        have := hord m hm
        exact ⟨fun v hv => by rw [fI _ (by omega) (by omega), xr 14 (by decide)]; exact (l4 m hm).1 v hv, fun v e hv hs => by rw [fI _ (by omega) (by omega), xr 15 (by decide)]; rw [sOf_e he] at hs; exact (l4 m hm).2 v e hv hs⟩
      · rw [sOrd_e he]
        intro m v hm hv
        rw [gS_e he, sUC_e he, sFi_e he, xr 14 (by decide)]
        exact l5 m v hm hv
      · rw [sOrd_e he, sFt_e he _ _ (fun m hm => e11 m (by have := hord m hm; omega))]
        exact l6
