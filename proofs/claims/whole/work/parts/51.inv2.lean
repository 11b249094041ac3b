theorem xPr.u {G X : xX} {a j : Nat} {x : Int32} (h : xPr G X) (h1 : 1 ≤ a) : xPr (xuI G a j x) (xuI X a j x) := by
  refine ⟨by rw [xuI_o (Or.inl (by omega)), xuI_o (Or.inl (by omega))]; exact h.1, fun i i1 i2 => ?_⟩
  by_cases e : i = a
  · subst e
    funext k
    by_cases c : k = j
    · subst c; rw [xuI_s, xuI_s]
    · rw [xuI_o (Or.inr c), xuI_o (Or.inr c), h.2 i i1 i2]
  · rw [xuI_ne e, xuI_ne e]; exact h.2 i i1 i2
theorem xPr.z {G X : xX} {k : Nat} {x : Int32} (h : xPr G X) (hk : k ≠ 0) : xPr G (xuI X 0 k x) := ⟨by rw [xuI_o (Or.inr (by omega))]; exact h.1, fun i i1 i2 => by rw [xuI_ne (by omega)]; exact h.2 i i1 i2⟩
section
variable {I J : Nat → Nat → Int32} {G G' : xX} {o m : Nat}
/-- all but one part of one module stays -/
theorem xMo_other {m' : Nat} (hM : xMos I G o) (hw : ∀ m, m < 12 → wfM G m) (hg : gC G ≤ 12) (h' : m' < gC G) (jR : ∀ i, i ≤ 10 → J (o + 59 + 13 * m' + i) = I (o + 59 + 13 * m' + i)) (e2 : G' 2 m' = G 2 m') (e1 : ∀ k, k < 6 → G' 1 (6 * m' + k) = G 1 (6 * m' + k)) (e7 : G' 7 m' = G 7 m') (e3 : ∀ i j, 3 ≤ i → i ≤ 6 → j < 20 → G' i (20 * m' + j) = G i (20 * m' + j)) (e10 : ∀ v, v < 64 → G' 10 (64 * m' + v) = G 10 (64 * m' + v)) (e11 : G' 11 m' = G 11 m') (e9 : G' 9 m' = G 9 m') (e8 : ∀ j, j < 400 → G' 8 (400 * m' + j) = G 8 (400 * m' + j)) : xMo J G' (o + 59 + 13 * m') m' := by
  have h := hM m' h'
  have w := hw m' (by omega)
  have j0 : J (o + 59 + 13 * m') = I (o + 59 + 13 * m') := jR 0 (by omega)
  exact xMo.of (h.pN.cg w.pN (by rw [j0]) (jR 1 (by omega)) e2 e1) (h.pD.cg w.pD (by rw [j0]) (fun i _ _ => jR i (by omega)) e7 e3) (h.pO.cg (jR 6 (by omega)) e10) (h.pB.cg (by rw [j0]) e11) (h.pS.cg w.pS (by rw [j0]) (fun i _ _ => jR i (by omega)) e9 e8)
theorem wf_other {m' : Nat} (w : wfM G m') (hc : gC G ≤ gC G') (e2 : G' 2 m' = G 2 m') (e1 : ∀ k, k < 6 → G' 1 (6 * m' + k) = G 1 (6 * m' + k)) (e7 : G' 7 m' = G 7 m') (e3 : ∀ i j, 3 ≤ i → i ≤ 6 → j < 20 → G' i (20 * m' + j) = G i (20 * m' + j)) (e10 : ∀ v, v < 64 → G' 10 (64 * m' + v) = G 10 (64 * m' + v)) (e11 : G' 11 m' = G 11 m') (e9 : G' 9 m' = G 9 m') (e8 : ∀ j, j < 400 → G' 8 (400 * m' + j) = G 8 (400 * m' + j)) : wfM G' m' :=
  wfM.of (w.pN.cg e2 e1 hc) (w.pD.cg e7 e3) (w.pS.cg e9 e8) (w.pB.cg e11) (w.pO.cg e10)
theorem gN_of {g : Nat} (h : G' 2 m = nI g) (hg : g < 100) : gN G' m = g := by unfold gN; rw [h, nI_clamp (by omega)]
theorem gF_of {g : Nat} (h : G' 7 m = nI g) (hg : g < 100) : gF G' m = g := by unfold gF; rw [h, nI_clamp (by omega)]
theorem gS_of {g : Nat} (h : G' 9 m = nI g) (hg : g < 1000) : gS G' m = g := by unfold gS; rw [h, nI_clamp (by omega)]
theorem xSU_same (hU : xSU I G o) (hw : ∀ m, m < 12 → wfM G m) (hg : gC G ≤ 12) (hC : gC G' = gC G) (jR : ∀ m', m' < gC G → J (o + 59 + 13 * m' + 11) = I (o + 59 + 13 * m' + 11)) (e9 : G' 9 = G 9) (e8 : G' 8 = G 8) : xSU J G' o := fun m' v h1 h2 h3 => by
  rw [hC] at h1
  rw [jR m' h1]
  refine hU m' v h1 h2 ?_
  rw [← h3]
  exact (sUC_c (hw m' (by omega)).2.2.2.2.2.1.2 (by rw [e9]) (fun j _ => by rw [e8])).symm
/-- need -/
theorem mut_need {x : Nat} (hM : xMos I G o) (hW : xWf G) (hU : xSU I G o) (hm : m < gC G) (hx : x < gC G) (h6 : gN G m < 6) (hJ : J = xuI (xuI I (o + 59 + 13 * m + 1) (gN G m) (nI x)) (o + 59 + 13 * m) 1 (nI (gN G m + 1))) (hG : G' = xuI (xuI G 1 (6 * m + gN G m) (nI x)) 2 m (nI (gN G m + 1))) : gC G' = gC G ∧ xMos J G' o ∧ xWf G' ∧ xSU J G' o := by
  obtain ⟨w0, w1, w2, w3⟩ := hW
  have eR : ∀ i, i ≠ 1 → i ≠ 2 → G' i = G i := fun i h1 h2 => by rw [hG, xuI_ne h2, xuI_ne h1]
  have hC : gC G' = gC G := gC_c (by rw [eR 0 (by decide) (by decide)])
  have jR : ∀ a, a ≠ o + 59 + 13 * m → a ≠ o + 59 + 13 * m + 1 → J a = I a := fun a h1 h2 => by rw [hJ, xuI_ne h1, xuI_ne h2]
  have jq : ∀ k, k ≠ 1 → J (o + 59 + 13 * m) k = I (o + 59 + 13 * m) k := fun k hk => by rw [hJ, xuI_o (Or.inr hk), xuI_o (Or.inl (by omega))]
  have e2 : ∀ m', m' ≠ m → G' 2 m' = G 2 m' := fun m' h => by rw [hG, xuI_o (Or.inr h), xuI_ne (by decide)]
  have e1 : ∀ m' k, m' ≠ m → k < 6 → G' 1 (6 * m' + k) = G 1 (6 * m' + k) := fun m' k h hk => by rw [hG, xuI_ne (by decide), xuI_o (Or.inr (by omega))]
  have e2m : G' 2 m = nI (gN G m + 1) := by rw [hG, xuI_s]
  have hgN : gN G' m = gN G m + 1 := gN_of e2m (by omega)
  have e1m : ∀ k, k < gN G m → G' 1 (6 * m + k) = G 1 (6 * m + k) := fun k hk => by rw [hG, xuI_ne (by decide), xuI_o (Or.inr (by omega))]
  have e1n : G' 1 (6 * m + gN G m) = nI x := by rw [hG, xuI_ne (by decide), xuI_s]
  refine ⟨hC, fun m' h' => ?_, ⟨?_, by omega, fun m' h' => ?_, fun m' h1 h2 => ?_⟩, xSU_same hU w2 w1 hC (fun m' _ => jR _ (by omega) (by omega)) (eR _ (by decide) (by decide)) (eR _ (by decide) (by decide))⟩
  · rw [hC] at h'
    by_cases e : m' = m
    · subst e
      have h := hM m' h'
      have w := w2 m' (by omega)
      refine xMo.of ⟨?_, fun k hk => ?_⟩ (h.pD.cg w.pD (jq 5 (by decide)) (fun i _ _ => jR _ (by omega) (by omega)) (by rw [eR 7 (by decide) (by decide)]) (fun i j _ _ _ => by rw [eR i (by omega) (by omega)])) (h.pO.cg (jR _ (by omega) (by omega)) (fun v _ => by rw [eR 10 (by decide) (by decide)])) (h.pB.cg (jq 8 (by decide)) (by rw [eR 11 (by decide) (by decide)])) (h.pS.cg w.pS (jq 13 (by decide)) (fun i _ _ => jR _ (by omega) (by omega)) (by rw [eR 9 (by decide) (by decide)]) (fun j _ => by rw [eR 8 (by decide) (by decide)]))
      · rw [e2m, hJ, xuI_s]
      · rw [hgN] at hk
        by_cases c : k = gN G m'
        · subst c; rw [e1n, hJ, xuI_o (Or.inl (by omega)), xuI_s]
        · rw [e1m k (by omega), hJ, xuI_o (Or.inl (by omega)), xuI_o (Or.inr c)]
          exact h.d k (by omega)
    · exact xMo_other hM w2 w1 h' (fun i hi => jR _ (by omega) (by omega)) (e2 m' e) (fun k hk => e1 m' k e hk) (by rw [eR 7 (by decide) (by decide)]) (fun i j _ _ _ => by rw [eR i (by omega) (by omega)]) (fun v _ => by rw [eR 10 (by decide) (by decide)]) (by rw [eR 11 (by decide) (by decide)]) (by rw [eR 9 (by decide) (by decide)]) (fun j _ => by rw [eR 8 (by decide) (by decide)])
  · rw [hC, eR 0 (by decide) (by decide)]; exact w0
  · by_cases e : m' = m
    · subst e
      have w := w2 m' h'
      refine wfM.of ⟨⟨by rw [e2m, hgN], by omega⟩, fun k hk => ?_⟩ (w.pD.cg (by rw [eR 7 (by decide) (by decide)]) (fun i j _ _ _ => by rw [eR i (by omega) (by omega)])) (w.pS.cg (by rw [eR 9 (by decide) (by decide)]) (fun j _ => by rw [eR 8 (by decide) (by decide)])) (w.pB.cg (by rw [eR 11 (by decide) (by decide)])) (w.pO.cg (fun v _ => by rw [eR 10 (by decide) (by decide)]))
      rw [hgN] at hk
      rw [hC]
      unfold gD
      by_cases c : k = gN G m'
      · subst c; rw [e1n, nI_clamp (by omega)]; exact ⟨rfl, hx⟩
      · rw [e1m k (by omega)]; exact w.2.1 k (by omega)
    · exact wf_other (w2 m' h') (by omega) (e2 m' e) (fun k hk => e1 m' k e hk) (by rw [eR 7 (by decide) (by decide)]) (fun i j _ _ _ => by rw [eR i (by omega) (by omega)]) (fun v _ => by rw [eR 10 (by decide) (by decide)]) (by rw [eR 11 (by decide) (by decide)]) (by rw [eR 9 (by decide) (by decide)]) (fun j _ => by rw [eR 8 (by decide) (by decide)])
  · rw [hC] at h1
    rw [e2 m' (by omega), eR 7 (by decide) (by decide), eR 9 (by decide) (by decide), eR 10 (by decide) (by decide)]
    exact w3 m' h1 h2
/-- optional -/
theorem mut_opt {v : Nat} (hM : xMos I G o) (hW : xWf G) (hU : xSU I G o) (hm : m < gC G) (hv : v < 64) (hJ : J = xuI I (o + 59 + 13 * m + 6) v 1) (hG : G' = xuI G 10 (64 * m + v) 1) : gC G' = gC G ∧ xMos J G' o ∧ xWf G' ∧ xSU J G' o := by
  obtain ⟨w0, w1, w2, w3⟩ := hW
  have eR : ∀ i, i ≠ 10 → G' i = G i := fun i h1 => by rw [hG, xuI_ne h1]
  have hC : gC G' = gC G := gC_c (by rw [eR 0 (by decide)])
  have jR : ∀ a, a ≠ o + 59 + 13 * m + 6 → J a = I a := fun a h1 => by rw [hJ, xuI_ne h1]
  have e10 : ∀ m' v', m' ≠ m ∨ v' ≠ v → v' < 64 → G' 10 (64 * m' + v') = G 10 (64 * m' + v') := fun m' v' h h2 => by rw [hG, xuI_o (Or.inr (by omega))]
  have e10m : G' 10 (64 * m + v) = 1 := by rw [hG, xuI_s]
  refine ⟨hC, fun m' h' => ?_, ⟨?_, by omega, fun m' h' => ?_, fun m' h1 h2 => ?_⟩, xSU_same hU w2 w1 hC (fun m' _ => jR _ (by omega)) (eR _ (by decide)) (eR _ (by decide))⟩
  · rw [hC] at h'
    by_cases e : m' = m
    · subst e
      have h := hM m' h'
      have w := w2 m' (by omega)
      have j0 : J (o + 59 + 13 * m') = I (o + 59 + 13 * m') := jR _ (by omega)
      refine xMo.of (h.pN.cg w.pN (by rw [j0]) (jR _ (by omega)) (by rw [eR 2 (by decide)]) (fun k _ => by rw [eR 1 (by decide)])) (h.pD.cg w.pD (by rw [j0]) (fun i _ _ => jR _ (by omega)) (by rw [eR 7 (by decide)]) (fun i j _ _ _ => by rw [eR i (by omega)])) (fun v' hv' => ?_) (h.pB.cg (by rw [j0]) (by rw [eR 11 (by decide)])) (h.pS.cg w.pS (by rw [j0]) (fun i _ _ => jR _ (by omega)) (by rw [eR 9 (by decide)]) (fun j _ => by rw [eR 8 (by decide)]))
      by_cases c : v' = v
      · subst c; rw [e10m, hJ, xuI_s]
      · rw [e10 m' v' (Or.inr c) hv', hJ, xuI_o (Or.inr c)]; exact h.op v' hv'
    · exact xMo_other hM w2 w1 h' (fun i hi => jR _ (by omega)) (by rw [eR 2 (by decide)]) (fun k _ => by rw [eR 1 (by decide)]) (by rw [eR 7 (by decide)]) (fun i j _ _ _ => by rw [eR i (by omega)]) (fun v' hv' => e10 m' v' (Or.inl e) hv') (by rw [eR 11 (by decide)]) (by rw [eR 9 (by decide)]) (fun j _ => by rw [eR 8 (by decide)])
  · rw [hC, eR 0 (by decide)]; exact w0
  · have w := w2 m' h'
    refine wfM.of (w.pN.cg (by rw [eR 2 (by decide)]) (fun k _ => by rw [eR 1 (by decide)]) (by omega)) (w.pD.cg (by rw [eR 7 (by decide)]) (fun i j _ _ _ => by rw [eR i (by omega)])) (w.pS.cg (by rw [eR 9 (by decide)]) (fun j _ => by rw [eR 8 (by decide)])) (w.pB.cg (by rw [eR 11 (by decide)])) (fun v' hv' => ?_)
    by_cases c : m' = m ∧ v' = v
    · obtain ⟨rfl, rfl⟩ := c; exact Or.inr e10m
    · rw [e10 m' v' (by omega) hv']; exact w.pO v' hv'
  · rw [hC] at h1
    rw [eR 2 (by decide), eR 7 (by decide), eR 9 (by decide)]
    exact ⟨(w3 m' h1 h2).1, (w3 m' h1 h2).2.1, (w3 m' h1 h2).2.2.1, fun v' hv' => by rw [e10 m' v' (Or.inl (by omega)) hv']; exact (w3 m' h1 h2).2.2.2 v' hv'⟩
/-- beginner -/
theorem mut_beg {x : Int32} (hM : xMos I G o) (hW : xWf G) (hU : xSU I G o) (hm : m < gC G) (hx : x = -1 ∨ ∃ v : Nat, v < 64 ∧ x = nI v) (hJ : J = xuI I (o + 59 + 13 * m) 8 x) (hG : G' = xuI G 11 m x) : gC G' = gC G ∧ xMos J G' o ∧ xWf G' ∧ xSU J G' o := by
  obtain ⟨w0, w1, w2, w3⟩ := hW
  have eR : ∀ i, i ≠ 11 → G' i = G i := fun i h1 => by rw [hG, xuI_ne h1]
  have hC : gC G' = gC G := gC_c (by rw [eR 0 (by decide)])
  have jR : ∀ a, a ≠ o + 59 + 13 * m → J a = I a := fun a h1 => by rw [hJ, xuI_ne h1]
  have jq : ∀ k, k ≠ 8 → J (o + 59 + 13 * m) k = I (o + 59 + 13 * m) k := fun k hk => by rw [hJ, xuI_o (Or.inr hk)]
  have e11 : ∀ m', m' ≠ m → G' 11 m' = G 11 m' := fun m' h => by rw [hG, xuI_o (Or.inr h)]
  have e11m : G' 11 m = x := by rw [hG, xuI_s]
  refine ⟨hC, fun m' h' => ?_, ⟨?_, by omega, fun m' h' => ?_, fun m' h1 h2 => ?_⟩, xSU_same hU w2 w1 hC (fun m' _ => jR _ (by omega)) (eR _ (by decide)) (eR _ (by decide))⟩
  · rw [hC] at h'
    by_cases e : m' = m
    · subst e
      have h := hM m' h'
      have w := w2 m' (by omega)
      exact xMo.of (h.pN.cg w.pN (jq 1 (by decide)) (jR _ (by omega)) (by rw [eR 2 (by decide)]) (fun k _ => by rw [eR 1 (by decide)])) (h.pD.cg w.pD (jq 5 (by decide)) (fun i _ _ => jR _ (by omega)) (by rw [eR 7 (by decide)]) (fun i j _ _ _ => by rw [eR i (by omega)])) (h.pO.cg (jR _ (by omega)) (fun v _ => by rw [eR 10 (by decide)])) (by unfold mB; rw [e11m, hJ, xuI_s]) (h.pS.cg w.pS (jq 13 (by decide)) (fun i _ _ => jR _ (by omega)) (by rw [eR 9 (by decide)]) (fun j _ => by rw [eR 8 (by decide)]))
    · exact xMo_other hM w2 w1 h' (fun i hi => jR _ (by omega)) (by rw [eR 2 (by decide)]) (fun k _ => by rw [eR 1 (by decide)]) (by rw [eR 7 (by decide)]) (fun i j _ _ _ => by rw [eR i (by omega)]) (fun v _ => by rw [eR 10 (by decide)]) (e11 m' e) (by rw [eR 9 (by decide)]) (fun j _ => by rw [eR 8 (by decide)])
  · rw [hC, eR 0 (by decide)]; exact w0
  · have w := w2 m' h'
    refine wfM.of (w.pN.cg (by rw [eR 2 (by decide)]) (fun k _ => by rw [eR 1 (by decide)]) (by omega)) (w.pD.cg (by rw [eR 7 (by decide)]) (fun i j _ _ _ => by rw [eR i (by omega)])) (w.pS.cg (by rw [eR 9 (by decide)]) (fun j _ => by rw [eR 8 (by decide)])) ?_ (w.pO.cg (fun v _ => by rw [eR 10 (by decide)]))
    by_cases c : m' = m
    · subst c; unfold wB; rw [e11m]; exact hx
    · exact w.pB.cg (e11 m' c)
  · rw [hC] at h1
    rw [eR 2 (by decide), eR 7 (by decide), eR 9 (by decide), eR 10 (by decide)]
    exact w3 m' h1 h2
/-- put -/
theorem mut_put {x2 x3 x4 x5 : Int32} (hM : xMos I G o) (hW : xWf G) (hU : xSU I G o) (hm : m < gC G) (h6 : gS G m < 100) (hx : xStep x2 x3 x4 x5) (hJ : J = xuI (xuI (xuI (xuI (xuI I (o + 59 + 13 * m + 7) (gS G m) x2) (o + 59 + 13 * m + 8) (gS G m) x3) (o + 59 + 13 * m + 9) (gS G m) x4) (o + 59 + 13 * m + 10) (gS G m) x5) (o + 59 + 13 * m) 13 (nI (gS G m + 1))) (hG : G' = xuI (xuI (xuI (xuI (xuI G 8 (4 * (100 * m + gS G m)) x2) 8 (4 * (100 * m + gS G m) + 1) x3) 8 (4 * (100 * m + gS G m) + 2) x4) 8 (4 * (100 * m + gS G m) + 3) x5) 9 m (nI (gS G m + 1))) : gC G' = gC G ∧ xMos J G' o ∧ xWf G' ∧ xSU J G' o := by
  obtain ⟨w0, w1, w2, w3⟩ := hW
  have eR : ∀ i, i ≠ 8 → i ≠ 9 → G' i = G i := fun i h1 h2 => by rw [hG, xuI_ne h2, xuI_ne h1, xuI_ne h1, xuI_ne h1, xuI_ne h1]
  have hC : gC G' = gC G := gC_c (by rw [eR 0 (by decide) (by decide)])
  have jR : ∀ a, a ≠ o + 59 + 13 * m → (a < o + 59 + 13 * m + 7 ∨ o + 59 + 13 * m + 10 < a) → J a = I a := fun a h1 h2 => by rw [hJ, xuI_ne h1, xuI_ne (by omega), xuI_ne (by omega), xuI_ne (by omega), xuI_ne (by omega)]
  have jq : ∀ k, k ≠ 13 → J (o + 59 + 13 * m) k = I (o + 59 + 13 * m) k := fun k hk => by rw [hJ, xuI_o (Or.inr hk), xuI_ne (by omega), xuI_ne (by omega), xuI_ne (by omega), xuI_ne (by omega)]
  have e9 : ∀ m', m' ≠ m → G' 9 m' = G 9 m' := fun m' h => by rw [hG, xuI_o (Or.inr h), xuI_ne (by decide), xuI_ne (by decide), xuI_ne (by decide), xuI_ne (by decide)]
  have e8i : ∀ i, (i < 4 * (100 * m + gS G m) ∨ 4 * (100 * m + gS G m) + 3 < i) → G' 8 i = G 8 i := fun i h => by rw [hG, xuI_ne (by decide), xuI_o (Or.inr (by omega)), xuI_o (Or.inr (by omega)), xuI_o (Or.inr (by omega)), xuI_o (Or.inr (by omega))]
  have e8 : ∀ m' j, m' ≠ m → j < 400 → G' 8 (400 * m' + j) = G 8 (400 * m' + j) := fun m' j h hj => e8i _ (by omega)
  have e9m : G' 9 m = nI (gS G m + 1) := by rw [hG, xuI_s]
  have hgS : gS G' m = gS G m + 1 := gS_of e9m (by omega)
  have o1 : ∀ k, k < gS G m → sOp G' m k = sOp G m k := fun k hk => e8i _ (by omega)
  have o2 : ∀ k i, k < gS G m → i < 4 → sAr G' m k i = sAr G m k i := fun k i hk hi => e8i _ (by omega)
  have n0 : sOp G' m (gS G m) = x2 := by unfold sOp; rw [hG, xuI_ne (by decide), xuI_o (Or.inr (by omega)), xuI_o (Or.inr (by omega)), xuI_o (Or.inr (by omega)), xuI_s]
  have n1 : sAr G' m (gS G m) 1 = x3 := by unfold sAr; rw [hG, xuI_ne (by decide), xuI_o (Or.inr (by omega)), xuI_o (Or.inr (by omega)), xuI_s]
  have n2 : sAr G' m (gS G m) 2 = x4 := by unfold sAr; rw [hG, xuI_ne (by decide), xuI_o (Or.inr (by omega)), xuI_s]
  have n3 : sAr G' m (gS G m) 3 = x5 := by unfold sAr; rw [hG, xuI_ne (by decide), xuI_s]
  refine ⟨hC, fun m' h' => ?_, ⟨?_, by omega, fun m' h' => ?_, fun m' h1 h2 => ?_⟩, fun m' v h1 h2 h3 => ?_⟩
  · rw [hC] at h'
    by_cases e : m' = m
    · subst e
      have h := hM m' h'
      have w := w2 m' (by omega)
      refine xMo.of (h.pN.cg w.pN (jq 1 (by decide)) (jR _ (by omega) (by omega)) (by rw [eR 2 (by decide) (by decide)]) (fun k _ => by rw [eR 1 (by decide) (by decide)])) (h.pD.cg w.pD (jq 5 (by decide)) (fun i _ _ => jR _ (by omega) (by omega)) (by rw [eR 7 (by decide) (by decide)]) (fun i j _ _ _ => by rw [eR i (by omega) (by omega)])) (h.pO.cg (jR _ (by omega) (by omega)) (fun v _ => by rw [eR 10 (by decide) (by decide)])) (h.pB.cg (jq 8 (by decide)) (by rw [eR 11 (by decide) (by decide)])) ⟨?_, fun k hk => ?_⟩
      · rw [e9m, hJ, xuI_s]
      · rw [hgS] at hk
        by_cases c : k = gS G m'
        · subst c
          rw [n0, n1, n2, n3, hJ]
          refine ⟨?_, ?_, ?_, ?_⟩
          · rw [xuI_ne (by omega), xuI_ne (by omega), xuI_ne (by omega), xuI_ne (by omega), xuI_s]
          · rw [xuI_ne (by omega), xuI_ne (by omega), xuI_ne (by omega), xuI_s]
          · rw [xuI_ne (by omega), xuI_ne (by omega), xuI_s]
          · rw [xuI_ne (by omega), xuI_s]
        · rw [o1 k (by omega), o2 k 1 (by omega) (by omega), o2 k 2 (by omega) (by omega), o2 k 3 (by omega) (by omega), hJ]
          obtain ⟨s1, s2, s3, s4⟩ := h.st k (by omega)
          refine ⟨?_, ?_, ?_, ?_⟩
          · rw [xuI_ne (by omega), xuI_ne (by omega), xuI_ne (by omega), xuI_ne (by omega), xuI_o (Or.inr c)]; exact s1
          · rw [xuI_ne (by omega), xuI_ne (by omega), xuI_ne (by omega), xuI_o (Or.inr c), xuI_ne (by omega)]; exact s2
          · rw [xuI_ne (by omega), xuI_ne (by omega), xuI_o (Or.inr c), xuI_ne (by omega), xuI_ne (by omega)]; exact s3
          · rw [xuI_ne (by omega), xuI_o (Or.inr c), xuI_ne (by omega), xuI_ne (by omega), xuI_ne (by omega)]; exact s4
    · exact xMo_other hM w2 w1 h' (fun i hi => jR _ (by omega) (by omega)) (by rw [eR 2 (by decide) (by decide)]) (fun k _ => by rw [eR 1 (by decide) (by decide)]) (by rw [eR 7 (by decide) (by decide)]) (fun i j _ _ _ => by rw [eR i (by omega) (by omega)]) (fun v _ => by rw [eR 10 (by decide) (by decide)]) (by rw [eR 11 (by decide) (by decide)]) (e9 m' e) (fun j hj => e8 m' j e hj)
  · rw [hC, eR 0 (by decide) (by decide)]; exact w0
  · have w := w2 m' h'
    refine wfM.of (w.pN.cg (by rw [eR 2 (by decide) (by decide)]) (fun k _ => by rw [eR 1 (by decide) (by decide)]) (by omega)) (w.pD.cg (by rw [eR 7 (by decide) (by decide)]) (fun i j _ _ _ => by rw [eR i (by omega) (by omega)])) ?_ (w.pB.cg (by rw [eR 11 (by decide) (by decide)])) (w.pO.cg (fun v _ => by rw [eR 10 (by decide) (by decide)]))
    by_cases e : m' = m
    · subst e
      refine ⟨⟨by rw [e9m, hgS], by omega⟩, fun k hk => ?_⟩
      rw [hgS] at hk
      by_cases c : k = gS G m'
      · subst c; rw [n0, n1, n2, n3]; exact hx
      · rw [o1 k (by omega), o2 k 1 (by omega) (by omega), o2 k 2 (by omega) (by omega), o2 k 3 (by omega) (by omega)]
        exact w.pS.2 k (by omega)
    · exact w.pS.cg (e9 m' e) (fun j hj => e8 m' j e hj)
  · rw [hC] at h1
    rw [eR 2 (by decide) (by decide), eR 7 (by decide) (by decide), e9 m' (by omega), eR 10 (by decide) (by decide)]
    exact w3 m' h1 h2
  · rw [hC] at h1
    rw [jR _ (by omega) (by omega)]
    refine hU m' v h1 h2 ?_
    by_cases e : m' = m
    · subst e
      cases c : sUC G m' (nI v) (gS G m') 0 with
      | false => rfl
      | true =>
        obtain ⟨j, j1, j2, j3, j4⟩ := (sUC_iff _ _).mp c
        have := (sUC_iff (X := G') (m := m') (x := nI v) (gS G' m') 0).mpr ⟨j, j1, by omega, by rw [o1 j (by omega)]; exact j3, by rw [o2 j 1 (by omega) (by omega)]; exact j4⟩
        rw [h3] at this
        cases this
    · rw [← h3]
      exact (sUC_c (w2 m' (by omega)).2.2.2.2.2.1.2 (e9 m' e) (fun j hj => e8 m' j e hj)).symm
theorem sOfF_snoc {X : xX} {m : Nat} {x : Int32} : ∀ (t k : Nat), sOfF X m x (t + 1) k = match sOfF X m x t k with
    | some e => some e
    | none => if X 3 (20 * m + (k + t)) = x then some (20 * m + (k + t)) else none
  | 0, k => rfl
  | t + 1, k => by
    rw [show sOfF X m x (t + 1 + 1) k = if X 3 (20 * m + k) = x then some (20 * m + k) else sOfF X m x (t + 1) (k + 1) from rfl, show sOfF X m x (t + 1) k = if X 3 (20 * m + k) = x then some (20 * m + k) else sOfF X m x t (k + 1) from rfl, sOfF_snoc t (k + 1)]
    by_cases c : X 3 (20 * m + k) = x
    · rw [if_pos c, if_pos c]
    · rw [if_neg c, if_neg c, show k + 1 + t = k + (t + 1) by omega]
/-- define -/
theorem mut_def {v : Nat} {x3 x4 x5 : Int32} (hM : xMos I G o) (hW : xWf G) (hU : xSU I G o) (hm : m < gC G) (hv : v < 64) (hk : x3 = 0 ∨ x3 = 1) (ht0 : x3 = 0 → ∃ t : Nat, t < 100 ∧ x4 = nI t) (hs : sOf G m (nI v) = none) (hf : gF G m < 20) (hJ : ∀ a, a ≠ o + 59 + 13 * m → (a < o + 59 + 13 * m + 2 ∨ o + 59 + 13 * m + 5 < a) → J a = I a) (hJq : ∀ k, k ≠ 5 → J (o + 59 + 13 * m) k = I (o + 59 + 13 * m) k) (hJ5 : J (o + 59 + 13 * m) 5 = nI (gF G m + 1)) (hJn : ∀ i v', 2 ≤ i → i ≤ 4 → v' ≠ v → J (o + 59 + 13 * m + i) v' = I (o + 59 + 13 * m + i) v') (hJ2 : J (o + 59 + 13 * m + 2) v = x3) (hJ3 : J (o + 59 + 13 * m + 3) v = x4) (hJ4 : J (o + 59 + 13 * m + 4) v = x5) (hF1 : ∀ t, t < 100 → x3 = 0 → x4 = nI t → J (o + 59 + 13 * m + 5) t = 1) (hF0 : ∀ t, (x3 = 1 ∨ x4 ≠ nI t) → J (o + 59 + 13 * m + 5) t = I (o + 59 + 13 * m + 5) t) (hG : G' = xuI (xuI (xuI (xuI (xuI G 3 (20 * m + gF G m) (nI v)) 4 (20 * m + gF G m) x3) 5 (20 * m + gF G m) x4) 6 (20 * m + gF G m) x5) 7 m (nI (gF G m + 1))) : gC G' = gC G ∧ xMos J G' o ∧ xWf G' ∧ xSU J G' o := by
  obtain ⟨w0, w1, w2, w3⟩ := hW
  have eR : ∀ i, (i < 3 ∨ 7 < i) → G' i = G i := fun i h => by rw [hG, xuI_ne (by omega), xuI_ne (by omega), xuI_ne (by omega), xuI_ne (by omega), xuI_ne (by omega)]
  have hC : gC G' = gC G := gC_c (by rw [eR 0 (by decide)])
  have e7 : ∀ m', m' ≠ m → G' 7 m' = G 7 m' := fun m' h => by rw [hG, xuI_o (Or.inr h), xuI_ne (by decide), xuI_ne (by decide), xuI_ne (by decide), xuI_ne (by decide)]
  have eI : ∀ i a, 3 ≤ i → i ≤ 6 → a ≠ 20 * m + gF G m → G' i a = G i a := fun i a h1 h2 h3 => by rw [hG, xuI_ne (by omega), xuI_o (Or.inr h3), xuI_o (Or.inr h3), xuI_o (Or.inr h3), xuI_o (Or.inr h3)]
  have e3 : ∀ m' i j, m' ≠ m → 3 ≤ i → i ≤ 6 → j < 20 → G' i (20 * m' + j) = G i (20 * m' + j) := fun m' i j h h1 h2 h3 => eI i _ h1 h2 (by omega)
  have n3 : G' 3 (20 * m + gF G m) = nI v := by rw [hG, xuI_ne (by decide), xuI_ne (by decide), xuI_ne (by decide), xuI_ne (by decide), xuI_s]
  have n4 : G' 4 (20 * m + gF G m) = x3 := by rw [hG, xuI_ne (by decide), xuI_ne (by decide), xuI_ne (by decide), xuI_s]
  have n5 : G' 5 (20 * m + gF G m) = x4 := by rw [hG, xuI_ne (by decide), xuI_ne (by decide), xuI_s]
  have n6 : G' 6 (20 * m + gF G m) = x5 := by rw [hG, xuI_ne (by decide), xuI_s]
  have e7m : G' 7 m = nI (gF G m + 1) := by rw [hG, xuI_s]
  have hgF : gF G' m = gF G m + 1 := gF_of e7m (by omega)
  have hsn : ∀ x, sOf G' m x = match sOf G m x with
      | some e => some e
      | none => if nI v = x then some (20 * m + gF G m) else none := fun x => by
    unfold sOf
    rw [hgF, sOfF_snoc, Nat.zero_add, n3, sOfF_c (G' := G') (G := G) (gF G m) 0 (fun j _ h2 => eI 3 _ (by omega) (by omega) (by omega))]
  have hsv : sOf G' m (nI v) = some (20 * m + gF G m) := by rw [hsn, hs]; exact if_pos rfl
  have hso : ∀ v', v' < 64 → v' ≠ v → sOf G' m (nI v') = sOf G m (nI v') := fun v' h1 h2 => by
    rw [hsn]
    cases sOf G m (nI v') with
    | some e => rfl
    | none => simp only; rw [if_neg (fun c => h2 (nI_inj (by omega) (by omega) c).symm)]
  refine ⟨hC, fun m' h' => ?_, ⟨?_, by omega, fun m' h' => ?_, fun m' h1 h2 => ?_⟩, xSU_same hU w2 w1 hC (fun m' _ => hJ _ (by omega) (by omega)) (eR _ (by decide)) (eR _ (by decide))⟩
  · rw [hC] at h'
    by_cases e : m' = m
    · subst e
      have h := hM m' h'
      have w := w2 m' (by omega)
      refine xMo.of (h.pN.cg w.pN (hJq 1 (by decide)) (hJ _ (by omega) (by omega)) (by rw [eR 2 (by decide)]) (fun k _ => by rw [eR 1 (by decide)])) ⟨fun v' hv' c => ?_, fun v' e hv' c => ?_, by rw [hJ5, e7m], fun t j ht hj c1 c2 => ?_, fun t ht c => ?_⟩ (h.pO.cg (hJ _ (by omega) (by omega)) (fun v _ => by rw [eR 10 (by decide)])) (h.pB.cg (hJq 8 (by decide)) (by rw [eR 11 (by decide)])) (h.pS.cg w.pS (hJq 13 (by decide)) (fun i _ _ => hJ _ (by omega) (by omega)) (by rw [eR 9 (by decide)]) (fun j _ => by rw [eR 8 (by decide)]))
      · by_cases cv : v' = v
        · subst cv; rw [hsv] at c; cases c
        · rw [hso v' hv' cv] at c
          rw [hJn 2 v' (by omega) (by omega) cv]; exact h.k0 v' hv' c
      · by_cases cv : v' = v
        · subst cv
          rw [hsv] at c; cases c
          rw [n4, n5, n6]; exact ⟨hJ2, hJ3, hJ4⟩
        · rw [hso v' hv' cv] at c
          obtain ⟨j, j1, j2, -⟩ := sOf_some c
          rw [hJn 2 v' (by omega) (by omega) cv, hJn 3 v' (by omega) (by omega) cv, hJn 4 v' (by omega) (by omega) cv, eI 4 e (by omega) (by omega) (by omega), eI 5 e (by omega) (by omega) (by omega), eI 6 e (by omega) (by omega) (by omega)]
          exact h.k1 v' e hv' c
      · rw [hgF] at hj
        by_cases cj : j = gF G m'
        · subst cj
          rw [n4] at c1; rw [n5] at c2
          exact hF1 t ht c1 c2
        · rw [eI 4 _ (by omega) (by omega) (by omega)] at c1
          rw [eI 5 _ (by omega) (by omega) (by omega)] at c2
          have := h.a1 t j ht (by omega) c1 c2
          rcases hk with z | z
          · by_cases q : x4 = nI t
            · exact hF1 t ht z q
            · rw [hF0 t (Or.inr q)]; exact this
          · rw [hF0 t (Or.inl z)]; exact this
      · rw [hgF] at c
        have hq : x3 = 1 ∨ x4 ≠ nI t := by
          rcases hk with z | z
          · have := c (gF G m') (by omega) (by rw [n4]; exact z)
            rw [n5] at this
            exact Or.inr this
          · exact Or.inl z
        rw [hF0 t hq]
        refine h.a0 t ht (fun j hj c1 => ?_)
        have := c j (by omega) (by rw [eI 4 _ (by omega) (by omega) (by omega)]; exact c1)
        rw [eI 5 _ (by omega) (by omega) (by omega)] at this
        exact this
    · exact xMo_other hM w2 w1 h' (fun i hi => hJ _ (by omega) (by omega)) (by rw [eR 2 (by decide)]) (fun k _ => by rw [eR 1 (by decide)]) (e7 m' e) (fun i j a b c => e3 m' i j e a b c) (fun v _ => by rw [eR 10 (by decide)]) (by rw [eR 11 (by decide)]) (by rw [eR 9 (by decide)]) (fun j _ => by rw [eR 8 (by decide)])
  · rw [hC, eR 0 (by decide)]; exact w0
  · have w := w2 m' h'
    refine wfM.of (w.pN.cg (by rw [eR 2 (by decide)]) (fun k _ => by rw [eR 1 (by decide)]) (by omega)) ?_ (w.pS.cg (by rw [eR 9 (by decide)]) (fun j _ => by rw [eR 8 (by decide)])) (w.pB.cg (by rw [eR 11 (by decide)])) (w.pO.cg (fun v _ => by rw [eR 10 (by decide)]))
    by_cases e : m' = m
    · subst e
      refine ⟨⟨by rw [e7m, hgF], by omega⟩, fun k hk2 => ?_, fun j k hj hk2 c => ?_⟩
      · rw [hgF] at hk2
        by_cases ck : k = gF G m'
        · subst ck; rw [n3, n4, n5]; exact ⟨⟨v, hv, rfl⟩, hk, ht0⟩
        · rw [eI 3 _ (by omega) (by omega) (by omega), eI 4 _ (by omega) (by omega) (by omega), eI 5 _ (by omega) (by omega) (by omega)]
          exact w.pD.2.1 k (by omega)
      · rw [hgF] at hj hk2
        by_cases cj : j = gF G m'
        · by_cases ck : k = gF G m'
          · omega
          · subst cj
            rw [n3, eI 3 _ (by omega) (by omega) (by omega)] at c
            exact absurd c.symm (sOf_none hs k (by omega))
        · by_cases ck : k = gF G m'
          · subst ck
            rw [n3, eI 3 _ (by omega) (by omega) (by omega)] at c
            exact absurd c (sOf_none hs j (by omega))
          · rw [eI 3 _ (by omega) (by omega) (by omega), eI 3 _ (by omega) (by omega) (by omega)] at c
            exact w.pD.2.2 j k (by omega) (by omega) c
    · exact w.pD.cg (e7 m' e) (fun i j a b c => e3 m' i j e a b c)
  · rw [hC] at h1
    rw [eR 2 (by decide), e7 m' (by omega), eR 9 (by decide), eR 10 (by decide)]
    exact w3 m' h1 h2
end
