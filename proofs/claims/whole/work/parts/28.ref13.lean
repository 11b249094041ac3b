theorem f4 {j k : Nat} (hj : j ∈ [29, 31, 32, 36]) (hk : k ∉ [29, 31, 32, 36]) : j ≠ k := fun e => hk (e ▸ hj)
theorem wfR_set {ord : List Nat} {X Y : xX} {dp mk m k : Nat} (h : wfR ord X dp mk) (hf : ∀ j, j ∈ [29, 31, 32, 36] → Y 0 j = X 0 j) (h30 : Y 0 30 = X 0 30 ∨ ∃ sd : Nat, Y 0 30 = nI sd ∧ sd ≤ mk) (h37 : Y 0 37 = nI m) (hm : m ∈ ord) (h38 : Y 0 38 = nI k) (hk : k ≤ 100) (h22 : Y 22 = X 22) (h23 : Y 23 = X 23) : wfR ord Y dp mk := by
  obtain ⟨de, bd, sd, a1, a2, a3, a4, a5, a6, a7, a8, a9, a10, a11, a12⟩ := h
  obtain ⟨sd', b1, b2⟩ : ∃ sd' : Nat, Y 0 30 = nI sd' ∧ sd' ≤ mk := by
    rcases h30 with z | z
    · exact ⟨sd, z.trans a6, a9⟩
    · exact z
  exact ⟨de, bd, sd', (hf 36 (by decide)).trans a1, a2, (hf 32 (by decide)).trans a3, a4, (hf 31 (by decide)).trans a5, b1, (hf 29 (by decide)).trans a7, a8, b2, a10, fun _ => ⟨m, k, h37, hm, h38, hk⟩, fun i h1 h2 => by rw [h22, h23]; exact a12 i h1 h2⟩
theorem xu_row {X : xX} {i j b : Nat} {x : Int32} (h : b ≠ i) : xuI X i j x b = X b := xuI_ne h
/-- one step keeps a run's numbers -/
theorem wfR_make {G X : xX} {ord : List Nat} {dp mk m k : Nat} (hw : ∀ m, m < 12 → wfM G m) (ho2 : ∀ q ∈ ord, q < 12) (hl : lchk G ord) (h : wfR ord X dp (mk + 1)) (hbd : ∃ bd : Nat, X 0 31 = nI bd ∧ bd ≤ mk) (hsd : ∃ sd : Nat, X 0 30 = nI sd ∧ sd ≤ mk) (hd : 1 ≤ dp) (h37 : X 0 37 = nI m) (hm : m ∈ ord) (h38 : X 0 38 = nI k) (hk : k < gS G m) : ∃ dp', wfR ord (rMk G ord X).2 dp' (mk + 1) := by
  have hm12 := ho2 m hm
  obtain ⟨w1, w2⟩ := (hw m hm12).2.2.2.2.2.1
  have hst := (hw m hm12).2.2.2.2.2.2.1 k hk
  obtain ⟨bd, hbd1, hbd2⟩ := hbd
  obtain ⟨sd, hsd1, hsd2⟩ := hsd
  have hmk : mk + 1 ≤ 5000 := by obtain ⟨de, bd, sd, a1, a2, a3, a4, a5, a6, a7, a8, a9, a10, -⟩ := h; exact a10
  have hdp : dp ≤ 101 := by obtain ⟨de, bd, sd, a1, a2, -⟩ := h; exact a2
  have h36 : X 0 36 = nI dp := by obtain ⟨de, bd, sd, a1, -⟩ := h; exact a1
  unfold rMk
  rw [rN_of h37 (by omega), rN_of h38 (by omega)]
  have hY : wfR ord (xuI X 0 38 (nI (k + 1))) dp (mk + 1) := wfR_set h (fun j hj => xuI_o (Or.inr (f4 hj (by decide)))) (Or.inl (by simp [xuI])) (by simpa [xuI] using h37) hm (k := k + 1) (by simp [xuI]) (by omega) (xu_row (by decide)) (xu_row (by decide))
  have reg : ∀ (r a : Nat) (y : Int32), 15 ≤ r → r ≤ 21 → wfR ord (xuI (xuI X 0 38 (nI (k + 1))) r a y) dp (mk + 1) := fun r a y q1 q2 => wfR_set hY (fun j _ => xuI_o (Or.inl (by omega))) (Or.inl (xuI_o (Or.inl (by omega)))) ((xuI_o (Or.inl (by omega))).trans ((by simpa [xuI] using h37))) hm ((xuI_o (Or.inl (by omega))).trans (by simp [xuI])) (show k + 1 ≤ 100 by omega) (xu_row (by omega)) (xu_row (by omega))
  have cal : ∀ (Z : xX) (e : Nat), wfR ord Z dp (mk + 1) → Z 0 37 = nI m → Z 0 38 = nI (k + 1) → e / 20 ∈ ord → (∃ v : Nat, v < 100 ∧ G 5 e = nI v) → ∃ dp', wfR ord (rCall G Z (some e)).2 dp' (mk + 1) := fun Z e z1 z2 z3 z4 z5 => by
    obtain ⟨dp', q, -⟩ := wfR_call (G := G) z1 (Or.inr ⟨m, k + 1, z2, z3, hm, by omega⟩) z4 z5
    exact ⟨dp', q⟩
  have def5 : ∀ q e x, q ∈ ord → sOf G q x = some e → G 4 e = 0 → e / 20 ∈ ord ∧ ∃ v : Nat, v < 100 ∧ G 5 e = nI v := fun q e x hq h1 h2 => by
    have hq12 := ho2 q hq
    obtain ⟨j, j1, j2, -⟩ := sOf_some h1
    have hlt := (hw q hq12).2.2.1.2
    have := (sOf_lt hlt hq12 h1).2
    subst j2
    exact ⟨by rw [this]; exact hq, ((hw q hq12).2.2.2.1 j j1).2.2 h2⟩
  unfold rMkO
  unfold xStep at hst
  rcases hst with ⟨eo, -⟩ | ⟨eo, -⟩ | ⟨eo, -⟩ | ⟨eo, -⟩ | ⟨eo, -⟩ | ⟨eo, -, -, ⟨c1, hc1, ec⟩⟩ | ⟨eo, ⟨a1, ha1, ea⟩⟩ | ⟨eo, ⟨a1, ha1, ea⟩⟩ | ⟨eo, -⟩ | ⟨eo, -⟩ | ⟨eo, -⟩ | ⟨eo, -⟩ | eo | ⟨eo, -⟩ | eo
  · rw [eo, if_pos rfl]
    exact ⟨dp, reg 20 _ _ (by decide) (by decide)⟩
  · rw [eo, if_neg (by decide), if_pos rfl]
    exact ⟨dp, reg 20 _ _ (by decide) (by decide)⟩
  · rw [eo, if_neg (by decide), if_neg (by decide), if_pos rfl]
    exact ⟨dp, reg 20 _ _ (by decide) (by decide)⟩
  · rw [eo, if_neg (by decide), if_neg (by decide), if_neg (by decide), if_pos rfl]
    exact ⟨dp, reg 20 _ _ (by decide) (by decide)⟩
  · rw [eo, if_neg (by decide), if_neg (by decide), if_neg (by decide), if_neg (by decide), if_pos rfl]
    exact ⟨dp, reg 20 _ _ (by decide) (by decide)⟩
  · rw [eo, if_neg (by decide), if_neg (by decide), if_neg (by decide), if_neg (by decide), if_neg (by decide), if_pos rfl]
    refine ⟨dp, ?_⟩
    dsimp only
    split
    · exact wfR_set hY (fun j hj => xuI_o (Or.inr (f4 hj (by decide)))) (Or.inl (by simp [xuI])) (by simpa [xuI] using h37) hm (k := k + 1) (by simp [xuI]) (by omega) (xu_row (by decide)) (xu_row (by decide))
    · exact wfR_set hY (fun j hj => xuI_o (Or.inr (f4 hj (by decide)))) (Or.inl (by simp [xuI])) (by simpa [xuI] using h37) hm (k := c1) (by simpa [xuI] using ec) (by omega) (xu_row (by decide)) (xu_row (by decide))
  · rw [eo, if_neg (by decide), if_neg (by decide), if_neg (by decide), if_neg (by decide), if_neg (by decide), if_neg (by decide), if_pos rfl]
    refine ⟨dp, ?_⟩
    dsimp only
    exact wfR_set hY (fun j hj => xuI_o (Or.inr (f4 hj (by decide)))) (Or.inl (by simp [xuI])) (by simpa [xuI] using h37) hm (k := a1) (by simpa [xuI] using ea) (by omega) (xu_row (by decide)) (xu_row (by decide))
  · rw [eo, if_neg (by decide), if_neg (by decide), if_neg (by decide), if_neg (by decide), if_neg (by decide), if_neg (by decide), if_neg (by decide), if_pos rfl]
    unfold rCn
    have hZ : wfR ord (if xuI X 0 38 (nI (k + 1)) 14 (64 * m + rN (sAr G m k 1)) = 21 then xuI (xuI (xuI X 0 38 (nI (k + 1))) 14 (64 * m + rN (sAr G m k 1)) (oM (sFi G ord m (sAr G m k 1)))) 0 31 (nI (rN (xuI X 0 38 (nI (k + 1)) 0 31) + 1)) else xuI X 0 38 (nI (k + 1))) dp (mk + 1) := by
      split
      · have e31 : rN (xuI X 0 38 (nI (k + 1)) 0 31) = bd := by rw [xuI_o (Or.inr (by decide))]; exact rN_of hbd1 (by omega)
        rw [e31]
        obtain ⟨de, bd2, sd2, a1, a2, a3, a4, a5, a6, a7, a8, a9, a10, a11, a12⟩ := hY
        exact ⟨de, bd + 1, sd2, by simpa [xuI] using a1, a2, by simpa [xuI] using a3, a4, by simp [xuI], by simpa [xuI] using a6, by simpa [xuI] using a7, by omega, a9, a10, fun q => by obtain ⟨m', k', c1, c2, c3, c4⟩ := a11 q; exact ⟨m', k', by simpa [xuI] using c1, c2, by simpa [xuI] using c3, c4⟩, fun i i1 i2 => by obtain ⟨m', k', c1, c2, c3, c4⟩ := a12 i i1 i2; exact ⟨m', k', by simpa [xuI] using c1, c2, by simpa [xuI] using c3, c4⟩⟩
      · exact hY
    cases hf : sFi G ord m (sAr G m k 1) with
    | none =>
      rw [hf] at hZ
      exact ⟨dp, hZ⟩
    | some e =>
      rw [hf] at hZ
      obtain ⟨q, hq, hqe⟩ := sFi_mem hm hf
      obtain ⟨d1, d2⟩ := def5 q e _ hq hqe (hl m k e hm hk eo hf)
      refine cal _ e hZ ?_ ?_ d1 d2
      · split
        · simpa [xuI] using h37
        · simpa [xuI] using h37
      · split
        · simp [xuI]
        · simp [xuI]
  · rw [eo, if_neg (by decide), if_neg (by decide), if_neg (by decide), if_neg (by decide), if_neg (by decide), if_neg (by decide), if_neg (by decide), if_neg (by decide), if_pos rfl]
    exact ⟨dp, reg 20 _ _ (by decide) (by decide)⟩
  · rw [eo, if_neg (by decide), if_neg (by decide), if_neg (by decide), if_neg (by decide), if_neg (by decide), if_neg (by decide), if_neg (by decide), if_neg (by decide), if_neg (by decide), if_pos rfl]
    dsimp only
    cases sFi G ord m (sAr G m k 1) with
    | none => exact ⟨dp, hY⟩
    | some e => exact ⟨dp, reg 15 _ _ (by decide) (by decide)⟩
  · rw [eo, if_neg (by decide), if_neg (by decide), if_neg (by decide), if_neg (by decide), if_neg (by decide), if_neg (by decide), if_neg (by decide), if_neg (by decide), if_neg (by decide), if_neg (by decide), if_pos rfl]
    exact ⟨dp, reg 20 _ _ (by decide) (by decide)⟩
  · rw [eo, if_neg (by decide), if_neg (by decide), if_neg (by decide), if_neg (by decide), if_neg (by decide), if_neg (by decide), if_neg (by decide), if_neg (by decide), if_neg (by decide), if_neg (by decide), if_neg (by decide), if_pos rfl]
    cases hf : rAt G ord (X 20 (rN (sAr G m k 1))) with
    | none => exact ⟨dp, hY⟩
    | some e =>
      obtain ⟨q, j, q1, q2, q3, q4, q5⟩ := rAt_some hf
      have hq12 := ho2 q q1
      have hlt := (hw q hq12).2.2.1.2
      subst q3
      exact cal _ _ hY (by simpa [xuI] using h37) (by simp [xuI]) (by rw [show (20 * q + j) / 20 = q by omega]; exact q1) (((hw q hq12).2.2.2.1 j q2).2.2 q4)
  · rw [eo, if_neg (by decide), if_neg (by decide), if_neg (by decide), if_neg (by decide), if_neg (by decide), if_neg (by decide), if_neg (by decide), if_neg (by decide), if_neg (by decide), if_neg (by decide), if_neg (by decide), if_neg (by decide), if_pos rfl]
    rw [rN_of h36 (by omega)]
    obtain ⟨de, bd2, sd2, a1, a2, a3, a4, a5, a6, a7, a8, a9, a10, a11, a12⟩ := hY
    refine ⟨dp - 1, de, bd2, sd2, by simp [xuI], by omega, by simpa [xuI] using a3, a4, by simpa [xuI] using a5, by simpa [xuI] using a6, by simpa [xuI] using a7, a8, a9, a10, fun q => ?_, fun i i1 i2 => ?_⟩
    · obtain ⟨m', k', c1, c2, c3, c4⟩ := a12 (dp - 1) q (by omega)
      exact ⟨m', k', by simpa [xuI] using c1, c2, by simpa [xuI] using c3, c4⟩
    · obtain ⟨m', k', c1, c2, c3, c4⟩ := a12 i i1 (by omega)
      exact ⟨m', k', by simpa [xuI] using c1, c2, by simpa [xuI] using c3, c4⟩
  · rw [eo, if_neg (by decide), if_neg (by decide), if_neg (by decide), if_neg (by decide), if_neg (by decide), if_neg (by decide), if_neg (by decide), if_neg (by decide), if_neg (by decide), if_neg (by decide), if_neg (by decide), if_neg (by decide), if_neg (by decide), if_pos rfl]
    rw [rN_of hsd1 (by omega)]
    have key : ∀ Z : xX, wfR ord Z dp (mk + 1) → Z 0 37 = nI m → Z 0 38 = nI (k + 1) → wfR ord (xuI Z 0 30 (nI (sd + 1))) dp (mk + 1) := fun Z z1 z2 z3 => wfR_set z1 (fun j hj => xuI_o (Or.inr (f4 hj (by decide)))) (Or.inr ⟨sd + 1, by simp [xuI], by omega⟩) (by simpa [xuI] using z2) hm (k := k + 1) (by simpa [xuI] using z3) (by omega) (xu_row (by decide)) (xu_row (by decide))
    refine ⟨dp, ?_⟩
    dsimp only
    split
    · exact key _ (reg 21 _ _ (by decide) (by decide)) (by simpa [xuI] using h37) (by simp [xuI])
    · exact key _ hY (by simpa [xuI] using h37) (by simp [xuI])
  · rw [eo, if_neg (by decide), if_neg (by decide), if_neg (by decide), if_neg (by decide), if_neg (by decide), if_neg (by decide), if_neg (by decide), if_neg (by decide), if_neg (by decide), if_neg (by decide), if_neg (by decide), if_neg (by decide), if_neg (by decide), if_neg (by decide)]
    exact ⟨dp, hY⟩
