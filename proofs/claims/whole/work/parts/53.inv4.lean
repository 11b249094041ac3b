section
variable {K : Nat → Nat × Nat} {I I' : Nat → Nat → Int32} {P : Nat → Nat → Option Nat} {o L Lb : Nat} {G X X' : xX}
theorem xFX_row {rows flds : List Nat} (hF : xF 0 rows flds X X') (i : Nat) (hi : i ∉ rows) (h0 : i ≠ 0) : X' i = X i := by
  have := hF.row i hi h0
  rw [Nat.zero_add] at this
  exact this
theorem xFX_pr {rows flds : List Nat} (hF : xF 0 rows flds X X') (hr : ∀ i ∈ rows, 11 < i) (h0 : 0 ∉ flds) (h : xPr G X) : xPr G X' := ⟨by rw [hF.fld 0 h0 (fun c => absurd (hr 0 c) (by omega))]; exact h.1, fun i i1 i2 => by rw [xFX_row hF i (fun c => absurd (hr i c) (by omega)) (by omega)]; exact h.2 i i1 i2⟩
/-- a load with a fault -/
theorem xCl.ldf {r : Nat} (h : xCl K I P o L Lb G X) (f : ∀ a, a ≠ o + 1 → (a < Lb ∨ Lb + 5 < a) → I' a = I a) (hF : xF 0 [16, 17] [20, 25, 26, 27] X X') (e1 : I' (o + 1) 1 = X' 0 25) (e2 : I' (o + 1) 2 = X' 0 26) (e3 : I' (o + 1) 3 = X' 0 27) : xCl K I' P o L Lb G X' := by
  obtain ⟨h1, h2, h3, h4, h5, h6, h7, ⟨mk, h8⟩, h9, h10⟩ := h
  have hL := h1.2.2.2.2.2.2.2.2.1.2.2.2.2.2
  have hLb := h1.2.2.2.2.2.2.2.2.2.1.2.2.2.2.2
  have hne := h1.2.2.2.2.2.2.2.2.2.2
  have x0 : ∀ k, k ∉ [20, 25, 26, 27] → X' 0 k = X 0 k := fun k hk => hF.fld k hk (by decide)
  refine ⟨h1, by rw [f o (by omega) (by omega)]; exact h2, h3, h4.fr (fun m i _ _ => f _ (by omega) (by omega)), fun m v a b c => by rw [f _ (by omega) (by omega)]; exact h5 m v a b c, h6.fr (fun j _ => by rw [f _ (by omega) (by omega)]) (f _ (by omega) (by omega)) (f _ (by omega) (by omega)) (xFX_row hF 20 (by decide) (by decide)) (xFX_row hF 21 (by decide) (by decide)) (fun j hj => x0 j (fun c => by simp only [List.mem_cons, List.not_mem_nil, or_false] at hj c; omega)), ⟨e1, e2, e3⟩, ⟨mk, ?_⟩, xFX_pr hF (by decide) (by decide) h9, ?_⟩
  · obtain ⟨de, bd, sd, a1, a2, a3, a4, a5, a6, a7, a8⟩ := h8
    exact ⟨de, bd, sd, (x0 32 (by decide)).trans a1, a2, (x0 31 (by decide)).trans a3, (x0 30 (by decide)).trans a4, (x0 29 (by decide)).trans a5, a6, a7, a8⟩
  · rcases h10 with ⟨u1, u2, u3⟩ | ⟨r, lz, l1, l2, ⟨y1, y2, y3, y4⟩, l4, l5, l6⟩
    · exact Or.inl ⟨(x0 12 (by decide)).trans u1, u2.fr (by rw [f _ (by omega) (by omega)]) (f _ (by omega) (by omega)) (f _ (by omega) (by omega)), by rw [x0 15 (by decide)]; exact u3⟩
    · refine Or.inr ⟨r, lz, l1, ⟨(x0 12 (by decide)).trans l2.1, (x0 13 (by decide)).trans l2.2.1, (x0 14 (by decide)).trans l2.2.2.1, (x0 15 (by decide)).trans l2.2.2.2.1, fun p m hp => by rw [xFX_row hF (0 + 12) (by decide) (by decide)]; exact l2.2.2.2.2.1 p m hp, fun p m hp => by rw [xFX_row hF (0 + 13) (by decide) (by decide)]; exact l2.2.2.2.2.2 p m hp⟩, ⟨y1.fr (by rw [f _ (by omega) (by omega)]) (f _ (by omega) (by omega)) (f _ (by omega) (by omega)), fun v hv => by rw [f _ (by omega) (by omega)]; exact y2 v hv, ⟨by rw [f _ (by omega) (by omega)]; exact y3.1, fun p m hp => by rw [f _ (by omega) (by omega)]; exact y3.2 p m hp⟩, by rw [f _ (by omega) (by omega)]; exact y4⟩, fun m hm => ⟨fun v hv => ?_, fun v e hv hs => ?_⟩, fun m v hm hv => ?_, l6⟩
      · have := (sOB h3.2.2.1 h3.2.1 l1).1.2 m hm
        rw [f _ (by omega) (by omega), xFX_row hF 14 (by decide) (by decide)]; exact (l4 m hm).1 v hv
      · have := (sOB h3.2.2.1 h3.2.1 l1).1.2 m hm
        rw [f _ (by omega) (by omega), xFX_row hF 15 (by decide) (by decide)]; exact (l4 m hm).2 v e hv hs
      · rw [xFX_row hF 14 (by decide) (by decide)]; exact l5 m v hm hv
/-- a load without a fault -/
theorem xCl.ldk {r : Nat} {lz : Bool} (h : xCl K I P o L Lb G X) (hr : r < gC G) (hz : (sFt G (sOrd G r) (sOrd G r)).1 = 0) (f : ∀ a, a ≠ o + 1 → (a < Lb ∨ Lb + 5 < a) → (∀ m, m < 12 → a ≠ o + 59 + 13 * m + 11 ∧ a ≠ o + 59 + 13 * m + 12) → I' a = I a) (hy : xLy I' G Lb r lz) (hu : xSU I' G o) (hn : xNew I' G o (sOrd G r) (sOrd G r) lz) (hF : xF 0 [12, 13, 14, 15, 16, 17, 18, 19] [12, 13, 14, 15, 20, 25, 26, 27] X X') (e1 : I' (o + 1) 1 = X' 0 25) (e2 : I' (o + 1) 2 = X' 0 26) (e3 : I' (o + 1) 3 = X' 0 27) (hl : xLd G X' 0 r lz) (hfr : xFresh G X' 0 r lz) : xCl K I' (xuP (xuP P o 2 (some Lb)) o 3 (some L)) o Lb L G X' := by
  obtain ⟨h1, h2, h3, h4, h5, h6, h7, ⟨mk, h8⟩, h9, h10⟩ := h
  have hL := h1.2.2.2.2.2.2.2.2.1.2.2.2.2.2
  have hLb := h1.2.2.2.2.2.2.2.2.2.1.2.2.2.2.2
  have hob := (sOB h3.2.2.1 h3.2.1 hr).1
  obtain ⟨T0, Tm, Tl, Tt, Tf, Tk, hFa, hXa, hS, hSb, hne⟩ := h1
  have pf : ∀ a, a ≠ o → xuP (xuP P o 2 (some Lb)) o 3 (some L) a = P a := fun a h => by rw [xuP_ne h, xuP_ne h]
  have x0 : ∀ k, k ∉ [12, 13, 14, 15, 20, 25, 26, 27] → X' 0 k = X 0 k := fun k hk => hF.fld k hk (by decide)
  have fl : ∀ a, a ≠ o + 1 → a < o + 23 → I' a = I a := fun a q1 q2 => f a q1 (by omega) (fun m _ => by omega)
  have h14 : ∀ m v, m ∈ sOrd G r → v < 64 → X' 14 (64 * m + v) = sSl G (sOrd G r) lz m v := fun m v hm hv => by
    have := hob.2 m hm
    have := hfr.1 m v (by have := h3.2.1; omega) hv
    rw [if_pos hm] at this
    exact this
  refine ⟨⟨T0, by rw [xuP_o (Or.inr (by decide)), xuP_o (Or.inr (by decide))]; exact Tm, by rw [xuP_o (Or.inr (by decide)), xuP_s], xuP_s, by rw [xuP_o (Or.inr (by decide)), xuP_o (Or.inr (by decide))]; exact Tf, by rw [xuP_o (Or.inr (by decide)), xuP_o (Or.inr (by decide))]; exact Tk, xAt_P hFa (pf _ (by omega)), xAt_P hXa (pf _ (by omega)), xSL_P hSb pf, xSL_P hS pf, fun e => hne e.symm⟩, by rw [fl o (by omega) (by omega)]; exact h2, h3, h4.fr (fun m i _ _ => f _ (by omega) (by omega) (fun m' _ => by omega)), hu, h6.fr (fun j _ => by rw [fl _ (by omega) (by omega)]) (fl _ (by omega) (by omega)) (fl _ (by omega) (by omega)) (xFX_row hF 20 (by decide) (by decide)) (xFX_row hF 21 (by decide) (by decide)) (fun j hj => x0 j (fun c => by simp only [List.mem_cons, List.not_mem_nil, or_false] at hj c; omega)), ⟨e1, e2, e3⟩, ⟨mk, ?_⟩, xFX_pr hF (by decide) (by decide) h9, Or.inr ⟨r, lz, hr, hl, hy, fun m hm => ⟨fun v hv => ?_, fun v e hv hs => ?_⟩, fun m v hm hv => ⟨fun c => ?_, fun c => ?_⟩, hz⟩⟩
  · obtain ⟨de, bd, sd, a1, a2, a3, a4, a5, a6, a7, a8⟩ := h8
    exact ⟨de, bd, sd, (x0 32 (by decide)).trans a1, a2, (x0 31 (by decide)).trans a3, (x0 30 (by decide)).trans a4, (x0 29 (by decide)).trans a5, a6, a7, a8⟩
  · rw [h14 m v hm hv]; exact (hn m hm).1 v hv
  · have := hob.2 m hm
    have hlt := (sOf_lt (h3.2.2.1 m (by have := h3.2.1; omega)).2.2.1.2 (by have := h3.2.1; omega) hs).1
    rw [(hn m hm).2 v e hv hs]
    exact (hfr.2 e hlt).symm
  · rw [h14 m v hm hv]
    unfold sSl
    rw [if_pos c]
    cases lz
    · exact Or.inr rfl
    · exact Or.inl rfl
  · rw [h14 m v hm hv]; exact sSl_no c
/-- a run -/
theorem xCl.run {r mk2 : Nat} {lz : Bool} (h : xCl K I P o L Lb G X) (hl : xLo1 I G X o L r lz) (f : xFk o I I') (hq : xCq I' G X' o L (sOrd G r)) (hF : xF 0 [14, 15, 20, 21, 22, 23] [29, 30, 31, 32, 36, 37, 38] X X') (hc : wfC X' mk2) : xCl K I' P o L Lb G X' := by
  obtain ⟨h1, h2, h3, h4, h5, h6, h7, -, h9, -⟩ := h
  have hL := h1.2.2.2.2.2.2.2.2.1.2.2.2.2.2
  obtain ⟨⟨q1, q2, q3, q4, q5, q6⟩, q7⟩ := hq
  obtain ⟨l1, l2, ⟨y1, y2, y3, y4⟩, l4, l5, l6⟩ := hl
  have x0 : ∀ k, k ∉ [29, 30, 31, 32, 36, 37, 38] → X' 0 k = X 0 k := fun k hk => hF.fld k hk (by decide)
  have fl : ∀ a, (a < o + 2 ∨ (o + 8 < a ∧ a < o + 59)) → I' a = I a := fun a q => f a (by
    rcases q with q | q
    · exact Or.inl q
    · exact Or.inr ⟨q.1, fun m _ => by omega⟩)
  refine ⟨h1, by rw [fl o (by omega)]; exact h2, h3, q1, q4, q7, ?_, ⟨mk2, hc⟩, xFX_pr hF (by decide) (by decide) h9, Or.inr ⟨r, lz, l1, ⟨(x0 12 (by decide)).trans l2.1, (x0 13 (by decide)).trans l2.2.1, (x0 14 (by decide)).trans l2.2.2.1, (x0 15 (by decide)).trans l2.2.2.2.1, fun p m hp => by rw [xFX_row hF (0 + 12) (by decide) (by decide)]; exact l2.2.2.2.2.1 p m hp, fun p m hp => by rw [xFX_row hF (0 + 13) (by decide) (by decide)]; exact l2.2.2.2.2.2 p m hp⟩, ⟨q2, q3, ⟨by rw [fl L (by omega)]; exact y3.1, fun p m hp => by rw [fl (L + 3) (by omega)]; exact y3.2 p m hp⟩, by rw [fl L (by omega)]; exact y4⟩, q5, q6, l6⟩⟩
  unfold xFv at h7 ⊢
  rw [fl (o + 1) (by omega), x0 25 (by decide), x0 26 (by decide), x0 27 (by decide)]; exact h7
end
