/-! the whole coupling, and what each call makes of it -/
def xPr (G X : xX) : Prop := X 0 0 = G 0 0 ∧ ∀ i, 1 ≤ i → i ≤ 11 → X i = G i
/-- nothing is said yet of modules that there are not -/
def xZ (G : xX) : Prop := ∀ m, gC G ≤ m → m < 12 → G 2 m = 0 ∧ G 7 m = 0 ∧ G 9 m = 0 ∧ ∀ v, v < 64 → G 10 (64 * m + v) = 0
def xUn (I : Nat → Nat → Int32) (G X : xX) (L : Nat) : Prop := X 0 12 = 0 ∧ xLo I G L [] ∧ ∃ c, c ≤ 12 ∧ X 0 15 = nI c
def xLo1 (I : Nat → Nat → Int32) (G X : xX) (o L r : Nat) (lz : Bool) : Prop := r < gC G ∧ xLd G X 0 r lz ∧ xLy I G L r lz ∧ xSD I G X o (sOrd G r) ∧ xWs G X (sOrd G r) ∧ (sFt G (sOrd G r) (sOrd G r)).1 = 0
def xSe (I : Nat → Nat → Int32) (G X : xX) (o L : Nat) : Prop := xUn I G X L ∨ ∃ r lz, xLo1 I G X o L r lz
def xFv (I : Nat → Nat → Int32) (X : xX) (o : Nat) : Prop := I (o + 1) 1 = X 0 25 ∧ I (o + 1) 2 = X 0 26 ∧ I (o + 1) 3 = X 0 27
def xWf (G : xX) : Prop := G 0 0 = nI (gC G) ∧ gC G ≤ 12 ∧ (∀ m, m < 12 → wfM G m) ∧ xZ G
def xCl (K : Nat → Nat × Nat) (I : Nat → Nat → Int32) (P : Nat → Nat → Option Nat) (o L Lb : Nat) (G X : xX) : Prop := xSt K P o L Lb (gC G) ∧ I o 1 = nI (gC G) ∧ xWf G ∧ xMos I G o ∧ xSU I G o ∧ xMv I X (o + 2) ∧ xFv I X o ∧ (∃ mk, wfC X mk) ∧ xPr G X ∧ xSe I G X o L
theorem xSe.many {I : Nat → Nat → Int32} {G X : xX} {o L : Nat} (h : xSe I G X o L) (hg : gC G ≤ 12) (hw : ∀ m, m < 12 → wfM G m) : ∃ c, c ≤ 12 ∧ X 0 15 = nI c := by
  rcases h with h | ⟨r, lz, h⟩
  · exact h.2.2
  · exact ⟨(sOrd G r).length, by have := okl_len (sOB hw hg h.1).1; omega, h.2.1.2.2.2.1⟩
/-- the station's cells do not lie among the other's -/
theorem xCl.fr {K : Nat → Nat × Nat} {I I' : Nat → Nat → Int32} {P : Nat → Nat → Option Nat} {o L Lb : Nat} {G X : xX} (h : xCl K I P o L Lb G X) (f : ∀ a, (a < o + 35 ∨ o + 58 < a) → I' a = I a) : xCl K I' P o L Lb G X := by
  obtain ⟨h1, h2, h3, h4, h5, h6, h7, h8, h9, h10⟩ := h
  have hL := h1.2.2.2.2.2.2.2.2.1.2.2.2.2.2
  refine ⟨h1, by rw [f o (by omega)]; exact h2, h3, h4.fr (fun m i _ _ => f _ (by omega)), fun m v a b c => by rw [f _ (by omega)]; exact h5 m v a b c, h6.fr (fun j _ => by rw [f _ (by omega)]) (f _ (by omega)) (f _ (by omega)) rfl rfl (fun _ _ => rfl), ?_, h8, h9, ?_⟩
  · unfold xFv at h7 ⊢
    rw [f _ (by omega)]; exact h7
  · rcases h10 with ⟨u1, u2, u3⟩ | ⟨r, lz, l1, l2, ⟨y1, y2, y3, y4⟩, l4, l5, l6⟩
    · exact Or.inl ⟨u1, u2.fr (by rw [f _ (by omega)]) (f _ (by omega)) (f _ (by omega)), u3⟩
    · refine Or.inr ⟨r, lz, l1, l2, ⟨y1.fr (by rw [f _ (by omega)]) (f _ (by omega)) (f _ (by omega)), fun v hv => by rw [f _ (by omega)]; exact y2 v hv, ⟨by rw [f _ (by omega)]; exact y3.1, fun p m hp => by rw [f _ (by omega)]; exact y3.2 p m hp⟩, by rw [f _ (by omega)]; exact y4⟩, fun m hm => ⟨fun v hv => by rw [f _ (by omega)]; exact (l4 m hm).1 v hv, fun v e hv hs => by rw [f _ (by omega)]; exact (l4 m hm).2 v e hv hs⟩, l5, l6⟩
/-- a call that changes what a module says: what is left to show -/
theorem xCl.mut {K : Nat → Nat × Nat} {I J I' : Nat → Nat → Int32} {P : Nat → Nat → Option Nat} {o L Lb : Nat} {G X G' X' : xX} (h : xCl K I P o L Lb G X) (fJ : ∀ a, a < o + 59 → J a = I a) (f : xFl L J I') (c3 : I' L 3 = 0) (c2 : ∀ j, j < 12 → I' (L + 2) j = -1) (hC : gC G' = gC G) (hW : xWf G') (hM : xMos J G' o) (hU : xSU J G' o) (g0 : ∀ k, k ≠ 12 → X' 0 k = X 0 k) (g12 : X' 0 12 = 0) (gr : ∀ i, 12 ≤ i → X' i = X i) (hP : xPr G' X') : xCl K I' P o L Lb G' X' := by
  obtain ⟨h1, h2, h3, h4, h5, h6, h7, ⟨mk, h8⟩, h9, h10⟩ := h
  have hL := h1.2.2.2.2.2.2.2.2.1.2.2.2.2.2
  have f2 : ∀ a, a < o + 59 → (a < L ∨ L + 5 < a) → I' a = I a := fun a p q => (f a q).trans (fJ a p)
  refine ⟨by rw [hC]; exact h1, by rw [f2 o (by omega) (by omega), hC]; exact h2, hW, hM.fr (fun m i _ _ => f _ (by omega)), fun m v a b c => by rw [f _ (by omega)]; exact hU m v a b c, h6.fr (fun j _ => by rw [f2 _ (by omega) (by omega)]) (f2 _ (by omega) (by omega)) (f2 _ (by omega) (by omega)) (gr _ (by omega)) (gr _ (by omega)) (fun j hj => g0 j (mem_ne hj (by decide))), ?_, ⟨mk, ?_⟩, hP, Or.inl ⟨g12, xLo_nil c3 c2, ?_⟩⟩
  · unfold xFv at h7 ⊢
    rw [f2 _ (by omega) (by omega), g0 25 (by decide), g0 26 (by decide), g0 27 (by decide)]; exact h7
  · obtain ⟨de, bd, sd, a1, a2, a3, a4, a5, a6, a7, a8⟩ := h8
    exact ⟨de, bd, sd, (g0 32 (by decide)).trans a1, a2, (g0 31 (by decide)).trans a3, (g0 30 (by decide)).trans a4, (g0 29 (by decide)).trans a5, a6, a7, a8⟩
  · rw [g0 15 (by decide)]; exact xSe.many h10 h3.2.1 h3.2.2.1
/-! what a module says, part by part -/
section
variable {I I' : Nat → Nat → Int32} {G G' : xX} {q m : Nat}
def mN (I : Nat → Nat → Int32) (G : xX) (q m : Nat) : Prop := I q 1 = G 2 m ∧ ∀ k, k < gN G m → I (q + 1) k = G 1 (6 * m + k)
def mD (I : Nat → Nat → Int32) (G : xX) (q m : Nat) : Prop := (∀ v, v < 64 → sOf G m (nI v) = none → I (q + 2) v = -1) ∧ (∀ v e, v < 64 → sOf G m (nI v) = some e → I (q + 2) v = G 4 e ∧ I (q + 3) v = G 5 e ∧ I (q + 4) v = G 6 e) ∧ I q 5 = G 7 m ∧ (∀ t j, t < 100 → j < gF G m → G 4 (20 * m + j) = 0 → G 5 (20 * m + j) = nI t → I (q + 5) t = 1) ∧ (∀ t, t < 100 → (∀ j, j < gF G m → G 4 (20 * m + j) = 0 → G 5 (20 * m + j) ≠ nI t) → I (q + 5) t = 0)
def mO (I : Nat → Nat → Int32) (G : xX) (q m : Nat) : Prop := ∀ v, v < 64 → I (q + 6) v = G 10 (64 * m + v)
def mB (I : Nat → Nat → Int32) (G : xX) (q m : Nat) : Prop := I q 8 = G 11 m
def mS (I : Nat → Nat → Int32) (G : xX) (q m : Nat) : Prop := I q 13 = G 9 m ∧ ∀ k, k < gS G m → I (q + 7) k = sOp G m k ∧ I (q + 8) k = sAr G m k 1 ∧ I (q + 9) k = sAr G m k 2 ∧ I (q + 10) k = sAr G m k 3
theorem xMo.of (h1 : mN I G q m) (h2 : mD I G q m) (h3 : mO I G q m) (h4 : mB I G q m) (h5 : mS I G q m) : xMo I G q m := ⟨h1.1, h1.2, h2.1, h2.2.1, h2.2.2.1, h2.2.2.2.1, h2.2.2.2.2, h3, h4, h5.1, h5.2⟩
theorem xMo.pN (h : xMo I G q m) : mN I G q m := ⟨h.n, h.d⟩
theorem xMo.pD (h : xMo I G q m) : mD I G q m := ⟨h.k0, h.k1, h.f, h.a1, h.a0⟩
theorem xMo.pO (h : xMo I G q m) : mO I G q m := h.op
theorem xMo.pB (h : xMo I G q m) : mB I G q m := h.b
theorem xMo.pS (h : xMo I G q m) : mS I G q m := ⟨h.s, h.st⟩
def wN (G : xX) (m : Nat) : Prop := (G 2 m = nI (gN G m) ∧ gN G m ≤ 6) ∧ ∀ k, k < gN G m → G 1 (6 * m + k) = nI (gD G m k) ∧ gD G m k < gC G
def wD (G : xX) (m : Nat) : Prop := (G 7 m = nI (gF G m) ∧ gF G m ≤ 20) ∧ (∀ k, k < gF G m → (∃ v : Nat, v < 64 ∧ G 3 (20 * m + k) = nI v) ∧ (G 4 (20 * m + k) = 0 ∨ G 4 (20 * m + k) = 1) ∧ (G 4 (20 * m + k) = 0 → ∃ v : Nat, v < 100 ∧ G 5 (20 * m + k) = nI v)) ∧ (∀ j k, j < gF G m → k < gF G m → G 3 (20 * m + j) = G 3 (20 * m + k) → j = k)
def wS (G : xX) (m : Nat) : Prop := (G 9 m = nI (gS G m) ∧ gS G m ≤ 100) ∧ ∀ k, k < gS G m → xStep (sOp G m k) (sAr G m k 1) (sAr G m k 2) (sAr G m k 3)
def wB (G : xX) (m : Nat) : Prop := G 11 m = -1 ∨ ∃ v : Nat, v < 64 ∧ G 11 m = nI v
def wO (G : xX) (m : Nat) : Prop := ∀ j, j < 64 → G 10 (64 * m + j) = 0 ∨ G 10 (64 * m + j) = 1
theorem wfM.of (h1 : wN G m) (h2 : wD G m) (h3 : wS G m) (h4 : wB G m) (h5 : wO G m) : wfM G m := ⟨h1.1, h1.2, h2.1, h2.2.1, h2.2.2, h3.1, h3.2, h4, h5⟩
theorem wfM.pN (h : wfM G m) : wN G m := ⟨h.1, h.2.1⟩
theorem wfM.pD (h : wfM G m) : wD G m := ⟨h.2.2.1, h.2.2.2.1, h.2.2.2.2.1⟩
theorem wfM.pS (h : wfM G m) : wS G m := ⟨h.2.2.2.2.2.1, h.2.2.2.2.2.2.1⟩
theorem wfM.pB (h : wfM G m) : wB G m := h.2.2.2.2.2.2.2.1
theorem wfM.pO (h : wfM G m) : wO G m := h.2.2.2.2.2.2.2.2
theorem gN_c (e : G' 2 m = G 2 m) : gN G' m = gN G m := by unfold gN; rw [e]
theorem gF_c (e : G' 7 m = G 7 m) : gF G' m = gF G m := by unfold gF; rw [e]
theorem gS_c (e : G' 9 m = G 9 m) : gS G' m = gS G m := by unfold gS; rw [e]
theorem gC_c (e : G' 0 0 = G 0 0) : gC G' = gC G := by unfold gC; rw [e]
theorem sOfF_c {x : Int32} : ∀ (t k : Nat), (∀ j, k ≤ j → j < k + t → G' 3 (20 * m + j) = G 3 (20 * m + j)) → sOfF G' m x t k = sOfF G m x t k
  | 0, k, _ => rfl
  | t + 1, k, h => by
    unfold sOfF
    rw [h k (Nat.le_refl _) (by omega), sOfF_c t (k + 1) (fun j h1 h2 => h j (by omega) (by omega))]
theorem sOf_c {x : Int32} (e7 : G' 7 m = G 7 m) (e3 : ∀ j, j < gF G m → G' 3 (20 * m + j) = G 3 (20 * m + j)) : sOf G' m x = sOf G m x := by
  unfold sOf
  rw [gF_c e7]
  exact sOfF_c _ _ (fun j _ h => e3 j (by omega))
theorem mN.cg (h : mN I G q m) (hw : wN G m) (i0 : I' q 1 = I q 1) (i1 : I' (q + 1) = I (q + 1)) (e2 : G' 2 m = G 2 m) (e1 : ∀ k, k < 6 → G' 1 (6 * m + k) = G 1 (6 * m + k)) : mN I' G' q m := by
  unfold mN
  rw [i0, i1, e2, gN_c e2]
  exact ⟨h.1, fun k hk => by rw [e1 k (by have := hw.1.2; omega)]; exact h.2 k hk⟩
theorem wN.cg (hw : wN G m) (e2 : G' 2 m = G 2 m) (e1 : ∀ k, k < 6 → G' 1 (6 * m + k) = G 1 (6 * m + k)) (hc : gC G ≤ gC G') : wN G' m := by
  unfold wN
  rw [gN_c e2, e2]
  refine ⟨hw.1, fun k hk => ?_⟩
  have hk6 : k < 6 := by have := hw.1.2; omega
  have : gD G' m k = gD G m k := by unfold gD; rw [e1 k hk6]
  rw [this, e1 k hk6]
  exact ⟨(hw.2 k hk).1, by have := (hw.2 k hk).2; omega⟩
theorem mD.cg (h : mD I G q m) (hw : wD G m) (i0 : I' q 5 = I q 5) (ii : ∀ i, 2 ≤ i → i ≤ 5 → I' (q + i) = I (q + i)) (e7 : G' 7 m = G 7 m) (e3 : ∀ i j, 3 ≤ i → i ≤ 6 → j < 20 → G' i (20 * m + j) = G i (20 * m + j)) : mD I' G' q m := by
  have hf := hw.1.2
  have hs : ∀ x, sOf G' m x = sOf G m x := fun x => sOf_c e7 (fun j hj => e3 3 j (by omega) (by omega) (by omega))
  unfold mD
  rw [i0, e7, gF_c e7, ii 2 (by omega) (by omega), ii 3 (by omega) (by omega), ii 4 (by omega) (by omega), ii 5 (by omega) (by omega)]
  refine ⟨fun v hv c => h.1 v hv (by rw [← hs]; exact c), fun v e hv c => ?_, h.2.2.1, fun t j ht hj c1 c2 => ?_, fun t ht c => ?_⟩
  · rw [hs] at c
    obtain ⟨j, j1, j2, -⟩ := sOf_some c
    have := h.2.1 v e hv c
    subst j2
    rw [e3 4 j (by omega) (by omega) (by omega), e3 5 j (by omega) (by omega) (by omega), e3 6 j (by omega) (by omega) (by omega)]
    exact this
  · rw [e3 4 j (by omega) (by omega) (by omega)] at c1
    rw [e3 5 j (by omega) (by omega) (by omega)] at c2
    exact h.2.2.2.1 t j ht hj c1 c2
  · refine h.2.2.2.2 t ht (fun j hj c1 => ?_)
    have := c j hj (by rw [e3 4 j (by omega) (by omega) (by omega)]; exact c1)
    rw [e3 5 j (by omega) (by omega) (by omega)] at this
    exact this
theorem wD.cg (hw : wD G m) (e7 : G' 7 m = G 7 m) (e3 : ∀ i j, 3 ≤ i → i ≤ 6 → j < 20 → G' i (20 * m + j) = G i (20 * m + j)) : wD G' m := by
  have hf := hw.1.2
  unfold wD
  rw [gF_c e7, e7]
  refine ⟨hw.1, fun k hk => ?_, fun j k hj hk c => ?_⟩
  · rw [e3 3 k (by omega) (by omega) (by omega), e3 4 k (by omega) (by omega) (by omega), e3 5 k (by omega) (by omega) (by omega)]
    exact hw.2.1 k hk
  · rw [e3 3 j (by omega) (by omega) (by omega), e3 3 k (by omega) (by omega) (by omega)] at c
    exact hw.2.2 j k hj hk c
theorem mO.cg (h : mO I G q m) (i6 : I' (q + 6) = I (q + 6)) (e10 : ∀ v, v < 64 → G' 10 (64 * m + v) = G 10 (64 * m + v)) : mO I' G' q m := fun v hv => by rw [i6, e10 v hv]; exact h v hv
theorem wO.cg (hw : wO G m) (e10 : ∀ v, v < 64 → G' 10 (64 * m + v) = G 10 (64 * m + v)) : wO G' m := fun v hv => by rw [e10 v hv]; exact hw v hv
theorem mB.cg (h : mB I G q m) (i8 : I' q 8 = I q 8) (e11 : G' 11 m = G 11 m) : mB I' G' q m := by unfold mB; rw [i8, e11]; exact h
theorem wB.cg (hw : wB G m) (e11 : G' 11 m = G 11 m) : wB G' m := by unfold wB; rw [e11]; exact hw
theorem sOp_c {k : Nat} (e8 : ∀ j, j < 400 → G' 8 (400 * m + j) = G 8 (400 * m + j)) (hk : k < 100) : sOp G' m k = sOp G m k := by
  unfold sOp
  rw [show 4 * (100 * m + k) = 400 * m + 4 * k by omega]
  exact e8 _ (by omega)
theorem sAr_c {k i : Nat} (e8 : ∀ j, j < 400 → G' 8 (400 * m + j) = G 8 (400 * m + j)) (hk : k < 100) (hi : i < 4) : sAr G' m k i = sAr G m k i := by
  unfold sAr
  rw [show 4 * (100 * m + k) + i = 400 * m + (4 * k + i) by omega]
  exact e8 _ (by omega)
theorem mS.cg (h : mS I G q m) (hw : wS G m) (i13 : I' q 13 = I q 13) (ii : ∀ i, 7 ≤ i → i ≤ 10 → I' (q + i) = I (q + i)) (e9 : G' 9 m = G 9 m) (e8 : ∀ j, j < 400 → G' 8 (400 * m + j) = G 8 (400 * m + j)) : mS I' G' q m := by
  have hf := hw.1.2
  unfold mS
  rw [i13, e9, gS_c e9, ii 7 (by omega) (by omega), ii 8 (by omega) (by omega), ii 9 (by omega) (by omega), ii 10 (by omega) (by omega)]
  refine ⟨h.1, fun k hk => ?_⟩
  rw [sOp_c e8 (by omega), sAr_c e8 (by omega) (by omega), sAr_c e8 (by omega) (by omega), sAr_c e8 (by omega) (by omega)]
  exact h.2 k hk
theorem wS.cg (hw : wS G m) (e9 : G' 9 m = G 9 m) (e8 : ∀ j, j < 400 → G' 8 (400 * m + j) = G 8 (400 * m + j)) : wS G' m := by
  have hf := hw.1.2
  unfold wS
  rw [e9, gS_c e9]
  refine ⟨hw.1, fun k hk => ?_⟩
  rw [sOp_c e8 (by omega), sAr_c e8 (by omega) (by omega), sAr_c e8 (by omega) (by omega), sAr_c e8 (by omega) (by omega)]
  exact hw.2 k hk
theorem sUC_c {x : Int32} (hw : gS G m ≤ 100) (e9 : G' 9 m = G 9 m) (e8 : ∀ j, j < 400 → G' 8 (400 * m + j) = G 8 (400 * m + j)) : sUC G' m x (gS G' m) 0 = sUC G m x (gS G m) 0 := by
  rw [gS_c e9]
  have : ∀ (t k : Nat), k + t ≤ 100 → sUC G' m x t k = sUC G m x t k := by
    intro t
    induction t with
    | zero => intro k _; rfl
    | succ t ih =>
      intro k hk
      unfold sUC
      rw [sOp_c e8 (by omega), sAr_c e8 (by omega) (by omega), ih (k + 1) (by omega)]
  exact this _ _ (by omega)
end
