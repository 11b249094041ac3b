/-! the running machine against the other memory -/
/-- slots hold nothing, a call still unbound, or what the name comes to -/
def xWs (G X : xX) (ord : List Nat) : Prop := ∀ m v, m ∈ ord → v < 64 → (sUC G m (nI v) (gS G m) 0 = true → X 14 (64 * m + v) = 21 ∨ X 14 (64 * m + v) = oM (sFi G ord m (nI v))) ∧ (sUC G m (nI v) (gS G m) 0 = false → X 14 (64 * m + v) = -1)
def xC5 (I : Nat → Nat → Int32) (G X : xX) (o L : Nat) (ord : List Nat) : Prop := xMos I G o ∧ xLo I G L ord ∧ xLg I G L ord ∧ xSU I G o ∧ xSD I G X o ord ∧ xWs G X ord
def xMv (I : Nat → Nat → Int32) (X : xX) (M : Nat) : Prop := (∀ k, k < 8 → I (M + 1) k = X 20 k) ∧ (∀ k, k < 60 → I (M + 2) k = X 21 k) ∧ I M 2 = X 0 29 ∧ I M 3 = X 0 30 ∧ I M 4 = X 0 31 ∧ I M 5 = X 0 32
def xMst (I : Nat → Nat → Int32) (G : xX) (M : Nat) (sl : List Nat) (st : Nat) : Prop := I M 8 = nI sl.length ∧ I M 9 = nI st ∧ (∀ i e : Nat, sl[i]? = some e → I (M + 3) i = nI (e / 20) ∧ I (M + 4) i = G 5 e)
def xMr (I : Nat → Nat → Int32) (X : xX) (M : Nat) : Prop := I M 12 = nI (rN (X 0 36) - 1) ∧ I M 13 = X 0 37 ∧ I M 14 = X 0 38 ∧ ∀ i, 1 ≤ i → i < rN (X 0 36) → I (M + 5) (i - 1) = X 22 i ∧ I (M + 6) (i - 1) = X 23 i
def xCr (I : Nat → Nat → Int32) (G X : xX) (o L : Nat) (ord sl : List Nat) (st : Nat) : Prop := xC5 I G X o L ord ∧ xMv I X (o + 2) ∧ xMst I G (o + 2) sl st ∧ xMr I X (o + 2)
/-- what a run may change -/
def xFk (o : Nat) (I I' : Nat → Nat → Int32) : Prop := ∀ a, (a < o + 2 ∨ (o + 8 < a ∧ ∀ m, m < 12 → a ≠ o + 59 + 13 * m + 11 ∧ a ≠ o + 59 + 13 * m + 12)) → I' a = I a
theorem xFk.rf {o : Nat} {I : Nat → Nat → Int32} : xFk o I I := fun _ _ => rfl
theorem xFk.tr {o : Nat} {I I' I2 : Nat → Nat → Int32} (h : xFk o I I') (h2 : xFk o I' I2) : xFk o I I2 := fun a p => (h2 a p).trans (h a p)
theorem xFk.u {o i j : Nat} {I : Nat → Nat → Int32} {x : Int32} (h : i ≤ 6) : xFk o I (xuI I (o + 2 + i) j x) := fun a p => xuI_ne (by omega)
theorem xFk.f {o j : Nat} {I : Nat → Nat → Int32} {x : Int32} : xFk o I (xuI I (o + 2) j x) := fun a p => xuI_ne (by omega)
theorem xFk.sl {o m j : Nat} {I : Nat → Nat → Int32} {x : Int32} (h : m < 12) : xFk o I (xuI I (o + 59 + 13 * m + 11) j x) := fun a p => xuI_ne (by
  rcases p with p | p
  · omega
  · exact (p.2 m h).1)
theorem xFk.da {o m j : Nat} {I : Nat → Nat → Int32} {x : Int32} (h : m < 12) : xFk o I (xuI I (o + 59 + 13 * m + 12) j x) := fun a p => xuI_ne (by
  rcases p with p | p
  · omega
  · exact (p.2 m h).2)
theorem xFs.k {o : Nat} {I I' : Nat → Nat → Int32} (h : xFs o I I') : xFk o I I' := fun a p => h a (fun m hm => by
  rcases p with p | p
  · omega
  · exact p.2 m hm)
section
variable {I I' : Nat → Nat → Int32} {G X X' : xX} {o L M : Nat} {ord sl : List Nat} {st : Nat} {x : Int32}
theorem xC5.fr (h : xC5 I G X o L ord) (hL : L = o + 23 ∨ L = o + 29) (f : ∀ a, o + 8 < a → I' a = I a) (g14 : X' 14 = X 14) (g15 : X' 15 = X 15) : xC5 I' G X' o L ord := by
  obtain ⟨h1, h2, h3, h4, h5, h6⟩ := h
  refine ⟨h1.fr (fun m i _ _ => f _ (by omega)), h2.fr (by rw [f _ (by omega)]) (f _ (by omega)) (f _ (by omega)), fun v hv => by rw [f _ (by omega)]; exact h3 v hv, fun m v a b c => by rw [f _ (by omega)]; exact h4 m v a b c, fun m hm => ⟨fun v hv => by rw [f _ (by omega), g14]; exact (h5 m hm).1 v hv, fun v e hv hs => by rw [f _ (by omega), g15]; exact (h5 m hm).2 v e hv hs⟩, fun m v hm hv => by rw [g14]; exact h6 m v hm hv⟩
theorem xMv.fr (h : xMv I X M) (f0 : ∀ j, j ∈ [2, 3, 4, 5] → I' M j = I M j) (f1 : I' (M + 1) = I (M + 1)) (f2 : I' (M + 2) = I (M + 2)) (g20 : X' 20 = X 20) (g21 : X' 21 = X 21) (g0 : ∀ j, j ∈ [29, 30, 31, 32] → X' 0 j = X 0 j) : xMv I' X' M := by
  unfold xMv at h ⊢
  rw [f0 2 (by decide), f0 3 (by decide), f0 4 (by decide), f0 5 (by decide), f1, f2, g20, g21, g0 29 (by decide), g0 30 (by decide), g0 31 (by decide), g0 32 (by decide)]
  exact h
theorem xMst.fr (h : xMst I G M sl st) (f8 : I' M 8 = I M 8) (f9 : I' M 9 = I M 9) (f3 : I' (M + 3) = I (M + 3)) (f4 : I' (M + 4) = I (M + 4)) : xMst I' G M sl st := by
  unfold xMst at h ⊢
  rw [f8, f9, f3, f4]
  exact h
theorem xMr.fr (h : xMr I X M) (f0 : ∀ j, j ∈ [12, 13, 14] → I' M j = I M j) (f5 : I' (M + 5) = I (M + 5)) (f6 : I' (M + 6) = I (M + 6)) (g0 : ∀ j, j ∈ [36, 37, 38] → X' 0 j = X 0 j) (g22 : X' 22 = X 22) (g23 : X' 23 = X 23) : xMr I' X' M := by
  unfold xMr at h ⊢
  rw [f0 12 (by decide), f0 13 (by decide), f0 14 (by decide), f5, f6, g0 36 (by decide), g0 37 (by decide), g0 38 (by decide), g22, g23]
  exact h
theorem mem_ne {j k : Nat} {l : List Nat} (hj : j ∈ l) (hk : k ∉ l) : j ≠ k := fun e => hk (e ▸ hj)
/-- a register -/
theorem xCr.reg {a : Nat} (h : xCr I G X o L ord sl st) (hL : L = o + 23 ∨ L = o + 29) : xCr (xuI I (o + 2 + 1) a x) G (xuI X 20 a x) o L ord sl st := by
  obtain ⟨h1, ⟨v1, v2, v3, v4, v5, v6⟩, h3, h4⟩ := h
  refine ⟨h1.fr hL (fun b hb => xuI_ne (by omega)) (xuI_ne (by decide)) (xuI_ne (by decide)), ⟨fun k hk => ?_, fun k hk => ?_, ?_, ?_, ?_, ?_⟩, h3.fr (xuI_o (Or.inl (by omega))) (xuI_o (Or.inl (by omega))) (xuI_ne (by omega)) (xuI_ne (by omega)), h4.fr (fun j _ => xuI_o (Or.inl (by omega))) (xuI_ne (by omega)) (xuI_ne (by omega)) (fun j _ => xuI_o (Or.inl (by decide))) (xuI_ne (by decide)) (xuI_ne (by decide))⟩
  · by_cases e : k = a
    · subst e; rw [xuI_s, xuI_s]
    · rw [xuI_o (Or.inr e), xuI_o (Or.inr e)]; exact v1 k hk
  · rw [xuI_o (Or.inl (by omega)), xuI_o (Or.inl (by decide))]; exact v2 k hk
  all_goals rw [xuI_o (Or.inl (by omega)), xuI_o (Or.inl (by decide))]; assumption
/-- a field that is seen -/
theorem xCr.fld (h : xCr I G X o L ord sl st) (hL : L = o + 23 ∨ L = o + 29) (k i : Nat) (hk : (k = 2 ∧ i = 29) ∨ (k = 3 ∧ i = 30) ∨ (k = 4 ∧ i = 31)) : xCr (xuI I (o + 2) k x) G (xuI X 0 i x) o L ord sl st := by
  obtain ⟨h1, ⟨v1, v2, v3, v4, v5, v6⟩, h3, h4⟩ := h
  refine ⟨h1.fr hL (fun b hb => xuI_ne (by omega)) (xuI_ne (by omega)) (xuI_ne (by omega)), ⟨fun k hk => ?_, fun k hk => ?_, ?_, ?_, ?_, ?_⟩, h3.fr (xuI_o (Or.inr (by omega))) (xuI_o (Or.inr (by omega))) (xuI_ne (by omega)) (xuI_ne (by omega)), h4.fr (fun j hj => xuI_o (Or.inr (by simp only [List.mem_cons, List.not_mem_nil, or_false] at hj; omega))) (xuI_ne (by omega)) (xuI_ne (by omega)) (fun j hj => xuI_o (Or.inr (by simp only [List.mem_cons, List.not_mem_nil, or_false] at hj; omega))) (xuI_ne (by omega)) (xuI_ne (by omega))⟩
  · rw [xuI_o (Or.inl (by omega)), xuI_o (Or.inl (by omega))]; exact v1 k hk
  · rw [xuI_o (Or.inl (by omega)), xuI_o (Or.inl (by omega))]; exact v2 k hk
  all_goals rcases hk with ⟨rfl, rfl⟩ | ⟨rfl, rfl⟩ | ⟨rfl, rfl⟩ <;> first | (rw [xuI_s, xuI_s]) | (rw [xuI_o (Or.inr (by decide)), xuI_o (Or.inr (by decide))]; assumption)
/-- the step -/
theorem xCr.stp (h : xCr I G X o L ord sl st) (hL : L = o + 23 ∨ L = o + 29) : xCr (xuI I (o + 2) 14 x) G (xuI X 0 38 x) o L ord sl st := by
  obtain ⟨h1, h2, h3, ⟨r1, r2, r3, r4⟩⟩ := h
  refine ⟨h1.fr hL (fun b hb => xuI_ne (by omega)) (xuI_ne (by omega)) (xuI_ne (by omega)), h2.fr (fun j hj => xuI_o (Or.inr (mem_ne hj (by decide)))) (xuI_ne (by omega)) (xuI_ne (by omega)) (xuI_ne (by omega)) (xuI_ne (by omega)) (fun j hj => xuI_o (Or.inr (mem_ne hj (by decide)))), h3.fr (xuI_o (Or.inr (by omega))) (xuI_o (Or.inr (by omega))) (xuI_ne (by omega)) (xuI_ne (by omega)), ⟨?_, ?_, ?_, fun i i1 i2 => ?_⟩⟩
  · rw [xuI_o (Or.inr (by decide)), xuI_o (Or.inr (by decide))]; exact r1
  · rw [xuI_o (Or.inr (by decide)), xuI_o (Or.inr (by decide))]; exact r2
  · rw [xuI_s, xuI_s]
  · rw [xuI_o (Or.inl (by omega)), xuI_o (Or.inl (by omega)), xuI_o (Or.inl (by omega)), xuI_o (Or.inl (by omega))]
    rw [xuI_o (Or.inr (by decide))] at i2
    exact r4 i i1 i2
/-- a word that is said -/
theorem xCr.say {a : Nat} (h : xCr I G X o L ord sl st) (hL : L = o + 23 ∨ L = o + 29) : xCr (xuI I (o + 2 + 2) a x) G (xuI X 21 a x) o L ord sl st := by
  obtain ⟨h1, ⟨v1, v2, v3, v4, v5, v6⟩, h3, h4⟩ := h
  refine ⟨h1.fr hL (fun b hb => xuI_ne (by omega)) (xuI_ne (by decide)) (xuI_ne (by decide)), ⟨fun k hk => ?_, fun k hk => ?_, ?_, ?_, ?_, ?_⟩, h3.fr (xuI_o (Or.inl (by omega))) (xuI_o (Or.inl (by omega))) (xuI_ne (by omega)) (xuI_ne (by omega)), h4.fr (fun j _ => xuI_o (Or.inl (by omega))) (xuI_ne (by omega)) (xuI_ne (by omega)) (fun j _ => xuI_o (Or.inl (by decide))) (xuI_ne (by decide)) (xuI_ne (by decide))⟩
  · rw [xuI_o (Or.inl (by omega)), xuI_o (Or.inl (by decide))]; exact v1 k hk
  · by_cases e : k = a
    · subst e; rw [xuI_s, xuI_s]
    · rw [xuI_o (Or.inr e), xuI_o (Or.inr e)]; exact v2 k hk
  all_goals rw [xuI_o (Or.inl (by omega)), xuI_o (Or.inl (by decide))]; assumption
/-- cells of modules do not touch the machine -/
theorem xMM (hv : xMv I X M) (hs : xMst I G M sl st) (hr : xMr I X M) (f : ∀ a, a ≤ M + 6 → I' a = I a) (g : ∀ i, i ≠ 14 → i ≠ 15 → X' i = X i) : xMv I' X' M ∧ xMst I' G M sl st ∧ xMr I' X' M :=
  ⟨hv.fr (fun j _ => by rw [f M (by omega)]) (f _ (by omega)) (f _ (by omega)) (g _ (by decide) (by decide)) (g _ (by decide) (by decide)) (fun j _ => by rw [g 0 (by decide) (by decide)]), hs.fr (by rw [f M (by omega)]) (by rw [f M (by omega)]) (f _ (by omega)) (f _ (by omega)), hr.fr (fun j _ => by rw [f M (by omega)]) (f _ (by omega)) (f _ (by omega)) (fun j _ => by rw [g 0 (by decide) (by decide)]) (g _ (by decide) (by decide)) (g _ (by decide) (by decide))⟩
/-- a slot is bound -/
theorem xCr.slot {m v : Nat} (h : xCr I G X o L ord sl st) (hL : L = o + 23 ∨ L = o + 29) (hv : v < 64) (hu : sUC G m (nI v) (gS G m) 0 = true) : xCr (xuI I (o + 59 + 13 * m + 11) v (oM (sFi G ord m (nI v)))) G (xuI X 14 (64 * m + v) (oM (sFi G ord m (nI v)))) o L ord sl st := by
  obtain ⟨⟨h1, h2, h3, h4, h5, h6⟩, hv2, hs2, hr2⟩ := h
  have f : ∀ a, a ≠ o + 59 + 13 * m + 11 → xuI I (o + 59 + 13 * m + 11) v (oM (sFi G ord m (nI v))) a = I a := fun a ha => xuI_ne ha
  refine ⟨⟨h1.fr (fun m2 i _ _ => f _ (by omega)), h2.fr (by rw [f _ (by omega)]) (f _ (by omega)) (f _ (by omega)), fun v hv => by rw [f _ (by omega)]; exact h3 v hv, fun m2 v2 a b c => ?_, fun m2 hm2 => ⟨fun v2 hv2 => ?_, fun v2 e hv2 hs => ?_⟩, fun m2 v2 hm2 hv2 => ⟨fun c => ?_, fun c => ?_⟩⟩, xMM hv2 hs2 hr2 (fun a ha => f a (by omega)) (fun i h14 _ => xuI_ne h14)⟩
  · rw [xuI_o (by
      by_cases e : m2 = m ∧ v2 = v
      · obtain ⟨rfl, rfl⟩ := e; rw [hu] at c; cases c
      · omega)]
    exact h4 m2 v2 a b c
  · by_cases e : m2 = m ∧ v2 = v
    · obtain ⟨rfl, rfl⟩ := e
      rw [xuI_s, xuI_s]
    · rw [xuI_o (by omega), xuI_o (by omega)]
      exact (h5 m2 hm2).1 v2 hv2
  · rw [xuI_o (Or.inl (by omega)), xuI_o (Or.inl (by decide))]
    exact (h5 m2 hm2).2 v2 e hv2 hs
  · by_cases e : m2 = m ∧ v2 = v
    · obtain ⟨rfl, rfl⟩ := e
      rw [xuI_s]; exact Or.inr rfl
    · rw [xuI_o (by omega)]
      exact (h6 m2 v2 hm2 hv2).1 c
  · by_cases e : m2 = m ∧ v2 = v
    · obtain ⟨rfl, rfl⟩ := e
      rw [hu] at c; cases c
    · rw [xuI_o (by omega)]
      exact (h6 m2 v2 hm2 hv2).2 c
/-- a datum is written -/
theorem xCr.dat {q v e : Nat} (h : xCr I G X o L ord sl st) (hL : L = o + 23 ∨ L = o + 29) (hw : ∀ m, m < 12 → wfM G m) (ho12 : ∀ q ∈ ord, q < 12) (hq : q ∈ ord) (hv : v < 64) (he : sOf G q (nI v) = some e) : xCr (xuI I (o + 59 + 13 * q + 12) v x) G (xuI X 15 e x) o L ord sl st := by
  obtain ⟨⟨h1, h2, h3, h4, h5, h6⟩, hv2, hs2, hr2⟩ := h
  have f : ∀ a, a ≠ o + 59 + 13 * q + 12 → xuI I (o + 59 + 13 * q + 12) v x a = I a := fun a ha => xuI_ne ha
  refine ⟨⟨h1.fr (fun m2 i _ _ => f _ (by omega)), h2.fr (by rw [f _ (by omega)]) (f _ (by omega)) (f _ (by omega)), fun v hv => by rw [f _ (by omega)]; exact h3 v hv, fun m2 v2 a b c => by rw [f _ (by omega)]; exact h4 m2 v2 a b c, fun m2 hm2 => ⟨fun v2 hv2 => ?_, fun v2 e2 hv2 hs => ?_⟩, fun m2 v2 hm2 hv2 => by rw [xuI_ne (by decide)]; exact h6 m2 v2 hm2 hv2⟩, xMM hv2 hs2 hr2 (fun a ha => f a (by omega)) (fun i _ h15 => xuI_ne h15)⟩
  · rw [xuI_o (Or.inl (by omega)), xuI_o (Or.inl (by decide))]
    exact (h5 m2 hm2).1 v2 hv2
  · by_cases c : m2 = q ∧ v2 = v
    · obtain ⟨rfl, rfl⟩ := c
      rw [he] at hs; cases hs
      rw [xuI_s, xuI_s]
    · have hne : e2 ≠ e := fun ee => by
        subst ee
        have l1 := (sOf_lt (hw q (ho12 q hq)).2.2.1.2 (ho12 q hq) he).2
        have l2 := (sOf_lt (hw m2 (ho12 m2 hm2)).2.2.1.2 (ho12 m2 hm2) hs).2
        obtain ⟨_, _, _, e3⟩ := sOf_some he
        obtain ⟨_, _, _, e4⟩ := sOf_some hs
        exact c ⟨by omega, nI_inj (by omega) (by omega) (e4.symm.trans e3)⟩
      rw [xuI_o (by omega), xuI_o (Or.inr hne)]
      exact (h5 m2 hm2).2 v2 e2 hv2 hs
/-- a call is entered -/
theorem xCr.ent {dp de e : Nat} (h : xCr I G X o L ord sl st) (hL : L = o + 23 ∨ L = o + 29) (h36 : X 0 36 = nI dp) (hdp : 1 ≤ dp) (hdp2 : dp < 101) (h32 : X 0 32 = nI de) (hde : de ≤ 100) : (rCall G X (some e)).1 = -1 ∧ xCr (xuI (xuI (xuI (xuI (xuI (xuI I (o + 2 + 5) (dp - 1) (X 0 37)) (o + 2 + 6) (dp - 1) (X 0 38)) (o + 2) 12 (nI dp)) (o + 2) 5 (nI (if de < dp then dp else de))) (o + 2) 13 (nI (e / 20))) (o + 2) 14 (G 5 e)) G (rCall G X (some e)).2 o L ord sl st := by
  obtain ⟨h1, ⟨v1, v2, v3, v4, v5, v6⟩, h3, ⟨r1, r2, r3, r4⟩⟩ := h
  have g36 : rN (X 0 36) = dp := rN_of h36 (by omega)
  have g32 : rN (X 0 32) = de := rN_of h32 (by omega)
  have hr : rCall G X (some e) = (-1, xuI (xuI (xuI (xuI (xuI (xuI X 22 dp (X 0 37)) 23 dp (X 0 38)) 0 36 (nI (dp + 1))) 0 32 (nI (if de < dp then dp else de))) 0 37 (nI (e / 20))) 0 38 (G 5 e)) := by
    unfold rCall
    simp only [g36, g32]
    rw [if_neg (by omega)]
  rw [hr]
  dsimp only
  refine ⟨rfl, h1.fr hL (fun b hb => by rw [xuI_ne (by omega), xuI_ne (by omega), xuI_ne (by omega), xuI_ne (by omega), xuI_ne (by omega), xuI_ne (by omega)]) (by rw [xuI_ne (by omega), xuI_ne (by omega), xuI_ne (by omega), xuI_ne (by omega), xuI_ne (by omega), xuI_ne (by omega)]) (by rw [xuI_ne (by omega), xuI_ne (by omega), xuI_ne (by omega), xuI_ne (by omega), xuI_ne (by omega), xuI_ne (by omega)]), ⟨fun k hk => ?_, fun k hk => ?_, ?_, ?_, ?_, ?_⟩, ⟨?_, ?_, fun i e2 he2 => ?_⟩, ⟨?_, ?_, ?_, fun i i1 i2 => ?_⟩⟩
  · simpa [xuI] using v1 k hk
  · simpa [xuI] using v2 k hk
  · simpa [xuI] using v3
  · simpa [xuI] using v4
  · simpa [xuI] using v5
  · simp [xuI]
  · simpa [xuI] using h3.1
  · simpa [xuI] using h3.2.1
  · simpa [xuI] using h3.2.2 i e2 he2
  · have : rN (nI (dp + 1)) = dp + 1 := rN_nI (by omega)
    simp [xuI, this]
  · simp [xuI]
  · simp [xuI]
  · have h36b : rN (nI (dp + 1)) = dp + 1 := rN_nI (by omega)
    have i3 : i < dp + 1 := by simpa [xuI, h36b] using i2
    by_cases ei : i = dp
    · subst ei
      simp [xuI]
    · have hi : ¬ (i - 1 = dp - 1) := by omega
      simpa [xuI, ei, hi] using r4 i i1 (by omega)
/-- the caller is come back to -/
theorem xCr.bak {dp : Nat} (h : xCr I G X o L ord sl st) (hL : L = o + 23 ∨ L = o + 29) (h36 : X 0 36 = nI dp) (hdp : 2 ≤ dp) (hdp2 : dp ≤ 101) : xCr (xuI (xuI (xuI I (o + 2) 12 (nI (dp - 2))) (o + 2) 13 (X 22 (dp - 1))) (o + 2) 14 (X 23 (dp - 1))) G (xuI (xuI (xuI X 0 36 (nI (dp - 1))) 0 37 (X 22 (dp - 1))) 0 38 (X 23 (dp - 1))) o L ord sl st := by
  obtain ⟨h1, h2, h3, ⟨r1, r2, r3, r4⟩⟩ := h
  have g36 : rN (X 0 36) = dp := rN_of h36 (by omega)
  have g36b : rN (nI (dp - 1)) = dp - 1 := rN_nI (by omega)
  refine ⟨h1.fr hL (fun b hb => by rw [xuI_ne (by omega), xuI_ne (by omega), xuI_ne (by omega)]) (by rw [xuI_ne (by omega), xuI_ne (by omega), xuI_ne (by omega)]) (by rw [xuI_ne (by omega), xuI_ne (by omega), xuI_ne (by omega)]), h2.fr (fun j hj => by rw [xuI_o (Or.inr (mem_ne hj (by decide))), xuI_o (Or.inr (mem_ne hj (by decide))), xuI_o (Or.inr (mem_ne hj (by decide)))]) (by rw [xuI_ne (by omega), xuI_ne (by omega), xuI_ne (by omega)]) (by rw [xuI_ne (by omega), xuI_ne (by omega), xuI_ne (by omega)]) (by rw [xuI_ne (by omega), xuI_ne (by omega), xuI_ne (by omega)]) (by rw [xuI_ne (by omega), xuI_ne (by omega), xuI_ne (by omega)]) (fun j hj => by rw [xuI_o (Or.inr (mem_ne hj (by decide))), xuI_o (Or.inr (mem_ne hj (by decide))), xuI_o (Or.inr (mem_ne hj (by decide)))]), ⟨?_, ?_, fun i e2 he2 => ?_⟩, ⟨?_, ?_, ?_, fun i i1 i2 => ?_⟩⟩
  · simpa [xuI] using h3.1
  · simpa [xuI] using h3.2.1
  · simpa [xuI] using h3.2.2 i e2 he2
  · simp [xuI, g36b]; congr 1
  · simp [xuI]
  · simp [xuI]
  · have i3 : i < dp - 1 := by simpa [xuI, g36b] using i2
    simpa [xuI] using r4 i i1 (by omega)
end
