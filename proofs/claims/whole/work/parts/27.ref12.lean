/-- the loop of a run: so many turns at most -/
def rLp (G : xX) (ord : List Nat) (gr : Nat) : Nat → xX → Int32 × xX
  | 0, X => (-1, X)
  | t + 1, X => if rN (X 0 36) = 0 then (-1, X) else if rN (X 0 38) ≥ gS G (rN (X 0 37)) then (4, X) else if rN (X 0 29) = gr then (1, X) else
    if (rMk G ord (xuI X 0 29 (nI (rN (X 0 29) + 1)))).1 = -1 then rLp G ord gr t (rMk G ord (xuI X 0 29 (nI (rN (X 0 29) + 1)))).2 else rMk G ord (xuI X 0 29 (nI (rN (X 0 29) + 1)))
def rGo (G : xX) (ord : List Nat) (gr : Nat) (X : xX) (o : Nat) : Int32 × xX :=
  if (rCall G (xuI X 0 36 0) (some o)).1 = -1 then rLp G ord gr (gr + 2) (rCall G (xuI X 0 36 0) (some o)).2 else rCall G (xuI X 0 36 0) (some o)
theorem rCall_F {G X : xX} {o : Option Nat} : xF 0 [14, 15, 20, 21, 22, 23] [30, 31, 32, 36, 37, 38] X (rCall G X o).2 := by
  unfold rCall
  split
  · exact xF.rf
  · split
    · exact xF.rf
    · exact (xF.u 22 (by decide)).tr ((xF.u 23 (by decide)).tr ((xF.f 36 (by decide)).tr ((xF.f 32 (by decide)).tr ((xF.f 37 (by decide)).tr (xF.f 38 (by decide))))))
theorem rMkO_F {G X : xX} {ord : List Nat} {m k : Nat} {op a b c : Int32} : xF 0 [14, 15, 20, 21, 22, 23] [30, 31, 32, 36, 37, 38] X (rMkO G ord X m k op a b c).2 := by
  unfold rMkO
  by_cases h0 : op = 0
  · rw [if_pos h0]
    exact (xF.f 38 (by decide)).tr (xF.u 20 (by decide))
  rw [if_neg h0]
  by_cases h1 : op = 1
  · rw [if_pos h1]
    exact (xF.f 38 (by decide)).tr (xF.u 20 (by decide))
  rw [if_neg h1]
  by_cases h2 : op = 2
  · rw [if_pos h2]
    exact (xF.f 38 (by decide)).tr (xF.u 20 (by decide))
  rw [if_neg h2]
  by_cases h3 : op = 3
  · rw [if_pos h3]
    exact (xF.f 38 (by decide)).tr (xF.u 20 (by decide))
  rw [if_neg h3]
  by_cases h4 : op = 4
  · rw [if_pos h4]
    exact (xF.f 38 (by decide)).tr (xF.u 20 (by decide))
  rw [if_neg h4]
  by_cases h5 : op = 5
  · rw [if_pos h5]
    exact (xF.f 38 (by decide)).tr (xF.f 38 (by decide))
  rw [if_neg h5]
  by_cases h6 : op = 6
  · rw [if_pos h6]
    exact (xF.f 38 (by decide)).tr (xF.f 38 (by decide))
  rw [if_neg h6]
  by_cases h7 : op = 7
  · rw [if_pos h7]
    unfold rCn
    refine ((xF.f (x := nI (k + 1)) 38 (by decide)).tr ?_).tr rCall_F
    split
    · exact (xF.u 14 (by decide)).tr (xF.f 31 (by decide))
    · exact xF.rf
  rw [if_neg h7]
  by_cases h8 : op = 8
  · rw [if_pos h8]
    exact (xF.f 38 (by decide)).tr (xF.u 20 (by decide))
  rw [if_neg h8]
  by_cases h9 : op = 9
  · rw [if_pos h9]
    dsimp only
    split
    · exact (xF.f 38 (by decide))
    · exact (xF.f 38 (by decide)).tr (xF.u 15 (by decide))
  rw [if_neg h9]
  by_cases h10 : op = 10
  · rw [if_pos h10]
    exact (xF.f 38 (by decide)).tr (xF.u 20 (by decide))
  rw [if_neg h10]
  by_cases h11 : op = 11
  · rw [if_pos h11]
    exact (xF.f 38 (by decide)).tr rCall_F
  rw [if_neg h11]
  by_cases h12 : op = 12
  · rw [if_pos h12]
    exact (xF.f 38 (by decide)).tr ((xF.f 36 (by decide)).tr ((xF.f 37 (by decide)).tr (xF.f 38 (by decide))))
  rw [if_neg h12]
  by_cases h13 : op = 13
  · rw [if_pos h13]
    dsimp only
    refine xF.tr ?_ (xF.f 30 (by decide))
    split
    · exact (xF.f 38 (by decide)).tr (xF.u 21 (by decide))
    · exact (xF.f 38 (by decide))
  rw [if_neg h13]
  exact (xF.f 38 (by decide))
theorem rMk_F {G X : xX} {ord : List Nat} : xF 0 [14, 15, 20, 21, 22, 23] [30, 31, 32, 36, 37, 38] X (rMk G ord X).2 := rMkO_F
/-- a run's numbers are in their ranges -/
def wfR (ord : List Nat) (X : xX) (dp mk : Nat) : Prop := ∃ de bd sd : Nat, X 0 36 = nI dp ∧ dp ≤ 101 ∧ X 0 32 = nI de ∧ de ≤ 100 ∧ X 0 31 = nI bd ∧ X 0 30 = nI sd ∧ X 0 29 = nI mk ∧ bd ≤ mk ∧ sd ≤ mk ∧ mk ≤ 5000 ∧
  (1 ≤ dp → ∃ m k : Nat, X 0 37 = nI m ∧ m ∈ ord ∧ X 0 38 = nI k ∧ k ≤ 100) ∧ ∀ i, 1 ≤ i → i < dp → ∃ a b : Nat, X 22 i = nI a ∧ a ∈ ord ∧ X 23 i = nI b ∧ b ≤ 100
/-- what a load has looked at: names that are called come to functions -/
def lchk (G : xX) (ord : List Nat) : Prop := ∀ m k e, m ∈ ord → k < gS G m → sOp G m k = 7 → sFi G ord m (sAr G m k 1) = some e → G 4 e = 0
theorem sAm_mem {X : xX} {x : Int32} : ∀ {l : List Nat} {w : Option Nat} {e : Nat}, sAm X x l w = some e → w = some e ∨ ∃ m ∈ l, sOf X m x = some e
  | [], w, e, h => Or.inl h
  | p :: r, w, e, h => by
    unfold sAm at h
    cases hq : sOf X p x with
    | none =>
      rw [hq] at h
      rcases sAm_mem h with z | ⟨m, hm, z⟩
      · exact Or.inl z
      · exact Or.inr ⟨m, List.mem_cons_of_mem _ hm, z⟩
    | some z =>
      rw [hq] at h
      simp only at h
      split at h
      · split at h
        · cases h; exact Or.inr ⟨p, List.mem_cons_self, hq⟩
        · rcases sAm_mem h with y | ⟨m, hm, y⟩
          · cases w with
            | none => simp only at y; cases y; exact Or.inr ⟨p, List.mem_cons_self, hq⟩
            | some u => simp only at y; exact Or.inl y
          · exact Or.inr ⟨m, List.mem_cons_of_mem _ hm, y⟩
      · rcases sAm_mem h with y | ⟨m, hm, y⟩
        · exact Or.inl y
        · exact Or.inr ⟨m, List.mem_cons_of_mem _ hm, y⟩
theorem sFi_mem {X : xX} {ord : List Nat} {m e : Nat} {x : Int32} (hm : m ∈ ord) (h : sFi X ord m x = some e) : ∃ q ∈ ord, sOf X q x = some e := by
  unfold sFi at h
  cases hq : sOf X m x with
  | none =>
    rw [hq] at h
    rcases sAm_mem h with z | z
    · cases z
    · exact z
  | some z =>
    rw [hq] at h
    simp only at h
    split at h
    · rcases sAm_mem h with z | z
      · cases z
      · exact z
    · cases h; exact ⟨m, hm, hq⟩
theorem rN_of {x : Int32} {k : Nat} (h : x = nI k) (hk : k < 2 ^ 31) : rN x = k := by rw [h]; exact rN_nI hk
/-- a call that is made -/
theorem wfR_call {G X : xX} {ord : List Nat} {dp mk e : Nat} (h : wfR ord X dp mk) (hmk : dp = 0 ∨ ∃ m k : Nat, X 0 37 = nI m ∧ X 0 38 = nI k ∧ m ∈ ord ∧ k ≤ 100) (he : e / 20 ∈ ord) (hv : ∃ v : Nat, v < 100 ∧ G 5 e = nI v) : ∃ dp', wfR ord (rCall G X (some e)).2 dp' mk ∧ ((rCall G X (some e)).1 = -1 → dp' = dp + 1) ∧ ((rCall G X (some e)).1 ≠ -1 → dp' = dp) := by
  obtain ⟨de, bd, sd, a1, a2, a3, a4, a5, a6, a7, a8, a9, a10, a11, a12⟩ := h
  obtain ⟨v, hv1, hv2⟩ := hv
  unfold rCall
  simp only [rN_of a1 (by omega), rN_of a3 (by omega)]
  split
  · exact ⟨dp, ⟨de, bd, sd, a1, a2, a3, a4, a5, a6, a7, a8, a9, a10, a11, a12⟩, fun q => absurd q (show ¬ ((2 : Int32) = -1) by decide), fun _ => rfl⟩
  · rename_i hne
    refine ⟨dp + 1, ⟨if de < dp then dp else de, bd, sd, by simp [xuI], by omega, by simp [xuI], by split <;> omega, by simpa [xuI] using a5, by simpa [xuI] using a6, by simpa [xuI] using a7, a8, a9, a10, fun _ => ⟨e / 20, v, by simp [xuI], he, by simp [xuI, hv2], by omega⟩, fun i h1 h2 => ?_⟩, fun _ => rfl, fun q => absurd rfl q⟩
    by_cases ei : i = dp
    · subst ei
      rcases hmk with z | ⟨m, k, h37, h38, z1, z2⟩
      · omega
      · exact ⟨m, k, by simp [xuI, h37], z1, by simp [xuI, h38], z2⟩
    · obtain ⟨a, b, c1, c2, c3, c4⟩ := a12 i h1 (by omega)
      exact ⟨a, b, by simp [xuI, ei, c1], c2, by simp [xuI, ei, c3], c4⟩
