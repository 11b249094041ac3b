/-! orders of loading and of beginning have the same members; what a load without a fault promises -/
theorem sAdd_mem {l : List Nat} {m q : Nat} : q ∈ sAdd l m ↔ q ∈ l ∨ q = m := by
  unfold sAdd
  by_cases h : m ∈ l
  · rw [if_pos h]
    exact ⟨Or.inl, fun q' => q'.elim id (fun e => e ▸ h)⟩
  · rw [if_neg h, List.mem_append, List.mem_singleton]
theorem sAdd_ok {c m : Nat} {l : List Nat} (h : okl c l) (hm : m < c) : okl c (sAdd l m) := by
  unfold sAdd
  by_cases e : m ∈ l
  · rw [if_pos e]; exact h
  · rw [if_neg e]; exact okl_add h hm e
theorem sAdd_pre {m : Nat} {l : List Nat} : ∃ r, sAdd l m = l ++ r := by
  unfold sAdd
  by_cases e : m ∈ l
  · rw [if_pos e]; exact ⟨[], (List.append_nil l).symm⟩
  · rw [if_neg e]; exact ⟨[m], rfl⟩
theorem sAdds_pre {X : xX} {m : Nat} : ∀ (t k : Nat) (l : List Nat), ∃ r, sAdds X m t k l = l ++ r
  | 0, k, l => ⟨[], (List.append_nil l).symm⟩
  | t + 1, k, l => by
    obtain ⟨r, hr⟩ := sAdds_pre (X := X) (m := m) t (k + 1) (sAdd l (gD X m k))
    obtain ⟨r2, hr2⟩ := sAdd_pre (m := gD X m k) (l := l)
    exact ⟨r2 ++ r, by unfold sAdds; rw [hr, hr2, List.append_assoc]⟩
theorem sAdds_all {X : xX} {m : Nat} : ∀ (t k : Nat) (l : List Nat) (j : Nat), k ≤ j → j < k + t → gD X m j ∈ sAdds X m t k l
  | 0, k, l, j, h1, h2 => by omega
  | t + 1, k, l, j, h1, h2 => by
    unfold sAdds
    by_cases e : j = k
    · subst e
      obtain ⟨r, hr⟩ := sAdds_pre (X := X) (m := m) t (j + 1) (sAdd l (gD X m j))
      rw [hr, List.mem_append]
      exact Or.inl (sAdd_mem.mpr (Or.inr rfl))
    · exact sAdds_all t (k + 1) _ j (by omega) (by omega)
theorem sAdds_sub {X : xX} {m : Nat} {C : Nat → Prop} : ∀ (t k : Nat) (l : List Nat), (∀ q ∈ l, C q) → (∀ j, k ≤ j → j < k + t → C (gD X m j)) → ∀ q ∈ sAdds X m t k l, C q
  | 0, k, l, h1, h2 => h1
  | t + 1, k, l, h1, h2 => by
    unfold sAdds
    refine sAdds_sub t (k + 1) _ (fun q hq => ?_) (fun j p1 p2 => h2 j (by omega) (by omega))
    rcases sAdd_mem.mp hq with e | e
    · exact h1 q e
    · rw [e]; exact h2 k (Nat.le_refl _) (by omega)
theorem sAdds_ok {X : xX} {m c : Nat} : ∀ (t k : Nat) (l : List Nat), okl c l → (∀ j, k ≤ j → j < k + t → gD X m j < c) → okl c (sAdds X m t k l)
  | 0, k, l, h1, h2 => h1
  | t + 1, k, l, h1, h2 => by
    unfold sAdds
    exact sAdds_ok t (k + 1) _ (sAdd_ok h1 (h2 k (Nat.le_refl _) (by omega))) (fun j p1 p2 => h2 j (by omega) (by omega))
theorem wfM_need {X : xX} {m k : Nat} (hw : ∀ m, m < 12 → wfM X m) (hg : gC X ≤ 12) (hm : m < gC X) (hk : k < gN X m) : gD X m k < gC X := ((hw m (by omega)).2.1 k hk).2
theorem sBfs_pre {X : xX} : ∀ (t p : Nat) (l : List Nat), ∃ r, sBfs X t p l = l ++ r
  | 0, p, l => ⟨[], (List.append_nil l).symm⟩
  | t + 1, p, l => by
    unfold sBfs
    cases h : l[p]? with
    | none => exact ⟨[], (List.append_nil l).symm⟩
    | some m =>
      obtain ⟨r, hr⟩ := sBfs_pre t (p + 1) (sAdds X m (gN X m) 0 l)
      obtain ⟨r2, hr2⟩ := sAdds_pre (X := X) (m := m) (gN X m) 0 l
      exact ⟨r2 ++ r, by show sBfs X t (p + 1) (sAdds X m (gN X m) 0 l) = _; rw [hr, hr2, List.append_assoc]⟩
theorem sBfs_ok {X : xX} (hw : ∀ m, m < 12 → wfM X m) (hg : gC X ≤ 12) : ∀ (t p : Nat) (l : List Nat), okl (gC X) l → okl (gC X) (sBfs X t p l)
  | 0, p, l, h => h
  | t + 1, p, l, h => by
    unfold sBfs
    cases e : l[p]? with
    | none => exact h
    | some m =>
      have hm := h.2 m (List.mem_of_getElem? e)
      exact sBfs_ok hw hg t (p + 1) _ (sAdds_ok _ _ _ h (fun j _ p2 => wfM_need hw hg hm (by omega)))
theorem sBfs_sub {X : xX} {C : Nat → Prop} (hC : ∀ m, C m → ∀ k, k < gN X m → C (gD X m k)) : ∀ (t p : Nat) (l : List Nat), (∀ q ∈ l, C q) → ∀ q ∈ sBfs X t p l, C q
  | 0, p, l, h => h
  | t + 1, p, l, h => by
    unfold sBfs
    cases e : l[p]? with
    | none => exact h
    | some m =>
      exact sBfs_sub hC t (p + 1) _ (sAdds_sub _ _ _ h (fun j _ p2 => hC m (h m (List.mem_of_getElem? e)) j (by omega)))
theorem sBfs_cl {X : xX} (hw : ∀ m, m < 12 → wfM X m) (hg : gC X ≤ 12) : ∀ (t p : Nat) (l : List Nat), p + t = 12 → okl (gC X) l → (∀ i m, i < p → l[i]? = some m → ∀ k, k < gN X m → gD X m k ∈ l) → ∀ m ∈ sBfs X t p l, ∀ k, k < gN X m → gD X m k ∈ sBfs X t p l
  | 0, p, l, hp, ho, h => fun m hm k hk => by
    have hm : m ∈ l := hm
    show gD X m k ∈ l
    obtain ⟨i, hi, e⟩ := List.getElem_of_mem hm
    have := okl_len ho
    exact h i m (by omega) (by rw [List.getElem?_eq_getElem hi, e]) k hk
  | t + 1, p, l, hp, ho, h => by
    unfold sBfs
    cases e : l[p]? with
    | none =>
      intro m (hm : m ∈ l) k hk
      show gD X m k ∈ l
      obtain ⟨i, hi, e2⟩ := List.getElem_of_mem hm
      have := List.getElem?_eq_none_iff.mp e
      exact h i m (by omega) (by rw [List.getElem?_eq_getElem hi, e2]) k hk
    | some q =>
      have hq := ho.2 q (List.mem_of_getElem? e)
      refine sBfs_cl hw hg t (p + 1) _ (by omega) (sAdds_ok _ _ _ ho (fun j _ p2 => wfM_need hw hg hq (by omega))) (fun i m hi hm k hk => ?_)
      obtain ⟨r, hr⟩ := sAdds_pre (X := X) (m := q) (gN X q) 0 l
      have hpl := (List.getElem?_eq_some_iff.mp e).1
      by_cases hip : i = p
      · subst hip
        rw [hr, List.getElem?_append_left (by omega), e] at hm
        cases hm
        exact sAdds_all _ _ _ k (Nat.zero_le _) (by omega)
      · rw [hr, List.getElem?_append_left (by omega)] at hm
        have := h i m (by omega) hm k hk
        rw [hr]
        exact List.mem_append_left _ this
/-! depth first -/
theorem sLp_len {X : xX} {g : Nat → List Nat × List Nat → List Nat × List Nat} {m : Nat} (hg : ∀ o z, (g o z).2.length + z.1.length = (g o z).1.length + z.2.length) : ∀ (t k : Nat) (z : List Nat × List Nat), (sLp g X m t k z).2.length + z.1.length = (sLp g X m t k z).1.length + z.2.length
  | 0, k, z => Nat.add_comm _ _
  | t + 1, k, z => by
    unfold sLp
    have h1 := sLp_len (X := X) (m := m) hg t (k + 1) (g (gD X m k) z)
    have h2 := hg (gD X m k) z
    omega
theorem sDfs_len {X : xX} : ∀ (f m : Nat) (z : List Nat × List Nat), (sDfs X f m z).2.length + z.1.length = (sDfs X f m z).1.length + z.2.length
  | 0, m, z => Nat.add_comm _ _
  | f + 1, m, z => by
    by_cases h : m ∈ z.1
    · rw [sDfs_in h]; exact Nat.add_comm _ _
    · rw [sDfs_out h]
      have := sLp_len (X := X) (m := m) (g := sDfs X f) (fun o z => sDfs_len f o z) (gN X m) 0 (z.1 ++ [m], z.2)
      simp only [List.length_append, List.length_singleton] at this ⊢
      omega
/-- what is kept: more is met, it is in range, within a closed set, and what was met newly has all its needs met -/
def sGood (X : xX) (C : Nat → Prop) (z z' : List Nat × List Nat) : Prop := (∀ q ∈ z.1, q ∈ z'.1) ∧ okl (gC X) z'.1 ∧ (∀ q ∈ z'.1, q ∈ z.1 ∨ C q) ∧ (∀ q ∈ z'.2, q ∈ z.2 ∨ C q) ∧ z.1.length ≤ z'.1.length ∧ (∀ q ∈ z'.1, q ∉ z.1 → ∀ k, k < gN X q → gD X q k ∈ z'.1)
theorem sGood.rf {X : xX} {C : Nat → Prop} {z : List Nat × List Nat} (h : okl (gC X) z.1) : sGood X C z z := ⟨fun _ h => h, h, fun _ h => Or.inl h, fun _ h => Or.inl h, Nat.le_refl _, fun q h1 h2 => absurd h1 h2⟩
theorem sGood.tr {X : xX} {C : Nat → Prop} {z z' z2 : List Nat × List Nat} (h : sGood X C z z') (g : sGood X C z' z2) : sGood X C z z2 :=
  ⟨fun q hq => g.1 q (h.1 q hq), g.2.1, fun q hq => (g.2.2.1 q hq).elim (h.2.2.1 q) Or.inr, fun q hq => (g.2.2.2.1 q hq).elim (h.2.2.2.1 q) Or.inr, Nat.le_trans h.2.2.2.2.1 g.2.2.2.2.1, fun q hq hn k hk => by
    by_cases e : q ∈ z'.1
    · exact g.1 _ (h.2.2.2.2.2 q e hn k hk)
    · exact g.2.2.2.2.2 q hq e k hk⟩
theorem sLp_good {X : xX} {C : Nat → Prop} {f m : Nat} (hD : ∀ o z, o < gC X → C o → okl (gC X) z.1 → 12 ≤ f + z.1.length → sGood X C z (sDfs X f o z) ∧ o ∈ (sDfs X f o z).1) : ∀ (t k : Nat) (z : List Nat × List Nat), (∀ j, k ≤ j → j < k + t → gD X m j < gC X ∧ C (gD X m j)) → okl (gC X) z.1 → 12 ≤ f + z.1.length → sGood X C z (sLp (sDfs X f) X m t k z) ∧ ∀ j, k ≤ j → j < k + t → gD X m j ∈ (sLp (sDfs X f) X m t k z).1
  | 0, k, z, hj, ho, hf => ⟨sGood.rf ho, fun j h1 h2 => by omega⟩
  | t + 1, k, z, hj, ho, hf => by
    unfold sLp
    have hk := hj k (Nat.le_refl _) (by omega)
    obtain ⟨g1, g2⟩ := hD (gD X m k) z hk.1 hk.2 ho hf
    obtain ⟨r1, r2⟩ := sLp_good hD t (k + 1) _ (fun j h1 h2 => hj j (by omega) (by omega)) g1.2.1 (by have := g1.2.2.2.2.1; omega)
    refine ⟨g1.tr r1, fun j h1 h2 => ?_⟩
    by_cases e : j = k
    · subst e; exact r1.1 _ g2
    · exact r2 j (by omega) (by omega)
theorem sDfs_good {X : xX} {C : Nat → Prop} (hw : ∀ m, m < 12 → wfM X m) (hg : gC X ≤ 12) (hC : ∀ m, C m → ∀ k, k < gN X m → C (gD X m k)) : ∀ (f m : Nat) (z : List Nat × List Nat), m < gC X → C m → okl (gC X) z.1 → 12 ≤ f + z.1.length → sGood X C z (sDfs X f m z) ∧ m ∈ (sDfs X f m z).1
  | f, m, z, hm, hc, ho, hf => by
    by_cases h : m ∈ z.1
    · rw [sDfs_in h]; exact ⟨sGood.rf ho, h⟩
    · have h2 := okl_len (okl_add ho hm h)
      rw [List.length_append, List.length_singleton] at h2
      match f, hf with
      | 0, hf => omega
      | f + 1, hf =>
        rw [sDfs_out h]
        obtain ⟨r1, r2⟩ := sLp_good (m := m) (fun o z q1 q2 q3 q4 => sDfs_good hw hg hC f o z q1 q2 q3 q4) (gN X m) 0 (z.1 ++ [m], z.2) (fun j _ p2 => ⟨wfM_need hw hg hm (by omega), hC m hc j (by omega)⟩) (okl_add ho hm h) (by simp only [List.length_append, List.length_singleton]; omega)
        have hmm := r1.1 m (by simp)
        refine ⟨⟨fun q hq => r1.1 q (List.mem_append_left _ hq), r1.2.1, fun q hq => ?_, fun q hq => ?_, ?_, fun q hq hn k hk => ?_⟩, hmm⟩
        · rcases r1.2.2.1 q hq with e | e
          · rcases List.mem_append.mp e with e | e
            · exact Or.inl e
            · rw [List.mem_singleton.mp e]; exact Or.inr hc
          · exact Or.inr e
        · rcases List.mem_append.mp hq with e | e
          · exact r1.2.2.2.1 q e
          · rw [List.mem_singleton.mp e]; exact Or.inr hc
        · have := r1.2.2.2.2.1
          simp only [List.length_append, List.length_singleton] at this
          show z.1.length ≤ (sLp (sDfs X f) X m (gN X m) 0 (z.1 ++ [m], z.2)).1.length
          omega
        · by_cases e : q = m
          · subst e; exact r2 k (Nat.zero_le _) (by omega)
          · exact r1.2.2.2.2.2 q hq (fun e2 => (List.mem_append.mp e2).elim hn (fun e3 => e (List.mem_singleton.mp e3))) k hk
  termination_by f => f
theorem okl1 {c r : Nat} (hr : r < c) : okl c [r] := ⟨by simp, fun q hq => by rw [List.mem_singleton.mp hq]; exact hr⟩
theorem okl0 {c : Nat} : okl c [] := ⟨by simp, fun q hq => by cases hq⟩
/-- all that is known of a load's two orders -/
theorem sOB {X : xX} {r : Nat} (hw : ∀ m, m < 12 → wfM X m) (hg : gC X ≤ 12) (hr : r < gC X) : okl (gC X) (sOrd X r) ∧ r ∈ sOrd X r ∧ (sOrd X r)[0]? = some r ∧ (sBeg X r).length = (sOrd X r).length ∧ (∀ q ∈ sBeg X r, q ∈ sOrd X r) := by
  have h1 : okl (gC X) (sOrd X r) := sBfs_ok hw hg 12 0 [r] (okl1 hr)
  obtain ⟨rr, hrr⟩ := sBfs_pre (X := X) 12 0 [r]
  have h2 : r ∈ sOrd X r := by show r ∈ sBfs X 12 0 [r]; rw [hrr]; simp
  have h3 : (sOrd X r)[0]? = some r := by show (sBfs X 12 0 [r])[0]? = some r; rw [hrr]; simp
  have hcl := sBfs_cl hw hg 12 0 [r] rfl (okl1 hr) (fun i m hi => by omega)
  obtain ⟨d1, d2⟩ := sDfs_good (C := fun q => q ∈ sOrd X r) hw hg hcl 12 r ([], []) hr h2 okl0 (by simp)
  have hl := sDfs_len (X := X) 12 r ([], [])
  have hsub : ∀ q ∈ sOrd X r, q ∈ (sDfs X 12 r ([], [])).1 := sBfs_sub (C := fun q => q ∈ (sDfs X 12 r ([], [])).1) (fun m hm k hk => d1.2.2.2.2.2 m hm (by simp) k hk) 12 0 [r] (fun q hq => by rw [List.mem_singleton.mp hq]; exact d2)
  have l1 : (sOrd X r).length ≤ (sDfs X 12 r ([], [])).1.length := h1.1.length_le_of_subset hsub
  have l2 : (sDfs X 12 r ([], [])).1.length ≤ (sOrd X r).length := d1.2.1.1.length_le_of_subset (fun q hq => (d1.2.2.1 q hq).elim (fun e => by cases e) id)
  refine ⟨h1, h2, h3, ?_, fun q hq => (d1.2.2.2.1 q hq).elim (fun e => by cases e) id⟩
  show (sDfs X 12 r ([], [])).2.length = _
  simp only [List.length_nil] at hl
  omega
theorem sFt_0 {X : xX} {ord : List Nat} : ∀ {l : List Nat}, (sFt X ord l).1 = 0 → ∀ m ∈ l, (sLk X ord m).1 = 0
  | [], h, m, hm => by cases hm
  | q :: r, h, m, hm => by
    unfold sFt at h
    by_cases e : (sLk X ord q).1 = 0
    · rw [if_pos e] at h
      rcases List.mem_cons.mp hm with e2 | e2
      · rw [e2]; exact e
      · exact sFt_0 h m e2
    · rw [if_neg e] at h; exact absurd h e
theorem sLkS_0 {X : xX} {ord : List Nat} {m : Nat} : ∀ {t k : Nat}, (sLkS X ord m t k).1 = 0 → ∀ j, k ≤ j → j < k + t → 6 < (sOp X m j).toInt → (sOp X m j).toInt < 11 → sUse X ord m (sNm X m j) (decide (sOp X m j = 7 ∨ sOp X m j = 10)) = 0
  | 0, k, h, j, h1, h2, h3, h4 => by omega
  | t + 1, k, h, j, h1, h2, h3, h4 => by
    unfold sLkS at h
    by_cases c : 6 < (sOp X m k).toInt ∧ (sOp X m k).toInt < 11
    · rw [if_pos c] at h
      by_cases e : sUse X ord m (sNm X m k) (decide (sOp X m k = 7 ∨ sOp X m k = 10)) = 0
      · rw [if_pos e] at h
        by_cases ej : j = k
        · subst ej; exact e
        · exact sLkS_0 h j (by omega) (by omega) h3 h4
      · rw [if_neg e] at h; exact absurd h e
    · rw [if_neg c] at h
      by_cases ej : j = k
      · subst ej; exact absurd ⟨h3, h4⟩ c
      · exact sLkS_0 h j (by omega) (by omega) h3 h4
theorem sUse_0 {X : xX} {ord : List Nat} {m e : Nat} {x : Int32} (h : sUse X ord m x true = 0) (he : sFi X ord m x = some e) : X 4 e = 0 := by
  unfold sUse at h
  rw [he] at h
  simp only at h
  by_cases c : decide (X 4 e = 0) = true
  · exact of_decide_eq_true c
  · rw [if_neg c] at h; exact absurd h (by decide)
theorem sFt_chk {X : xX} {ord : List Nat} (h : (sFt X ord ord).1 = 0) : lchk X ord ∧ lchkB X ord := by
  refine ⟨fun m k e hm hk hop he => ?_, fun m e hm hb he => ?_⟩
  · have h1 := sFt_0 h m hm
    unfold sLk at h1
    have h2 : (sLkS X ord m (gS X m) 0).1 = 0 := by
      by_cases c : X 11 m = -1
      · rw [if_pos c] at h1; exact h1
      · rw [if_neg c] at h1
        by_cases c2 : sUse X ord m (X 11 m) true = 0
        · rw [if_pos c2] at h1; exact h1
        · rw [if_neg c2] at h1; exact absurd h1 c2
    have h3 := sLkS_0 h2 k (Nat.zero_le _) (by omega) (by rw [hop]; decide) (by rw [hop]; decide)
    unfold sNm at h3
    rw [if_pos (Or.inl hop), decide_eq_true (Or.inl hop)] at h3
    exact sUse_0 h3 he
  · have h1 := sFt_0 h m hm
    unfold sLk at h1
    rw [if_neg hb] at h1
    by_cases c2 : sUse X ord m (X 11 m) true = 0
    · exact sUse_0 c2 he
    · rw [if_neg c2] at h1; exact absurd h1 c2
