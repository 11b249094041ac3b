/-! rows beyond the other's memory are never read nor written -/
def ov (X W : xX) : xX := fun i j => if i ≤ 23 then X i j else W i j
theorem ov_r {X W : xX} {i : Nat} (h : i ≤ 23) : ov X W i = X i := by funext j; unfold ov; rw [if_pos h]
theorem ov_w {X W : xX} {i : Nat} (h : 23 < i) : ov X W i = W i := by funext j; unfold ov; rw [if_neg (by omega)]
theorem ov_u {X W : xX} {i j : Nat} {x : Int32} (h : i ≤ 23) : xuI (ov X W) i j x = ov (xuI X i j x) W := by
  funext a b
  by_cases e : a ≤ 23
  · rw [ov_r e]
    by_cases c : a = i ∧ b = j
    · obtain ⟨rfl, rfl⟩ := c; rw [xuI_s, xuI_s]
    · rw [xuI_o (by omega), xuI_o (by omega), ov_r e]
  · rw [ov_w (by omega), xuI_ne (by omega), ov_w (by omega)]
theorem ov_rr {X W : xX} {i j : Nat} (h : i ≤ 23) : ov X W i j = X i j := by rw [ov_r h]
theorem ov_self {X : xX} : ov X X = X := by
  funext i j
  unfold ov
  by_cases h : i ≤ 23
  · rw [if_pos h]
  · rw [if_neg h]
def ovp (y : Int32 × xX) (W : xX) : Int32 × xX := (y.1, ov y.2 W)
theorem rCall_ov {G X W : xX} {q : Option Nat} : rCall G (ov X W) q = ovp (rCall G X q) W := by
  unfold rCall
  cases q with
  | none => rfl
  | some e =>
    simp only [ov_rr (show 0 ≤ 23 by decide)]
    by_cases c : rN (X 0 36) = 101
    · rw [if_pos c, if_pos c]; rfl
    · rw [if_neg c, if_neg c]
      unfold ovp
      rw [ov_u (by decide), ov_u (by decide), ov_u (by decide), ov_u (by decide), ov_u (by decide), ov_u (by decide)]
theorem rCn_ov {G X W : xX} {ord : List Nat} {m : Nat} {a : Int32} : rCn G ord (ov X W) m a = ovp (rCn G ord X m a) W := by
  unfold rCn
  simp only [ov_rr (show 0 ≤ 23 by decide), ov_rr (show 14 ≤ 23 by decide)]
  by_cases c : X 14 (64 * m + rN a) = 21
  · rw [if_pos c, if_pos c, ov_u (by decide), ov_u (by decide)]
    exact rCall_ov
  · rw [if_neg c, if_neg c]
    exact rCall_ov
theorem rRd_ov {X W : xX} {q : Option Nat} : rRd (ov X W) q = rRd X q := by
  cases q with
  | none => rfl
  | some e => exact ov_rr (by decide)
theorem rWr_ov {X W : xX} {q : Option Nat} {x : Int32} : rWr (ov X W) q x = ov (rWr X q x) W := by
  cases q with
  | none => rfl
  | some e => exact ov_u (by decide)
theorem rMkO_d {G X : xX} {ord : List Nat} {m k : Nat} {op a b c : Int32} (h : ∀ i : Nat, i < 14 → op ≠ nI i) : rMkO G ord X m k op a b c = (0, xuI X 0 38 (nI (k + 1))) := by
  unfold rMkO
  rw [if_neg (show ¬ op = 0 from h 0 (by decide)), if_neg (show ¬ op = 1 from h 1 (by decide)), if_neg (show ¬ op = 2 from h 2 (by decide)), if_neg (show ¬ op = 3 from h 3 (by decide)), if_neg (show ¬ op = 4 from h 4 (by decide)), if_neg (show ¬ op = 5 from h 5 (by decide)), if_neg (show ¬ op = 6 from h 6 (by decide)), if_neg (show ¬ op = 7 from h 7 (by decide)), if_neg (show ¬ op = 8 from h 8 (by decide)), if_neg (show ¬ op = 9 from h 9 (by decide)), if_neg (show ¬ op = 10 from h 10 (by decide)), if_neg (show ¬ op = 11 from h 11 (by decide)), if_neg (show ¬ op = 12 from h 12 (by decide)), if_neg (show ¬ op = 13 from h 13 (by decide))]
theorem rMkO_ov {G X W : xX} {ord : List Nat} {m k : Nat} {op a b c : Int32} : rMkO G ord (ov X W) m k op a b c = ovp (rMkO G ord X m k op a b c) W := by
  by_cases h0 : op = 0
  · subst h0; rw [rMkO_0, rMkO_0]; unfold ovp; rw [ov_u (by decide), ov_u (by decide)]
  by_cases h1 : op = 1
  · subst h1; rw [rMkO_1, rMkO_1]; unfold ovp; rw [ov_u (by decide), ov_u (by decide), ov_rr (by decide)]
  by_cases h2 : op = 2
  · subst h2; rw [rMkO_2, rMkO_2]; unfold ovp; rw [ov_u (by decide), ov_u (by decide), ov_rr (by decide), ov_rr (by decide)]
  by_cases h3 : op = 3
  · subst h3; rw [rMkO_3, rMkO_3]; unfold ovp; rw [ov_u (by decide), ov_u (by decide), ov_rr (by decide), ov_rr (by decide)]
  by_cases h4 : op = 4
  · subst h4; rw [rMkO_4, rMkO_4]; unfold ovp; rw [ov_u (by decide), ov_u (by decide), ov_rr (by decide), ov_rr (by decide)]
  by_cases h5 : op = 5
  · subst h5; rw [rMkO_5, rMkO_5]; unfold ovp; rw [ov_u (by decide), ov_u (by decide), ov_rr (by decide), ov_rr (by decide)]
  by_cases h6 : op = 6
  · subst h6; rw [rMkO_6, rMkO_6]; unfold ovp; rw [ov_u (by decide), ov_u (by decide)]
  by_cases h7 : op = 7
  · subst h7; rw [rMkO_7, rMkO_7, ov_u (by decide)]; exact rCn_ov
  by_cases h8 : op = 8
  · subst h8; rw [rMkO_8, rMkO_8]; unfold ovp; rw [ov_u (by decide), ov_u (by decide), rRd_ov]
  by_cases h9 : op = 9
  · subst h9; rw [rMkO_9, rMkO_9]; unfold ovp; rw [ov_u (by decide), rWr_ov, ov_rr (by decide)]
  by_cases h10 : op = 10
  · subst h10; rw [rMkO_10, rMkO_10]; unfold ovp; rw [ov_u (by decide), ov_u (by decide)]
  by_cases h11 : op = 11
  · subst h11; rw [rMkO_11, rMkO_11, ov_u (by decide), ov_rr (by decide)]; exact rCall_ov
  by_cases h12 : op = 12
  · subst h12; rw [rMkO_12, rMkO_12]; unfold ovp; simp only [ov_rr (show 0 ≤ 23 by decide), ov_rr (show 22 ≤ 23 by decide), ov_rr (show 23 ≤ 23 by decide)]; rw [ov_u (by decide), ov_u (by decide), ov_u (by decide), ov_u (by decide)]
  by_cases h13 : op = 13
  · subst h13; rw [rMkO_13, rMkO_13]; unfold ovp; simp only [ov_rr (show 0 ≤ 23 by decide), ov_rr (show 20 ≤ 23 by decide)]
    by_cases c : rN (X 0 30) < 60
    · rw [if_pos c, if_pos c, ov_u (by decide), ov_u (by decide), ov_u (by decide)]
    · rw [if_neg c, if_neg c, ov_u (by decide), ov_u (by decide)]
  have hno : ∀ i : Nat, i < 14 → op ≠ nI i := fun i hi => by
    have : i = 0 ∨ i = 1 ∨ i = 2 ∨ i = 3 ∨ i = 4 ∨ i = 5 ∨ i = 6 ∨ i = 7 ∨ i = 8 ∨ i = 9 ∨ i = 10 ∨ i = 11 ∨ i = 12 ∨ i = 13 := by omega
    rcases this with rfl | rfl | rfl | rfl | rfl | rfl | rfl | rfl | rfl | rfl | rfl | rfl | rfl | rfl <;> assumption
  rw [rMkO_d hno, rMkO_d hno]; unfold ovp; rw [ov_u (by decide)]
theorem rMk_ov {G X W : xX} {ord : List Nat} : rMk G ord (ov X W) = ovp (rMk G ord X) W := by
  unfold rMk
  simp only [ov_rr (show 0 ≤ 23 by decide)]
  exact rMkO_ov
theorem rLp_ov {G W : xX} {ord : List Nat} {gr : Nat} : ∀ (t : Nat) (X : xX), rLp G ord gr t (ov X W) = ovp (rLp G ord gr t X) W
  | 0, X => rfl
  | t + 1, X => by
    unfold rLp
    simp only [ov_rr (show 0 ≤ 23 by decide), ov_u (show 0 ≤ 23 by decide), rMk_ov]
    by_cases c1 : rN (X 0 36) = 0
    · rw [if_pos c1, if_pos c1]; rfl
    rw [if_neg c1, if_neg c1]
    by_cases c2 : rN (X 0 38) ≥ gS G (rN (X 0 37))
    · rw [if_pos c2, if_pos c2]; rfl
    rw [if_neg c2, if_neg c2]
    by_cases c3 : rN (X 0 29) = gr
    · rw [if_pos c3, if_pos c3]; rfl
    rw [if_neg c3, if_neg c3]
    by_cases c4 : (rMk G ord (xuI X 0 29 (nI (rN (X 0 29) + 1)))).1 = -1
    · rw [if_pos c4, if_pos (show (ovp (rMk G ord (xuI X 0 29 (nI (rN (X 0 29) + 1)))) W).1 = -1 from c4)]
      exact rLp_ov t _
    · rw [if_neg c4, if_neg (show ¬ (ovp (rMk G ord (xuI X 0 29 (nI (rN (X 0 29) + 1)))) W).1 = -1 from c4)]
theorem rGo_ov {G X W : xX} {ord : List Nat} {gr e : Nat} : rGo G ord gr (ov X W) e = ovp (rGo G ord gr X e) W := by
  unfold rGo
  rw [ov_u (by decide), rCall_ov]
  by_cases c : (rCall G (xuI X 0 36 0) (some e)).1 = -1
  · rw [if_pos c, if_pos (show (ovp (rCall G (xuI X 0 36 0) (some e)) W).1 = -1 from c)]
    exact rLp_ov _ _
  · rw [if_neg c, if_neg (show ¬ (ovp (rCall G (xuI X 0 36 0) (some e)) W).1 = -1 from c)]
theorem rRuns_ov {G W : xX} {ord : List Nat} {gr : Nat} : ∀ (l : List Nat) (X : xX), rRuns G ord gr l (ov X W) = ovp (rRuns G ord gr l X) W
  | [], X => rfl
  | e :: r, X => by
    rw [rRuns_cons, rRuns_cons, rGo_ov]
    by_cases c : (rGo G ord gr X e).1 = -1
    · rw [if_pos c, if_pos (show (ovp (rGo G ord gr X e) W).1 = -1 from c)]
      exact rRuns_ov r _
    · rw [if_neg c, if_neg (show ¬ (ovp (rGo G ord gr X e) W).1 = -1 from c)]
theorem rFr_ov {G X W : xX} {ord : List Nat} {lz : Bool} : rFr G ord lz (ov X W) = ov (rFr G ord lz X) W := by
  funext i j
  by_cases h : i ≤ 23
  · rw [ov_r h]
    unfold rFr
    rw [ov_rr h]
  · rw [ov_w (by omega)]
    unfold rFr
    rw [if_neg (by omega), if_neg (by omega), if_neg (by omega), if_neg (by omega), ov_w (by omega)]
/-- the other's memory, seen in the heap -/
def xRe (I : Nat → Nat → Int32) (R : Nat) (X : xX) : Prop := ∀ i, i ≤ 23 → I (R + i) = X i
theorem xRe.u {I : Nat → Nat → Int32} {R i j : Nat} {X : xX} {x : Int32} (h : xRe I R X) : xRe (xuI I (R + i) j x) R (xuI X i j x) := fun a ha => by
  funext b
  by_cases c : a = i ∧ b = j
  · obtain ⟨rfl, rfl⟩ := c; rw [xuI_s, xuI_s]
  · rw [xuI_o (by omega), xuI_o (by omega), h a ha]
theorem xRe.f {I : Nat → Nat → Int32} {R j : Nat} {X : xX} {x : Int32} (h : xRe I R X) : xRe (xuI I R j x) R (xuI X 0 j x) := xRe.u (i := 0) h
theorem xRe.fr {I I' : Nat → Nat → Int32} {R : Nat} {X : xX} (h : xRe I R X) (f : ∀ a, R ≤ a → a ≤ R + 23 → I' a = I a) : xRe I' R X := fun i hi => by rw [f _ (by omega) (by omega)]; exact h i hi
theorem xRe.ov {I : Nat → Nat → Int32} {R : Nat} {X : xX} (h : xRe I R X) : xRf I R = ov X (xRf I R) := by
  funext i j
  by_cases c : i ≤ 23
  · rw [ov_rr c]; exact congrFun (h i c) j
  · rw [ov_w (by omega)]
