theorem xdecl_a : ((List.range 6).all fun c => (List.range (xN c)).all fun k => decide ((xT c k).1 = xR c)) = true := by decide +kernel
theorem xdecl (c : Nat) (hc : c < 6) (k : Nat) (hk : k < xN c) : (xT c k).1 = xR c := by
  have h := List.all_eq_true.mp (List.all_eq_true.mp xdecl_a c (List.mem_range.mpr hc)) k (List.mem_range.mpr hk)
  simpa only [decide_eq_true_eq] using h
theorem xft_0 {c k : Nat} (h : xft c k = 0) : xty c k = .int := by
  unfold xft at h
  split at h
  · assumption
  · cases h
  · cases h
theorem xft_1 {c k : Nat} (h : xft c k = 1) : xty c k = .boolean := by
  unfold xft at h
  split at h
  · cases h
  · assumption
  · cases h
def xisref (t : FieldType) : Bool := match t with
  | .object _ => true
  | .array _ => true
  | _ => false
theorem xft_a : ((List.range 6).all fun c => (List.range (xN c)).all fun k => xft c k != 2 || xisref (xty c k)) = true := by decide +kernel
theorem xft_b : ((List.range 6).all fun c => (List.range (xN c)).all fun k => xft c k == 2 || (xty c k == .int || xty c k == .boolean)) = true := by decide +kernel
theorem xft_2 {c k : Nat} (hc : c < 6) (hk : k < xN c) (h : xft c k = 2) (b : Nat) : narrow (xty c k) (.ref b) = .ref b ∧ fits (xty c k) (.ref b) = true := by
  have h1 := List.all_eq_true.mp (List.all_eq_true.mp xft_a c (List.mem_range.mpr hc)) k (List.mem_range.mpr hk)
  rw [h] at h1
  cases ht : xty c k <;> rw [ht] at h1 <;> first | exact ⟨rfl, rfl⟩ | (simp [xisref] at h1)
theorem xdef {c k a : Nat} {h : xH} (hc : c < 6) (hk : k < xN c) (hI : h.2.1 a k = 0) (hP : h.2.2.1 a k = none) : defaultValue (xty c k) = xval h c a k := by
  unfold xval
  by_cases h2 : xft c k = 2
  · rw [if_pos h2, hP]
    have h1 := List.all_eq_true.mp (List.all_eq_true.mp xft_a c (List.mem_range.mpr hc)) k (List.mem_range.mpr hk)
    rw [h2] at h1
    cases ht : xty c k <;> rw [ht] at h1 <;> first | rfl | (simp [xisref] at h1)
  · rw [if_neg h2, hI]
    have h1 := List.all_eq_true.mp (List.all_eq_true.mp xft_b c (List.mem_range.mpr hc)) k (List.mem_range.mpr hk)
    simp only [Bool.or_eq_true, beq_iff_eq] at h1
    rcases h1 with h1 | h1 | h1
    · exact absurd h1 h2
    · rw [h1]; rfl
    · rw [h1]; rfl
