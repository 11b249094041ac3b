theorem xs0 {a b c : Int32} : xStep 0 a b c ↔ (∃ k : Nat, k < 8 ∧ a = nI k) := by
  unfold xStep
  constructor
  · rintro (⟨e, q⟩ | ⟨e, q⟩ | ⟨e, q⟩ | ⟨e, q⟩ | ⟨e, q⟩ | ⟨e, q⟩ | ⟨e, q⟩ | ⟨e, q⟩ | ⟨e, q⟩ | ⟨e, q⟩ | ⟨e, q⟩ | ⟨e, q⟩ | e | ⟨e, q⟩ | e)
    · exact q
    · exact absurd e (by decide)
    · exact absurd e (by decide)
    · exact absurd e (by decide)
    · exact absurd e (by decide)
    · exact absurd e (by decide)
    · exact absurd e (by decide)
    · exact absurd e (by decide)
    · exact absurd e (by decide)
    · exact absurd e (by decide)
    · exact absurd e (by decide)
    · exact absurd e (by decide)
    · exact absurd e (by decide)
    · exact absurd e (by decide)
    · exact absurd e (by decide)
  · intro q
    exact Or.inl ⟨rfl, q⟩
theorem xs1 {a b c : Int32} : xStep 1 a b c ↔ (∃ k : Nat, k < 8 ∧ a = nI k) ∧ (∃ k : Nat, k < 8 ∧ b = nI k) := by
  unfold xStep
  constructor
  · rintro (⟨e, q⟩ | ⟨e, q⟩ | ⟨e, q⟩ | ⟨e, q⟩ | ⟨e, q⟩ | ⟨e, q⟩ | ⟨e, q⟩ | ⟨e, q⟩ | ⟨e, q⟩ | ⟨e, q⟩ | ⟨e, q⟩ | ⟨e, q⟩ | e | ⟨e, q⟩ | e)
    · exact absurd e (by decide)
    · exact q
    · exact absurd e (by decide)
    · exact absurd e (by decide)
    · exact absurd e (by decide)
    · exact absurd e (by decide)
    · exact absurd e (by decide)
    · exact absurd e (by decide)
    · exact absurd e (by decide)
    · exact absurd e (by decide)
    · exact absurd e (by decide)
    · exact absurd e (by decide)
    · exact absurd e (by decide)
    · exact absurd e (by decide)
    · exact absurd e (by decide)
  · intro q
    exact Or.inr (Or.inl ⟨rfl, q⟩)
theorem xs2 {a b c : Int32} : xStep 2 a b c ↔ (∃ k : Nat, k < 8 ∧ a = nI k) ∧ (∃ k : Nat, k < 8 ∧ b = nI k) ∧ (∃ k : Nat, k < 8 ∧ c = nI k) := by
  unfold xStep
  constructor
  · rintro (⟨e, q⟩ | ⟨e, q⟩ | ⟨e, q⟩ | ⟨e, q⟩ | ⟨e, q⟩ | ⟨e, q⟩ | ⟨e, q⟩ | ⟨e, q⟩ | ⟨e, q⟩ | ⟨e, q⟩ | ⟨e, q⟩ | ⟨e, q⟩ | e | ⟨e, q⟩ | e)
    · exact absurd e (by decide)
    · exact absurd e (by decide)
    · exact q
    · exact absurd e (by decide)
    · exact absurd e (by decide)
    · exact absurd e (by decide)
    · exact absurd e (by decide)
    · exact absurd e (by decide)
    · exact absurd e (by decide)
    · exact absurd e (by decide)
    · exact absurd e (by decide)
    · exact absurd e (by decide)
    · exact absurd e (by decide)
    · exact absurd e (by decide)
    · exact absurd e (by decide)
  · intro q
    exact Or.inr (Or.inr (Or.inl ⟨rfl, q⟩))
theorem xs3 {a b c : Int32} : xStep 3 a b c ↔ (∃ k : Nat, k < 8 ∧ a = nI k) ∧ (∃ k : Nat, k < 8 ∧ b = nI k) ∧ (∃ k : Nat, k < 8 ∧ c = nI k) := by
  unfold xStep
  constructor
  · rintro (⟨e, q⟩ | ⟨e, q⟩ | ⟨e, q⟩ | ⟨e, q⟩ | ⟨e, q⟩ | ⟨e, q⟩ | ⟨e, q⟩ | ⟨e, q⟩ | ⟨e, q⟩ | ⟨e, q⟩ | ⟨e, q⟩ | ⟨e, q⟩ | e | ⟨e, q⟩ | e)
    · exact absurd e (by decide)
    · exact absurd e (by decide)
    · exact absurd e (by decide)
    · exact q
    · exact absurd e (by decide)
    · exact absurd e (by decide)
    · exact absurd e (by decide)
    · exact absurd e (by decide)
    · exact absurd e (by decide)
    · exact absurd e (by decide)
    · exact absurd e (by decide)
    · exact absurd e (by decide)
    · exact absurd e (by decide)
    · exact absurd e (by decide)
    · exact absurd e (by decide)
  · intro q
    exact Or.inr (Or.inr (Or.inr (Or.inl ⟨rfl, q⟩)))
theorem xs4 {a b c : Int32} : xStep 4 a b c ↔ (∃ k : Nat, k < 8 ∧ a = nI k) ∧ (∃ k : Nat, k < 8 ∧ b = nI k) ∧ (∃ k : Nat, k < 8 ∧ c = nI k) := by
  unfold xStep
  constructor
  · rintro (⟨e, q⟩ | ⟨e, q⟩ | ⟨e, q⟩ | ⟨e, q⟩ | ⟨e, q⟩ | ⟨e, q⟩ | ⟨e, q⟩ | ⟨e, q⟩ | ⟨e, q⟩ | ⟨e, q⟩ | ⟨e, q⟩ | ⟨e, q⟩ | e | ⟨e, q⟩ | e)
    · exact absurd e (by decide)
    · exact absurd e (by decide)
    · exact absurd e (by decide)
    · exact absurd e (by decide)
    · exact q
    · exact absurd e (by decide)
    · exact absurd e (by decide)
    · exact absurd e (by decide)
    · exact absurd e (by decide)
    · exact absurd e (by decide)
    · exact absurd e (by decide)
    · exact absurd e (by decide)
    · exact absurd e (by decide)
    · exact absurd e (by decide)
    · exact absurd e (by decide)
  · intro q
    exact Or.inr (Or.inr (Or.inr (Or.inr (Or.inl ⟨rfl, q⟩))))
theorem xs5 {a b c : Int32} : xStep 5 a b c ↔ (∃ k : Nat, k < 8 ∧ a = nI k) ∧ (∃ k : Nat, k < 8 ∧ b = nI k) ∧ (∃ k : Nat, k < 100 ∧ c = nI k) := by
  unfold xStep
  constructor
  · rintro (⟨e, q⟩ | ⟨e, q⟩ | ⟨e, q⟩ | ⟨e, q⟩ | ⟨e, q⟩ | ⟨e, q⟩ | ⟨e, q⟩ | ⟨e, q⟩ | ⟨e, q⟩ | ⟨e, q⟩ | ⟨e, q⟩ | ⟨e, q⟩ | e | ⟨e, q⟩ | e)
    · exact absurd e (by decide)
    · exact absurd e (by decide)
    · exact absurd e (by decide)
    · exact absurd e (by decide)
    · exact absurd e (by decide)
    · exact q
    · exact absurd e (by decide)
    · exact absurd e (by decide)
    · exact absurd e (by decide)
    · exact absurd e (by decide)
    · exact absurd e (by decide)
    · exact absurd e (by decide)
    · exact absurd e (by decide)
    · exact absurd e (by decide)
    · exact absurd e (by decide)
  · intro q
    exact Or.inr (Or.inr (Or.inr (Or.inr (Or.inr (Or.inl ⟨rfl, q⟩)))))
theorem xs6 {a b c : Int32} : xStep 6 a b c ↔ (∃ k : Nat, k < 100 ∧ a = nI k) := by
  unfold xStep
  constructor
  · rintro (⟨e, q⟩ | ⟨e, q⟩ | ⟨e, q⟩ | ⟨e, q⟩ | ⟨e, q⟩ | ⟨e, q⟩ | ⟨e, q⟩ | ⟨e, q⟩ | ⟨e, q⟩ | ⟨e, q⟩ | ⟨e, q⟩ | ⟨e, q⟩ | e | ⟨e, q⟩ | e)
    · exact absurd e (by decide)
    · exact absurd e (by decide)
    · exact absurd e (by decide)
    · exact absurd e (by decide)
    · exact absurd e (by decide)
    · exact absurd e (by decide)
    · exact q
    · exact absurd e (by decide)
    · exact absurd e (by decide)
    · exact absurd e (by decide)
    · exact absurd e (by decide)
    · exact absurd e (by decide)
    · exact absurd e (by decide)
    · exact absurd e (by decide)
    · exact absurd e (by decide)
  · intro q
    exact Or.inr (Or.inr (Or.inr (Or.inr (Or.inr (Or.inr (Or.inl ⟨rfl, q⟩))))))
theorem xs7 {a b c : Int32} : xStep 7 a b c ↔ (∃ k : Nat, k < 64 ∧ a = nI k) := by
  unfold xStep
  constructor
  · rintro (⟨e, q⟩ | ⟨e, q⟩ | ⟨e, q⟩ | ⟨e, q⟩ | ⟨e, q⟩ | ⟨e, q⟩ | ⟨e, q⟩ | ⟨e, q⟩ | ⟨e, q⟩ | ⟨e, q⟩ | ⟨e, q⟩ | ⟨e, q⟩ | e | ⟨e, q⟩ | e)
    · exact absurd e (by decide)
    · exact absurd e (by decide)
    · exact absurd e (by decide)
    · exact absurd e (by decide)
    · exact absurd e (by decide)
    · exact absurd e (by decide)
    · exact absurd e (by decide)
    · exact q
    · exact absurd e (by decide)
    · exact absurd e (by decide)
    · exact absurd e (by decide)
    · exact absurd e (by decide)
    · exact absurd e (by decide)
    · exact absurd e (by decide)
    · exact absurd e (by decide)
  · intro q
    exact Or.inr (Or.inr (Or.inr (Or.inr (Or.inr (Or.inr (Or.inr (Or.inl ⟨rfl, q⟩)))))))
theorem xs8 {a b c : Int32} : xStep 8 a b c ↔ (∃ k : Nat, k < 8 ∧ a = nI k) ∧ (∃ k : Nat, k < 64 ∧ b = nI k) := by
  unfold xStep
  constructor
  · rintro (⟨e, q⟩ | ⟨e, q⟩ | ⟨e, q⟩ | ⟨e, q⟩ | ⟨e, q⟩ | ⟨e, q⟩ | ⟨e, q⟩ | ⟨e, q⟩ | ⟨e, q⟩ | ⟨e, q⟩ | ⟨e, q⟩ | ⟨e, q⟩ | e | ⟨e, q⟩ | e)
    · exact absurd e (by decide)
    · exact absurd e (by decide)
    · exact absurd e (by decide)
    · exact absurd e (by decide)
    · exact absurd e (by decide)
    · exact absurd e (by decide)
    · exact absurd e (by decide)
    · exact absurd e (by decide)
    · exact q
    · exact absurd e (by decide)
    · exact absurd e (by decide)
    · exact absurd e (by decide)
    · exact absurd e (by decide)
    · exact absurd e (by decide)
    · exact absurd e (by decide)
  · intro q
    exact Or.inr (Or.inr (Or.inr (Or.inr (Or.inr (Or.inr (Or.inr (Or.inr (Or.inl ⟨rfl, q⟩))))))))
theorem xs9 {a b c : Int32} : xStep 9 a b c ↔ (∃ k : Nat, k < 64 ∧ a = nI k) ∧ (∃ k : Nat, k < 8 ∧ b = nI k) := by
  unfold xStep
  constructor
  · rintro (⟨e, q⟩ | ⟨e, q⟩ | ⟨e, q⟩ | ⟨e, q⟩ | ⟨e, q⟩ | ⟨e, q⟩ | ⟨e, q⟩ | ⟨e, q⟩ | ⟨e, q⟩ | ⟨e, q⟩ | ⟨e, q⟩ | ⟨e, q⟩ | e | ⟨e, q⟩ | e)
    · exact absurd e (by decide)
    · exact absurd e (by decide)
    · exact absurd e (by decide)
    · exact absurd e (by decide)
    · exact absurd e (by decide)
    · exact absurd e (by decide)
    · exact absurd e (by decide)
    · exact absurd e (by decide)
    · exact absurd e (by decide)
    · exact q
    · exact absurd e (by decide)
    · exact absurd e (by decide)
    · exact absurd e (by decide)
    · exact absurd e (by decide)
    · exact absurd e (by decide)
  · intro q
    exact Or.inr (Or.inr (Or.inr (Or.inr (Or.inr (Or.inr (Or.inr (Or.inr (Or.inr (Or.inl ⟨rfl, q⟩)))))))))
theorem xs10 {a b c : Int32} : xStep 10 a b c ↔ (∃ k : Nat, k < 8 ∧ a = nI k) ∧ (∃ k : Nat, k < 64 ∧ b = nI k) := by
  unfold xStep
  constructor
  · rintro (⟨e, q⟩ | ⟨e, q⟩ | ⟨e, q⟩ | ⟨e, q⟩ | ⟨e, q⟩ | ⟨e, q⟩ | ⟨e, q⟩ | ⟨e, q⟩ | ⟨e, q⟩ | ⟨e, q⟩ | ⟨e, q⟩ | ⟨e, q⟩ | e | ⟨e, q⟩ | e)
    · exact absurd e (by decide)
    · exact absurd e (by decide)
    · exact absurd e (by decide)
    · exact absurd e (by decide)
    · exact absurd e (by decide)
    · exact absurd e (by decide)
    · exact absurd e (by decide)
    · exact absurd e (by decide)
    · exact absurd e (by decide)
    · exact absurd e (by decide)
    · exact q
    · exact absurd e (by decide)
    · exact absurd e (by decide)
    · exact absurd e (by decide)
    · exact absurd e (by decide)
  · intro q
    exact Or.inr (Or.inr (Or.inr (Or.inr (Or.inr (Or.inr (Or.inr (Or.inr (Or.inr (Or.inr (Or.inl ⟨rfl, q⟩))))))))))
theorem xs11 {a b c : Int32} : xStep 11 a b c ↔ (∃ k : Nat, k < 8 ∧ a = nI k) := by
  unfold xStep
  constructor
  · rintro (⟨e, q⟩ | ⟨e, q⟩ | ⟨e, q⟩ | ⟨e, q⟩ | ⟨e, q⟩ | ⟨e, q⟩ | ⟨e, q⟩ | ⟨e, q⟩ | ⟨e, q⟩ | ⟨e, q⟩ | ⟨e, q⟩ | ⟨e, q⟩ | e | ⟨e, q⟩ | e)
    · exact absurd e (by decide)
    · exact absurd e (by decide)
    · exact absurd e (by decide)
    · exact absurd e (by decide)
    · exact absurd e (by decide)
    · exact absurd e (by decide)
    · exact absurd e (by decide)
    · exact absurd e (by decide)
    · exact absurd e (by decide)
    · exact absurd e (by decide)
    · exact absurd e (by decide)
    · exact q
    · exact absurd e (by decide)
    · exact absurd e (by decide)
    · exact absurd e (by decide)
  · intro q
    exact Or.inr (Or.inr (Or.inr (Or.inr (Or.inr (Or.inr (Or.inr (Or.inr (Or.inr (Or.inr (Or.inr (Or.inl ⟨rfl, q⟩)))))))))))
theorem xs12 {a b c : Int32} : xStep 12 a b c ↔ True := by
  unfold xStep
  constructor
  · rintro (⟨e, q⟩ | ⟨e, q⟩ | ⟨e, q⟩ | ⟨e, q⟩ | ⟨e, q⟩ | ⟨e, q⟩ | ⟨e, q⟩ | ⟨e, q⟩ | ⟨e, q⟩ | ⟨e, q⟩ | ⟨e, q⟩ | ⟨e, q⟩ | e | ⟨e, q⟩ | e)
    · exact absurd e (by decide)
    · exact absurd e (by decide)
    · exact absurd e (by decide)
    · exact absurd e (by decide)
    · exact absurd e (by decide)
    · exact absurd e (by decide)
    · exact absurd e (by decide)
    · exact absurd e (by decide)
    · exact absurd e (by decide)
    · exact absurd e (by decide)
    · exact absurd e (by decide)
    · exact absurd e (by decide)
    · exact trivial
    · exact absurd e (by decide)
    · exact absurd e (by decide)
  · intro q
    exact Or.inr (Or.inr (Or.inr (Or.inr (Or.inr (Or.inr (Or.inr (Or.inr (Or.inr (Or.inr (Or.inr (Or.inr (Or.inl rfl))))))))))))
theorem xs13 {a b c : Int32} : xStep 13 a b c ↔ (∃ k : Nat, k < 8 ∧ a = nI k) := by
  unfold xStep
  constructor
  · rintro (⟨e, q⟩ | ⟨e, q⟩ | ⟨e, q⟩ | ⟨e, q⟩ | ⟨e, q⟩ | ⟨e, q⟩ | ⟨e, q⟩ | ⟨e, q⟩ | ⟨e, q⟩ | ⟨e, q⟩ | ⟨e, q⟩ | ⟨e, q⟩ | e | ⟨e, q⟩ | e)
    · exact absurd e (by decide)
    · exact absurd e (by decide)
    · exact absurd e (by decide)
    · exact absurd e (by decide)
    · exact absurd e (by decide)
    · exact absurd e (by decide)
    · exact absurd e (by decide)
    · exact absurd e (by decide)
    · exact absurd e (by decide)
    · exact absurd e (by decide)
    · exact absurd e (by decide)
    · exact absurd e (by decide)
    · exact absurd e (by decide)
    · exact q
    · exact absurd e (by decide)
  · intro q
    exact Or.inr (Or.inr (Or.inr (Or.inr (Or.inr (Or.inr (Or.inr (Or.inr (Or.inr (Or.inr (Or.inr (Or.inr (Or.inr (Or.inl ⟨rfl, q⟩)))))))))))))
theorem xs14 {a b c : Int32} : xStep 14 a b c ↔ True := by
  unfold xStep
  constructor
  · rintro (⟨e, q⟩ | ⟨e, q⟩ | ⟨e, q⟩ | ⟨e, q⟩ | ⟨e, q⟩ | ⟨e, q⟩ | ⟨e, q⟩ | ⟨e, q⟩ | ⟨e, q⟩ | ⟨e, q⟩ | ⟨e, q⟩ | ⟨e, q⟩ | e | ⟨e, q⟩ | e)
    · exact absurd e (by decide)
    · exact absurd e (by decide)
    · exact absurd e (by decide)
    · exact absurd e (by decide)
    · exact absurd e (by decide)
    · exact absurd e (by decide)
    · exact absurd e (by decide)
    · exact absurd e (by decide)
    · exact absurd e (by decide)
    · exact absurd e (by decide)
    · exact absurd e (by decide)
    · exact absurd e (by decide)
    · exact absurd e (by decide)
    · exact absurd e (by decide)
    · exact trivial
  · intro q
    exact Or.inr (Or.inr (Or.inr (Or.inr (Or.inr (Or.inr (Or.inr (Or.inr (Or.inr (Or.inr (Or.inr (Or.inr (Or.inr (Or.inr (rfl))))))))))))))
theorem xs_no {op a b c : Int32} (h : op.toInt < 0 ∨ 14 < op.toInt) : ¬ xStep op a b c := by
  unfold xStep
  rintro (⟨e, -⟩ | ⟨e, -⟩ | ⟨e, -⟩ | ⟨e, -⟩ | ⟨e, -⟩ | ⟨e, -⟩ | ⟨e, -⟩ | ⟨e, -⟩ | ⟨e, -⟩ | ⟨e, -⟩ | ⟨e, -⟩ | ⟨e, -⟩ | e | ⟨e, -⟩ | e) <;> subst e <;> revert h <;> decide
theorem z_eq {x : Int32} {k : Int32} {v : Int} (h : x.toInt = v) (hk : k.toInt = v) : x = k := Int32.toInt_inj.mp (h.trans hk.symm)
theorem zno14 {x : Int32} (h : x.toInt < 0 ∨ 13 < x.toInt) (h2 : ¬ x = 14) : x.toInt < 0 ∨ 14 < x.toInt := by
  have : x.toInt ≠ 14 := fun e => h2 (z_eq e rfl)
  omega
theorem kisGood {d : Nat} {Pp : Option Value → xH → Prop} {K : Nat → Nat × Nat} {I : Nat → Nat → Int32} {P : Nat → Nat → Option Nat} {n s : Nat} {x0 x1 x2 x3 : Int32} (h1 : xStep x0 x1 x2 x3 → Pp (some (.int 1)) (K, I, P, n, s)) (h0 : ¬ xStep x0 x1 x2 x3 → Pp (some (.int 0)) (K, I, P, n, s)) : xC (d + 1) mX5_isGood [(.int x0), (.int x1), (.int x2), (.int x3)] (K, I, P, n, s) Pp := by
  refine y_met 0 0 ?_
  show xB (d + 1) 5 cX5_isGood (some .boolean) false (xE n s 0 0 Pp) 0 [some (.int x0), some (.int x1), some (.int x2), some (.int x3)] [] (K, I, P, n, s)
  refine y_iload_n dX5_isGood_0 rfl ?_
  refine y_tsw dX5_isGood_1 (fun c1 => ⟨201, by decide, ?_⟩) (fun c1a c1b => ?_)
  · refine y_iload_n dX5_isGood_201 rfl ?_
    refine y_bipush (v := 12) dX5_isGood_202 (by decide) ?_
    refine y_icmp_eq 213 dX5_isGood_204 (by decide) (fun c204 => ?_) (fun c204 => ?_)
    · refine y_iconst (v := 1) dX5_isGood_213 (by decide) ?_
      refine y_goto 218 dX5_isGood_214 (by decide) ?_
      exact y_retz dX5_isGood_218 rfl rfl (Or.inr rfl) (h1 (by rw [c204]; exact xs12.mpr trivial))
    · refine y_iload_n dX5_isGood_207 rfl ?_
      refine y_bipush (v := 14) dX5_isGood_208 (by decide) ?_
      refine y_icmp_ne 217 dX5_isGood_210 (by decide) (fun c210 => ?_) (fun c210 => ?_)
      · refine y_iconst (v := 0) dX5_isGood_217 (by decide) ?_
        exact y_retz dX5_isGood_218 rfl rfl (Or.inl rfl) (h0 (xs_no (zno14 c1 c210)))
      · refine y_iconst (v := 1) dX5_isGood_213 (by decide) ?_
        refine y_goto 218 dX5_isGood_214 (by decide) ?_
        exact y_retz dX5_isGood_218 rfl rfl (Or.inr rfl) (h1 (by rw [c210]; exact xs14.mpr trivial))
  · have c1c : (x0).toInt = 0 ∨ (x0).toInt = 1 ∨ (x0).toInt = 2 ∨ (x0).toInt = 3 ∨ (x0).toInt = 4 ∨ (x0).toInt = 5 ∨ (x0).toInt = 6 ∨ (x0).toInt = 7 ∨ (x0).toInt = 8 ∨ (x0).toInt = 9 ∨ (x0).toInt = 10 ∨ (x0).toInt = 11 ∨ (x0).toInt = 12 ∨ (x0).toInt = 13 := by omega
    rcases c1c with e1 | e1 | e1 | e1 | e1 | e1 | e1 | e1 | e1 | e1 | e1 | e1 | e1 | e1
    · refine ⟨71, 72, by rw [e1]; rfl, by decide, ?_⟩
      obtain rfl : x0 = 0 := z_eq e1 rfl
      refine y_iload_n dX5_isGood_72 rfl ?_
      refine y_callS1 mX5_isRegister 0 dX5_isGood_73 rfl rfl (Nat.le_of_ble_eq_true rfl) (kX5_isRegister (fun k73 hk73 ek73 => ?_) (fun nk73 => ?_))
      · exact y_retz dX5_isGood_76 rfl rfl (Or.inr rfl) (h1 (xs0.mpr ⟨k73, hk73, ek73⟩))
      · exact y_retz dX5_isGood_76 rfl rfl (Or.inl rfl) (h0 (fun w => by
          have q := xs0.mp w
          obtain ⟨k, hk, ek⟩ := q
          exact nk73 k hk ek))
    · refine ⟨76, 77, by rw [e1]; rfl, by decide, ?_⟩
      obtain rfl : x0 = 1 := z_eq e1 rfl
      refine y_iload_n dX5_isGood_77 rfl ?_
      refine y_callS1 mX5_isRegister 0 dX5_isGood_78 rfl rfl (Nat.le_of_ble_eq_true rfl) (kX5_isRegister (fun k78 hk78 ek78 => ?_) (fun nk78 => ?_))
      · refine y_if_eq 95 dX5_isGood_81 (by decide) (fun q => absurd q (by decide)) (fun _ => ?_)
        refine y_iload_n dX5_isGood_84 rfl ?_
        refine y_callS1 mX5_isRegister 0 dX5_isGood_85 rfl rfl (Nat.le_of_ble_eq_true rfl) (kX5_isRegister (fun k85 hk85 ek85 => ?_) (fun nk85 => ?_))
        · refine y_if_eq 95 dX5_isGood_88 (by decide) (fun q => absurd q (by decide)) (fun _ => ?_)
          refine y_iconst (v := 1) dX5_isGood_91 (by decide) ?_
          refine y_goto 96 dX5_isGood_92 (by decide) ?_
          exact y_retz dX5_isGood_96 rfl rfl (Or.inr rfl) (h1 (xs1.mpr ⟨⟨k78, hk78, ek78⟩, ⟨k85, hk85, ek85⟩⟩))
        · refine y_if_eq 95 dX5_isGood_88 (by decide) (fun _ => ?_) (fun q => absurd q (by decide))
          refine y_iconst (v := 0) dX5_isGood_95 (by decide) ?_
          exact y_retz dX5_isGood_96 rfl rfl (Or.inl rfl) (h0 (fun w => by
            have q := xs1.mp w
            obtain ⟨k, hk, ek⟩ := q.2
            exact nk85 k hk ek))
      · refine y_if_eq 95 dX5_isGood_81 (by decide) (fun _ => ?_) (fun q => absurd q (by decide))
        refine y_iconst (v := 0) dX5_isGood_95 (by decide) ?_
        exact y_retz dX5_isGood_96 rfl rfl (Or.inl rfl) (h0 (fun w => by
          have q := xs1.mp w
          obtain ⟨k, hk, ek⟩ := q.1
          exact nk78 k hk ek))
    · refine ⟨96, 97, by rw [e1]; rfl, by decide, ?_⟩
      obtain rfl : x0 = 2 := z_eq e1 rfl
      refine y_iload_n dX5_isGood_97 rfl ?_
      refine y_callS1 mX5_isRegister 0 dX5_isGood_98 rfl rfl (Nat.le_of_ble_eq_true rfl) (kX5_isRegister (fun k98 hk98 ek98 => ?_) (fun nk98 => ?_))
      · refine y_if_eq 122 dX5_isGood_101 (by decide) (fun q => absurd q (by decide)) (fun _ => ?_)
        refine y_iload_n dX5_isGood_104 rfl ?_
        refine y_callS1 mX5_isRegister 0 dX5_isGood_105 rfl rfl (Nat.le_of_ble_eq_true rfl) (kX5_isRegister (fun k105 hk105 ek105 => ?_) (fun nk105 => ?_))
        · refine y_if_eq 122 dX5_isGood_108 (by decide) (fun q => absurd q (by decide)) (fun _ => ?_)
          refine y_iload_n dX5_isGood_111 rfl ?_
          refine y_callS1 mX5_isRegister 0 dX5_isGood_112 rfl rfl (Nat.le_of_ble_eq_true rfl) (kX5_isRegister (fun k112 hk112 ek112 => ?_) (fun nk112 => ?_))
          · refine y_if_eq 122 dX5_isGood_115 (by decide) (fun q => absurd q (by decide)) (fun _ => ?_)
            refine y_iconst (v := 1) dX5_isGood_118 (by decide) ?_
            refine y_goto 123 dX5_isGood_119 (by decide) ?_
            exact y_retz dX5_isGood_123 rfl rfl (Or.inr rfl) (h1 (xs2.mpr ⟨⟨k98, hk98, ek98⟩, ⟨k105, hk105, ek105⟩, ⟨k112, hk112, ek112⟩⟩))
          · refine y_if_eq 122 dX5_isGood_115 (by decide) (fun _ => ?_) (fun q => absurd q (by decide))
            refine y_iconst (v := 0) dX5_isGood_122 (by decide) ?_
            exact y_retz dX5_isGood_123 rfl rfl (Or.inl rfl) (h0 (fun w => by
              have q := xs2.mp w
              obtain ⟨k, hk, ek⟩ := q.2.2
              exact nk112 k hk ek))
        · refine y_if_eq 122 dX5_isGood_108 (by decide) (fun _ => ?_) (fun q => absurd q (by decide))
          refine y_iconst (v := 0) dX5_isGood_122 (by decide) ?_
          exact y_retz dX5_isGood_123 rfl rfl (Or.inl rfl) (h0 (fun w => by
            have q := xs2.mp w
            obtain ⟨k, hk, ek⟩ := q.2.1
            exact nk105 k hk ek))
      · refine y_if_eq 122 dX5_isGood_101 (by decide) (fun _ => ?_) (fun q => absurd q (by decide))
        refine y_iconst (v := 0) dX5_isGood_122 (by decide) ?_
        exact y_retz dX5_isGood_123 rfl rfl (Or.inl rfl) (h0 (fun w => by
          have q := xs2.mp w
          obtain ⟨k, hk, ek⟩ := q.1
          exact nk98 k hk ek))
    · refine ⟨96, 97, by rw [e1]; rfl, by decide, ?_⟩
      obtain rfl : x0 = 3 := z_eq e1 rfl
      refine y_iload_n dX5_isGood_97 rfl ?_
      refine y_callS1 mX5_isRegister 0 dX5_isGood_98 rfl rfl (Nat.le_of_ble_eq_true rfl) (kX5_isRegister (fun k98 hk98 ek98 => ?_) (fun nk98 => ?_))
      · refine y_if_eq 122 dX5_isGood_101 (by decide) (fun q => absurd q (by decide)) (fun _ => ?_)
        refine y_iload_n dX5_isGood_104 rfl ?_
        refine y_callS1 mX5_isRegister 0 dX5_isGood_105 rfl rfl (Nat.le_of_ble_eq_true rfl) (kX5_isRegister (fun k105 hk105 ek105 => ?_) (fun nk105 => ?_))
        · refine y_if_eq 122 dX5_isGood_108 (by decide) (fun q => absurd q (by decide)) (fun _ => ?_)
          refine y_iload_n dX5_isGood_111 rfl ?_
          refine y_callS1 mX5_isRegister 0 dX5_isGood_112 rfl rfl (Nat.le_of_ble_eq_true rfl) (kX5_isRegister (fun k112 hk112 ek112 => ?_) (fun nk112 => ?_))
          · refine y_if_eq 122 dX5_isGood_115 (by decide) (fun q => absurd q (by decide)) (fun _ => ?_)
            refine y_iconst (v := 1) dX5_isGood_118 (by decide) ?_
            refine y_goto 123 dX5_isGood_119 (by decide) ?_
            exact y_retz dX5_isGood_123 rfl rfl (Or.inr rfl) (h1 (xs3.mpr ⟨⟨k98, hk98, ek98⟩, ⟨k105, hk105, ek105⟩, ⟨k112, hk112, ek112⟩⟩))
          · refine y_if_eq 122 dX5_isGood_115 (by decide) (fun _ => ?_) (fun q => absurd q (by decide))
            refine y_iconst (v := 0) dX5_isGood_122 (by decide) ?_
            exact y_retz dX5_isGood_123 rfl rfl (Or.inl rfl) (h0 (fun w => by
              have q := xs3.mp w
              obtain ⟨k, hk, ek⟩ := q.2.2
              exact nk112 k hk ek))
        · refine y_if_eq 122 dX5_isGood_108 (by decide) (fun _ => ?_) (fun q => absurd q (by decide))
          refine y_iconst (v := 0) dX5_isGood_122 (by decide) ?_
          exact y_retz dX5_isGood_123 rfl rfl (Or.inl rfl) (h0 (fun w => by
            have q := xs3.mp w
            obtain ⟨k, hk, ek⟩ := q.2.1
            exact nk105 k hk ek))
      · refine y_if_eq 122 dX5_isGood_101 (by decide) (fun _ => ?_) (fun q => absurd q (by decide))
        refine y_iconst (v := 0) dX5_isGood_122 (by decide) ?_
        exact y_retz dX5_isGood_123 rfl rfl (Or.inl rfl) (h0 (fun w => by
          have q := xs3.mp w
          obtain ⟨k, hk, ek⟩ := q.1
          exact nk98 k hk ek))
    · refine ⟨96, 97, by rw [e1]; rfl, by decide, ?_⟩
      obtain rfl : x0 = 4 := z_eq e1 rfl
      refine y_iload_n dX5_isGood_97 rfl ?_
      refine y_callS1 mX5_isRegister 0 dX5_isGood_98 rfl rfl (Nat.le_of_ble_eq_true rfl) (kX5_isRegister (fun k98 hk98 ek98 => ?_) (fun nk98 => ?_))
      · refine y_if_eq 122 dX5_isGood_101 (by decide) (fun q => absurd q (by decide)) (fun _ => ?_)
        refine y_iload_n dX5_isGood_104 rfl ?_
        refine y_callS1 mX5_isRegister 0 dX5_isGood_105 rfl rfl (Nat.le_of_ble_eq_true rfl) (kX5_isRegister (fun k105 hk105 ek105 => ?_) (fun nk105 => ?_))
        · refine y_if_eq 122 dX5_isGood_108 (by decide) (fun q => absurd q (by decide)) (fun _ => ?_)
          refine y_iload_n dX5_isGood_111 rfl ?_
          refine y_callS1 mX5_isRegister 0 dX5_isGood_112 rfl rfl (Nat.le_of_ble_eq_true rfl) (kX5_isRegister (fun k112 hk112 ek112 => ?_) (fun nk112 => ?_))
          · refine y_if_eq 122 dX5_isGood_115 (by decide) (fun q => absurd q (by decide)) (fun _ => ?_)
            refine y_iconst (v := 1) dX5_isGood_118 (by decide) ?_
            refine y_goto 123 dX5_isGood_119 (by decide) ?_
            exact y_retz dX5_isGood_123 rfl rfl (Or.inr rfl) (h1 (xs4.mpr ⟨⟨k98, hk98, ek98⟩, ⟨k105, hk105, ek105⟩, ⟨k112, hk112, ek112⟩⟩))
          · refine y_if_eq 122 dX5_isGood_115 (by decide) (fun _ => ?_) (fun q => absurd q (by decide))
            refine y_iconst (v := 0) dX5_isGood_122 (by decide) ?_
            exact y_retz dX5_isGood_123 rfl rfl (Or.inl rfl) (h0 (fun w => by
              have q := xs4.mp w
              obtain ⟨k, hk, ek⟩ := q.2.2
              exact nk112 k hk ek))
        · refine y_if_eq 122 dX5_isGood_108 (by decide) (fun _ => ?_) (fun q => absurd q (by decide))
          refine y_iconst (v := 0) dX5_isGood_122 (by decide) ?_
          exact y_retz dX5_isGood_123 rfl rfl (Or.inl rfl) (h0 (fun w => by
            have q := xs4.mp w
            obtain ⟨k, hk, ek⟩ := q.2.1
            exact nk105 k hk ek))
      · refine y_if_eq 122 dX5_isGood_101 (by decide) (fun _ => ?_) (fun q => absurd q (by decide))
        refine y_iconst (v := 0) dX5_isGood_122 (by decide) ?_
        exact y_retz dX5_isGood_123 rfl rfl (Or.inl rfl) (h0 (fun w => by
          have q := xs4.mp w
          obtain ⟨k, hk, ek⟩ := q.1
          exact nk98 k hk ek))
    · refine ⟨123, 124, by rw [e1]; rfl, by decide, ?_⟩
      obtain rfl : x0 = 5 := z_eq e1 rfl
      refine y_iload_n dX5_isGood_124 rfl ?_
      refine y_callS1 mX5_isRegister 0 dX5_isGood_125 rfl rfl (Nat.le_of_ble_eq_true rfl) (kX5_isRegister (fun k125 hk125 ek125 => ?_) (fun nk125 => ?_))
      · refine y_if_eq 149 dX5_isGood_128 (by decide) (fun q => absurd q (by decide)) (fun _ => ?_)
        refine y_iload_n dX5_isGood_131 rfl ?_
        refine y_callS1 mX5_isRegister 0 dX5_isGood_132 rfl rfl (Nat.le_of_ble_eq_true rfl) (kX5_isRegister (fun k132 hk132 ek132 => ?_) (fun nk132 => ?_))
        · refine y_if_eq 149 dX5_isGood_135 (by decide) (fun q => absurd q (by decide)) (fun _ => ?_)
          refine y_iload_n dX5_isGood_138 rfl ?_
          refine y_callS1 mX5_isStep 0 dX5_isGood_139 rfl rfl (Nat.le_of_ble_eq_true rfl) (kX5_isStep (fun k139 hk139 ek139 => ?_) (fun nk139 => ?_))
          · refine y_if_eq 149 dX5_isGood_142 (by decide) (fun q => absurd q (by decide)) (fun _ => ?_)
            refine y_iconst (v := 1) dX5_isGood_145 (by decide) ?_
            refine y_goto 150 dX5_isGood_146 (by decide) ?_
            exact y_retz dX5_isGood_150 rfl rfl (Or.inr rfl) (h1 (xs5.mpr ⟨⟨k125, hk125, ek125⟩, ⟨k132, hk132, ek132⟩, ⟨k139, hk139, ek139⟩⟩))
          · refine y_if_eq 149 dX5_isGood_142 (by decide) (fun _ => ?_) (fun q => absurd q (by decide))
            refine y_iconst (v := 0) dX5_isGood_149 (by decide) ?_
            exact y_retz dX5_isGood_150 rfl rfl (Or.inl rfl) (h0 (fun w => by
              have q := xs5.mp w
              obtain ⟨k, hk, ek⟩ := q.2.2
              exact nk139 k hk ek))
        · refine y_if_eq 149 dX5_isGood_135 (by decide) (fun _ => ?_) (fun q => absurd q (by decide))
          refine y_iconst (v := 0) dX5_isGood_149 (by decide) ?_
          exact y_retz dX5_isGood_150 rfl rfl (Or.inl rfl) (h0 (fun w => by
            have q := xs5.mp w
            obtain ⟨k, hk, ek⟩ := q.2.1
            exact nk132 k hk ek))
      · refine y_if_eq 149 dX5_isGood_128 (by decide) (fun _ => ?_) (fun q => absurd q (by decide))
        refine y_iconst (v := 0) dX5_isGood_149 (by decide) ?_
        exact y_retz dX5_isGood_150 rfl rfl (Or.inl rfl) (h0 (fun w => by
          have q := xs5.mp w
          obtain ⟨k, hk, ek⟩ := q.1
          exact nk125 k hk ek))
    · refine ⟨150, 151, by rw [e1]; rfl, by decide, ?_⟩
      obtain rfl : x0 = 6 := z_eq e1 rfl
      refine y_iload_n dX5_isGood_151 rfl ?_
      refine y_callS1 mX5_isStep 0 dX5_isGood_152 rfl rfl (Nat.le_of_ble_eq_true rfl) (kX5_isStep (fun k152 hk152 ek152 => ?_) (fun nk152 => ?_))
      · exact y_retz dX5_isGood_155 rfl rfl (Or.inr rfl) (h1 (xs6.mpr ⟨k152, hk152, ek152⟩))
      · exact y_retz dX5_isGood_155 rfl rfl (Or.inl rfl) (h0 (fun w => by
          have q := xs6.mp w
          obtain ⟨k, hk, ek⟩ := q
          exact nk152 k hk ek))
    · refine ⟨155, 156, by rw [e1]; rfl, by decide, ?_⟩
      obtain rfl : x0 = 7 := z_eq e1 rfl
      refine y_iload_n dX5_isGood_156 rfl ?_
      refine y_callS1 mX5_isName 0 dX5_isGood_157 rfl rfl (Nat.le_of_ble_eq_true rfl) (kX5_isName (fun k157 hk157 ek157 => ?_) (fun nk157 => ?_))
      · exact y_retz dX5_isGood_160 rfl rfl (Or.inr rfl) (h1 (xs7.mpr ⟨k157, hk157, ek157⟩))
      · exact y_retz dX5_isGood_160 rfl rfl (Or.inl rfl) (h0 (fun w => by
          have q := xs7.mp w
          obtain ⟨k, hk, ek⟩ := q
          exact nk157 k hk ek))
    · refine ⟨160, 161, by rw [e1]; rfl, by decide, ?_⟩
      obtain rfl : x0 = 8 := z_eq e1 rfl
      refine y_iload_n dX5_isGood_161 rfl ?_
      refine y_callS1 mX5_isRegister 0 dX5_isGood_162 rfl rfl (Nat.le_of_ble_eq_true rfl) (kX5_isRegister (fun k162 hk162 ek162 => ?_) (fun nk162 => ?_))
      · refine y_if_eq 179 dX5_isGood_165 (by decide) (fun q => absurd q (by decide)) (fun _ => ?_)
        refine y_iload_n dX5_isGood_168 rfl ?_
        refine y_callS1 mX5_isName 0 dX5_isGood_169 rfl rfl (Nat.le_of_ble_eq_true rfl) (kX5_isName (fun k169 hk169 ek169 => ?_) (fun nk169 => ?_))
        · refine y_if_eq 179 dX5_isGood_172 (by decide) (fun q => absurd q (by decide)) (fun _ => ?_)
          refine y_iconst (v := 1) dX5_isGood_175 (by decide) ?_
          refine y_goto 180 dX5_isGood_176 (by decide) ?_
          exact y_retz dX5_isGood_180 rfl rfl (Or.inr rfl) (h1 (xs8.mpr ⟨⟨k162, hk162, ek162⟩, ⟨k169, hk169, ek169⟩⟩))
        · refine y_if_eq 179 dX5_isGood_172 (by decide) (fun _ => ?_) (fun q => absurd q (by decide))
          refine y_iconst (v := 0) dX5_isGood_179 (by decide) ?_
          exact y_retz dX5_isGood_180 rfl rfl (Or.inl rfl) (h0 (fun w => by
            have q := xs8.mp w
            obtain ⟨k, hk, ek⟩ := q.2
            exact nk169 k hk ek))
      · refine y_if_eq 179 dX5_isGood_165 (by decide) (fun _ => ?_) (fun q => absurd q (by decide))
        refine y_iconst (v := 0) dX5_isGood_179 (by decide) ?_
        exact y_retz dX5_isGood_180 rfl rfl (Or.inl rfl) (h0 (fun w => by
          have q := xs8.mp w
          obtain ⟨k, hk, ek⟩ := q.1
          exact nk162 k hk ek))
    · refine ⟨180, 181, by rw [e1]; rfl, by decide, ?_⟩
      obtain rfl : x0 = 9 := z_eq e1 rfl
      refine y_iload_n dX5_isGood_181 rfl ?_
      refine y_callS1 mX5_isName 0 dX5_isGood_182 rfl rfl (Nat.le_of_ble_eq_true rfl) (kX5_isName (fun k182 hk182 ek182 => ?_) (fun nk182 => ?_))
      · refine y_if_eq 199 dX5_isGood_185 (by decide) (fun q => absurd q (by decide)) (fun _ => ?_)
        refine y_iload_n dX5_isGood_188 rfl ?_
        refine y_callS1 mX5_isRegister 0 dX5_isGood_189 rfl rfl (Nat.le_of_ble_eq_true rfl) (kX5_isRegister (fun k189 hk189 ek189 => ?_) (fun nk189 => ?_))
        · refine y_if_eq 199 dX5_isGood_192 (by decide) (fun q => absurd q (by decide)) (fun _ => ?_)
          refine y_iconst (v := 1) dX5_isGood_195 (by decide) ?_
          refine y_goto 200 dX5_isGood_196 (by decide) ?_
          exact y_retz dX5_isGood_200 rfl rfl (Or.inr rfl) (h1 (xs9.mpr ⟨⟨k182, hk182, ek182⟩, ⟨k189, hk189, ek189⟩⟩))
        · refine y_if_eq 199 dX5_isGood_192 (by decide) (fun _ => ?_) (fun q => absurd q (by decide))
          refine y_iconst (v := 0) dX5_isGood_199 (by decide) ?_
          exact y_retz dX5_isGood_200 rfl rfl (Or.inl rfl) (h0 (fun w => by
            have q := xs9.mp w
            obtain ⟨k, hk, ek⟩ := q.2
            exact nk189 k hk ek))
      · refine y_if_eq 199 dX5_isGood_185 (by decide) (fun _ => ?_) (fun q => absurd q (by decide))
        refine y_iconst (v := 0) dX5_isGood_199 (by decide) ?_
        exact y_retz dX5_isGood_200 rfl rfl (Or.inl rfl) (h0 (fun w => by
          have q := xs9.mp w
          obtain ⟨k, hk, ek⟩ := q.1
          exact nk182 k hk ek))
    · refine ⟨160, 161, by rw [e1]; rfl, by decide, ?_⟩
      obtain rfl : x0 = 10 := z_eq e1 rfl
      refine y_iload_n dX5_isGood_161 rfl ?_
      refine y_callS1 mX5_isRegister 0 dX5_isGood_162 rfl rfl (Nat.le_of_ble_eq_true rfl) (kX5_isRegister (fun k162 hk162 ek162 => ?_) (fun nk162 => ?_))
      · refine y_if_eq 179 dX5_isGood_165 (by decide) (fun q => absurd q (by decide)) (fun _ => ?_)
        refine y_iload_n dX5_isGood_168 rfl ?_
        refine y_callS1 mX5_isName 0 dX5_isGood_169 rfl rfl (Nat.le_of_ble_eq_true rfl) (kX5_isName (fun k169 hk169 ek169 => ?_) (fun nk169 => ?_))
        · refine y_if_eq 179 dX5_isGood_172 (by decide) (fun q => absurd q (by decide)) (fun _ => ?_)
          refine y_iconst (v := 1) dX5_isGood_175 (by decide) ?_
          refine y_goto 180 dX5_isGood_176 (by decide) ?_
          exact y_retz dX5_isGood_180 rfl rfl (Or.inr rfl) (h1 (xs10.mpr ⟨⟨k162, hk162, ek162⟩, ⟨k169, hk169, ek169⟩⟩))
        · refine y_if_eq 179 dX5_isGood_172 (by decide) (fun _ => ?_) (fun q => absurd q (by decide))
          refine y_iconst (v := 0) dX5_isGood_179 (by decide) ?_
          exact y_retz dX5_isGood_180 rfl rfl (Or.inl rfl) (h0 (fun w => by
            have q := xs10.mp w
            obtain ⟨k, hk, ek⟩ := q.2
            exact nk169 k hk ek))
      · refine y_if_eq 179 dX5_isGood_165 (by decide) (fun _ => ?_) (fun q => absurd q (by decide))
        refine y_iconst (v := 0) dX5_isGood_179 (by decide) ?_
        exact y_retz dX5_isGood_180 rfl rfl (Or.inl rfl) (h0 (fun w => by
          have q := xs10.mp w
          obtain ⟨k, hk, ek⟩ := q.1
          exact nk162 k hk ek))
    · refine ⟨71, 72, by rw [e1]; rfl, by decide, ?_⟩
      obtain rfl : x0 = 11 := z_eq e1 rfl
      refine y_iload_n dX5_isGood_72 rfl ?_
      refine y_callS1 mX5_isRegister 0 dX5_isGood_73 rfl rfl (Nat.le_of_ble_eq_true rfl) (kX5_isRegister (fun k73 hk73 ek73 => ?_) (fun nk73 => ?_))
      · exact y_retz dX5_isGood_76 rfl rfl (Or.inr rfl) (h1 (xs11.mpr ⟨k73, hk73, ek73⟩))
      · exact y_retz dX5_isGood_76 rfl rfl (Or.inl rfl) (h0 (fun w => by
          have q := xs11.mp w
          obtain ⟨k, hk, ek⟩ := q
          exact nk73 k hk ek))
    · refine ⟨200, 201, by rw [e1]; rfl, by decide, ?_⟩
      obtain rfl : x0 = 12 := z_eq e1 rfl
      refine y_iload_n dX5_isGood_201 rfl ?_
      refine y_bipush (v := 12) dX5_isGood_202 (by decide) ?_
      refine y_icmp_eq 213 dX5_isGood_204 (by decide) (fun _ => ?_) (fun q => absurd q (by decide))
      refine y_iconst (v := 1) dX5_isGood_213 (by decide) ?_
      refine y_goto 218 dX5_isGood_214 (by decide) ?_
      exact y_retz dX5_isGood_218 rfl rfl (Or.inr rfl) (h1 (xs12.mpr trivial))
    · refine ⟨71, 72, by rw [e1]; rfl, by decide, ?_⟩
      obtain rfl : x0 = 13 := z_eq e1 rfl
      refine y_iload_n dX5_isGood_72 rfl ?_
      refine y_callS1 mX5_isRegister 0 dX5_isGood_73 rfl rfl (Nat.le_of_ble_eq_true rfl) (kX5_isRegister (fun k73 hk73 ek73 => ?_) (fun nk73 => ?_))
      · exact y_retz dX5_isGood_76 rfl rfl (Or.inr rfl) (h1 (xs13.mpr ⟨k73, hk73, ek73⟩))
      · exact y_retz dX5_isGood_76 rfl rfl (Or.inl rfl) (h0 (fun w => by
          have q := xs13.mp w
          obtain ⟨k, hk, ek⟩ := q
          exact nk73 k hk ek))
theorem kisWellFormed {d : Nat} {Pp : Option Value → xH → Prop} {K : Nat → Nat × Nat} {I : Nat → Nat → Int32} {P : Nat → Nat → Option Nat} {n s : Nat} {x0 x1 x2 x3 : Int32} (h1 : xStep x0 x1 x2 x3 → Pp (some (.int 1)) (K, I, P, n, s)) (h0 : ¬ xStep x0 x1 x2 x3 → Pp (some (.int 0)) (K, I, P, n, s)) : xC (d + 1) mX4_isWellFormed [(.int x0), (.int x1), (.int x2), (.int x3)] (K, I, P, n, s) Pp := by
  refine y_met 0 0 ?_
  show xB (d + 1) 4 cX4_isWellFormed (some .boolean) false (xE n s 0 0 Pp) 0 [some (.int x0), some (.int x1), some (.int x2), some (.int x3)] [] (K, I, P, n, s)
  refine y_iload_n dX4_isWellFormed_0 rfl ?_
  refine y_tsw dX4_isWellFormed_1 (fun c1 => ⟨207, by decide, ?_⟩) (fun c1a c1b => ?_)
  · refine y_iconst (v := 0) dX4_isWellFormed_207 (by decide) ?_
    exact y_retz dX4_isWellFormed_208 rfl rfl (Or.inl rfl) (h0 (xs_no c1))
  · have c1c : (x0).toInt = 0 ∨ (x0).toInt = 1 ∨ (x0).toInt = 2 ∨ (x0).toInt = 3 ∨ (x0).toInt = 4 ∨ (x0).toInt = 5 ∨ (x0).toInt = 6 ∨ (x0).toInt = 7 ∨ (x0).toInt = 8 ∨ (x0).toInt = 9 ∨ (x0).toInt = 10 ∨ (x0).toInt = 11 ∨ (x0).toInt = 12 ∨ (x0).toInt = 13 ∨ (x0).toInt = 14 := by omega
    rcases c1c with e1 | e1 | e1 | e1 | e1 | e1 | e1 | e1 | e1 | e1 | e1 | e1 | e1 | e1 | e1
    · refine ⟨75, 76, by rw [e1]; rfl, by decide, ?_⟩
      obtain rfl : x0 = 0 := z_eq e1 rfl
      refine y_iload_n dX4_isWellFormed_76 rfl ?_
      refine y_callS1 mX4_isRegister 0 dX4_isWellFormed_77 rfl rfl (Nat.le_of_ble_eq_true rfl) (kX4_isRegister (fun k77 hk77 ek77 => ?_) (fun nk77 => ?_))
      · exact y_retz dX4_isWellFormed_80 rfl rfl (Or.inr rfl) (h1 (xs0.mpr ⟨k77, hk77, ek77⟩))
      · exact y_retz dX4_isWellFormed_80 rfl rfl (Or.inl rfl) (h0 (fun w => by
          have q := xs0.mp w
          obtain ⟨k, hk, ek⟩ := q
          exact nk77 k hk ek))
    · refine ⟨80, 81, by rw [e1]; rfl, by decide, ?_⟩
      obtain rfl : x0 = 1 := z_eq e1 rfl
      refine y_iload_n dX4_isWellFormed_81 rfl ?_
      refine y_callS1 mX4_isRegister 0 dX4_isWellFormed_82 rfl rfl (Nat.le_of_ble_eq_true rfl) (kX4_isRegister (fun k82 hk82 ek82 => ?_) (fun nk82 => ?_))
      · refine y_if_eq 99 dX4_isWellFormed_85 (by decide) (fun q => absurd q (by decide)) (fun _ => ?_)
        refine y_iload_n dX4_isWellFormed_88 rfl ?_
        refine y_callS1 mX4_isRegister 0 dX4_isWellFormed_89 rfl rfl (Nat.le_of_ble_eq_true rfl) (kX4_isRegister (fun k89 hk89 ek89 => ?_) (fun nk89 => ?_))
        · refine y_if_eq 99 dX4_isWellFormed_92 (by decide) (fun q => absurd q (by decide)) (fun _ => ?_)
          refine y_iconst (v := 1) dX4_isWellFormed_95 (by decide) ?_
          refine y_goto 100 dX4_isWellFormed_96 (by decide) ?_
          exact y_retz dX4_isWellFormed_100 rfl rfl (Or.inr rfl) (h1 (xs1.mpr ⟨⟨k82, hk82, ek82⟩, ⟨k89, hk89, ek89⟩⟩))
        · refine y_if_eq 99 dX4_isWellFormed_92 (by decide) (fun _ => ?_) (fun q => absurd q (by decide))
          refine y_iconst (v := 0) dX4_isWellFormed_99 (by decide) ?_
          exact y_retz dX4_isWellFormed_100 rfl rfl (Or.inl rfl) (h0 (fun w => by
            have q := xs1.mp w
            obtain ⟨k, hk, ek⟩ := q.2
            exact nk89 k hk ek))
      · refine y_if_eq 99 dX4_isWellFormed_85 (by decide) (fun _ => ?_) (fun q => absurd q (by decide))
        refine y_iconst (v := 0) dX4_isWellFormed_99 (by decide) ?_
        exact y_retz dX4_isWellFormed_100 rfl rfl (Or.inl rfl) (h0 (fun w => by
          have q := xs1.mp w
          obtain ⟨k, hk, ek⟩ := q.1
          exact nk82 k hk ek))
    · refine ⟨100, 101, by rw [e1]; rfl, by decide, ?_⟩
      obtain rfl : x0 = 2 := z_eq e1 rfl
      refine y_iload_n dX4_isWellFormed_101 rfl ?_
      refine y_callS1 mX4_isRegister 0 dX4_isWellFormed_102 rfl rfl (Nat.le_of_ble_eq_true rfl) (kX4_isRegister (fun k102 hk102 ek102 => ?_) (fun nk102 => ?_))
      · refine y_if_eq 126 dX4_isWellFormed_105 (by decide) (fun q => absurd q (by decide)) (fun _ => ?_)
        refine y_iload_n dX4_isWellFormed_108 rfl ?_
        refine y_callS1 mX4_isRegister 0 dX4_isWellFormed_109 rfl rfl (Nat.le_of_ble_eq_true rfl) (kX4_isRegister (fun k109 hk109 ek109 => ?_) (fun nk109 => ?_))
        · refine y_if_eq 126 dX4_isWellFormed_112 (by decide) (fun q => absurd q (by decide)) (fun _ => ?_)
          refine y_iload_n dX4_isWellFormed_115 rfl ?_
          refine y_callS1 mX4_isRegister 0 dX4_isWellFormed_116 rfl rfl (Nat.le_of_ble_eq_true rfl) (kX4_isRegister (fun k116 hk116 ek116 => ?_) (fun nk116 => ?_))
          · refine y_if_eq 126 dX4_isWellFormed_119 (by decide) (fun q => absurd q (by decide)) (fun _ => ?_)
            refine y_iconst (v := 1) dX4_isWellFormed_122 (by decide) ?_
            refine y_goto 127 dX4_isWellFormed_123 (by decide) ?_
            exact y_retz dX4_isWellFormed_127 rfl rfl (Or.inr rfl) (h1 (xs2.mpr ⟨⟨k102, hk102, ek102⟩, ⟨k109, hk109, ek109⟩, ⟨k116, hk116, ek116⟩⟩))
          · refine y_if_eq 126 dX4_isWellFormed_119 (by decide) (fun _ => ?_) (fun q => absurd q (by decide))
            refine y_iconst (v := 0) dX4_isWellFormed_126 (by decide) ?_
            exact y_retz dX4_isWellFormed_127 rfl rfl (Or.inl rfl) (h0 (fun w => by
              have q := xs2.mp w
              obtain ⟨k, hk, ek⟩ := q.2.2
              exact nk116 k hk ek))
        · refine y_if_eq 126 dX4_isWellFormed_112 (by decide) (fun _ => ?_) (fun q => absurd q (by decide))
          refine y_iconst (v := 0) dX4_isWellFormed_126 (by decide) ?_
          exact y_retz dX4_isWellFormed_127 rfl rfl (Or.inl rfl) (h0 (fun w => by
            have q := xs2.mp w
            obtain ⟨k, hk, ek⟩ := q.2.1
            exact nk109 k hk ek))
      · refine y_if_eq 126 dX4_isWellFormed_105 (by decide) (fun _ => ?_) (fun q => absurd q (by decide))
        refine y_iconst (v := 0) dX4_isWellFormed_126 (by decide) ?_
        exact y_retz dX4_isWellFormed_127 rfl rfl (Or.inl rfl) (h0 (fun w => by
          have q := xs2.mp w
          obtain ⟨k, hk, ek⟩ := q.1
          exact nk102 k hk ek))
    · refine ⟨100, 101, by rw [e1]; rfl, by decide, ?_⟩
      obtain rfl : x0 = 3 := z_eq e1 rfl
      refine y_iload_n dX4_isWellFormed_101 rfl ?_
      refine y_callS1 mX4_isRegister 0 dX4_isWellFormed_102 rfl rfl (Nat.le_of_ble_eq_true rfl) (kX4_isRegister (fun k102 hk102 ek102 => ?_) (fun nk102 => ?_))
      · refine y_if_eq 126 dX4_isWellFormed_105 (by decide) (fun q => absurd q (by decide)) (fun _ => ?_)
        refine y_iload_n dX4_isWellFormed_108 rfl ?_
        refine y_callS1 mX4_isRegister 0 dX4_isWellFormed_109 rfl rfl (Nat.le_of_ble_eq_true rfl) (kX4_isRegister (fun k109 hk109 ek109 => ?_) (fun nk109 => ?_))
        · refine y_if_eq 126 dX4_isWellFormed_112 (by decide) (fun q => absurd q (by decide)) (fun _ => ?_)
          refine y_iload_n dX4_isWellFormed_115 rfl ?_
          refine y_callS1 mX4_isRegister 0 dX4_isWellFormed_116 rfl rfl (Nat.le_of_ble_eq_true rfl) (kX4_isRegister (fun k116 hk116 ek116 => ?_) (fun nk116 => ?_))
          · refine y_if_eq 126 dX4_isWellFormed_119 (by decide) (fun q => absurd q (by decide)) (fun _ => ?_)
            refine y_iconst (v := 1) dX4_isWellFormed_122 (by decide) ?_
            refine y_goto 127 dX4_isWellFormed_123 (by decide) ?_
            exact y_retz dX4_isWellFormed_127 rfl rfl (Or.inr rfl) (h1 (xs3.mpr ⟨⟨k102, hk102, ek102⟩, ⟨k109, hk109, ek109⟩, ⟨k116, hk116, ek116⟩⟩))
          · refine y_if_eq 126 dX4_isWellFormed_119 (by decide) (fun _ => ?_) (fun q => absurd q (by decide))
            refine y_iconst (v := 0) dX4_isWellFormed_126 (by decide) ?_
            exact y_retz dX4_isWellFormed_127 rfl rfl (Or.inl rfl) (h0 (fun w => by
              have q := xs3.mp w
              obtain ⟨k, hk, ek⟩ := q.2.2
              exact nk116 k hk ek))
        · refine y_if_eq 126 dX4_isWellFormed_112 (by decide) (fun _ => ?_) (fun q => absurd q (by decide))
          refine y_iconst (v := 0) dX4_isWellFormed_126 (by decide) ?_
          exact y_retz dX4_isWellFormed_127 rfl rfl (Or.inl rfl) (h0 (fun w => by
            have q := xs3.mp w
            obtain ⟨k, hk, ek⟩ := q.2.1
            exact nk109 k hk ek))
      · refine y_if_eq 126 dX4_isWellFormed_105 (by decide) (fun _ => ?_) (fun q => absurd q (by decide))
        refine y_iconst (v := 0) dX4_isWellFormed_126 (by decide) ?_
        exact y_retz dX4_isWellFormed_127 rfl rfl (Or.inl rfl) (h0 (fun w => by
          have q := xs3.mp w
          obtain ⟨k, hk, ek⟩ := q.1
          exact nk102 k hk ek))
    · refine ⟨100, 101, by rw [e1]; rfl, by decide, ?_⟩
      obtain rfl : x0 = 4 := z_eq e1 rfl
      refine y_iload_n dX4_isWellFormed_101 rfl ?_
      refine y_callS1 mX4_isRegister 0 dX4_isWellFormed_102 rfl rfl (Nat.le_of_ble_eq_true rfl) (kX4_isRegister (fun k102 hk102 ek102 => ?_) (fun nk102 => ?_))
      · refine y_if_eq 126 dX4_isWellFormed_105 (by decide) (fun q => absurd q (by decide)) (fun _ => ?_)
        refine y_iload_n dX4_isWellFormed_108 rfl ?_
        refine y_callS1 mX4_isRegister 0 dX4_isWellFormed_109 rfl rfl (Nat.le_of_ble_eq_true rfl) (kX4_isRegister (fun k109 hk109 ek109 => ?_) (fun nk109 => ?_))
        · refine y_if_eq 126 dX4_isWellFormed_112 (by decide) (fun q => absurd q (by decide)) (fun _ => ?_)
          refine y_iload_n dX4_isWellFormed_115 rfl ?_
          refine y_callS1 mX4_isRegister 0 dX4_isWellFormed_116 rfl rfl (Nat.le_of_ble_eq_true rfl) (kX4_isRegister (fun k116 hk116 ek116 => ?_) (fun nk116 => ?_))
          · refine y_if_eq 126 dX4_isWellFormed_119 (by decide) (fun q => absurd q (by decide)) (fun _ => ?_)
            refine y_iconst (v := 1) dX4_isWellFormed_122 (by decide) ?_
            refine y_goto 127 dX4_isWellFormed_123 (by decide) ?_
            exact y_retz dX4_isWellFormed_127 rfl rfl (Or.inr rfl) (h1 (xs4.mpr ⟨⟨k102, hk102, ek102⟩, ⟨k109, hk109, ek109⟩, ⟨k116, hk116, ek116⟩⟩))
          · refine y_if_eq 126 dX4_isWellFormed_119 (by decide) (fun _ => ?_) (fun q => absurd q (by decide))
            refine y_iconst (v := 0) dX4_isWellFormed_126 (by decide) ?_
            exact y_retz dX4_isWellFormed_127 rfl rfl (Or.inl rfl) (h0 (fun w => by
              have q := xs4.mp w
              obtain ⟨k, hk, ek⟩ := q.2.2
              exact nk116 k hk ek))
        · refine y_if_eq 126 dX4_isWellFormed_112 (by decide) (fun _ => ?_) (fun q => absurd q (by decide))
          refine y_iconst (v := 0) dX4_isWellFormed_126 (by decide) ?_
          exact y_retz dX4_isWellFormed_127 rfl rfl (Or.inl rfl) (h0 (fun w => by
            have q := xs4.mp w
            obtain ⟨k, hk, ek⟩ := q.2.1
            exact nk109 k hk ek))
      · refine y_if_eq 126 dX4_isWellFormed_105 (by decide) (fun _ => ?_) (fun q => absurd q (by decide))
        refine y_iconst (v := 0) dX4_isWellFormed_126 (by decide) ?_
        exact y_retz dX4_isWellFormed_127 rfl rfl (Or.inl rfl) (h0 (fun w => by
          have q := xs4.mp w
          obtain ⟨k, hk, ek⟩ := q.1
          exact nk102 k hk ek))
    · refine ⟨127, 128, by rw [e1]; rfl, by decide, ?_⟩
      obtain rfl : x0 = 5 := z_eq e1 rfl
      refine y_iload_n dX4_isWellFormed_128 rfl ?_
      refine y_callS1 mX4_isRegister 0 dX4_isWellFormed_129 rfl rfl (Nat.le_of_ble_eq_true rfl) (kX4_isRegister (fun k129 hk129 ek129 => ?_) (fun nk129 => ?_))
      · refine y_if_eq 153 dX4_isWellFormed_132 (by decide) (fun q => absurd q (by decide)) (fun _ => ?_)
        refine y_iload_n dX4_isWellFormed_135 rfl ?_
        refine y_callS1 mX4_isRegister 0 dX4_isWellFormed_136 rfl rfl (Nat.le_of_ble_eq_true rfl) (kX4_isRegister (fun k136 hk136 ek136 => ?_) (fun nk136 => ?_))
        · refine y_if_eq 153 dX4_isWellFormed_139 (by decide) (fun q => absurd q (by decide)) (fun _ => ?_)
          refine y_iload_n dX4_isWellFormed_142 rfl ?_
          refine y_callS1 mX4_isStep 0 dX4_isWellFormed_143 rfl rfl (Nat.le_of_ble_eq_true rfl) (kX4_isStep (fun k143 hk143 ek143 => ?_) (fun nk143 => ?_))
          · refine y_if_eq 153 dX4_isWellFormed_146 (by decide) (fun q => absurd q (by decide)) (fun _ => ?_)
            refine y_iconst (v := 1) dX4_isWellFormed_149 (by decide) ?_
            refine y_goto 154 dX4_isWellFormed_150 (by decide) ?_
            exact y_retz dX4_isWellFormed_154 rfl rfl (Or.inr rfl) (h1 (xs5.mpr ⟨⟨k129, hk129, ek129⟩, ⟨k136, hk136, ek136⟩, ⟨k143, hk143, ek143⟩⟩))
          · refine y_if_eq 153 dX4_isWellFormed_146 (by decide) (fun _ => ?_) (fun q => absurd q (by decide))
            refine y_iconst (v := 0) dX4_isWellFormed_153 (by decide) ?_
            exact y_retz dX4_isWellFormed_154 rfl rfl (Or.inl rfl) (h0 (fun w => by
              have q := xs5.mp w
              obtain ⟨k, hk, ek⟩ := q.2.2
              exact nk143 k hk ek))
        · refine y_if_eq 153 dX4_isWellFormed_139 (by decide) (fun _ => ?_) (fun q => absurd q (by decide))
          refine y_iconst (v := 0) dX4_isWellFormed_153 (by decide) ?_
          exact y_retz dX4_isWellFormed_154 rfl rfl (Or.inl rfl) (h0 (fun w => by
            have q := xs5.mp w
            obtain ⟨k, hk, ek⟩ := q.2.1
            exact nk136 k hk ek))
      · refine y_if_eq 153 dX4_isWellFormed_132 (by decide) (fun _ => ?_) (fun q => absurd q (by decide))
        refine y_iconst (v := 0) dX4_isWellFormed_153 (by decide) ?_
        exact y_retz dX4_isWellFormed_154 rfl rfl (Or.inl rfl) (h0 (fun w => by
          have q := xs5.mp w
          obtain ⟨k, hk, ek⟩ := q.1
          exact nk129 k hk ek))
    · refine ⟨154, 155, by rw [e1]; rfl, by decide, ?_⟩
      obtain rfl : x0 = 6 := z_eq e1 rfl
      refine y_iload_n dX4_isWellFormed_155 rfl ?_
      refine y_callS1 mX4_isStep 0 dX4_isWellFormed_156 rfl rfl (Nat.le_of_ble_eq_true rfl) (kX4_isStep (fun k156 hk156 ek156 => ?_) (fun nk156 => ?_))
      · exact y_retz dX4_isWellFormed_159 rfl rfl (Or.inr rfl) (h1 (xs6.mpr ⟨k156, hk156, ek156⟩))
      · exact y_retz dX4_isWellFormed_159 rfl rfl (Or.inl rfl) (h0 (fun w => by
          have q := xs6.mp w
          obtain ⟨k, hk, ek⟩ := q
          exact nk156 k hk ek))
    · refine ⟨159, 160, by rw [e1]; rfl, by decide, ?_⟩
      obtain rfl : x0 = 7 := z_eq e1 rfl
      refine y_iload_n dX4_isWellFormed_160 rfl ?_
      refine y_callS1 mX4_isName 0 dX4_isWellFormed_161 rfl rfl (Nat.le_of_ble_eq_true rfl) (kX4_isName (fun k161 hk161 ek161 => ?_) (fun nk161 => ?_))
      · exact y_retz dX4_isWellFormed_164 rfl rfl (Or.inr rfl) (h1 (xs7.mpr ⟨k161, hk161, ek161⟩))
      · exact y_retz dX4_isWellFormed_164 rfl rfl (Or.inl rfl) (h0 (fun w => by
          have q := xs7.mp w
          obtain ⟨k, hk, ek⟩ := q
          exact nk161 k hk ek))
    · refine ⟨164, 165, by rw [e1]; rfl, by decide, ?_⟩
      obtain rfl : x0 = 8 := z_eq e1 rfl
      refine y_iload_n dX4_isWellFormed_165 rfl ?_
      refine y_callS1 mX4_isRegister 0 dX4_isWellFormed_166 rfl rfl (Nat.le_of_ble_eq_true rfl) (kX4_isRegister (fun k166 hk166 ek166 => ?_) (fun nk166 => ?_))
      · refine y_if_eq 183 dX4_isWellFormed_169 (by decide) (fun q => absurd q (by decide)) (fun _ => ?_)
        refine y_iload_n dX4_isWellFormed_172 rfl ?_
        refine y_callS1 mX4_isName 0 dX4_isWellFormed_173 rfl rfl (Nat.le_of_ble_eq_true rfl) (kX4_isName (fun k173 hk173 ek173 => ?_) (fun nk173 => ?_))
        · refine y_if_eq 183 dX4_isWellFormed_176 (by decide) (fun q => absurd q (by decide)) (fun _ => ?_)
          refine y_iconst (v := 1) dX4_isWellFormed_179 (by decide) ?_
          refine y_goto 184 dX4_isWellFormed_180 (by decide) ?_
          exact y_retz dX4_isWellFormed_184 rfl rfl (Or.inr rfl) (h1 (xs8.mpr ⟨⟨k166, hk166, ek166⟩, ⟨k173, hk173, ek173⟩⟩))
        · refine y_if_eq 183 dX4_isWellFormed_176 (by decide) (fun _ => ?_) (fun q => absurd q (by decide))
          refine y_iconst (v := 0) dX4_isWellFormed_183 (by decide) ?_
          exact y_retz dX4_isWellFormed_184 rfl rfl (Or.inl rfl) (h0 (fun w => by
            have q := xs8.mp w
            obtain ⟨k, hk, ek⟩ := q.2
            exact nk173 k hk ek))
      · refine y_if_eq 183 dX4_isWellFormed_169 (by decide) (fun _ => ?_) (fun q => absurd q (by decide))
        refine y_iconst (v := 0) dX4_isWellFormed_183 (by decide) ?_
        exact y_retz dX4_isWellFormed_184 rfl rfl (Or.inl rfl) (h0 (fun w => by
          have q := xs8.mp w
          obtain ⟨k, hk, ek⟩ := q.1
          exact nk166 k hk ek))
    · refine ⟨184, 185, by rw [e1]; rfl, by decide, ?_⟩
      obtain rfl : x0 = 9 := z_eq e1 rfl
      refine y_iload_n dX4_isWellFormed_185 rfl ?_
      refine y_callS1 mX4_isName 0 dX4_isWellFormed_186 rfl rfl (Nat.le_of_ble_eq_true rfl) (kX4_isName (fun k186 hk186 ek186 => ?_) (fun nk186 => ?_))
      · refine y_if_eq 203 dX4_isWellFormed_189 (by decide) (fun q => absurd q (by decide)) (fun _ => ?_)
        refine y_iload_n dX4_isWellFormed_192 rfl ?_
        refine y_callS1 mX4_isRegister 0 dX4_isWellFormed_193 rfl rfl (Nat.le_of_ble_eq_true rfl) (kX4_isRegister (fun k193 hk193 ek193 => ?_) (fun nk193 => ?_))
        · refine y_if_eq 203 dX4_isWellFormed_196 (by decide) (fun q => absurd q (by decide)) (fun _ => ?_)
          refine y_iconst (v := 1) dX4_isWellFormed_199 (by decide) ?_
          refine y_goto 204 dX4_isWellFormed_200 (by decide) ?_
          exact y_retz dX4_isWellFormed_204 rfl rfl (Or.inr rfl) (h1 (xs9.mpr ⟨⟨k186, hk186, ek186⟩, ⟨k193, hk193, ek193⟩⟩))
        · refine y_if_eq 203 dX4_isWellFormed_196 (by decide) (fun _ => ?_) (fun q => absurd q (by decide))
          refine y_iconst (v := 0) dX4_isWellFormed_203 (by decide) ?_
          exact y_retz dX4_isWellFormed_204 rfl rfl (Or.inl rfl) (h0 (fun w => by
            have q := xs9.mp w
            obtain ⟨k, hk, ek⟩ := q.2
            exact nk193 k hk ek))
      · refine y_if_eq 203 dX4_isWellFormed_189 (by decide) (fun _ => ?_) (fun q => absurd q (by decide))
        refine y_iconst (v := 0) dX4_isWellFormed_203 (by decide) ?_
        exact y_retz dX4_isWellFormed_204 rfl rfl (Or.inl rfl) (h0 (fun w => by
          have q := xs9.mp w
          obtain ⟨k, hk, ek⟩ := q.1
          exact nk186 k hk ek))
    · refine ⟨164, 165, by rw [e1]; rfl, by decide, ?_⟩
      obtain rfl : x0 = 10 := z_eq e1 rfl
      refine y_iload_n dX4_isWellFormed_165 rfl ?_
      refine y_callS1 mX4_isRegister 0 dX4_isWellFormed_166 rfl rfl (Nat.le_of_ble_eq_true rfl) (kX4_isRegister (fun k166 hk166 ek166 => ?_) (fun nk166 => ?_))
      · refine y_if_eq 183 dX4_isWellFormed_169 (by decide) (fun q => absurd q (by decide)) (fun _ => ?_)
        refine y_iload_n dX4_isWellFormed_172 rfl ?_
        refine y_callS1 mX4_isName 0 dX4_isWellFormed_173 rfl rfl (Nat.le_of_ble_eq_true rfl) (kX4_isName (fun k173 hk173 ek173 => ?_) (fun nk173 => ?_))
        · refine y_if_eq 183 dX4_isWellFormed_176 (by decide) (fun q => absurd q (by decide)) (fun _ => ?_)
          refine y_iconst (v := 1) dX4_isWellFormed_179 (by decide) ?_
          refine y_goto 184 dX4_isWellFormed_180 (by decide) ?_
          exact y_retz dX4_isWellFormed_184 rfl rfl (Or.inr rfl) (h1 (xs10.mpr ⟨⟨k166, hk166, ek166⟩, ⟨k173, hk173, ek173⟩⟩))
        · refine y_if_eq 183 dX4_isWellFormed_176 (by decide) (fun _ => ?_) (fun q => absurd q (by decide))
          refine y_iconst (v := 0) dX4_isWellFormed_183 (by decide) ?_
          exact y_retz dX4_isWellFormed_184 rfl rfl (Or.inl rfl) (h0 (fun w => by
            have q := xs10.mp w
            obtain ⟨k, hk, ek⟩ := q.2
            exact nk173 k hk ek))
      · refine y_if_eq 183 dX4_isWellFormed_169 (by decide) (fun _ => ?_) (fun q => absurd q (by decide))
        refine y_iconst (v := 0) dX4_isWellFormed_183 (by decide) ?_
        exact y_retz dX4_isWellFormed_184 rfl rfl (Or.inl rfl) (h0 (fun w => by
          have q := xs10.mp w
          obtain ⟨k, hk, ek⟩ := q.1
          exact nk166 k hk ek))
    · refine ⟨75, 76, by rw [e1]; rfl, by decide, ?_⟩
      obtain rfl : x0 = 11 := z_eq e1 rfl
      refine y_iload_n dX4_isWellFormed_76 rfl ?_
      refine y_callS1 mX4_isRegister 0 dX4_isWellFormed_77 rfl rfl (Nat.le_of_ble_eq_true rfl) (kX4_isRegister (fun k77 hk77 ek77 => ?_) (fun nk77 => ?_))
      · exact y_retz dX4_isWellFormed_80 rfl rfl (Or.inr rfl) (h1 (xs11.mpr ⟨k77, hk77, ek77⟩))
      · exact y_retz dX4_isWellFormed_80 rfl rfl (Or.inl rfl) (h0 (fun w => by
          have q := xs11.mp w
          obtain ⟨k, hk, ek⟩ := q
          exact nk77 k hk ek))
    · refine ⟨204, 205, by rw [e1]; rfl, by decide, ?_⟩
      obtain rfl : x0 = 12 := z_eq e1 rfl
      refine y_iconst (v := 1) dX4_isWellFormed_205 (by decide) ?_
      exact y_retz dX4_isWellFormed_206 rfl rfl (Or.inr rfl) (h1 (xs12.mpr trivial))
    · refine ⟨75, 76, by rw [e1]; rfl, by decide, ?_⟩
      obtain rfl : x0 = 13 := z_eq e1 rfl
      refine y_iload_n dX4_isWellFormed_76 rfl ?_
      refine y_callS1 mX4_isRegister 0 dX4_isWellFormed_77 rfl rfl (Nat.le_of_ble_eq_true rfl) (kX4_isRegister (fun k77 hk77 ek77 => ?_) (fun nk77 => ?_))
      · exact y_retz dX4_isWellFormed_80 rfl rfl (Or.inr rfl) (h1 (xs13.mpr ⟨k77, hk77, ek77⟩))
      · exact y_retz dX4_isWellFormed_80 rfl rfl (Or.inl rfl) (h0 (fun w => by
          have q := xs13.mp w
          obtain ⟨k, hk, ek⟩ := q
          exact nk77 k hk ek))
    · refine ⟨204, 205, by rw [e1]; rfl, by decide, ?_⟩
      obtain rfl : x0 = 14 := z_eq e1 rfl
      refine y_iconst (v := 1) dX4_isWellFormed_205 (by decide) ?_
      exact y_retz dX4_isWellFormed_206 rfl rfl (Or.inr rfl) (h1 (xs14.mpr trivial))
theorem krmodule {d : Nat} {Pp : Option Value → xH → Prop} {K : Nat → Nat × Nat} {I : Nat → Nat → Int32} {P : Nat → Nat → Option Nat} {n s : Nat} {R : Nat} {X : xX} (hR : xAt K P R 5) (hA : xPg I R X) (hw : ∀ m, m < 12 → wfM X m) (h0 : I R 0 = nI (gC X)) (hg : gC X ≤ 12) (hb : gC X = 12 → Pp (some (.int (-1))) (K, I, P, n, s)) (hp : gC X < 12 → Pp (some (.int (nI (gC X)))) (K, xuI (xuI I (R + 11) (gC X) (-1)) R 0 (nI (gC X + 1)), P, n, s)) : xC d mX5_module [(.ref R)] (K, I, P, n, s) Pp := by
  refine y_met 0 0 ?_
  show xB d 5 cX5_module (some .int) false (xE n s 0 0 Pp) 0 [some (.ref R)] [] (K, I, P, n, s)
  refine y_aload_n dX5_module_0 rfl ?_
  refine y_getv 5 0 dX5_module_1 rfl rfl hR.1 h0 ?_
  refine y_bipush (v := 12) dX5_module_4 (by decide) ?_
  refine y_icmpN_ne 11 ((gC X)) (12) dX5_module_6 (by decide) rfl rfl (by omega) (by omega) (fun c6 => ?_) (fun c6 => ?_)
  · refine y_aload_n dX5_module_11 rfl ?_
    refine y_getr 5 11 dX5_module_12 rfl rfl hR.1 (r5_11 hR) ?_
    refine y_aload_n dX5_module_15 rfl ?_
    refine y_getv 5 0 dX5_module_16 rfl rfl hR.1 h0 ?_
    refine y_iconst (v := (-1)) dX5_module_19 (by decide) ?_
    refine y_iast ((gC X)) dX5_module_20 (k5_11 hR) rfl (by omega) (by omega) ?_
    refine y_aload_n dX5_module_21 rfl ?_
    refine y_dup dX5_module_22 rfl ?_
    refine y_getv 5 0 dX5_module_23 rfl rfl hR.1 (show xuI I (R + 11) (gC X) (-1) R 0 = nI (gC X) by rw [xuI_o (Or.inl (by omega))]; exact h0) ?_
    refine y_iconst (v := 1) dX5_module_26 (by decide) ?_
    refine y_iaddv (nI (((gC X)) + 1)) dX5_module_27 (nI_add ((gC X)) (1)) ?_
    refine y_puti 5 0 dX5_module_28 rfl rfl rfl hR.1 ?_
    refine y_aload_n dX5_module_31 rfl ?_
    refine y_getv 5 0 dX5_module_32 rfl rfl hR.1 xuI_s ?_
    refine y_iconst (v := 1) dX5_module_35 (by decide) ?_
    refine y_isubv ((nI (gC X))) dX5_module_36 (nI_pred _) ?_
    exact y_ret dX5_module_37 rfl rfl (hp (by omega))
  · refine y_iconst (v := (-1)) dX5_module_9 (by decide) ?_
    exact y_ret dX5_module_10 rfl rfl (hb c6)
def gdNeed (X : xX) (x1 x2 : Int32) (m o : Nat) : Prop := m < gC X ∧ x1 = nI m ∧ o < gC X ∧ x2 = nI o ∧ gN X m < 6 ∧ ∀ k, k < gN X m → X 1 (6 * m + k) ≠ x2
theorem kneed_loop {d R : Nat} {X : xX} {Q : Option Value → xH → Prop} {K : Nat → Nat × Nat} {I : Nat → Nat → Int32} {P : Nat → Nat → Option Nat} {n s : Nat} (hR : xAt K P R 5) (hA : xPg I R X) {m o : Nat} (hm : m < 12) (hw : wfM X m) (ho : o < 12) : ∀ (t k : Nat), k + t = gN X m → ((∀ j, k ≤ j → j < gN X m → X 1 (6 * m + j) ≠ nI o) → ∀ v3, xB d 5 cX5_need (some .int) false Q 64 [some (.ref R), some (.int (nI m)), some (.int (nI o)), v3] [] (K, I, P, n, s)) → (∀ j ls, j < gN X m → X 1 (6 * m + j) = nI o → xB d 5 cX5_need (some .int) false Q 57 ls [.int (-1)] (K, I, P, n, s)) → xB d 5 cX5_need (some .int) false Q 31 [some (.ref R), some (.int (nI m)), some (.int (nI o)), some (.int (nI k))] [] (K, I, P, n, s) := by
  obtain ⟨⟨w1, w2⟩, w3, -⟩ := hw
  intro t
  induction t with
  | zero =>
    intro k hk h1 h2
    refine y_iload_n dX5_need_31 rfl ?_
    refine y_aload_n dX5_need_32 rfl ?_
    refine y_getr 5 2 dX5_need_33 rfl rfl hR.1 (r5_2 hR) ?_
    refine y_iload_n dX5_need_36 rfl ?_
    refine y_ialdN (m) dX5_need_37 (k5_2 hR) rfl (by omega) (by omega) ((congrFun (hA 2 (by decide) (by decide)) m).trans w1) ?_
    refine y_icmpN_ge 64 (k) ((gN X m)) dX5_need_38 (by decide) rfl rfl (by omega) (by omega) (fun _ => ?_) (fun c38 => absurd c38 (by omega))
    exact h1 (fun j a b => absurd a (by omega)) _
  | succ t ih =>
    intro k hk h1 h2
    refine y_iload_n dX5_need_31 rfl ?_
    refine y_aload_n dX5_need_32 rfl ?_
    refine y_getr 5 2 dX5_need_33 rfl rfl hR.1 (r5_2 hR) ?_
    refine y_iload_n dX5_need_36 rfl ?_
    refine y_ialdN (m) dX5_need_37 (k5_2 hR) rfl (by omega) (by omega) ((congrFun (hA 2 (by decide) (by decide)) m).trans w1) ?_
    refine y_icmpN_ge 64 (k) ((gN X m)) dX5_need_38 (by decide) rfl rfl (by omega) (by omega) (fun c38 => absurd c38 (by omega)) (fun _ => ?_)
    refine y_aload_n dX5_need_41 rfl ?_
    refine y_getr 5 1 dX5_need_42 rfl rfl hR.1 (r5_1 hR) ?_
    refine y_bipush (v := 6) dX5_need_45 (by decide) ?_
    refine y_iload_n dX5_need_47 rfl ?_
    refine y_imulv (nI (6 * m)) dX5_need_48 (pk_mul (6) (m)) ?_
    refine y_iload_n dX5_need_49 rfl ?_
    refine y_iaddv (nI (((6 * m)) + k)) dX5_need_50 (nI_add ((6 * m)) (k)) ?_
    refine y_ialdN ((((6 * m)) + k)) dX5_need_51 (k5_1 hR) rfl (by omega) (by omega) (congrFun (hA 1 (by decide) (by decide)) ((((6 * m)) + k))) ?_
    refine y_iload_n dX5_need_52 rfl ?_
    refine y_icmp_ne 58 dX5_need_53 (by decide) (fun c53 => ?_) (fun c53 => ?_)
    · refine y_iinc dX5_need_58 rfl (fun x1 e_x1 => ?_)
      obtain rfl : x1 = nI (k + 1) := by rw [e_x1]; exact nI_1 (k)
      refine y_goto 31 dX5_need_61 (by decide) ?_
      refine ih (k + 1) (by omega) (fun q => h1 (fun j a b => ?_)) h2
      by_cases e : j = k
      · subst e; exact c53
      · exact q j (by omega) b
    · refine y_iconst (v := (-1)) dX5_need_56 (by decide) ?_
      exact h2 k _ (by omega) c53
theorem krneed {d : Nat} {Pp : Option Value → xH → Prop} {K : Nat → Nat × Nat} {I : Nat → Nat → Int32} {P : Nat → Nat → Option Nat} {n s : Nat} {R : Nat} {X : xX} {x1 x2 : Int32} (hR : xAt K P R 5) (hA : xPg I R X) (hw : ∀ m, m < 12 → wfM X m) (h0 : I R 0 = nI (gC X)) (hg : gC X ≤ 12) (hb : (∀ m o, ¬ gdNeed X x1 x2 m o) → Pp (some (.int (-1))) (K, I, P, n, s)) (hp : ∀ m o, gdNeed X x1 x2 m o → Pp (some (.int (nI (gN X m + 1)))) (K, xuI (xuI (xuI I (R + 1) (6 * m + gN X m) (nI o)) (R + 2) m (nI (gN X m + 1))) R 12 0, P, n, s)) : xC (d + 1) mX5_need [(.ref R), (.int x1), (.int x2)] (K, I, P, n, s) Pp := by
  refine y_met 0 0 ?_
  show xB (d + 1) 5 cX5_need (some .int) false (xE n s 0 0 Pp) 0 [some (.ref R), some (.int x1), some (.int x2), none] [] (K, I, P, n, s)
  refine y_aload_n dX5_need_0 rfl ?_
  refine y_iload_n dX5_need_1 rfl ?_
  refine y_callV1 mX5_isModule dX5_need_2 rfl rfl hR.1 (Nat.le_of_ble_eq_true rfl) (kX5_isModule hR.1 h0 hg (fun m hm e1 => ?_) (fun e1 => ?_))
  · subst e1
    refine y_if_eq 27 dX5_need_5 (by decide) (fun q => absurd q (by decide)) (fun _ => ?_)
    refine y_aload_n dX5_need_8 rfl ?_
    refine y_iload_n dX5_need_9 rfl ?_
    refine y_callV1 mX5_isModule dX5_need_10 rfl rfl hR.1 (Nat.le_of_ble_eq_true rfl) (kX5_isModule hR.1 h0 hg (fun o ho e2 => ?_) (fun e2 => ?_))
    · subst e2
      obtain ⟨⟨w1, w2⟩, w3, -⟩ := hw m (by omega)
      refine y_if_eq 27 dX5_need_13 (by decide) (fun q => absurd q (by decide)) (fun _ => ?_)
      refine y_aload_n dX5_need_16 rfl ?_
      refine y_getr 5 2 dX5_need_17 rfl rfl hR.1 (r5_2 hR) ?_
      refine y_iload_n dX5_need_20 rfl ?_
      refine y_ialdN (m) dX5_need_21 (k5_2 hR) rfl (by omega) (by omega) ((congrFun (hA 2 (by decide) (by decide)) m).trans w1) ?_
      refine y_bipush (v := 6) dX5_need_22 (by decide) ?_
      refine y_icmpN_ne 29 ((gN X m)) (6) dX5_need_24 (by decide) rfl rfl (by omega) (by omega) (fun c24 => ?_) (fun c24 => ?_)
      · refine y_iconst (v := nI 0) dX5_need_29 (by decide) ?_
        refine y_istore_n dX5_need_30 (by first | (simp; done) | (simp; decide)) (fun x1 e_x1 => ?_)
        subst e_x1
        refine kneed_loop hR hA (by omega) (hw m (by omega)) (by omega) _ 0 (Nat.zero_add _) (fun q v3 => ?_) (fun j ls hj ej => ?_)
        · have gd : gdNeed X (nI m) (nI o) m o := ⟨hm, rfl, ho, rfl, by omega, fun k hk => q k (Nat.zero_le _) hk⟩
          have hfin := hp m o gd
          refine y_aload_n dX5_need_64 rfl ?_
          refine y_getr 5 1 dX5_need_65 rfl rfl hR.1 (r5_1 hR) ?_
          refine y_bipush (v := 6) dX5_need_68 (by decide) ?_
          refine y_iload_n dX5_need_70 rfl ?_
          refine y_imulv (nI (6 * m)) dX5_need_71 (pk_mul (6) (m)) ?_
          refine y_aload_n dX5_need_72 rfl ?_
          refine y_getr 5 2 dX5_need_73 rfl rfl hR.1 (r5_2 hR) ?_
          refine y_iload_n dX5_need_76 rfl ?_
          refine y_ialdN (m) dX5_need_77 (k5_2 hR) rfl (by omega) (by omega) ((congrFun (hA 2 (by decide) (by decide)) m).trans w1) ?_
          refine y_iaddv (nI (((6 * m)) + ((gN X m)))) dX5_need_78 (nI_add ((6 * m)) ((gN X m))) ?_
          refine y_iload_n dX5_need_79 rfl ?_
          refine y_iast ((((6 * m)) + ((gN X m)))) dX5_need_80 (k5_1 hR) rfl (by omega) (by omega) ?_
          refine y_aload_n dX5_need_81 rfl ?_
          refine y_getr 5 2 dX5_need_82 rfl rfl hR.1 (r5_2 hR) ?_
          refine y_iload_n dX5_need_85 rfl ?_
          refine y_dup2 dX5_need_86 rfl rfl ?_
          refine y_ialdN (m) dX5_need_87 (k5_2 hR) rfl (by omega) (by omega) (show (xuI I (R + 1) (6 * m + gN X m) (nI o)) (R + 2) m = nI (gN X m) by rw [xuI_o (Or.inl (by omega))]; exact ((congrFun (hA 2 (by decide) (by decide)) m).trans w1)) ?_
          refine y_iconst (v := 1) dX5_need_88 (by decide) ?_
          refine y_iaddv (nI (((gN X m)) + 1)) dX5_need_89 (nI_add ((gN X m)) (1)) ?_
          refine y_iast (m) dX5_need_90 (k5_2 hR) rfl (by omega) (by omega) ?_
          refine y_aload_n dX5_need_91 rfl ?_
          refine y_iconst (v := 0) dX5_need_92 (by decide) ?_
          refine y_putz 5 12 dX5_need_93 rfl rfl rfl hR.1 (by decide) ?_
          refine y_aload_n dX5_need_96 rfl ?_
          refine y_getr 5 2 dX5_need_97 rfl rfl hR.1 (r5_2 hR) ?_
          refine y_iload_n dX5_need_100 rfl ?_
          refine y_ialdN (m) dX5_need_101 (k5_2 hR) rfl (by omega) (by omega) (show xuI (xuI (xuI I (R + 1) (6 * m + gN X m) (nI o)) (R + 2) m (nI (gN X m + 1))) R 12 0 (R + 2) m = nI (gN X m + 1) by rw [xuI_o (Or.inl (by omega)), xuI_s]) ?_
          exact y_ret dX5_need_102 rfl rfl hfin
        · exact y_ret dX5_need_57 rfl rfl (hb (fun a b g => by
            have := nI_inj (by omega) (by have := g.1; omega) g.2.1
            subst this
            exact g.2.2.2.2.2 j hj ej))
      · refine y_iconst (v := (-1)) dX5_need_27 (by decide) ?_
        exact y_ret dX5_need_28 rfl rfl (hb (fun a b g => by
          have := nI_inj (by omega) (by have := g.1; omega) g.2.1
          subst this
          have := g.2.2.2.2.1
          omega))
    · refine y_if_eq 27 dX5_need_13 (by decide) (fun _ => ?_) (fun q => absurd q (by decide))
      refine y_iconst (v := (-1)) dX5_need_27 (by decide) ?_
      exact y_ret dX5_need_28 rfl rfl (hb (fun a b g => e2 b g.2.2.1 g.2.2.2.1))
  · refine y_if_eq 27 dX5_need_5 (by decide) (fun _ => ?_) (fun q => absurd q (by decide))
    refine y_iconst (v := (-1)) dX5_need_27 (by decide) ?_
    exact y_ret dX5_need_28 rfl rfl (hb (fun a b g => e1 a g.1 g.2.1))
def gdDef (X : xX) (x1 x2 x3 x4 x5 : Int32) (m v : Nat) : Prop := m < gC X ∧ x1 = nI m ∧ v < 64 ∧ x2 = nI v ∧ (x3 = 0 ∨ x3 = 1) ∧ (x3 = 0 → ∃ t : Nat, t < 100 ∧ x4 = nI t) ∧ (∃ t : Nat, t < 6 ∧ x5 = nI t) ∧ sOf X m x2 = none ∧ gF X m < 20
theorem krdefine {d : Nat} {Pp : Option Value → xH → Prop} {K : Nat → Nat × Nat} {I : Nat → Nat → Int32} {P : Nat → Nat → Option Nat} {n s : Nat} {R : Nat} {X : xX} {x1 x2 x3 x4 x5 : Int32} (hR : xAt K P R 5) (hA : xPg I R X) (hw : ∀ m, m < 12 → wfM X m) (h0 : I R 0 = nI (gC X)) (hg : gC X ≤ 12) (hb : (∀ m v, ¬ gdDef X x1 x2 x3 x4 x5 m v) → Pp (some (.int (-1))) (K, I, P, n, s)) (hp : ∀ m v, gdDef X x1 x2 x3 x4 x5 m v → Pp (some (.int (nI (gF X m + 1)))) (K, xuI (xuI (xuI (xuI (xuI (xuI I (R + 3) (20 * m + gF X m) (nI v)) (R + 4) (20 * m + gF X m) x3) (R + 5) (20 * m + gF X m) x4) (R + 6) (20 * m + gF X m) x5) (R + 7) m (nI (gF X m + 1))) R 12 0, P, n, s)) : xC (d + 1) mX5_define [(.ref R), (.int x1), (.int x2), (.int x3), (.int x4), (.int x5)] (K, I, P, n, s) Pp := by
  refine y_met 0 0 ?_
  show xB (d + 1) 5 cX5_define (some .int) false (xE n s 0 0 Pp) 0 [some (.ref R), some (.int x1), some (.int x2), some (.int x3), some (.int x4), some (.int x5), none] [] (K, I, P, n, s)
  refine y_aload_n dX5_define_0 rfl ?_
  refine y_iload_n dX5_define_1 rfl ?_
  refine y_callV1 mX5_isModule dX5_define_2 rfl rfl hR.1 (Nat.le_of_ble_eq_true rfl) (kX5_isModule hR.1 h0 hg (fun m hm e1 => ?_) (fun e1 => ?_))
  · subst e1
    obtain ⟨-, -, ⟨w1, w2⟩, -⟩ := hw m (by omega)
    refine y_if_eq 68 dX5_define_5 (by decide) (fun q => absurd q (by decide)) (fun _ => ?_)
    refine y_iload_n dX5_define_8 rfl ?_
    refine y_callS1 mX5_isName 0 dX5_define_9 rfl rfl (Nat.le_of_ble_eq_true rfl) (kX5_isName (fun v hv e2 => ?_) (fun e2 => ?_))
    · subst e2
      refine y_if_eq 68 dX5_define_12 (by decide) (fun q => absurd q (by decide)) (fun _ => ?_)
      refine y_iload_n dX5_define_15 rfl ?_
      refine y_ifZ_lt 68 (x3.toInt) dX5_define_16 (by decide) rfl (fun c16 => ?_) (fun c16 => ?_)
      · refine y_iconst (v := (-1)) dX5_define_68 (by decide) ?_
        exact y_ret dX5_define_69 rfl rfl (hb (fun a b g => by rcases g.2.2.2.2.1 with e | e <;> rw [e] at c16 <;> exact absurd c16 (by decide)))
      · refine y_iload_n dX5_define_19 rfl ?_
        refine y_iconst (v := 1) dX5_define_20 (by decide) ?_
        refine y_icmpZ_gt 68 (x3.toInt) (1) dX5_define_21 (by decide) rfl rfl (fun c21 => ?_) (fun c21 => ?_)
        · refine y_iconst (v := (-1)) dX5_define_68 (by decide) ?_
          exact y_ret dX5_define_69 rfl rfl (hb (fun a b g => by rcases g.2.2.2.2.1 with e | e <;> rw [e] at c21 <;> exact absurd c21 (by decide)))
        · refine y_iload dX5_define_24 rfl ?_
          refine y_ifZ_lt 68 (x5.toInt) dX5_define_26 (by decide) rfl (fun c26 => ?_) (fun c26 => ?_)
          · refine y_iconst (v := (-1)) dX5_define_68 (by decide) ?_
            exact y_ret dX5_define_69 rfl rfl (hb (fun a b g => by obtain ⟨t, ht, et⟩ := g.2.2.2.2.2.2.1; rw [et, nI_toInt (by omega)] at c26; omega))
          · refine y_iload dX5_define_29 rfl ?_
            refine y_iconst (v := 5) dX5_define_31 (by decide) ?_
            refine y_icmpZ_gt 68 (x5.toInt) (5) dX5_define_32 (by decide) rfl rfl (fun c32 => ?_) (fun c32 => ?_)
            · refine y_iconst (v := (-1)) dX5_define_68 (by decide) ?_
              exact y_ret dX5_define_69 rfl rfl (hb (fun a b g => by obtain ⟨t, ht, et⟩ := g.2.2.2.2.2.2.1; rw [et, nI_toInt (by omega)] at c32; omega))
            · have hx3 : x3 = 0 ∨ x3 = 1 := by
                obtain ⟨b, hb2⟩ := z01 c16 (by omega)
                cases b
                · exact Or.inl hb2
                · exact Or.inr hb2
              obtain ⟨h5, hh5, eh5⟩ := zof (M := 6) c26 (by show ¬ x5.toInt ≥ 6; omega)
              refine y_iload_n dX5_define_35 rfl ?_
              refine y_if_ne 47 dX5_define_36 (by decide) (fun c36 => ?_) (fun c36 => ?_)
              · have hst : x3 = 0 → ∃ t : Nat, t < 100 ∧ x4 = nI t := fun e => absurd e c36
                refine y_aload_n dX5_define_47 rfl ?_
                refine y_iload_n dX5_define_48 rfl ?_
                refine y_iload_n dX5_define_49 rfl ?_
                refine y_callV2 mX5_ofName dX5_define_50 rfl rfl hR.1 (Nat.le_of_ble_eq_true rfl) (kofName hR hA (by omega) (hw m (by omega)) (fun ef => ?_) (fun e ef => ?_))
                · refine y_iconst (v := (-1)) dX5_define_53 (by decide) ?_
                  refine y_icmp_ne 68 dX5_define_54 (by decide) (fun q => absurd q (by decide)) (fun _ => ?_)
                  refine y_aload_n dX5_define_57 rfl ?_
                  refine y_getr 5 7 dX5_define_58 rfl rfl hR.1 (r5_7 hR) ?_
                  refine y_iload_n dX5_define_61 rfl ?_
                  refine y_ialdN (m) dX5_define_62 (k5_7 hR) rfl (by omega) (by omega) ((congrFun (hA 7 (by decide) (by decide)) m).trans w1) ?_
                  refine y_bipush (v := 20) dX5_define_63 (by decide) ?_
                  refine y_icmpN_ne 70 ((gF X m)) (20) dX5_define_65 (by decide) rfl rfl (by omega) (by omega) (fun c65 => ?_) (fun c65 => ?_)
                  · have gd : gdDef X (nI m) (nI v) x3 x4 x5 m v := ⟨hm, rfl, hv, rfl, hx3, hst, ⟨h5, hh5, eh5⟩, ef, by omega⟩
                    refine y_bipush (v := 20) dX5_define_70 (by decide) ?_
                    refine y_iload_n dX5_define_72 rfl ?_
                    refine y_imulv (nI (20 * m)) dX5_define_73 (pk_mul (20) (m)) ?_
                    refine y_aload_n dX5_define_74 rfl ?_
                    refine y_getr 5 7 dX5_define_75 rfl rfl hR.1 (r5_7 hR) ?_
                    refine y_iload_n dX5_define_78 rfl ?_
                    refine y_ialdN (m) dX5_define_79 (k5_7 hR) rfl (by omega) (by omega) ((congrFun (hA 7 (by decide) (by decide)) m).trans w1) ?_
                    refine y_iaddv (nI (((20 * m)) + ((gF X m)))) dX5_define_80 (nI_add ((20 * m)) ((gF X m))) ?_
                    refine y_istore dX5_define_81 (by first | (simp; done) | (simp; decide)) (fun x1 e_x1 => ?_)
                    subst e_x1
                    refine y_aload_n dX5_define_83 rfl ?_
                    refine y_getr 5 3 dX5_define_84 rfl rfl hR.1 (r5_3 hR) ?_
                    refine y_iload dX5_define_87 rfl ?_
                    refine y_iload_n dX5_define_89 rfl ?_
                    refine y_iast ((((20 * m)) + ((gF X m)))) dX5_define_90 (k5_3 hR) rfl (by omega) (by omega) ?_
                    refine y_aload_n dX5_define_91 rfl ?_
                    refine y_getr 5 4 dX5_define_92 rfl rfl hR.1 (r5_4 hR) ?_
                    refine y_iload dX5_define_95 rfl ?_
                    refine y_iload_n dX5_define_97 rfl ?_
                    refine y_iast ((((20 * m)) + ((gF X m)))) dX5_define_98 (k5_4 hR) rfl (by omega) (by omega) ?_
                    refine y_aload_n dX5_define_99 rfl ?_
                    refine y_getr 5 5 dX5_define_100 rfl rfl hR.1 (r5_5 hR) ?_
                    refine y_iload dX5_define_103 rfl ?_
                    refine y_iload dX5_define_105 rfl ?_
                    refine y_iast ((((20 * m)) + ((gF X m)))) dX5_define_107 (k5_5 hR) rfl (by omega) (by omega) ?_
                    refine y_aload_n dX5_define_108 rfl ?_
                    refine y_getr 5 6 dX5_define_109 rfl rfl hR.1 (r5_6 hR) ?_
                    refine y_iload dX5_define_112 rfl ?_
                    refine y_iload dX5_define_114 rfl ?_
                    refine y_iast ((((20 * m)) + ((gF X m)))) dX5_define_116 (k5_6 hR) rfl (by omega) (by omega) ?_
                    refine y_aload_n dX5_define_117 rfl ?_
                    refine y_getr 5 7 dX5_define_118 rfl rfl hR.1 (r5_7 hR) ?_
                    refine y_iload_n dX5_define_121 rfl ?_
                    refine y_dup2 dX5_define_122 rfl rfl ?_
                    refine y_ialdN (m) dX5_define_123 (k5_7 hR) rfl (by omega) (by omega) (show (xuI (xuI (xuI (xuI I (R + 3) (20 * m + gF X m) (nI v)) (R + 4) (20 * m + gF X m) x3) (R + 5) (20 * m + gF X m) x4) (R + 6) (20 * m + gF X m) x5) (R + 7) m = nI (gF X m) by rw [xuI_o (Or.inl (by omega)), xuI_o (Or.inl (by omega)), xuI_o (Or.inl (by omega)), xuI_o (Or.inl (by omega))]; exact ((congrFun (hA 7 (by decide) (by decide)) m).trans w1)) ?_
                    refine y_iconst (v := 1) dX5_define_124 (by decide) ?_
                    refine y_iaddv (nI (((gF X m)) + 1)) dX5_define_125 (nI_add ((gF X m)) (1)) ?_
                    refine y_iast (m) dX5_define_126 (k5_7 hR) rfl (by omega) (by omega) ?_
                    refine y_aload_n dX5_define_127 rfl ?_
                    refine y_iconst (v := 0) dX5_define_128 (by decide) ?_
                    refine y_putz 5 12 dX5_define_129 rfl rfl rfl hR.1 (by decide) ?_
                    refine y_aload_n dX5_define_132 rfl ?_
                    refine y_getr 5 7 dX5_define_133 rfl rfl hR.1 (r5_7 hR) ?_
                    refine y_iload_n dX5_define_136 rfl ?_
                    refine y_ialdN (m) dX5_define_137 (k5_7 hR) rfl (by omega) (by omega) (show xuI (xuI (xuI (xuI (xuI (xuI I (R + 3) (20 * m + gF X m) (nI v)) (R + 4) (20 * m + gF X m) x3) (R + 5) (20 * m + gF X m) x4) (R + 6) (20 * m + gF X m) x5) (R + 7) m (nI (gF X m + 1))) R 12 0 (R + 7) m = nI (gF X m + 1) by rw [xuI_o (Or.inl (by omega)), xuI_s]) ?_
                    exact y_ret dX5_define_138 rfl rfl (hp m v gd)
                  · refine y_iconst (v := (-1)) dX5_define_68 (by decide) ?_
                    exact y_ret dX5_define_69 rfl rfl (hb (fun a b g => by
                      have hme := nI_inj (show m < 2 ^ 31 by omega) (show a < 2 ^ 31 by have := g.1; omega) g.2.1
                      subst hme
                      have := g.2.2.2.2.2.2.2.2
                      omega))
                · have he := (sOf_lt w2 (by omega) ef).1
                  refine y_iconst (v := (-1)) dX5_define_53 (by decide) ?_
                  refine y_icmp_ne 68 dX5_define_54 (by decide) (fun _ => ?_) (fun c54 => absurd c54 (nI_m1 (by omega)))
                  refine y_iconst (v := (-1)) dX5_define_68 (by decide) ?_
                  exact y_ret dX5_define_69 rfl rfl (hb (fun a b g => by
                    have hme := nI_inj (show m < 2 ^ 31 by omega) (show a < 2 ^ 31 by have := g.1; omega) g.2.1
                    subst hme
                    have := g.2.2.2.2.2.2.2.1
                    rw [ef] at this
                    cases this))
              · refine y_iload dX5_define_39 rfl ?_
                refine y_callS1 mX5_isStep 0 dX5_define_41 rfl rfl (Nat.le_of_ble_eq_true rfl) (kX5_isStep (fun t4 ht4 e4 => ?_) (fun e4 => ?_))
                · have hst : x3 = 0 → ∃ t : Nat, t < 100 ∧ x4 = nI t := fun _ => ⟨t4, ht4, e4⟩
                  refine y_if_eq 68 dX5_define_44 (by decide) (fun q => absurd q (by decide)) (fun _ => ?_)
                  refine y_aload_n dX5_define_47 rfl ?_
                  refine y_iload_n dX5_define_48 rfl ?_
                  refine y_iload_n dX5_define_49 rfl ?_
                  refine y_callV2 mX5_ofName dX5_define_50 rfl rfl hR.1 (Nat.le_of_ble_eq_true rfl) (kofName hR hA (by omega) (hw m (by omega)) (fun ef => ?_) (fun e ef => ?_))
                  · refine y_iconst (v := (-1)) dX5_define_53 (by decide) ?_
                    refine y_icmp_ne 68 dX5_define_54 (by decide) (fun q => absurd q (by decide)) (fun _ => ?_)
                    refine y_aload_n dX5_define_57 rfl ?_
                    refine y_getr 5 7 dX5_define_58 rfl rfl hR.1 (r5_7 hR) ?_
                    refine y_iload_n dX5_define_61 rfl ?_
                    refine y_ialdN (m) dX5_define_62 (k5_7 hR) rfl (by omega) (by omega) ((congrFun (hA 7 (by decide) (by decide)) m).trans w1) ?_
                    refine y_bipush (v := 20) dX5_define_63 (by decide) ?_
                    refine y_icmpN_ne 70 ((gF X m)) (20) dX5_define_65 (by decide) rfl rfl (by omega) (by omega) (fun c65 => ?_) (fun c65 => ?_)
                    · have gd : gdDef X (nI m) (nI v) x3 x4 x5 m v := ⟨hm, rfl, hv, rfl, hx3, hst, ⟨h5, hh5, eh5⟩, ef, by omega⟩
                      refine y_bipush (v := 20) dX5_define_70 (by decide) ?_
                      refine y_iload_n dX5_define_72 rfl ?_
                      refine y_imulv (nI (20 * m)) dX5_define_73 (pk_mul (20) (m)) ?_
                      refine y_aload_n dX5_define_74 rfl ?_
                      refine y_getr 5 7 dX5_define_75 rfl rfl hR.1 (r5_7 hR) ?_
                      refine y_iload_n dX5_define_78 rfl ?_
                      refine y_ialdN (m) dX5_define_79 (k5_7 hR) rfl (by omega) (by omega) ((congrFun (hA 7 (by decide) (by decide)) m).trans w1) ?_
                      refine y_iaddv (nI (((20 * m)) + ((gF X m)))) dX5_define_80 (nI_add ((20 * m)) ((gF X m))) ?_
                      refine y_istore dX5_define_81 (by first | (simp; done) | (simp; decide)) (fun x2 e_x2 => ?_)
                      subst e_x2
                      refine y_aload_n dX5_define_83 rfl ?_
                      refine y_getr 5 3 dX5_define_84 rfl rfl hR.1 (r5_3 hR) ?_
                      refine y_iload dX5_define_87 rfl ?_
                      refine y_iload_n dX5_define_89 rfl ?_
                      refine y_iast ((((20 * m)) + ((gF X m)))) dX5_define_90 (k5_3 hR) rfl (by omega) (by omega) ?_
                      refine y_aload_n dX5_define_91 rfl ?_
                      refine y_getr 5 4 dX5_define_92 rfl rfl hR.1 (r5_4 hR) ?_
                      refine y_iload dX5_define_95 rfl ?_
                      refine y_iload_n dX5_define_97 rfl ?_
                      refine y_iast ((((20 * m)) + ((gF X m)))) dX5_define_98 (k5_4 hR) rfl (by omega) (by omega) ?_
                      refine y_aload_n dX5_define_99 rfl ?_
                      refine y_getr 5 5 dX5_define_100 rfl rfl hR.1 (r5_5 hR) ?_
                      refine y_iload dX5_define_103 rfl ?_
                      refine y_iload dX5_define_105 rfl ?_
                      refine y_iast ((((20 * m)) + ((gF X m)))) dX5_define_107 (k5_5 hR) rfl (by omega) (by omega) ?_
                      refine y_aload_n dX5_define_108 rfl ?_
                      refine y_getr 5 6 dX5_define_109 rfl rfl hR.1 (r5_6 hR) ?_
                      refine y_iload dX5_define_112 rfl ?_
                      refine y_iload dX5_define_114 rfl ?_
                      refine y_iast ((((20 * m)) + ((gF X m)))) dX5_define_116 (k5_6 hR) rfl (by omega) (by omega) ?_
                      refine y_aload_n dX5_define_117 rfl ?_
                      refine y_getr 5 7 dX5_define_118 rfl rfl hR.1 (r5_7 hR) ?_
                      refine y_iload_n dX5_define_121 rfl ?_
                      refine y_dup2 dX5_define_122 rfl rfl ?_
                      refine y_ialdN (m) dX5_define_123 (k5_7 hR) rfl (by omega) (by omega) (show (xuI (xuI (xuI (xuI I (R + 3) (20 * m + gF X m) (nI v)) (R + 4) (20 * m + gF X m) x3) (R + 5) (20 * m + gF X m) x4) (R + 6) (20 * m + gF X m) x5) (R + 7) m = nI (gF X m) by rw [xuI_o (Or.inl (by omega)), xuI_o (Or.inl (by omega)), xuI_o (Or.inl (by omega)), xuI_o (Or.inl (by omega))]; exact ((congrFun (hA 7 (by decide) (by decide)) m).trans w1)) ?_
                      refine y_iconst (v := 1) dX5_define_124 (by decide) ?_
                      refine y_iaddv (nI (((gF X m)) + 1)) dX5_define_125 (nI_add ((gF X m)) (1)) ?_
                      refine y_iast (m) dX5_define_126 (k5_7 hR) rfl (by omega) (by omega) ?_
                      refine y_aload_n dX5_define_127 rfl ?_
                      refine y_iconst (v := 0) dX5_define_128 (by decide) ?_
                      refine y_putz 5 12 dX5_define_129 rfl rfl rfl hR.1 (by decide) ?_
                      refine y_aload_n dX5_define_132 rfl ?_
                      refine y_getr 5 7 dX5_define_133 rfl rfl hR.1 (r5_7 hR) ?_
                      refine y_iload_n dX5_define_136 rfl ?_
                      refine y_ialdN (m) dX5_define_137 (k5_7 hR) rfl (by omega) (by omega) (show xuI (xuI (xuI (xuI (xuI (xuI I (R + 3) (20 * m + gF X m) (nI v)) (R + 4) (20 * m + gF X m) x3) (R + 5) (20 * m + gF X m) x4) (R + 6) (20 * m + gF X m) x5) (R + 7) m (nI (gF X m + 1))) R 12 0 (R + 7) m = nI (gF X m + 1) by rw [xuI_o (Or.inl (by omega)), xuI_s]) ?_
                      exact y_ret dX5_define_138 rfl rfl (hp m v gd)
                    · refine y_iconst (v := (-1)) dX5_define_68 (by decide) ?_
                      exact y_ret dX5_define_69 rfl rfl (hb (fun a b g => by
                        have hme := nI_inj (show m < 2 ^ 31 by omega) (show a < 2 ^ 31 by have := g.1; omega) g.2.1
                        subst hme
                        have := g.2.2.2.2.2.2.2.2
                        omega))
                  · have he := (sOf_lt w2 (by omega) ef).1
                    refine y_iconst (v := (-1)) dX5_define_53 (by decide) ?_
                    refine y_icmp_ne 68 dX5_define_54 (by decide) (fun _ => ?_) (fun c54 => absurd c54 (nI_m1 (by omega)))
                    refine y_iconst (v := (-1)) dX5_define_68 (by decide) ?_
                    exact y_ret dX5_define_69 rfl rfl (hb (fun a b g => by
                      have hme := nI_inj (show m < 2 ^ 31 by omega) (show a < 2 ^ 31 by have := g.1; omega) g.2.1
                      subst hme
                      have := g.2.2.2.2.2.2.2.1
                      rw [ef] at this
                      cases this))
                · refine y_if_eq 68 dX5_define_44 (by decide) (fun _ => ?_) (fun q => absurd q (by decide))
                  refine y_iconst (v := (-1)) dX5_define_68 (by decide) ?_
                  exact y_ret dX5_define_69 rfl rfl (hb (fun a b g => by obtain ⟨t, ht, et⟩ := g.2.2.2.2.2.1 c36; exact e4 t ht et))
    · refine y_if_eq 68 dX5_define_12 (by decide) (fun _ => ?_) (fun q => absurd q (by decide))
      refine y_iconst (v := (-1)) dX5_define_68 (by decide) ?_
      exact y_ret dX5_define_69 rfl rfl (hb (fun a b g => e2 b g.2.2.1 g.2.2.2.1))
  · refine y_if_eq 68 dX5_define_5 (by decide) (fun _ => ?_) (fun q => absurd q (by decide))
    refine y_iconst (v := (-1)) dX5_define_68 (by decide) ?_
    exact y_ret dX5_define_69 rfl rfl (hb (fun a b g => e1 a g.1 g.2.1))
