/-! where a class's own arrays lie behind an object; numbers in a range; small methods -/
def xLay (c : Nat) : List (Nat × Nat × Nat × Nat) := match c with
  | 0 => []
  | 1 => [(1, 1, 100, 12), (2, 2, 100, 12), (4, 3, 100, 12), (5, 4, 101, 12), (7, 5, 100, 64)]
  | 2 => [(0, 1, 100, 6), (2, 2, 100, 64), (3, 3, 100, 64), (4, 4, 100, 64), (6, 5, 101, 100), (7, 6, 101, 64), (9, 7, 100, 100), (10, 8, 100, 100), (11, 9, 100, 100), (12, 10, 100, 100), (14, 11, 100, 64), (15, 12, 100, 64)]
  | 3 => [(0, 1, 100, 8), (1, 2, 100, 60), (6, 3, 100, 13), (7, 4, 100, 13), (10, 5, 100, 100), (11, 6, 100, 100)]
  | 4 => []
  | 5 => [(1, 1, 100, 72), (2, 2, 100, 12), (3, 3, 100, 240), (4, 4, 100, 240), (5, 5, 100, 240), (6, 6, 100, 240), (7, 7, 100, 12), (8, 8, 100, 4800), (9, 9, 100, 12), (10, 10, 101, 768), (11, 11, 100, 12), (16, 12, 100, 12), (17, 13, 100, 12), (18, 14, 100, 768), (19, 15, 100, 240), (21, 16, 100, 12), (22, 17, 101, 12), (23, 18, 100, 12), (24, 19, 100, 12), (28, 20, 100, 8), (33, 21, 100, 60), (34, 22, 100, 101), (35, 23, 100, 101)]
  | _ => []
/-- an object of class c at q, with its own arrays right behind it -/
def xAt (K : Nat → Nat × Nat) (P : Nat → Nat → Option Nat) (q c : Nat) : Prop := (K q).1 = c + 1 ∧ ∀ e ∈ xLay c, P q e.1 = some (q + e.2.1) ∧ K (q + e.2.1) = (e.2.2.1, e.2.2.2)
section LA
variable {K : Nat → Nat × Nat} {P : Nat → Nat → Option Nat} {q : Nat}
theorem r1_1 (h : xAt K P q 1) : P q 1 = some (q + 1) := (h.2 (1, 1, 100, 12) (by decide)).1
theorem k1_1 (h : xAt K P q 1) : K (q + 1) = (100, 12) := (h.2 (1, 1, 100, 12) (by decide)).2
theorem r1_2 (h : xAt K P q 1) : P q 2 = some (q + 2) := (h.2 (2, 2, 100, 12) (by decide)).1
theorem k1_2 (h : xAt K P q 1) : K (q + 2) = (100, 12) := (h.2 (2, 2, 100, 12) (by decide)).2
theorem r1_4 (h : xAt K P q 1) : P q 4 = some (q + 3) := (h.2 (4, 3, 100, 12) (by decide)).1
theorem k1_4 (h : xAt K P q 1) : K (q + 3) = (100, 12) := (h.2 (4, 3, 100, 12) (by decide)).2
theorem r1_5 (h : xAt K P q 1) : P q 5 = some (q + 4) := (h.2 (5, 4, 101, 12) (by decide)).1
theorem k1_5 (h : xAt K P q 1) : K (q + 4) = (101, 12) := (h.2 (5, 4, 101, 12) (by decide)).2
theorem r1_7 (h : xAt K P q 1) : P q 7 = some (q + 5) := (h.2 (7, 5, 100, 64) (by decide)).1
theorem k1_7 (h : xAt K P q 1) : K (q + 5) = (100, 64) := (h.2 (7, 5, 100, 64) (by decide)).2
theorem r2_0 (h : xAt K P q 2) : P q 0 = some (q + 1) := (h.2 (0, 1, 100, 6) (by decide)).1
theorem k2_0 (h : xAt K P q 2) : K (q + 1) = (100, 6) := (h.2 (0, 1, 100, 6) (by decide)).2
theorem r2_2 (h : xAt K P q 2) : P q 2 = some (q + 2) := (h.2 (2, 2, 100, 64) (by decide)).1
theorem k2_2 (h : xAt K P q 2) : K (q + 2) = (100, 64) := (h.2 (2, 2, 100, 64) (by decide)).2
theorem r2_3 (h : xAt K P q 2) : P q 3 = some (q + 3) := (h.2 (3, 3, 100, 64) (by decide)).1
theorem k2_3 (h : xAt K P q 2) : K (q + 3) = (100, 64) := (h.2 (3, 3, 100, 64) (by decide)).2
theorem r2_4 (h : xAt K P q 2) : P q 4 = some (q + 4) := (h.2 (4, 4, 100, 64) (by decide)).1
theorem k2_4 (h : xAt K P q 2) : K (q + 4) = (100, 64) := (h.2 (4, 4, 100, 64) (by decide)).2
theorem r2_6 (h : xAt K P q 2) : P q 6 = some (q + 5) := (h.2 (6, 5, 101, 100) (by decide)).1
theorem k2_6 (h : xAt K P q 2) : K (q + 5) = (101, 100) := (h.2 (6, 5, 101, 100) (by decide)).2
theorem r2_7 (h : xAt K P q 2) : P q 7 = some (q + 6) := (h.2 (7, 6, 101, 64) (by decide)).1
theorem k2_7 (h : xAt K P q 2) : K (q + 6) = (101, 64) := (h.2 (7, 6, 101, 64) (by decide)).2
theorem r2_9 (h : xAt K P q 2) : P q 9 = some (q + 7) := (h.2 (9, 7, 100, 100) (by decide)).1
theorem k2_9 (h : xAt K P q 2) : K (q + 7) = (100, 100) := (h.2 (9, 7, 100, 100) (by decide)).2
theorem r2_10 (h : xAt K P q 2) : P q 10 = some (q + 8) := (h.2 (10, 8, 100, 100) (by decide)).1
theorem k2_10 (h : xAt K P q 2) : K (q + 8) = (100, 100) := (h.2 (10, 8, 100, 100) (by decide)).2
theorem r2_11 (h : xAt K P q 2) : P q 11 = some (q + 9) := (h.2 (11, 9, 100, 100) (by decide)).1
theorem k2_11 (h : xAt K P q 2) : K (q + 9) = (100, 100) := (h.2 (11, 9, 100, 100) (by decide)).2
theorem r2_12 (h : xAt K P q 2) : P q 12 = some (q + 10) := (h.2 (12, 10, 100, 100) (by decide)).1
theorem k2_12 (h : xAt K P q 2) : K (q + 10) = (100, 100) := (h.2 (12, 10, 100, 100) (by decide)).2
theorem r2_14 (h : xAt K P q 2) : P q 14 = some (q + 11) := (h.2 (14, 11, 100, 64) (by decide)).1
theorem k2_14 (h : xAt K P q 2) : K (q + 11) = (100, 64) := (h.2 (14, 11, 100, 64) (by decide)).2
theorem r2_15 (h : xAt K P q 2) : P q 15 = some (q + 12) := (h.2 (15, 12, 100, 64) (by decide)).1
theorem k2_15 (h : xAt K P q 2) : K (q + 12) = (100, 64) := (h.2 (15, 12, 100, 64) (by decide)).2
theorem r3_0 (h : xAt K P q 3) : P q 0 = some (q + 1) := (h.2 (0, 1, 100, 8) (by decide)).1
theorem k3_0 (h : xAt K P q 3) : K (q + 1) = (100, 8) := (h.2 (0, 1, 100, 8) (by decide)).2
theorem r3_1 (h : xAt K P q 3) : P q 1 = some (q + 2) := (h.2 (1, 2, 100, 60) (by decide)).1
theorem k3_1 (h : xAt K P q 3) : K (q + 2) = (100, 60) := (h.2 (1, 2, 100, 60) (by decide)).2
theorem r3_6 (h : xAt K P q 3) : P q 6 = some (q + 3) := (h.2 (6, 3, 100, 13) (by decide)).1
theorem k3_6 (h : xAt K P q 3) : K (q + 3) = (100, 13) := (h.2 (6, 3, 100, 13) (by decide)).2
theorem r3_7 (h : xAt K P q 3) : P q 7 = some (q + 4) := (h.2 (7, 4, 100, 13) (by decide)).1
theorem k3_7 (h : xAt K P q 3) : K (q + 4) = (100, 13) := (h.2 (7, 4, 100, 13) (by decide)).2
theorem r3_10 (h : xAt K P q 3) : P q 10 = some (q + 5) := (h.2 (10, 5, 100, 100) (by decide)).1
theorem k3_10 (h : xAt K P q 3) : K (q + 5) = (100, 100) := (h.2 (10, 5, 100, 100) (by decide)).2
theorem r3_11 (h : xAt K P q 3) : P q 11 = some (q + 6) := (h.2 (11, 6, 100, 100) (by decide)).1
theorem k3_11 (h : xAt K P q 3) : K (q + 6) = (100, 100) := (h.2 (11, 6, 100, 100) (by decide)).2
theorem r5_1 (h : xAt K P q 5) : P q 1 = some (q + 1) := (h.2 (1, 1, 100, 72) (by decide)).1
theorem k5_1 (h : xAt K P q 5) : K (q + 1) = (100, 72) := (h.2 (1, 1, 100, 72) (by decide)).2
theorem r5_2 (h : xAt K P q 5) : P q 2 = some (q + 2) := (h.2 (2, 2, 100, 12) (by decide)).1
theorem k5_2 (h : xAt K P q 5) : K (q + 2) = (100, 12) := (h.2 (2, 2, 100, 12) (by decide)).2
theorem r5_3 (h : xAt K P q 5) : P q 3 = some (q + 3) := (h.2 (3, 3, 100, 240) (by decide)).1
theorem k5_3 (h : xAt K P q 5) : K (q + 3) = (100, 240) := (h.2 (3, 3, 100, 240) (by decide)).2
theorem r5_4 (h : xAt K P q 5) : P q 4 = some (q + 4) := (h.2 (4, 4, 100, 240) (by decide)).1
theorem k5_4 (h : xAt K P q 5) : K (q + 4) = (100, 240) := (h.2 (4, 4, 100, 240) (by decide)).2
theorem r5_5 (h : xAt K P q 5) : P q 5 = some (q + 5) := (h.2 (5, 5, 100, 240) (by decide)).1
theorem k5_5 (h : xAt K P q 5) : K (q + 5) = (100, 240) := (h.2 (5, 5, 100, 240) (by decide)).2
theorem r5_6 (h : xAt K P q 5) : P q 6 = some (q + 6) := (h.2 (6, 6, 100, 240) (by decide)).1
theorem k5_6 (h : xAt K P q 5) : K (q + 6) = (100, 240) := (h.2 (6, 6, 100, 240) (by decide)).2
theorem r5_7 (h : xAt K P q 5) : P q 7 = some (q + 7) := (h.2 (7, 7, 100, 12) (by decide)).1
theorem k5_7 (h : xAt K P q 5) : K (q + 7) = (100, 12) := (h.2 (7, 7, 100, 12) (by decide)).2
theorem r5_8 (h : xAt K P q 5) : P q 8 = some (q + 8) := (h.2 (8, 8, 100, 4800) (by decide)).1
theorem k5_8 (h : xAt K P q 5) : K (q + 8) = (100, 4800) := (h.2 (8, 8, 100, 4800) (by decide)).2
theorem r5_9 (h : xAt K P q 5) : P q 9 = some (q + 9) := (h.2 (9, 9, 100, 12) (by decide)).1
theorem k5_9 (h : xAt K P q 5) : K (q + 9) = (100, 12) := (h.2 (9, 9, 100, 12) (by decide)).2
theorem r5_10 (h : xAt K P q 5) : P q 10 = some (q + 10) := (h.2 (10, 10, 101, 768) (by decide)).1
theorem k5_10 (h : xAt K P q 5) : K (q + 10) = (101, 768) := (h.2 (10, 10, 101, 768) (by decide)).2
theorem r5_11 (h : xAt K P q 5) : P q 11 = some (q + 11) := (h.2 (11, 11, 100, 12) (by decide)).1
theorem k5_11 (h : xAt K P q 5) : K (q + 11) = (100, 12) := (h.2 (11, 11, 100, 12) (by decide)).2
theorem r5_16 (h : xAt K P q 5) : P q 16 = some (q + 12) := (h.2 (16, 12, 100, 12) (by decide)).1
theorem k5_16 (h : xAt K P q 5) : K (q + 12) = (100, 12) := (h.2 (16, 12, 100, 12) (by decide)).2
theorem r5_17 (h : xAt K P q 5) : P q 17 = some (q + 13) := (h.2 (17, 13, 100, 12) (by decide)).1
theorem k5_17 (h : xAt K P q 5) : K (q + 13) = (100, 12) := (h.2 (17, 13, 100, 12) (by decide)).2
theorem r5_18 (h : xAt K P q 5) : P q 18 = some (q + 14) := (h.2 (18, 14, 100, 768) (by decide)).1
theorem k5_18 (h : xAt K P q 5) : K (q + 14) = (100, 768) := (h.2 (18, 14, 100, 768) (by decide)).2
theorem r5_19 (h : xAt K P q 5) : P q 19 = some (q + 15) := (h.2 (19, 15, 100, 240) (by decide)).1
theorem k5_19 (h : xAt K P q 5) : K (q + 15) = (100, 240) := (h.2 (19, 15, 100, 240) (by decide)).2
theorem r5_21 (h : xAt K P q 5) : P q 21 = some (q + 16) := (h.2 (21, 16, 100, 12) (by decide)).1
theorem k5_21 (h : xAt K P q 5) : K (q + 16) = (100, 12) := (h.2 (21, 16, 100, 12) (by decide)).2
theorem r5_22 (h : xAt K P q 5) : P q 22 = some (q + 17) := (h.2 (22, 17, 101, 12) (by decide)).1
theorem k5_22 (h : xAt K P q 5) : K (q + 17) = (101, 12) := (h.2 (22, 17, 101, 12) (by decide)).2
theorem r5_23 (h : xAt K P q 5) : P q 23 = some (q + 18) := (h.2 (23, 18, 100, 12) (by decide)).1
theorem k5_23 (h : xAt K P q 5) : K (q + 18) = (100, 12) := (h.2 (23, 18, 100, 12) (by decide)).2
theorem r5_24 (h : xAt K P q 5) : P q 24 = some (q + 19) := (h.2 (24, 19, 100, 12) (by decide)).1
theorem k5_24 (h : xAt K P q 5) : K (q + 19) = (100, 12) := (h.2 (24, 19, 100, 12) (by decide)).2
theorem r5_28 (h : xAt K P q 5) : P q 28 = some (q + 20) := (h.2 (28, 20, 100, 8) (by decide)).1
theorem k5_28 (h : xAt K P q 5) : K (q + 20) = (100, 8) := (h.2 (28, 20, 100, 8) (by decide)).2
theorem r5_33 (h : xAt K P q 5) : P q 33 = some (q + 21) := (h.2 (33, 21, 100, 60) (by decide)).1
theorem k5_33 (h : xAt K P q 5) : K (q + 21) = (100, 60) := (h.2 (33, 21, 100, 60) (by decide)).2
theorem r5_34 (h : xAt K P q 5) : P q 34 = some (q + 22) := (h.2 (34, 22, 100, 101) (by decide)).1
theorem k5_34 (h : xAt K P q 5) : K (q + 22) = (100, 101) := (h.2 (34, 22, 100, 101) (by decide)).2
theorem r5_35 (h : xAt K P q 5) : P q 35 = some (q + 23) := (h.2 (35, 23, 100, 101) (by decide)).1
theorem k5_35 (h : xAt K P q 5) : K (q + 23) = (100, 101) := (h.2 (35, 23, 100, 101) (by decide)).2
end LA
theorem zN {x : Int32} (h : ¬ x.toInt < 0) : x = nI x.toInt.toNat := by
  apply Int32.toInt_inj.mp
  have h1 := Int32.toInt_lt x
  rw [nI_toInt (by omega)]
  omega
theorem zof {x : Int32} {M : Nat} (h0 : ¬ x.toInt < 0) (h1 : ¬ x.toInt ≥ (M : Int)) : ∃ k, k < M ∧ x = nI k := ⟨x.toInt.toNat, by omega, zN h0⟩
theorem znot {x : Int32} {M : Nat} (hM : M ≤ 2 ^ 31) (h : x.toInt < 0 ∨ x.toInt ≥ (M : Int)) : ∀ k, k < M → x ≠ nI k := by
  intro k hk e
  have := nI_toInt (n := k) (by omega)
  rw [← e] at this
  omega
theorem nI_inj {a b : Nat} (ha : a < 2 ^ 31) (hb : b < 2 ^ 31) (h : nI a = nI b) : a = b := (nI_eq ha hb).mp h
theorem nI_m1 {k : Nat} (hk : k < 2 ^ 31) : nI k ≠ -1 := fun e => by
  have := nI_toInt hk
  rw [e] at this
  have h2 : (-1 : Int32).toInt = -1 := rfl
  omega
theorem xuI_s {I : Nat → Nat → Int32} {a j : Nat} {x : Int32} : xuI I a j x a j = x := by simp [xuI]
theorem xuI_o {I : Nat → Nat → Int32} {a j b i : Nat} {x : Int32} (h : b ≠ a ∨ i ≠ j) : xuI I a j x b i = I b i := by
  unfold xuI
  rw [if_neg]
  rintro ⟨rfl, rfl⟩
  rcases h with h | h <;> exact h rfl
theorem kX4_isName {d : Nat} {Pp : Option Value → xH → Prop} {K : Nat → Nat × Nat} {I : Nat → Nat → Int32} {P : Nat → Nat → Option Nat} {n s : Nat} {x : Int32} (h1 : ∀ k : Nat, k < 64 → x = nI k → Pp (some (.int 1)) (K, I, P, n, s)) (h0 : (∀ k : Nat, k < 64 → x ≠ nI k) → Pp (some (.int 0)) (K, I, P, n, s)) : xC d mX4_isName [(.int x)] (K, I, P, n, s) Pp := by
  refine y_met 0 0 ?_
  show xB d 4 cX4_isName (some .boolean) false (xE n s 0 0 Pp) 0 [some (.int x)] [] (K, I, P, n, s)
  refine y_iload_n dX4_isName_0 rfl ?_
  refine y_ifZ_lt 14 (x.toInt) dX4_isName_1 (by decide) rfl (fun c1 => ?_) (fun c1 => ?_)
  · refine y_iconst (v := 0) dX4_isName_14 (by decide) ?_
    exact y_retz dX4_isName_15 rfl rfl (Or.inl rfl) (h0 (znot (by decide) (Or.inl c1)))
  · refine y_iload_n dX4_isName_4 rfl ?_
    refine y_bipush (v := 64) dX4_isName_5 (by decide) ?_
    refine y_icmpZ_ge 14 (x.toInt) (64) dX4_isName_7 (by decide) rfl rfl (fun c7 => ?_) (fun c7 => ?_)
    · refine y_iconst (v := 0) dX4_isName_14 (by decide) ?_
      exact y_retz dX4_isName_15 rfl rfl (Or.inl rfl) (h0 (znot (by decide) (Or.inr c7)))
    · refine y_iconst (v := 1) dX4_isName_10 (by decide) ?_
      refine y_goto 15 dX4_isName_11 (by decide) ?_
      obtain ⟨k, hk, ek⟩ := zof (M := 64) c1 c7
      exact y_retz dX4_isName_15 rfl rfl (Or.inr rfl) (h1 k hk ek)
theorem kX4_isStep {d : Nat} {Pp : Option Value → xH → Prop} {K : Nat → Nat × Nat} {I : Nat → Nat → Int32} {P : Nat → Nat → Option Nat} {n s : Nat} {x : Int32} (h1 : ∀ k : Nat, k < 100 → x = nI k → Pp (some (.int 1)) (K, I, P, n, s)) (h0 : (∀ k : Nat, k < 100 → x ≠ nI k) → Pp (some (.int 0)) (K, I, P, n, s)) : xC d mX4_isStep [(.int x)] (K, I, P, n, s) Pp := by
  refine y_met 0 0 ?_
  show xB d 4 cX4_isStep (some .boolean) false (xE n s 0 0 Pp) 0 [some (.int x)] [] (K, I, P, n, s)
  refine y_iload_n dX4_isStep_0 rfl ?_
  refine y_ifZ_lt 14 (x.toInt) dX4_isStep_1 (by decide) rfl (fun c1 => ?_) (fun c1 => ?_)
  · refine y_iconst (v := 0) dX4_isStep_14 (by decide) ?_
    exact y_retz dX4_isStep_15 rfl rfl (Or.inl rfl) (h0 (znot (by decide) (Or.inl c1)))
  · refine y_iload_n dX4_isStep_4 rfl ?_
    refine y_bipush (v := 100) dX4_isStep_5 (by decide) ?_
    refine y_icmpZ_ge 14 (x.toInt) (100) dX4_isStep_7 (by decide) rfl rfl (fun c7 => ?_) (fun c7 => ?_)
    · refine y_iconst (v := 0) dX4_isStep_14 (by decide) ?_
      exact y_retz dX4_isStep_15 rfl rfl (Or.inl rfl) (h0 (znot (by decide) (Or.inr c7)))
    · refine y_iconst (v := 1) dX4_isStep_10 (by decide) ?_
      refine y_goto 15 dX4_isStep_11 (by decide) ?_
      obtain ⟨k, hk, ek⟩ := zof (M := 100) c1 c7
      exact y_retz dX4_isStep_15 rfl rfl (Or.inr rfl) (h1 k hk ek)
theorem kX4_isRegister {d : Nat} {Pp : Option Value → xH → Prop} {K : Nat → Nat × Nat} {I : Nat → Nat → Int32} {P : Nat → Nat → Option Nat} {n s : Nat} {x : Int32} (h1 : ∀ k : Nat, k < 8 → x = nI k → Pp (some (.int 1)) (K, I, P, n, s)) (h0 : (∀ k : Nat, k < 8 → x ≠ nI k) → Pp (some (.int 0)) (K, I, P, n, s)) : xC d mX4_isRegister [(.int x)] (K, I, P, n, s) Pp := by
  refine y_met 0 0 ?_
  show xB d 4 cX4_isRegister (some .boolean) false (xE n s 0 0 Pp) 0 [some (.int x)] [] (K, I, P, n, s)
  refine y_iload_n dX4_isRegister_0 rfl ?_
  refine y_ifZ_lt 14 (x.toInt) dX4_isRegister_1 (by decide) rfl (fun c1 => ?_) (fun c1 => ?_)
  · refine y_iconst (v := 0) dX4_isRegister_14 (by decide) ?_
    exact y_retz dX4_isRegister_15 rfl rfl (Or.inl rfl) (h0 (znot (by decide) (Or.inl c1)))
  · refine y_iload_n dX4_isRegister_4 rfl ?_
    refine y_bipush (v := 8) dX4_isRegister_5 (by decide) ?_
    refine y_icmpZ_ge 14 (x.toInt) (8) dX4_isRegister_7 (by decide) rfl rfl (fun c7 => ?_) (fun c7 => ?_)
    · refine y_iconst (v := 0) dX4_isRegister_14 (by decide) ?_
      exact y_retz dX4_isRegister_15 rfl rfl (Or.inl rfl) (h0 (znot (by decide) (Or.inr c7)))
    · refine y_iconst (v := 1) dX4_isRegister_10 (by decide) ?_
      refine y_goto 15 dX4_isRegister_11 (by decide) ?_
      obtain ⟨k, hk, ek⟩ := zof (M := 8) c1 c7
      exact y_retz dX4_isRegister_15 rfl rfl (Or.inr rfl) (h1 k hk ek)
theorem kX5_isName {d : Nat} {Pp : Option Value → xH → Prop} {K : Nat → Nat × Nat} {I : Nat → Nat → Int32} {P : Nat → Nat → Option Nat} {n s : Nat} {x : Int32} (h1 : ∀ k : Nat, k < 64 → x = nI k → Pp (some (.int 1)) (K, I, P, n, s)) (h0 : (∀ k : Nat, k < 64 → x ≠ nI k) → Pp (some (.int 0)) (K, I, P, n, s)) : xC d mX5_isName [(.int x)] (K, I, P, n, s) Pp := by
  refine y_met 0 0 ?_
  show xB d 5 cX5_isName (some .boolean) false (xE n s 0 0 Pp) 0 [some (.int x)] [] (K, I, P, n, s)
  refine y_iload_n dX5_isName_0 rfl ?_
  refine y_ifZ_lt 14 (x.toInt) dX5_isName_1 (by decide) rfl (fun c1 => ?_) (fun c1 => ?_)
  · refine y_iconst (v := 0) dX5_isName_14 (by decide) ?_
    exact y_retz dX5_isName_15 rfl rfl (Or.inl rfl) (h0 (znot (by decide) (Or.inl c1)))
  · refine y_iload_n dX5_isName_4 rfl ?_
    refine y_bipush (v := 64) dX5_isName_5 (by decide) ?_
    refine y_icmpZ_ge 14 (x.toInt) (64) dX5_isName_7 (by decide) rfl rfl (fun c7 => ?_) (fun c7 => ?_)
    · refine y_iconst (v := 0) dX5_isName_14 (by decide) ?_
      exact y_retz dX5_isName_15 rfl rfl (Or.inl rfl) (h0 (znot (by decide) (Or.inr c7)))
    · refine y_iconst (v := 1) dX5_isName_10 (by decide) ?_
      refine y_goto 15 dX5_isName_11 (by decide) ?_
      obtain ⟨k, hk, ek⟩ := zof (M := 64) c1 c7
      exact y_retz dX5_isName_15 rfl rfl (Or.inr rfl) (h1 k hk ek)
theorem kX5_isStep {d : Nat} {Pp : Option Value → xH → Prop} {K : Nat → Nat × Nat} {I : Nat → Nat → Int32} {P : Nat → Nat → Option Nat} {n s : Nat} {x : Int32} (h1 : ∀ k : Nat, k < 100 → x = nI k → Pp (some (.int 1)) (K, I, P, n, s)) (h0 : (∀ k : Nat, k < 100 → x ≠ nI k) → Pp (some (.int 0)) (K, I, P, n, s)) : xC d mX5_isStep [(.int x)] (K, I, P, n, s) Pp := by
  refine y_met 0 0 ?_
  show xB d 5 cX5_isStep (some .boolean) false (xE n s 0 0 Pp) 0 [some (.int x)] [] (K, I, P, n, s)
  refine y_iload_n dX5_isStep_0 rfl ?_
  refine y_ifZ_lt 14 (x.toInt) dX5_isStep_1 (by decide) rfl (fun c1 => ?_) (fun c1 => ?_)
  · refine y_iconst (v := 0) dX5_isStep_14 (by decide) ?_
    exact y_retz dX5_isStep_15 rfl rfl (Or.inl rfl) (h0 (znot (by decide) (Or.inl c1)))
  · refine y_iload_n dX5_isStep_4 rfl ?_
    refine y_bipush (v := 100) dX5_isStep_5 (by decide) ?_
    refine y_icmpZ_ge 14 (x.toInt) (100) dX5_isStep_7 (by decide) rfl rfl (fun c7 => ?_) (fun c7 => ?_)
    · refine y_iconst (v := 0) dX5_isStep_14 (by decide) ?_
      exact y_retz dX5_isStep_15 rfl rfl (Or.inl rfl) (h0 (znot (by decide) (Or.inr c7)))
    · refine y_iconst (v := 1) dX5_isStep_10 (by decide) ?_
      refine y_goto 15 dX5_isStep_11 (by decide) ?_
      obtain ⟨k, hk, ek⟩ := zof (M := 100) c1 c7
      exact y_retz dX5_isStep_15 rfl rfl (Or.inr rfl) (h1 k hk ek)
theorem kX5_isRegister {d : Nat} {Pp : Option Value → xH → Prop} {K : Nat → Nat × Nat} {I : Nat → Nat → Int32} {P : Nat → Nat → Option Nat} {n s : Nat} {x : Int32} (h1 : ∀ k : Nat, k < 8 → x = nI k → Pp (some (.int 1)) (K, I, P, n, s)) (h0 : (∀ k : Nat, k < 8 → x ≠ nI k) → Pp (some (.int 0)) (K, I, P, n, s)) : xC d mX5_isRegister [(.int x)] (K, I, P, n, s) Pp := by
  refine y_met 0 0 ?_
  show xB d 5 cX5_isRegister (some .boolean) false (xE n s 0 0 Pp) 0 [some (.int x)] [] (K, I, P, n, s)
  refine y_iload_n dX5_isRegister_0 rfl ?_
  refine y_ifZ_lt 14 (x.toInt) dX5_isRegister_1 (by decide) rfl (fun c1 => ?_) (fun c1 => ?_)
  · refine y_iconst (v := 0) dX5_isRegister_14 (by decide) ?_
    exact y_retz dX5_isRegister_15 rfl rfl (Or.inl rfl) (h0 (znot (by decide) (Or.inl c1)))
  · refine y_iload_n dX5_isRegister_4 rfl ?_
    refine y_bipush (v := 8) dX5_isRegister_5 (by decide) ?_
    refine y_icmpZ_ge 14 (x.toInt) (8) dX5_isRegister_7 (by decide) rfl rfl (fun c7 => ?_) (fun c7 => ?_)
    · refine y_iconst (v := 0) dX5_isRegister_14 (by decide) ?_
      exact y_retz dX5_isRegister_15 rfl rfl (Or.inl rfl) (h0 (znot (by decide) (Or.inr c7)))
    · refine y_iconst (v := 1) dX5_isRegister_10 (by decide) ?_
      refine y_goto 15 dX5_isRegister_11 (by decide) ?_
      obtain ⟨k, hk, ek⟩ := zof (M := 8) c1 c7
      exact y_retz dX5_isRegister_15 rfl rfl (Or.inr rfl) (h1 k hk ek)
theorem kX4_isModule {d : Nat} {Pp : Option Value → xH → Prop} {K : Nat → Nat × Nat} {I : Nat → Nat → Int32} {P : Nat → Nat → Option Nat} {n s : Nat} {q c : Nat} {x : Int32} (hq : (K q).1 = 5) (hc : I q 1 = nI c) (hc2 : c ≤ 12) (h1 : ∀ k : Nat, k < c → x = nI k → Pp (some (.int 1)) (K, I, P, n, s)) (h0 : (∀ k : Nat, k < c → x ≠ nI k) → Pp (some (.int 0)) (K, I, P, n, s)) : xC d mX4_isModule [(.ref q), (.int x)] (K, I, P, n, s) Pp := by
  refine y_met 0 0 ?_
  show xB d 4 cX4_isModule (some .boolean) false (xE n s 0 0 Pp) 0 [some (.ref q), some (.int x)] [] (K, I, P, n, s)
  refine y_iload_n dX4_isModule_0 rfl ?_
  refine y_ifZ_lt 16 (x.toInt) dX4_isModule_1 (by decide) rfl (fun c1 => ?_) (fun c1 => ?_)
  · refine y_iconst (v := 0) dX4_isModule_16 (by decide) ?_
    exact y_retz dX4_isModule_17 rfl rfl (Or.inl rfl) (h0 (znot (by omega) (Or.inl c1)))
  · refine y_iload_n dX4_isModule_4 rfl ?_
    refine y_aload_n dX4_isModule_5 rfl ?_
    refine y_getv 4 1 dX4_isModule_6 rfl rfl hq hc ?_
    refine y_icmpZ_ge 16 (x.toInt) ((c : Int)) dX4_isModule_9 (by decide) rfl (nI_toInt (by omega)) (fun c9 => ?_) (fun c9 => ?_)
    · refine y_iconst (v := 0) dX4_isModule_16 (by decide) ?_
      exact y_retz dX4_isModule_17 rfl rfl (Or.inl rfl) (h0 (znot (by omega) (Or.inr c9)))
    · refine y_iconst (v := 1) dX4_isModule_12 (by decide) ?_
      refine y_goto 17 dX4_isModule_13 (by decide) ?_
      obtain ⟨k, hk, ek⟩ := zof (M := c) c1 c9
      exact y_retz dX4_isModule_17 rfl rfl (Or.inr rfl) (h1 k hk ek)
theorem kX5_isModule {d : Nat} {Pp : Option Value → xH → Prop} {K : Nat → Nat × Nat} {I : Nat → Nat → Int32} {P : Nat → Nat → Option Nat} {n s : Nat} {q c : Nat} {x : Int32} (hq : (K q).1 = 6) (hc : I q 0 = nI c) (hc2 : c ≤ 12) (h1 : ∀ k : Nat, k < c → x = nI k → Pp (some (.int 1)) (K, I, P, n, s)) (h0 : (∀ k : Nat, k < c → x ≠ nI k) → Pp (some (.int 0)) (K, I, P, n, s)) : xC d mX5_isModule [(.ref q), (.int x)] (K, I, P, n, s) Pp := by
  refine y_met 0 0 ?_
  show xB d 5 cX5_isModule (some .boolean) false (xE n s 0 0 Pp) 0 [some (.ref q), some (.int x)] [] (K, I, P, n, s)
  refine y_iload_n dX5_isModule_0 rfl ?_
  refine y_ifZ_lt 16 (x.toInt) dX5_isModule_1 (by decide) rfl (fun c1 => ?_) (fun c1 => ?_)
  · refine y_iconst (v := 0) dX5_isModule_16 (by decide) ?_
    exact y_retz dX5_isModule_17 rfl rfl (Or.inl rfl) (h0 (znot (by omega) (Or.inl c1)))
  · refine y_iload_n dX5_isModule_4 rfl ?_
    refine y_aload_n dX5_isModule_5 rfl ?_
    refine y_getv 5 0 dX5_isModule_6 rfl rfl hq hc ?_
    refine y_icmpZ_ge 16 (x.toInt) ((c : Int)) dX5_isModule_9 (by decide) rfl (nI_toInt (by omega)) (fun c9 => ?_) (fun c9 => ?_)
    · refine y_iconst (v := 0) dX5_isModule_16 (by decide) ?_
      exact y_retz dX5_isModule_17 rfl rfl (Or.inl rfl) (h0 (znot (by omega) (Or.inr c9)))
    · refine y_iconst (v := 1) dX5_isModule_12 (by decide) ?_
      refine y_goto 17 dX5_isModule_13 (by decide) ?_
      obtain ⟨k, hk, ek⟩ := zof (M := c) c1 c9
      exact y_retz dX5_isModule_17 rfl rfl (Or.inr rfl) (h1 k hk ek)
theorem kX0_become {d : Nat} {Pp : Option Value → xH → Prop} {K : Nat → Nat × Nat} {I : Nat → Nat → Int32} {P : Nat → Nat → Option Nat} {n s : Nat} {q : Nat} {x1 x2 x3 x4 : Int32} (hq : (K q).1 = 1) (hp : Pp none (K, xuI (xuI (xuI (xuI I q 0 x1) q 1 x2) q 2 x3) q 3 x4, P, n, s)) : xC d mX0_become [(.ref q), (.int x1), (.int x2), (.int x3), (.int x4)] (K, I, P, n, s) Pp := by
  refine y_met 0 0 ?_
  show xB d 0 cX0_become none false (xE n s 0 0 Pp) 0 [some (.ref q), some (.int x1), some (.int x2), some (.int x3), some (.int x4)] [] (K, I, P, n, s)
  refine y_aload_n dX0_become_0 rfl ?_
  refine y_iload_n dX0_become_1 rfl ?_
  refine y_puti 0 0 dX0_become_2 rfl rfl rfl hq ?_
  refine y_aload_n dX0_become_5 rfl ?_
  refine y_iload_n dX0_become_6 rfl ?_
  refine y_puti 0 1 dX0_become_7 rfl rfl rfl hq ?_
  refine y_aload_n dX0_become_10 rfl ?_
  refine y_iload_n dX0_become_11 rfl ?_
  refine y_puti 0 2 dX0_become_12 rfl rfl rfl hq ?_
  refine y_aload_n dX0_become_15 rfl ?_
  refine y_iload dX0_become_16 rfl ?_
  refine y_puti 0 3 dX0_become_18 rfl rfl rfl hq ?_
  exact y_retv dX0_become_21 rfl rfl hp
def xfil (f : Nat → Int32) (x : Int32) (k : Nat) : Nat → Int32 := fun j => if j < k then x else f j
theorem kfill_loop {d a M : Nat} {x : Int32} {Q : Option Value → xH → Prop} {K : Nat → Nat × Nat} {P : Nat → Nat → Option Nat} {n s : Nat} (ha : K a = (100, M)) (hM : M < 2 ^ 31) : ∀ (t i : Nat) (I : Nat → Nat → Int32), i ≤ M → M - i = t → (∀ I2 x2 x3, (∀ b, b ≠ a → I2 b = I b) → (∀ j, j < M → I2 a j = if i ≤ j then x else I a j) → xB d 8 cJ7_fill_53178 none false Q 20 [some (.ref a), some (.int x), some (.int x2), some (.int x3)] [] (K, I2, P, n, s)) → xB d 8 cJ7_fill_53178 none false Q 5 [some (.ref a), some (.int x), some (.int (nI i)), some (.int (nI M))] [] (K, I, P, n, s) := by
  intro t
  induction t with
  | zero =>
    intro i I hi ht k
    refine y_iload_n dJ7_fill_53178_5 rfl ?_
    refine y_iload_n dJ7_fill_53178_6 rfl ?_
    refine y_icmpN_ge 20 (i) (M) dJ7_fill_53178_7 (by decide) rfl rfl (by omega) (by omega) (fun _ => ?_) (fun c7 => absurd c7 (by omega))
    exact k I _ _ (fun _ _ => rfl) (fun j hj => by rw [if_neg (by omega)])
  | succ t ih =>
    intro i I hi ht k
    refine y_iload_n dJ7_fill_53178_5 rfl ?_
    refine y_iload_n dJ7_fill_53178_6 rfl ?_
    refine y_icmpN_ge 20 (i) (M) dJ7_fill_53178_7 (by decide) rfl rfl (by omega) (by omega) (fun c7 => absurd c7 (by omega)) (fun _ => ?_)
    refine y_aload_n dJ7_fill_53178_10 rfl ?_
    refine y_iload_n dJ7_fill_53178_11 rfl ?_
    refine y_iload_n dJ7_fill_53178_12 rfl ?_
    refine y_iast (i) dJ7_fill_53178_13 ha rfl (by omega) (by omega) ?_
    refine y_iinc dJ7_fill_53178_14 rfl (fun z e_z => ?_)
    refine y_goto 5 dJ7_fill_53178_17 (by decide) ?_
    have e : z = nI (i + 1) := by rw [e_z]; exact nI_1 i
    subst e
    refine ih (i + 1) _ (by omega) (by omega) (fun I2 x2 x3 g1 g2 => k I2 x2 x3 (fun b hb => by rw [g1 b hb]; exact xuI_ne hb) (fun j hj => ?_))
    rw [g2 j hj]
    by_cases h1 : i + 1 ≤ j
    · rw [if_pos h1, if_pos (by omega)]
    · by_cases h2 : i = j
      · subst h2; rw [if_neg h1, if_pos (Nat.le_refl _), xuI_s]
      · rw [if_neg h1, if_neg (by omega), xuI_o (Or.inr (by omega))]
theorem kfill {d : Nat} {Pp : Option Value → xH → Prop} {K : Nat → Nat × Nat} {I : Nat → Nat → Int32} {P : Nat → Nat → Option Nat} {n s : Nat} {a M : Nat} {x : Int32} (ha : K a = (100, M)) (hM : M < 2 ^ 31) (hp : ∀ I2, (∀ b, b ≠ a → I2 b = I b) → (∀ j, j < M → I2 a j = x) → Pp none (K, I2, P, n, s)) : xC d mJ7_fill_53178 [(.ref a), (.int x)] (K, I, P, n, s) Pp := by
  refine y_met 0 0 ?_
  show xB d 8 cJ7_fill_53178 none false (xE n s 0 0 Pp) 0 [some (.ref a), some (.int x), none, none] [] (K, I, P, n, s)
  refine y_iconst (v := nI 0) dJ7_fill_53178_0 (by decide) ?_
  refine y_istore_n dJ7_fill_53178_1 (by simp) (fun z e_z => ?_)
  subst e_z
  refine y_aload_n dJ7_fill_53178_2 rfl ?_
  refine y_alen dJ7_fill_53178_3 ha ?_
  refine y_istore_n dJ7_fill_53178_4 (by simp) (fun z3 e_z3 => ?_)
  subst e_z3
  refine kfill_loop ha hM M 0 I (Nat.zero_le _) rfl (fun I2 x2 x3 g1 g2 => ?_)
  exact y_retv dJ7_fill_53178_20 rfl rfl (hp I2 g1 (fun j hj => by rw [g2 j hj, if_pos (Nat.zero_le _)]))
