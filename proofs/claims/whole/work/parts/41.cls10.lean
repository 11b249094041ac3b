theorem rMkO_0 {G X : xX} {ord : List Nat} {m k : Nat} {a b c : Int32} : rMkO G ord X m k 0 a b c = (-1, xuI (xuI X 0 38 (nI (k + 1))) 20 (rN a) b) := by
  unfold rMkO
  rw [if_pos rfl]
theorem rMkO_1 {G X : xX} {ord : List Nat} {m k : Nat} {a b c : Int32} : rMkO G ord X m k 1 a b c = (-1, xuI (xuI X 0 38 (nI (k + 1))) 20 (rN a) (X 20 (rN b))) := by
  unfold rMkO
  rw [if_neg (by decide), if_pos rfl]
theorem rMkO_2 {G X : xX} {ord : List Nat} {m k : Nat} {a b c : Int32} : rMkO G ord X m k 2 a b c = (-1, xuI (xuI X 0 38 (nI (k + 1))) 20 (rN a) (X 20 (rN b) + X 20 (rN c))) := by
  unfold rMkO
  rw [if_neg (by decide), if_neg (by decide), if_pos rfl]
theorem rMkO_3 {G X : xX} {ord : List Nat} {m k : Nat} {a b c : Int32} : rMkO G ord X m k 3 a b c = (-1, xuI (xuI X 0 38 (nI (k + 1))) 20 (rN a) (X 20 (rN b) - X 20 (rN c))) := by
  unfold rMkO
  rw [if_neg (by decide), if_neg (by decide), if_neg (by decide), if_pos rfl]
theorem rMkO_4 {G X : xX} {ord : List Nat} {m k : Nat} {a b c : Int32} : rMkO G ord X m k 4 a b c = (-1, xuI (xuI X 0 38 (nI (k + 1))) 20 (rN a) (X 20 (rN b) * X 20 (rN c))) := by
  unfold rMkO
  rw [if_neg (by decide), if_neg (by decide), if_neg (by decide), if_neg (by decide), if_pos rfl]
theorem rMkO_5 {G X : xX} {ord : List Nat} {m k : Nat} {a b c : Int32} : rMkO G ord X m k 5 a b c = (-1, xuI (xuI X 0 38 (nI (k + 1))) 0 38 (if X 20 (rN a) ≥ X 20 (rN b) then nI (k + 1) else c)) := by
  unfold rMkO
  rw [if_neg (by decide), if_neg (by decide), if_neg (by decide), if_neg (by decide), if_neg (by decide), if_pos rfl]
theorem rMkO_6 {G X : xX} {ord : List Nat} {m k : Nat} {a b c : Int32} : rMkO G ord X m k 6 a b c = (-1, xuI (xuI X 0 38 (nI (k + 1))) 0 38 a) := by
  unfold rMkO
  rw [if_neg (by decide), if_neg (by decide), if_neg (by decide), if_neg (by decide), if_neg (by decide), if_neg (by decide), if_pos rfl]
theorem rMkO_7 {G X : xX} {ord : List Nat} {m k : Nat} {a b c : Int32} : rMkO G ord X m k 7 a b c = rCn G ord (xuI X 0 38 (nI (k + 1))) m a := by
  unfold rMkO
  rw [if_neg (by decide), if_neg (by decide), if_neg (by decide), if_neg (by decide), if_neg (by decide), if_neg (by decide), if_neg (by decide), if_pos rfl]
theorem rMkO_8 {G X : xX} {ord : List Nat} {m k : Nat} {a b c : Int32} : rMkO G ord X m k 8 a b c = (-1, xuI (xuI X 0 38 (nI (k + 1))) 20 (rN a) (rRd X (sFi G ord m b))) := by
  unfold rMkO
  rw [if_neg (by decide), if_neg (by decide), if_neg (by decide), if_neg (by decide), if_neg (by decide), if_neg (by decide), if_neg (by decide), if_neg (by decide), if_pos rfl]
  cases sFi G ord m b <;> rfl
theorem rMkO_9 {G X : xX} {ord : List Nat} {m k : Nat} {a b c : Int32} : rMkO G ord X m k 9 a b c = (-1, rWr (xuI X 0 38 (nI (k + 1))) (sFi G ord m a) (X 20 (rN b))) := by
  unfold rMkO
  rw [if_neg (by decide), if_neg (by decide), if_neg (by decide), if_neg (by decide), if_neg (by decide), if_neg (by decide), if_neg (by decide), if_neg (by decide), if_neg (by decide), if_pos rfl]
  cases sFi G ord m a <;> rfl
theorem rMkO_10 {G X : xX} {ord : List Nat} {m k : Nat} {a b c : Int32} : rMkO G ord X m k 10 a b c = (-1, xuI (xuI X 0 38 (nI (k + 1))) 20 (rN a) (rAd G ord (sFi G ord m b))) := by
  unfold rMkO
  rw [if_neg (by decide), if_neg (by decide), if_neg (by decide), if_neg (by decide), if_neg (by decide), if_neg (by decide), if_neg (by decide), if_neg (by decide), if_neg (by decide), if_neg (by decide), if_pos rfl]
theorem rMkO_11 {G X : xX} {ord : List Nat} {m k : Nat} {a b c : Int32} : rMkO G ord X m k 11 a b c = rCall G (xuI X 0 38 (nI (k + 1))) (rAt G ord (X 20 (rN a))) := by
  unfold rMkO
  rw [if_neg (by decide), if_neg (by decide), if_neg (by decide), if_neg (by decide), if_neg (by decide), if_neg (by decide), if_neg (by decide), if_neg (by decide), if_neg (by decide), if_neg (by decide), if_neg (by decide), if_pos rfl]
theorem rMkO_12 {G X : xX} {ord : List Nat} {m k : Nat} {a b c : Int32} : rMkO G ord X m k 12 a b c = (-1, xuI (xuI (xuI (xuI X 0 38 (nI (k + 1))) 0 36 (nI (rN (X 0 36) - 1))) 0 37 (X 22 (rN (X 0 36) - 1))) 0 38 (X 23 (rN (X 0 36) - 1))) := by
  unfold rMkO
  rw [if_neg (by decide), if_neg (by decide), if_neg (by decide), if_neg (by decide), if_neg (by decide), if_neg (by decide), if_neg (by decide), if_neg (by decide), if_neg (by decide), if_neg (by decide), if_neg (by decide), if_neg (by decide), if_pos rfl]
theorem rMkO_13 {G X : xX} {ord : List Nat} {m k : Nat} {a b c : Int32} : rMkO G ord X m k 13 a b c = (-1, xuI (if rN (X 0 30) < 60 then xuI (xuI X 0 38 (nI (k + 1))) 21 (rN (X 0 30)) (X 20 (rN a)) else (xuI X 0 38 (nI (k + 1)))) 0 30 (nI (rN (X 0 30) + 1))) := by
  unfold rMkO
  rw [if_neg (by decide), if_neg (by decide), if_neg (by decide), if_neg (by decide), if_neg (by decide), if_neg (by decide), if_neg (by decide), if_neg (by decide), if_neg (by decide), if_neg (by decide), if_neg (by decide), if_neg (by decide), if_neg (by decide), if_pos rfl]
theorem rMkO_14 {G X : xX} {ord : List Nat} {m k : Nat} {a b c : Int32} : rMkO G ord X m k 14 a b c = (0, (xuI X 0 38 (nI (k + 1)))) := by
  unfold rMkO
  rw [if_neg (by decide), if_neg (by decide), if_neg (by decide), if_neg (by decide), if_neg (by decide), if_neg (by decide), if_neg (by decide), if_neg (by decide), if_neg (by decide), if_neg (by decide), if_neg (by decide), if_neg (by decide), if_neg (by decide), if_neg (by decide)]
theorem xuI_xx {I : Nat → Nat → Int32} {a j : Nat} {x : Int32} : xuI (xuI I a j x) a j x = xuI I a j x := by
  funext b i
  unfold xuI
  by_cases c : b = a ∧ i = j
  · rw [if_pos c, if_pos c]
  · rw [if_neg c, if_neg c]
theorem kms0 {d : Nat} {Pp : Option Value → xH → Prop} {K : Nat → Nat × Nat} {I : Nat → Nat → Int32} {P : Nat → Nat → Option Nat} {n s : Nat} {o L m k dp de bd sd a : Nat} {G X : xX} {ord sl : List Nat} {st : Nat} {x y : Int32} (hX : xAt K P (o + 2) 3) (hS : xSL K P o L (gC G)) (hw : ∀ m, m < 12 → wfM G m) (hc : xCr I G (xuI X 0 38 (nI (k + 1))) o L ord sl st) (h37 : X 0 37 = nI m) (hm : m ∈ ord) (h36 : X 0 36 = nI dp) (hdp : 1 ≤ dp) (hdp2 : dp ≤ 101) (h32 : X 0 32 = nI de) (hde : de ≤ 100) (h31 : X 0 31 = nI bd) (hbd : bd ≤ 10000) (h30 : X 0 30 = nI sd) (hsd : sd ≤ 10000) (hl : sl.length ≤ 13) (hst : st ≤ 13) (ha : a < 8) (hp : xOut Pp K P n s I G o L ord sl st (rMkO G ord X m k 0 (nI a) x y)) : xC (d + 3) mX3_makeStep [(.ref (o + 2)), (.ref L), (.int 0), (.int (nI a)), (.int x), (.int y)] (K, I, P, n, s) Pp := by
  refine y_met 0 0 ?_
  show xB (d + 3) 3 cX3_makeStep (some .int) false (xE n s 0 0 Pp) 0 [some (.ref (o + 2)), some (.ref L), some (.int 0), some (.int (nI a)), some (.int x), some (.int y)] [] (K, I, P, n, s)
  have hL := hS.2.2.2.2.2
  have hc12 := hS.2.2.2.1
  have g36 : rN (X 0 36) = dp := rN_of h36 (by omega)
  have g30 : rN (X 0 30) = sd := rN_of h30 (by omega)
  have k36 : (xuI X 0 38 (nI (k + 1))) 0 36 = nI dp := (xuI_o (Or.inr (by decide))).trans h36
  have k37 : (xuI X 0 38 (nI (k + 1))) 0 37 = nI m := (xuI_o (Or.inr (by decide))).trans h37
  have k32 : (xuI X 0 38 (nI (k + 1))) 0 32 = nI de := (xuI_o (Or.inr (by decide))).trans h32
  have k31 : (xuI X 0 38 (nI (k + 1))) 0 31 = nI bd := (xuI_o (Or.inr (by decide))).trans h31
  have h0 : rN ((xuI X 0 38 (nI (k + 1))) 0 36) ≠ 0 := by rw [rN_of k36 (by omega)]; omega
  have hreg : ∀ j, j < 8 → I (o + 2 + 1) j = X 20 j := fun j hj => by rw [hc.2.1.1 j hj, xuI_ne (by decide)]
  have hmc : m < gC G := hc.1.2.1.2.2.2.2.2 m hm
  rw [rMkO_0] at hp
  rw [rN_nI (show a < 2 ^ 31 by omega)] at hp
  refine y_iload_n dX3_makeStep_0 rfl ?_
  refine y_tsw dX3_makeStep_1 (fun _ => ⟨134, by decide, ?_⟩) (fun q1 q2 => absurd (show ¬ (¬ (0 : Int32).toInt < 7 ∧ ¬ 14 < (0 : Int32).toInt) by decide) (fun w => w ⟨q1, q2⟩))
  refine y_aload_n dX3_makeStep_134 rfl ?_
  refine y_iload_n dX3_makeStep_135 rfl ?_
  refine y_iload_n dX3_makeStep_136 rfl ?_
  refine y_iload dX3_makeStep_137 rfl ?_
  refine y_iload dX3_makeStep_139 rfl ?_
  refine y_callV4 mX3_reckon dX3_makeStep_141 rfl rfl hX.1 (Nat.le_of_ble_eq_true rfl) (kreckon0 hX ha ?_)
  refine y_iconst (v := (-1)) dX3_makeStep_144 (by decide) ?_
  refine y_ret dX3_makeStep_145 rfl rfl (hp.go (xFk.u (by omega)) (hc.reg hL) ?_)
  dsimp only
  rw [xuI_o (Or.inl (by decide))]
  exact h0
theorem kms1 {d : Nat} {Pp : Option Value → xH → Prop} {K : Nat → Nat × Nat} {I : Nat → Nat → Int32} {P : Nat → Nat → Option Nat} {n s : Nat} {o L m k dp de bd sd a b : Nat} {G X : xX} {ord sl : List Nat} {st : Nat} {y : Int32} (hX : xAt K P (o + 2) 3) (hS : xSL K P o L (gC G)) (hw : ∀ m, m < 12 → wfM G m) (hc : xCr I G (xuI X 0 38 (nI (k + 1))) o L ord sl st) (h37 : X 0 37 = nI m) (hm : m ∈ ord) (h36 : X 0 36 = nI dp) (hdp : 1 ≤ dp) (hdp2 : dp ≤ 101) (h32 : X 0 32 = nI de) (hde : de ≤ 100) (h31 : X 0 31 = nI bd) (hbd : bd ≤ 10000) (h30 : X 0 30 = nI sd) (hsd : sd ≤ 10000) (hl : sl.length ≤ 13) (hst : st ≤ 13) (ha : a < 8)(hb : b < 8) (hp : xOut Pp K P n s I G o L ord sl st (rMkO G ord X m k 1 (nI a) (nI b) y)) : xC (d + 3) mX3_makeStep [(.ref (o + 2)), (.ref L), (.int 1), (.int (nI a)), (.int (nI b)), (.int y)] (K, I, P, n, s) Pp := by
  refine y_met 0 0 ?_
  show xB (d + 3) 3 cX3_makeStep (some .int) false (xE n s 0 0 Pp) 0 [some (.ref (o + 2)), some (.ref L), some (.int 1), some (.int (nI a)), some (.int (nI b)), some (.int y)] [] (K, I, P, n, s)
  have hL := hS.2.2.2.2.2
  have hc12 := hS.2.2.2.1
  have g36 : rN (X 0 36) = dp := rN_of h36 (by omega)
  have g30 : rN (X 0 30) = sd := rN_of h30 (by omega)
  have k36 : (xuI X 0 38 (nI (k + 1))) 0 36 = nI dp := (xuI_o (Or.inr (by decide))).trans h36
  have k37 : (xuI X 0 38 (nI (k + 1))) 0 37 = nI m := (xuI_o (Or.inr (by decide))).trans h37
  have k32 : (xuI X 0 38 (nI (k + 1))) 0 32 = nI de := (xuI_o (Or.inr (by decide))).trans h32
  have k31 : (xuI X 0 38 (nI (k + 1))) 0 31 = nI bd := (xuI_o (Or.inr (by decide))).trans h31
  have h0 : rN ((xuI X 0 38 (nI (k + 1))) 0 36) ≠ 0 := by rw [rN_of k36 (by omega)]; omega
  have hreg : ∀ j, j < 8 → I (o + 2 + 1) j = X 20 j := fun j hj => by rw [hc.2.1.1 j hj, xuI_ne (by decide)]
  have hmc : m < gC G := hc.1.2.1.2.2.2.2.2 m hm
  rw [rMkO_1] at hp
  rw [rN_nI (show a < 2 ^ 31 by omega), rN_nI (show b < 2 ^ 31 by omega)] at hp
  refine y_iload_n dX3_makeStep_0 rfl ?_
  refine y_tsw dX3_makeStep_1 (fun _ => ⟨134, by decide, ?_⟩) (fun q1 q2 => absurd (show ¬ (¬ (1 : Int32).toInt < 7 ∧ ¬ 14 < (1 : Int32).toInt) by decide) (fun w => w ⟨q1, q2⟩))
  refine y_aload_n dX3_makeStep_134 rfl ?_
  refine y_iload_n dX3_makeStep_135 rfl ?_
  refine y_iload_n dX3_makeStep_136 rfl ?_
  refine y_iload dX3_makeStep_137 rfl ?_
  refine y_iload dX3_makeStep_139 rfl ?_
  refine y_callV4 mX3_reckon dX3_makeStep_141 rfl rfl hX.1 (Nat.le_of_ble_eq_true rfl) (kreckon1 hX ha hb ?_)
  rw [hreg b hb]
  refine y_iconst (v := (-1)) dX3_makeStep_144 (by decide) ?_
  refine y_ret dX3_makeStep_145 rfl rfl (hp.go (xFk.u (by omega)) (hc.reg hL) ?_)
  dsimp only
  rw [xuI_o (Or.inl (by decide))]
  exact h0
theorem kms2 {d : Nat} {Pp : Option Value → xH → Prop} {K : Nat → Nat × Nat} {I : Nat → Nat → Int32} {P : Nat → Nat → Option Nat} {n s : Nat} {o L m k dp de bd sd a b c : Nat} {G X : xX} {ord sl : List Nat} {st : Nat}  (hX : xAt K P (o + 2) 3) (hS : xSL K P o L (gC G)) (hw : ∀ m, m < 12 → wfM G m) (hc : xCr I G (xuI X 0 38 (nI (k + 1))) o L ord sl st) (h37 : X 0 37 = nI m) (hm : m ∈ ord) (h36 : X 0 36 = nI dp) (hdp : 1 ≤ dp) (hdp2 : dp ≤ 101) (h32 : X 0 32 = nI de) (hde : de ≤ 100) (h31 : X 0 31 = nI bd) (hbd : bd ≤ 10000) (h30 : X 0 30 = nI sd) (hsd : sd ≤ 10000) (hl : sl.length ≤ 13) (hst : st ≤ 13) (ha : a < 8)(hb : b < 8)(hc3 : c < 8) (hp : xOut Pp K P n s I G o L ord sl st (rMkO G ord X m k 2 (nI a) (nI b) (nI c))) : xC (d + 3) mX3_makeStep [(.ref (o + 2)), (.ref L), (.int 2), (.int (nI a)), (.int (nI b)), (.int (nI c))] (K, I, P, n, s) Pp := by
  refine y_met 0 0 ?_
  show xB (d + 3) 3 cX3_makeStep (some .int) false (xE n s 0 0 Pp) 0 [some (.ref (o + 2)), some (.ref L), some (.int 2), some (.int (nI a)), some (.int (nI b)), some (.int (nI c))] [] (K, I, P, n, s)
  have hL := hS.2.2.2.2.2
  have hc12 := hS.2.2.2.1
  have g36 : rN (X 0 36) = dp := rN_of h36 (by omega)
  have g30 : rN (X 0 30) = sd := rN_of h30 (by omega)
  have k36 : (xuI X 0 38 (nI (k + 1))) 0 36 = nI dp := (xuI_o (Or.inr (by decide))).trans h36
  have k37 : (xuI X 0 38 (nI (k + 1))) 0 37 = nI m := (xuI_o (Or.inr (by decide))).trans h37
  have k32 : (xuI X 0 38 (nI (k + 1))) 0 32 = nI de := (xuI_o (Or.inr (by decide))).trans h32
  have k31 : (xuI X 0 38 (nI (k + 1))) 0 31 = nI bd := (xuI_o (Or.inr (by decide))).trans h31
  have h0 : rN ((xuI X 0 38 (nI (k + 1))) 0 36) ≠ 0 := by rw [rN_of k36 (by omega)]; omega
  have hreg : ∀ j, j < 8 → I (o + 2 + 1) j = X 20 j := fun j hj => by rw [hc.2.1.1 j hj, xuI_ne (by decide)]
  have hmc : m < gC G := hc.1.2.1.2.2.2.2.2 m hm
  rw [rMkO_2] at hp
  rw [rN_nI (show a < 2 ^ 31 by omega), rN_nI (show b < 2 ^ 31 by omega), rN_nI (show c < 2 ^ 31 by omega)] at hp
  refine y_iload_n dX3_makeStep_0 rfl ?_
  refine y_tsw dX3_makeStep_1 (fun _ => ⟨134, by decide, ?_⟩) (fun q1 q2 => absurd (show ¬ (¬ (2 : Int32).toInt < 7 ∧ ¬ 14 < (2 : Int32).toInt) by decide) (fun w => w ⟨q1, q2⟩))
  refine y_aload_n dX3_makeStep_134 rfl ?_
  refine y_iload_n dX3_makeStep_135 rfl ?_
  refine y_iload_n dX3_makeStep_136 rfl ?_
  refine y_iload dX3_makeStep_137 rfl ?_
  refine y_iload dX3_makeStep_139 rfl ?_
  refine y_callV4 mX3_reckon dX3_makeStep_141 rfl rfl hX.1 (Nat.le_of_ble_eq_true rfl) (kreckon2 hX ha hb hc3 ?_)
  rw [hreg b hb, hreg c hc3]
  refine y_iconst (v := (-1)) dX3_makeStep_144 (by decide) ?_
  refine y_ret dX3_makeStep_145 rfl rfl (hp.go (xFk.u (by omega)) (hc.reg hL) ?_)
  dsimp only
  rw [xuI_o (Or.inl (by decide))]
  exact h0
theorem kms3 {d : Nat} {Pp : Option Value → xH → Prop} {K : Nat → Nat × Nat} {I : Nat → Nat → Int32} {P : Nat → Nat → Option Nat} {n s : Nat} {o L m k dp de bd sd a b c : Nat} {G X : xX} {ord sl : List Nat} {st : Nat}  (hX : xAt K P (o + 2) 3) (hS : xSL K P o L (gC G)) (hw : ∀ m, m < 12 → wfM G m) (hc : xCr I G (xuI X 0 38 (nI (k + 1))) o L ord sl st) (h37 : X 0 37 = nI m) (hm : m ∈ ord) (h36 : X 0 36 = nI dp) (hdp : 1 ≤ dp) (hdp2 : dp ≤ 101) (h32 : X 0 32 = nI de) (hde : de ≤ 100) (h31 : X 0 31 = nI bd) (hbd : bd ≤ 10000) (h30 : X 0 30 = nI sd) (hsd : sd ≤ 10000) (hl : sl.length ≤ 13) (hst : st ≤ 13) (ha : a < 8)(hb : b < 8)(hc3 : c < 8) (hp : xOut Pp K P n s I G o L ord sl st (rMkO G ord X m k 3 (nI a) (nI b) (nI c))) : xC (d + 3) mX3_makeStep [(.ref (o + 2)), (.ref L), (.int 3), (.int (nI a)), (.int (nI b)), (.int (nI c))] (K, I, P, n, s) Pp := by
  refine y_met 0 0 ?_
  show xB (d + 3) 3 cX3_makeStep (some .int) false (xE n s 0 0 Pp) 0 [some (.ref (o + 2)), some (.ref L), some (.int 3), some (.int (nI a)), some (.int (nI b)), some (.int (nI c))] [] (K, I, P, n, s)
  have hL := hS.2.2.2.2.2
  have hc12 := hS.2.2.2.1
  have g36 : rN (X 0 36) = dp := rN_of h36 (by omega)
  have g30 : rN (X 0 30) = sd := rN_of h30 (by omega)
  have k36 : (xuI X 0 38 (nI (k + 1))) 0 36 = nI dp := (xuI_o (Or.inr (by decide))).trans h36
  have k37 : (xuI X 0 38 (nI (k + 1))) 0 37 = nI m := (xuI_o (Or.inr (by decide))).trans h37
  have k32 : (xuI X 0 38 (nI (k + 1))) 0 32 = nI de := (xuI_o (Or.inr (by decide))).trans h32
  have k31 : (xuI X 0 38 (nI (k + 1))) 0 31 = nI bd := (xuI_o (Or.inr (by decide))).trans h31
  have h0 : rN ((xuI X 0 38 (nI (k + 1))) 0 36) ≠ 0 := by rw [rN_of k36 (by omega)]; omega
  have hreg : ∀ j, j < 8 → I (o + 2 + 1) j = X 20 j := fun j hj => by rw [hc.2.1.1 j hj, xuI_ne (by decide)]
  have hmc : m < gC G := hc.1.2.1.2.2.2.2.2 m hm
  rw [rMkO_3] at hp
  rw [rN_nI (show a < 2 ^ 31 by omega), rN_nI (show b < 2 ^ 31 by omega), rN_nI (show c < 2 ^ 31 by omega)] at hp
  refine y_iload_n dX3_makeStep_0 rfl ?_
  refine y_tsw dX3_makeStep_1 (fun _ => ⟨134, by decide, ?_⟩) (fun q1 q2 => absurd (show ¬ (¬ (3 : Int32).toInt < 7 ∧ ¬ 14 < (3 : Int32).toInt) by decide) (fun w => w ⟨q1, q2⟩))
  refine y_aload_n dX3_makeStep_134 rfl ?_
  refine y_iload_n dX3_makeStep_135 rfl ?_
  refine y_iload_n dX3_makeStep_136 rfl ?_
  refine y_iload dX3_makeStep_137 rfl ?_
  refine y_iload dX3_makeStep_139 rfl ?_
  refine y_callV4 mX3_reckon dX3_makeStep_141 rfl rfl hX.1 (Nat.le_of_ble_eq_true rfl) (kreckon3 hX ha hb hc3 ?_)
  rw [hreg b hb, hreg c hc3]
  refine y_iconst (v := (-1)) dX3_makeStep_144 (by decide) ?_
  refine y_ret dX3_makeStep_145 rfl rfl (hp.go (xFk.u (by omega)) (hc.reg hL) ?_)
  dsimp only
  rw [xuI_o (Or.inl (by decide))]
  exact h0
theorem kms4 {d : Nat} {Pp : Option Value → xH → Prop} {K : Nat → Nat × Nat} {I : Nat → Nat → Int32} {P : Nat → Nat → Option Nat} {n s : Nat} {o L m k dp de bd sd a b c : Nat} {G X : xX} {ord sl : List Nat} {st : Nat}  (hX : xAt K P (o + 2) 3) (hS : xSL K P o L (gC G)) (hw : ∀ m, m < 12 → wfM G m) (hc : xCr I G (xuI X 0 38 (nI (k + 1))) o L ord sl st) (h37 : X 0 37 = nI m) (hm : m ∈ ord) (h36 : X 0 36 = nI dp) (hdp : 1 ≤ dp) (hdp2 : dp ≤ 101) (h32 : X 0 32 = nI de) (hde : de ≤ 100) (h31 : X 0 31 = nI bd) (hbd : bd ≤ 10000) (h30 : X 0 30 = nI sd) (hsd : sd ≤ 10000) (hl : sl.length ≤ 13) (hst : st ≤ 13) (ha : a < 8)(hb : b < 8)(hc3 : c < 8) (hp : xOut Pp K P n s I G o L ord sl st (rMkO G ord X m k 4 (nI a) (nI b) (nI c))) : xC (d + 3) mX3_makeStep [(.ref (o + 2)), (.ref L), (.int 4), (.int (nI a)), (.int (nI b)), (.int (nI c))] (K, I, P, n, s) Pp := by
  refine y_met 0 0 ?_
  show xB (d + 3) 3 cX3_makeStep (some .int) false (xE n s 0 0 Pp) 0 [some (.ref (o + 2)), some (.ref L), some (.int 4), some (.int (nI a)), some (.int (nI b)), some (.int (nI c))] [] (K, I, P, n, s)
  have hL := hS.2.2.2.2.2
  have hc12 := hS.2.2.2.1
  have g36 : rN (X 0 36) = dp := rN_of h36 (by omega)
  have g30 : rN (X 0 30) = sd := rN_of h30 (by omega)
  have k36 : (xuI X 0 38 (nI (k + 1))) 0 36 = nI dp := (xuI_o (Or.inr (by decide))).trans h36
  have k37 : (xuI X 0 38 (nI (k + 1))) 0 37 = nI m := (xuI_o (Or.inr (by decide))).trans h37
  have k32 : (xuI X 0 38 (nI (k + 1))) 0 32 = nI de := (xuI_o (Or.inr (by decide))).trans h32
  have k31 : (xuI X 0 38 (nI (k + 1))) 0 31 = nI bd := (xuI_o (Or.inr (by decide))).trans h31
  have h0 : rN ((xuI X 0 38 (nI (k + 1))) 0 36) ≠ 0 := by rw [rN_of k36 (by omega)]; omega
  have hreg : ∀ j, j < 8 → I (o + 2 + 1) j = X 20 j := fun j hj => by rw [hc.2.1.1 j hj, xuI_ne (by decide)]
  have hmc : m < gC G := hc.1.2.1.2.2.2.2.2 m hm
  rw [rMkO_4] at hp
  rw [rN_nI (show a < 2 ^ 31 by omega), rN_nI (show b < 2 ^ 31 by omega), rN_nI (show c < 2 ^ 31 by omega)] at hp
  refine y_iload_n dX3_makeStep_0 rfl ?_
  refine y_tsw dX3_makeStep_1 (fun _ => ⟨134, by decide, ?_⟩) (fun q1 q2 => absurd (show ¬ (¬ (4 : Int32).toInt < 7 ∧ ¬ 14 < (4 : Int32).toInt) by decide) (fun w => w ⟨q1, q2⟩))
  refine y_aload_n dX3_makeStep_134 rfl ?_
  refine y_iload_n dX3_makeStep_135 rfl ?_
  refine y_iload_n dX3_makeStep_136 rfl ?_
  refine y_iload dX3_makeStep_137 rfl ?_
  refine y_iload dX3_makeStep_139 rfl ?_
  refine y_callV4 mX3_reckon dX3_makeStep_141 rfl rfl hX.1 (Nat.le_of_ble_eq_true rfl) (kreckon4 hX ha hb hc3 ?_)
  rw [hreg b hb, hreg c hc3]
  refine y_iconst (v := (-1)) dX3_makeStep_144 (by decide) ?_
  refine y_ret dX3_makeStep_145 rfl rfl (hp.go (xFk.u (by omega)) (hc.reg hL) ?_)
  dsimp only
  rw [xuI_o (Or.inl (by decide))]
  exact h0
theorem kms5 {d : Nat} {Pp : Option Value → xH → Prop} {K : Nat → Nat × Nat} {I : Nat → Nat → Int32} {P : Nat → Nat → Option Nat} {n s : Nat} {o L m k dp de bd sd a b : Nat} {G X : xX} {ord sl : List Nat} {st : Nat} {y : Int32} (hX : xAt K P (o + 2) 3) (hS : xSL K P o L (gC G)) (hw : ∀ m, m < 12 → wfM G m) (hc : xCr I G (xuI X 0 38 (nI (k + 1))) o L ord sl st) (h37 : X 0 37 = nI m) (hm : m ∈ ord) (h36 : X 0 36 = nI dp) (hdp : 1 ≤ dp) (hdp2 : dp ≤ 101) (h32 : X 0 32 = nI de) (hde : de ≤ 100) (h31 : X 0 31 = nI bd) (hbd : bd ≤ 10000) (h30 : X 0 30 = nI sd) (hsd : sd ≤ 10000) (hl : sl.length ≤ 13) (hst : st ≤ 13) (ha : a < 8)(hb : b < 8) (hp : xOut Pp K P n s I G o L ord sl st (rMkO G ord X m k 5 (nI a) (nI b) y)) : xC (d + 3) mX3_makeStep [(.ref (o + 2)), (.ref L), (.int 5), (.int (nI a)), (.int (nI b)), (.int y)] (K, I, P, n, s) Pp := by
  refine y_met 0 0 ?_
  show xB (d + 3) 3 cX3_makeStep (some .int) false (xE n s 0 0 Pp) 0 [some (.ref (o + 2)), some (.ref L), some (.int 5), some (.int (nI a)), some (.int (nI b)), some (.int y)] [] (K, I, P, n, s)
  have hL := hS.2.2.2.2.2
  have hc12 := hS.2.2.2.1
  have g36 : rN (X 0 36) = dp := rN_of h36 (by omega)
  have g30 : rN (X 0 30) = sd := rN_of h30 (by omega)
  have k36 : (xuI X 0 38 (nI (k + 1))) 0 36 = nI dp := (xuI_o (Or.inr (by decide))).trans h36
  have k37 : (xuI X 0 38 (nI (k + 1))) 0 37 = nI m := (xuI_o (Or.inr (by decide))).trans h37
  have k32 : (xuI X 0 38 (nI (k + 1))) 0 32 = nI de := (xuI_o (Or.inr (by decide))).trans h32
  have k31 : (xuI X 0 38 (nI (k + 1))) 0 31 = nI bd := (xuI_o (Or.inr (by decide))).trans h31
  have h0 : rN ((xuI X 0 38 (nI (k + 1))) 0 36) ≠ 0 := by rw [rN_of k36 (by omega)]; omega
  have hreg : ∀ j, j < 8 → I (o + 2 + 1) j = X 20 j := fun j hj => by rw [hc.2.1.1 j hj, xuI_ne (by decide)]
  have hmc : m < gC G := hc.1.2.1.2.2.2.2.2 m hm
  rw [rMkO_5] at hp
  rw [rN_nI (show a < 2 ^ 31 by omega), rN_nI (show b < 2 ^ 31 by omega)] at hp
  refine y_iload_n dX3_makeStep_0 rfl ?_
  refine y_tsw dX3_makeStep_1 (fun _ => ⟨134, by decide, ?_⟩) (fun q1 q2 => absurd (show ¬ (¬ (5 : Int32).toInt < 7 ∧ ¬ 14 < (5 : Int32).toInt) by decide) (fun w => w ⟨q1, q2⟩))
  refine y_aload_n dX3_makeStep_134 rfl ?_
  refine y_iload_n dX3_makeStep_135 rfl ?_
  refine y_iload_n dX3_makeStep_136 rfl ?_
  refine y_iload dX3_makeStep_137 rfl ?_
  refine y_iload dX3_makeStep_139 rfl ?_
  refine y_callV4 mX3_reckon dX3_makeStep_141 rfl rfl hX.1 (Nat.le_of_ble_eq_true rfl) (kreckon5 hX ha hb (fun c5 => ?_) (fun c5 => ?_))
  · rw [hreg a ha, hreg b hb] at c5
    refine y_iconst (v := (-1)) dX3_makeStep_144 (by decide) ?_
    rw [if_pos c5] at hp
    rw [xuI_xx] at hp
    exact y_ret dX3_makeStep_145 rfl rfl (hp.go xFk.rf hc h0)
  · rw [hreg a ha, hreg b hb] at c5
    refine y_iconst (v := (-1)) dX3_makeStep_144 (by decide) ?_
    rw [if_neg c5] at hp
    refine y_ret dX3_makeStep_145 rfl rfl (hp.go xFk.f (hc.stp hL) ?_)
    dsimp only
    rw [xuI_o (Or.inr (by decide))]
    exact h0
theorem kms6 {d : Nat} {Pp : Option Value → xH → Prop} {K : Nat → Nat × Nat} {I : Nat → Nat → Int32} {P : Nat → Nat → Option Nat} {n s : Nat} {o L m k dp de bd sd  : Nat} {G X : xX} {ord sl : List Nat} {st : Nat} {x y z : Int32} (hX : xAt K P (o + 2) 3) (hS : xSL K P o L (gC G)) (hw : ∀ m, m < 12 → wfM G m) (hc : xCr I G (xuI X 0 38 (nI (k + 1))) o L ord sl st) (h37 : X 0 37 = nI m) (hm : m ∈ ord) (h36 : X 0 36 = nI dp) (hdp : 1 ≤ dp) (hdp2 : dp ≤ 101) (h32 : X 0 32 = nI de) (hde : de ≤ 100) (h31 : X 0 31 = nI bd) (hbd : bd ≤ 10000) (h30 : X 0 30 = nI sd) (hsd : sd ≤ 10000) (hl : sl.length ≤ 13) (hst : st ≤ 13)  (hp : xOut Pp K P n s I G o L ord sl st (rMkO G ord X m k 6 x y z)) : xC (d + 3) mX3_makeStep [(.ref (o + 2)), (.ref L), (.int 6), (.int x), (.int y), (.int z)] (K, I, P, n, s) Pp := by
  refine y_met 0 0 ?_
  show xB (d + 3) 3 cX3_makeStep (some .int) false (xE n s 0 0 Pp) 0 [some (.ref (o + 2)), some (.ref L), some (.int 6), some (.int x), some (.int y), some (.int z)] [] (K, I, P, n, s)
  have hL := hS.2.2.2.2.2
  have hc12 := hS.2.2.2.1
  have g36 : rN (X 0 36) = dp := rN_of h36 (by omega)
  have g30 : rN (X 0 30) = sd := rN_of h30 (by omega)
  have k36 : (xuI X 0 38 (nI (k + 1))) 0 36 = nI dp := (xuI_o (Or.inr (by decide))).trans h36
  have k37 : (xuI X 0 38 (nI (k + 1))) 0 37 = nI m := (xuI_o (Or.inr (by decide))).trans h37
  have k32 : (xuI X 0 38 (nI (k + 1))) 0 32 = nI de := (xuI_o (Or.inr (by decide))).trans h32
  have k31 : (xuI X 0 38 (nI (k + 1))) 0 31 = nI bd := (xuI_o (Or.inr (by decide))).trans h31
  have h0 : rN ((xuI X 0 38 (nI (k + 1))) 0 36) ≠ 0 := by rw [rN_of k36 (by omega)]; omega
  have hreg : ∀ j, j < 8 → I (o + 2 + 1) j = X 20 j := fun j hj => by rw [hc.2.1.1 j hj, xuI_ne (by decide)]
  have hmc : m < gC G := hc.1.2.1.2.2.2.2.2 m hm
  rw [rMkO_6] at hp
  refine y_iload_n dX3_makeStep_0 rfl ?_
  refine y_tsw dX3_makeStep_1 (fun _ => ⟨134, by decide, ?_⟩) (fun q1 q2 => absurd (show ¬ (¬ (6 : Int32).toInt < 7 ∧ ¬ 14 < (6 : Int32).toInt) by decide) (fun w => w ⟨q1, q2⟩))
  refine y_aload_n dX3_makeStep_134 rfl ?_
  refine y_iload_n dX3_makeStep_135 rfl ?_
  refine y_iload_n dX3_makeStep_136 rfl ?_
  refine y_iload dX3_makeStep_137 rfl ?_
  refine y_iload dX3_makeStep_139 rfl ?_
  refine y_callV4 mX3_reckon dX3_makeStep_141 rfl rfl hX.1 (Nat.le_of_ble_eq_true rfl) (kreckon6 hX ?_)
  refine y_iconst (v := (-1)) dX3_makeStep_144 (by decide) ?_
  refine y_ret dX3_makeStep_145 rfl rfl (hp.go xFk.f (hc.stp hL) ?_)
  dsimp only
  rw [xuI_o (Or.inr (by decide))]
  exact h0
theorem kms7 {d : Nat} {Pp : Option Value → xH → Prop} {K : Nat → Nat × Nat} {I : Nat → Nat → Int32} {P : Nat → Nat → Option Nat} {n s : Nat} {o L m k dp de bd sd a : Nat} {G X : xX} {ord sl : List Nat} {st : Nat} {x y : Int32} (hX : xAt K P (o + 2) 3) (hS : xSL K P o L (gC G)) (hw : ∀ m, m < 12 → wfM G m) (hc : xCr I G (xuI X 0 38 (nI (k + 1))) o L ord sl st) (h37 : X 0 37 = nI m) (hm : m ∈ ord) (h36 : X 0 36 = nI dp) (hdp : 1 ≤ dp) (hdp2 : dp ≤ 101) (h32 : X 0 32 = nI de) (hde : de ≤ 100) (h31 : X 0 31 = nI bd) (hbd : bd ≤ 10000) (h30 : X 0 30 = nI sd) (hsd : sd ≤ 10000) (hl : sl.length ≤ 13) (hst : st ≤ 13) (ha : a < 64) (hu : sUC G m (nI a) (gS G m) 0 = true) (hp : xOut Pp K P n s I G o L ord sl st (rMkO G ord X m k 7 (nI a) x y)) : xC (d + 3) mX3_makeStep [(.ref (o + 2)), (.ref L), (.int 7), (.int (nI a)), (.int x), (.int y)] (K, I, P, n, s) Pp := by
  refine y_met 0 0 ?_
  show xB (d + 3) 3 cX3_makeStep (some .int) false (xE n s 0 0 Pp) 0 [some (.ref (o + 2)), some (.ref L), some (.int 7), some (.int (nI a)), some (.int x), some (.int y)] [] (K, I, P, n, s)
  have hL := hS.2.2.2.2.2
  have hc12 := hS.2.2.2.1
  have g36 : rN (X 0 36) = dp := rN_of h36 (by omega)
  have g30 : rN (X 0 30) = sd := rN_of h30 (by omega)
  have k36 : (xuI X 0 38 (nI (k + 1))) 0 36 = nI dp := (xuI_o (Or.inr (by decide))).trans h36
  have k37 : (xuI X 0 38 (nI (k + 1))) 0 37 = nI m := (xuI_o (Or.inr (by decide))).trans h37
  have k32 : (xuI X 0 38 (nI (k + 1))) 0 32 = nI de := (xuI_o (Or.inr (by decide))).trans h32
  have k31 : (xuI X 0 38 (nI (k + 1))) 0 31 = nI bd := (xuI_o (Or.inr (by decide))).trans h31
  have h0 : rN ((xuI X 0 38 (nI (k + 1))) 0 36) ≠ 0 := by rw [rN_of k36 (by omega)]; omega
  have hreg : ∀ j, j < 8 → I (o + 2 + 1) j = X 20 j := fun j hj => by rw [hc.2.1.1 j hj, xuI_ne (by decide)]
  have hmc : m < gC G := hc.1.2.1.2.2.2.2.2 m hm
  rw [rMkO_7] at hp
  refine y_iload_n dX3_makeStep_0 rfl ?_
  refine y_tsw dX3_makeStep_1 (fun q => absurd q (by decide)) (fun _ _ => ⟨47, 48, rfl, by decide, ?_⟩)
  refine y_aload_n dX3_makeStep_48 rfl ?_
  refine y_aload_n dX3_makeStep_49 rfl ?_
  refine y_iload_n dX3_makeStep_50 rfl ?_
  refine y_callV2 mX3_callName dX3_makeStep_51 rfl rfl hX.1 (Nat.le_of_ble_eq_true rfl) (kcallName (d := d) (bd := bd) hX hS hw hc k37 hm ha k36 hdp hdp2 k32 hde k31 hbd hu (show xOut _ K P n s I G o L ord sl st _ from ⟨fun e I' f c => y_ret dX3_makeStep_54 rfl rfl (hp.1 e I' f c), fun e z I' f c => y_ret dX3_makeStep_54 rfl rfl (hp.2.1 e z I' f c), fun e z l I' f c => y_ret dX3_makeStep_54 rfl rfl (hp.2.2.1 e z l I' f c), fun e z q g I' f c => y_ret dX3_makeStep_54 rfl rfl (hp.2.2.2 e z q g I' f c)⟩))
theorem kms11 {d : Nat} {Pp : Option Value → xH → Prop} {K : Nat → Nat × Nat} {I : Nat → Nat → Int32} {P : Nat → Nat → Option Nat} {n s : Nat} {o L m k dp de bd sd a : Nat} {G X : xX} {ord sl : List Nat} {st : Nat} {x y : Int32} (hX : xAt K P (o + 2) 3) (hS : xSL K P o L (gC G)) (hw : ∀ m, m < 12 → wfM G m) (hc : xCr I G (xuI X 0 38 (nI (k + 1))) o L ord sl st) (h37 : X 0 37 = nI m) (hm : m ∈ ord) (h36 : X 0 36 = nI dp) (hdp : 1 ≤ dp) (hdp2 : dp ≤ 101) (h32 : X 0 32 = nI de) (hde : de ≤ 100) (h31 : X 0 31 = nI bd) (hbd : bd ≤ 10000) (h30 : X 0 30 = nI sd) (hsd : sd ≤ 10000) (hl : sl.length ≤ 13) (hst : st ≤ 13) (ha : a < 8) (hp : xOut Pp K P n s I G o L ord sl st (rMkO G ord X m k 11 (nI a) x y)) : xC (d + 3) mX3_makeStep [(.ref (o + 2)), (.ref L), (.int 11), (.int (nI a)), (.int x), (.int y)] (K, I, P, n, s) Pp := by
  refine y_met 0 0 ?_
  show xB (d + 3) 3 cX3_makeStep (some .int) false (xE n s 0 0 Pp) 0 [some (.ref (o + 2)), some (.ref L), some (.int 11), some (.int (nI a)), some (.int x), some (.int y)] [] (K, I, P, n, s)
  have hL := hS.2.2.2.2.2
  have hc12 := hS.2.2.2.1
  have g36 : rN (X 0 36) = dp := rN_of h36 (by omega)
  have g30 : rN (X 0 30) = sd := rN_of h30 (by omega)
  have k36 : (xuI X 0 38 (nI (k + 1))) 0 36 = nI dp := (xuI_o (Or.inr (by decide))).trans h36
  have k37 : (xuI X 0 38 (nI (k + 1))) 0 37 = nI m := (xuI_o (Or.inr (by decide))).trans h37
  have k32 : (xuI X 0 38 (nI (k + 1))) 0 32 = nI de := (xuI_o (Or.inr (by decide))).trans h32
  have k31 : (xuI X 0 38 (nI (k + 1))) 0 31 = nI bd := (xuI_o (Or.inr (by decide))).trans h31
  have h0 : rN ((xuI X 0 38 (nI (k + 1))) 0 36) ≠ 0 := by rw [rN_of k36 (by omega)]; omega
  have hreg : ∀ j, j < 8 → I (o + 2 + 1) j = X 20 j := fun j hj => by rw [hc.2.1.1 j hj, xuI_ne (by decide)]
  have hmc : m < gC G := hc.1.2.1.2.2.2.2.2 m hm
  rw [rMkO_11, rN_nI (show a < 2 ^ 31 by omega)] at hp
  refine y_iload_n dX3_makeStep_0 rfl ?_
  refine y_tsw dX3_makeStep_1 (fun q => absurd q (by decide)) (fun _ _ => ⟨54, 55, rfl, by decide, ?_⟩)
  refine y_aload_n dX3_makeStep_55 rfl ?_
  refine y_aload_n dX3_makeStep_56 rfl ?_
  refine y_aload_n dX3_makeStep_57 rfl ?_
  refine y_getr 3 0 dX3_makeStep_58 rfl rfl hX.1 (r3_0 hX) ?_
  refine y_iload_n dX3_makeStep_61 rfl ?_
  refine y_ialdN (a) dX3_makeStep_62 (k3_0 hX) rfl (by omega) (by omega) (hreg a ha) ?_
  refine y_callV2 mX3_callAt dX3_makeStep_63 rfl rfl hX.1 (Nat.le_of_ble_eq_true rfl) (kcallAt (d := d) hX hS hw hc k36 hdp hdp2 k32 hde (show xOut _ K P n s I G o L ord sl st _ from ⟨fun e I' f c => y_ret dX3_makeStep_66 rfl rfl (hp.1 e I' f c), fun e z I' f c => y_ret dX3_makeStep_66 rfl rfl (hp.2.1 e z I' f c), fun e z l I' f c => y_ret dX3_makeStep_66 rfl rfl (hp.2.2.1 e z l I' f c), fun e z q g I' f c => y_ret dX3_makeStep_66 rfl rfl (hp.2.2.2 e z q g I' f c)⟩))
theorem kms12 {d : Nat} {Pp : Option Value → xH → Prop} {K : Nat → Nat × Nat} {I : Nat → Nat → Int32} {P : Nat → Nat → Option Nat} {n s : Nat} {o L m k dp de bd sd  : Nat} {G X : xX} {ord sl : List Nat} {st : Nat} {x y z : Int32} (hX : xAt K P (o + 2) 3) (hS : xSL K P o L (gC G)) (hw : ∀ m, m < 12 → wfM G m) (hc : xCr I G (xuI X 0 38 (nI (k + 1))) o L ord sl st) (h37 : X 0 37 = nI m) (hm : m ∈ ord) (h36 : X 0 36 = nI dp) (hdp : 1 ≤ dp) (hdp2 : dp ≤ 101) (h32 : X 0 32 = nI de) (hde : de ≤ 100) (h31 : X 0 31 = nI bd) (hbd : bd ≤ 10000) (h30 : X 0 30 = nI sd) (hsd : sd ≤ 10000) (hl : sl.length ≤ 13) (hst : st ≤ 13) (hp : xOut Pp K P n s I G o L ord sl st (rMkO G ord X m k 12 x y z)) : xC (d + 3) mX3_makeStep [(.ref (o + 2)), (.ref L), (.int 12), (.int x), (.int y), (.int z)] (K, I, P, n, s) Pp := by
  refine y_met 0 0 ?_
  show xB (d + 3) 3 cX3_makeStep (some .int) false (xE n s 0 0 Pp) 0 [some (.ref (o + 2)), some (.ref L), some (.int 12), some (.int x), some (.int y), some (.int z)] [] (K, I, P, n, s)
  have hL := hS.2.2.2.2.2
  have hc12 := hS.2.2.2.1
  have g36 : rN (X 0 36) = dp := rN_of h36 (by omega)
  have g30 : rN (X 0 30) = sd := rN_of h30 (by omega)
  have k36 : (xuI X 0 38 (nI (k + 1))) 0 36 = nI dp := (xuI_o (Or.inr (by decide))).trans h36
  have k37 : (xuI X 0 38 (nI (k + 1))) 0 37 = nI m := (xuI_o (Or.inr (by decide))).trans h37
  have k32 : (xuI X 0 38 (nI (k + 1))) 0 32 = nI de := (xuI_o (Or.inr (by decide))).trans h32
  have k31 : (xuI X 0 38 (nI (k + 1))) 0 31 = nI bd := (xuI_o (Or.inr (by decide))).trans h31
  have h0 : rN ((xuI X 0 38 (nI (k + 1))) 0 36) ≠ 0 := by rw [rN_of k36 (by omega)]; omega
  have hreg : ∀ j, j < 8 → I (o + 2 + 1) j = X 20 j := fun j hj => by rw [hc.2.1.1 j hj, xuI_ne (by decide)]
  have hmc : m < gC G := hc.1.2.1.2.2.2.2.2 m hm
  rw [rMkO_12, g36] at hp
  have y22 : ∀ j, (xuI X 0 38 (nI (k + 1))) 22 j = X 22 j := fun j => xuI_o (Or.inl (by decide))
  have y23 : ∀ j, (xuI X 0 38 (nI (k + 1))) 23 j = X 23 j := fun j => xuI_o (Or.inl (by decide))
  rw [← y22, ← y23] at hp
  refine y_iload_n dX3_makeStep_0 rfl ?_
  refine y_tsw dX3_makeStep_1 (fun q => absurd q (by decide)) (fun _ _ => ⟨66, 67, rfl, by decide, ?_⟩)
  refine y_aload_n dX3_makeStep_67 rfl ?_
  refine y_callV0 mX3_goBack dX3_makeStep_68 rfl rfl hX.1 (Nat.le_of_ble_eq_true rfl) (kgoBack (d := d + 1) hX hL hc k36 hdp hdp2 k32 hde hl hst (show xOut _ K P n s I G o L ord sl st _ from ⟨fun e I' f c => y_ret dX3_makeStep_71 rfl rfl (hp.1 e I' f c), fun e z I' f c => y_ret dX3_makeStep_71 rfl rfl (hp.2.1 e z I' f c), fun e z l I' f c => y_ret dX3_makeStep_71 rfl rfl (hp.2.2.1 e z l I' f c), fun e z q g I' f c => y_ret dX3_makeStep_71 rfl rfl (hp.2.2.2 e z q g I' f c)⟩))
theorem kms14 {d : Nat} {Pp : Option Value → xH → Prop} {K : Nat → Nat × Nat} {I : Nat → Nat → Int32} {P : Nat → Nat → Option Nat} {n s : Nat} {o L m k dp de bd sd  : Nat} {G X : xX} {ord sl : List Nat} {st : Nat} {x y z : Int32} (hX : xAt K P (o + 2) 3) (hS : xSL K P o L (gC G)) (hw : ∀ m, m < 12 → wfM G m) (hc : xCr I G (xuI X 0 38 (nI (k + 1))) o L ord sl st) (h37 : X 0 37 = nI m) (hm : m ∈ ord) (h36 : X 0 36 = nI dp) (hdp : 1 ≤ dp) (hdp2 : dp ≤ 101) (h32 : X 0 32 = nI de) (hde : de ≤ 100) (h31 : X 0 31 = nI bd) (hbd : bd ≤ 10000) (h30 : X 0 30 = nI sd) (hsd : sd ≤ 10000) (hl : sl.length ≤ 13) (hst : st ≤ 13)  (hp : xOut Pp K P n s I G o L ord sl st (rMkO G ord X m k 14 x y z)) : xC (d + 3) mX3_makeStep [(.ref (o + 2)), (.ref L), (.int 14), (.int x), (.int y), (.int z)] (K, I, P, n, s) Pp := by
  refine y_met 0 0 ?_
  show xB (d + 3) 3 cX3_makeStep (some .int) false (xE n s 0 0 Pp) 0 [some (.ref (o + 2)), some (.ref L), some (.int 14), some (.int x), some (.int y), some (.int z)] [] (K, I, P, n, s)
  have hL := hS.2.2.2.2.2
  have hc12 := hS.2.2.2.1
  have g36 : rN (X 0 36) = dp := rN_of h36 (by omega)
  have g30 : rN (X 0 30) = sd := rN_of h30 (by omega)
  have k36 : (xuI X 0 38 (nI (k + 1))) 0 36 = nI dp := (xuI_o (Or.inr (by decide))).trans h36
  have k37 : (xuI X 0 38 (nI (k + 1))) 0 37 = nI m := (xuI_o (Or.inr (by decide))).trans h37
  have k32 : (xuI X 0 38 (nI (k + 1))) 0 32 = nI de := (xuI_o (Or.inr (by decide))).trans h32
  have k31 : (xuI X 0 38 (nI (k + 1))) 0 31 = nI bd := (xuI_o (Or.inr (by decide))).trans h31
  have h0 : rN ((xuI X 0 38 (nI (k + 1))) 0 36) ≠ 0 := by rw [rN_of k36 (by omega)]; omega
  have hreg : ∀ j, j < 8 → I (o + 2 + 1) j = X 20 j := fun j hj => by rw [hc.2.1.1 j hj, xuI_ne (by decide)]
  have hmc : m < gC G := hc.1.2.1.2.2.2.2.2 m hm
  rw [rMkO_14] at hp
  refine y_iload_n dX3_makeStep_0 rfl ?_
  refine y_tsw dX3_makeStep_1 (fun q => absurd q (by decide)) (fun _ _ => ⟨71, 72, rfl, by decide, ?_⟩)
  refine y_iconst (v := 0) dX3_makeStep_72 (by decide) ?_
  exact y_ret dX3_makeStep_73 rfl rfl (hp.go xFk.rf hc h0)
theorem kms8 {d : Nat} {Pp : Option Value → xH → Prop} {K : Nat → Nat × Nat} {I : Nat → Nat → Int32} {P : Nat → Nat → Option Nat} {n s : Nat} {o L m k dp de bd sd a b : Nat} {G X : xX} {ord sl : List Nat} {st : Nat} {y : Int32} (hX : xAt K P (o + 2) 3) (hS : xSL K P o L (gC G)) (hw : ∀ m, m < 12 → wfM G m) (hc : xCr I G (xuI X 0 38 (nI (k + 1))) o L ord sl st) (h37 : X 0 37 = nI m) (hm : m ∈ ord) (h36 : X 0 36 = nI dp) (hdp : 1 ≤ dp) (hdp2 : dp ≤ 101) (h32 : X 0 32 = nI de) (hde : de ≤ 100) (h31 : X 0 31 = nI bd) (hbd : bd ≤ 10000) (h30 : X 0 30 = nI sd) (hsd : sd ≤ 10000) (hl : sl.length ≤ 13) (hst : st ≤ 13) (ha : a < 8)(hb : b < 64) (hp : xOut Pp K P n s I G o L ord sl st (rMkO G ord X m k 8 (nI a) (nI b) y)) : xC (d + 3) mX3_makeStep [(.ref (o + 2)), (.ref L), (.int 8), (.int (nI a)), (.int (nI b)), (.int y)] (K, I, P, n, s) Pp := by
  refine y_met 0 0 ?_
  show xB (d + 3) 3 cX3_makeStep (some .int) false (xE n s 0 0 Pp) 0 [some (.ref (o + 2)), some (.ref L), some (.int 8), some (.int (nI a)), some (.int (nI b)), some (.int y)] [] (K, I, P, n, s)
  have hL := hS.2.2.2.2.2
  have hc12 := hS.2.2.2.1
  have g36 : rN (X 0 36) = dp := rN_of h36 (by omega)
  have g30 : rN (X 0 30) = sd := rN_of h30 (by omega)
  have k36 : (xuI X 0 38 (nI (k + 1))) 0 36 = nI dp := (xuI_o (Or.inr (by decide))).trans h36
  have k37 : (xuI X 0 38 (nI (k + 1))) 0 37 = nI m := (xuI_o (Or.inr (by decide))).trans h37
  have k32 : (xuI X 0 38 (nI (k + 1))) 0 32 = nI de := (xuI_o (Or.inr (by decide))).trans h32
  have k31 : (xuI X 0 38 (nI (k + 1))) 0 31 = nI bd := (xuI_o (Or.inr (by decide))).trans h31
  have h0 : rN ((xuI X 0 38 (nI (k + 1))) 0 36) ≠ 0 := by rw [rN_of k36 (by omega)]; omega
  have hreg : ∀ j, j < 8 → I (o + 2 + 1) j = X 20 j := fun j hj => by rw [hc.2.1.1 j hj, xuI_ne (by decide)]
  have hmc : m < gC G := hc.1.2.1.2.2.2.2.2 m hm
  rw [rMkO_8] at hp
  rw [rN_nI (show a < 2 ^ 31 by omega)] at hp
  have y15 : ∀ j, (xuI X 0 38 (nI (k + 1))) 15 j = X 15 j := fun j => xuI_o (Or.inl (by decide))
  refine y_iload_n dX3_makeStep_0 rfl ?_
  refine y_tsw dX3_makeStep_1 (fun q => absurd q (by decide)) (fun _ _ => ⟨73, 74, rfl, by decide, ?_⟩)
  refine y_aload_n dX3_makeStep_74 rfl ?_
  refine y_getr 3 0 dX3_makeStep_75 rfl rfl hX.1 (r3_0 hX) ?_
  refine y_iload_n dX3_makeStep_78 rfl ?_
  refine y_aload_n dX3_makeStep_79 rfl ?_
  refine y_aload_n dX3_makeStep_80 rfl ?_
  refine y_iload dX3_makeStep_81 rfl ?_
  refine y_callV2 mX3_readDatum dX3_makeStep_83 rfl rfl hX.1 (Nat.le_of_ble_eq_true rfl) (kreadDatum (d := d) hX hS hw hc k37 hm hb ?_)
  rw [show rRd (xuI X 0 38 (nI (k + 1))) (sFi G ord m (nI b)) = rRd X (sFi G ord m (nI b)) from by cases sFi G ord m (nI b) with | none => rfl | some e => exact y15 e]
  refine y_iast (a) dX3_makeStep_86 (k3_0 hX) rfl (by omega) (by omega) ?_
  refine y_iconst (v := (-1)) dX3_makeStep_87 (by decide) ?_
  refine y_ret dX3_makeStep_88 rfl rfl (hp.go (xFk.u (by omega)) (hc.reg hL) ?_)
  dsimp only
  rw [xuI_o (Or.inl (by decide))]
  exact h0
theorem kms9 {d : Nat} {Pp : Option Value → xH → Prop} {K : Nat → Nat × Nat} {I : Nat → Nat → Int32} {P : Nat → Nat → Option Nat} {n s : Nat} {o L m k dp de bd sd a b : Nat} {G X : xX} {ord sl : List Nat} {st : Nat} {y : Int32} (hX : xAt K P (o + 2) 3) (hS : xSL K P o L (gC G)) (hw : ∀ m, m < 12 → wfM G m) (hc : xCr I G (xuI X 0 38 (nI (k + 1))) o L ord sl st) (h37 : X 0 37 = nI m) (hm : m ∈ ord) (h36 : X 0 36 = nI dp) (hdp : 1 ≤ dp) (hdp2 : dp ≤ 101) (h32 : X 0 32 = nI de) (hde : de ≤ 100) (h31 : X 0 31 = nI bd) (hbd : bd ≤ 10000) (h30 : X 0 30 = nI sd) (hsd : sd ≤ 10000) (hl : sl.length ≤ 13) (hst : st ≤ 13) (ha : a < 64)(hb : b < 8) (hp : xOut Pp K P n s I G o L ord sl st (rMkO G ord X m k 9 (nI a) (nI b) y)) : xC (d + 3) mX3_makeStep [(.ref (o + 2)), (.ref L), (.int 9), (.int (nI a)), (.int (nI b)), (.int y)] (K, I, P, n, s) Pp := by
  refine y_met 0 0 ?_
  show xB (d + 3) 3 cX3_makeStep (some .int) false (xE n s 0 0 Pp) 0 [some (.ref (o + 2)), some (.ref L), some (.int 9), some (.int (nI a)), some (.int (nI b)), some (.int y)] [] (K, I, P, n, s)
  have hL := hS.2.2.2.2.2
  have hc12 := hS.2.2.2.1
  have g36 : rN (X 0 36) = dp := rN_of h36 (by omega)
  have g30 : rN (X 0 30) = sd := rN_of h30 (by omega)
  have k36 : (xuI X 0 38 (nI (k + 1))) 0 36 = nI dp := (xuI_o (Or.inr (by decide))).trans h36
  have k37 : (xuI X 0 38 (nI (k + 1))) 0 37 = nI m := (xuI_o (Or.inr (by decide))).trans h37
  have k32 : (xuI X 0 38 (nI (k + 1))) 0 32 = nI de := (xuI_o (Or.inr (by decide))).trans h32
  have k31 : (xuI X 0 38 (nI (k + 1))) 0 31 = nI bd := (xuI_o (Or.inr (by decide))).trans h31
  have h0 : rN ((xuI X 0 38 (nI (k + 1))) 0 36) ≠ 0 := by rw [rN_of k36 (by omega)]; omega
  have hreg : ∀ j, j < 8 → I (o + 2 + 1) j = X 20 j := fun j hj => by rw [hc.2.1.1 j hj, xuI_ne (by decide)]
  have hmc : m < gC G := hc.1.2.1.2.2.2.2.2 m hm
  rw [rMkO_9] at hp
  rw [rN_nI (show b < 2 ^ 31 by omega)] at hp
  refine y_iload_n dX3_makeStep_0 rfl ?_
  refine y_tsw dX3_makeStep_1 (fun q => absurd q (by decide)) (fun _ _ => ⟨88, 89, rfl, by decide, ?_⟩)
  refine y_aload_n dX3_makeStep_89 rfl ?_
  refine y_aload_n dX3_makeStep_90 rfl ?_
  refine y_iload_n dX3_makeStep_91 rfl ?_
  refine y_aload_n dX3_makeStep_92 rfl ?_
  refine y_getr 3 0 dX3_makeStep_93 rfl rfl hX.1 (r3_0 hX) ?_
  refine y_iload dX3_makeStep_96 rfl ?_
  refine y_ialdN (b) dX3_makeStep_98 (k3_0 hX) rfl (by omega) (by omega) (hreg b hb) ?_
  refine y_callV3 mX3_writeDatum dX3_makeStep_99 rfl rfl hX.1 (Nat.le_of_ble_eq_true rfl) (kwriteDatum (d := d) hX hS hw hc k37 hm ha (fun hf => ?_) (fun e q hf hq hs => ?_))
  · refine y_iconst (v := (-1)) dX3_makeStep_102 (by decide) ?_
    rw [hf] at hp
    exact y_ret dX3_makeStep_103 rfl rfl (hp.go xFk.rf hc h0)
  · refine y_iconst (v := (-1)) dX3_makeStep_102 (by decide) ?_
    rw [hf] at hp
    dsimp only [rWr] at hp
    have ho12 : ∀ q ∈ ord, q < 12 := fun q hq => by have := hc.1.2.1.2.2.2.2.2 q hq; omega
    refine y_ret dX3_makeStep_103 rfl rfl (hp.go (xFk.da (ho12 q hq)) (hc.dat hL hw ho12 hq ha hs) ?_)
    dsimp only
    rw [xuI_o (Or.inl (by decide))]
    exact h0
theorem kms10 {d : Nat} {Pp : Option Value → xH → Prop} {K : Nat → Nat × Nat} {I : Nat → Nat → Int32} {P : Nat → Nat → Option Nat} {n s : Nat} {o L m k dp de bd sd a b : Nat} {G X : xX} {ord sl : List Nat} {st : Nat} {y : Int32} (hX : xAt K P (o + 2) 3) (hS : xSL K P o L (gC G)) (hw : ∀ m, m < 12 → wfM G m) (hc : xCr I G (xuI X 0 38 (nI (k + 1))) o L ord sl st) (h37 : X 0 37 = nI m) (hm : m ∈ ord) (h36 : X 0 36 = nI dp) (hdp : 1 ≤ dp) (hdp2 : dp ≤ 101) (h32 : X 0 32 = nI de) (hde : de ≤ 100) (h31 : X 0 31 = nI bd) (hbd : bd ≤ 10000) (h30 : X 0 30 = nI sd) (hsd : sd ≤ 10000) (hl : sl.length ≤ 13) (hst : st ≤ 13) (ha : a < 8)(hb : b < 64) (hp : xOut Pp K P n s I G o L ord sl st (rMkO G ord X m k 10 (nI a) (nI b) y)) : xC (d + 3) mX3_makeStep [(.ref (o + 2)), (.ref L), (.int 10), (.int (nI a)), (.int (nI b)), (.int y)] (K, I, P, n, s) Pp := by
  refine y_met 0 0 ?_
  show xB (d + 3) 3 cX3_makeStep (some .int) false (xE n s 0 0 Pp) 0 [some (.ref (o + 2)), some (.ref L), some (.int 10), some (.int (nI a)), some (.int (nI b)), some (.int y)] [] (K, I, P, n, s)
  have hL := hS.2.2.2.2.2
  have hc12 := hS.2.2.2.1
  have g36 : rN (X 0 36) = dp := rN_of h36 (by omega)
  have g30 : rN (X 0 30) = sd := rN_of h30 (by omega)
  have k36 : (xuI X 0 38 (nI (k + 1))) 0 36 = nI dp := (xuI_o (Or.inr (by decide))).trans h36
  have k37 : (xuI X 0 38 (nI (k + 1))) 0 37 = nI m := (xuI_o (Or.inr (by decide))).trans h37
  have k32 : (xuI X 0 38 (nI (k + 1))) 0 32 = nI de := (xuI_o (Or.inr (by decide))).trans h32
  have k31 : (xuI X 0 38 (nI (k + 1))) 0 31 = nI bd := (xuI_o (Or.inr (by decide))).trans h31
  have h0 : rN ((xuI X 0 38 (nI (k + 1))) 0 36) ≠ 0 := by rw [rN_of k36 (by omega)]; omega
  have hreg : ∀ j, j < 8 → I (o + 2 + 1) j = X 20 j := fun j hj => by rw [hc.2.1.1 j hj, xuI_ne (by decide)]
  have hmc : m < gC G := hc.1.2.1.2.2.2.2.2 m hm
  rw [rMkO_10] at hp
  rw [rN_nI (show a < 2 ^ 31 by omega)] at hp
  refine y_iload_n dX3_makeStep_0 rfl ?_
  refine y_tsw dX3_makeStep_1 (fun q => absurd q (by decide)) (fun _ _ => ⟨103, 104, rfl, by decide, ?_⟩)
  refine y_aload_n dX3_makeStep_104 rfl ?_
  refine y_getr 3 0 dX3_makeStep_105 rfl rfl hX.1 (r3_0 hX) ?_
  refine y_iload_n dX3_makeStep_108 rfl ?_
  refine y_aload_n dX3_makeStep_109 rfl ?_
  refine y_aload_n dX3_makeStep_110 rfl ?_
  refine y_getv 3 13 dX3_makeStep_111 rfl rfl hX.1 (hc.2.2.2.2.1.trans k37) ?_
  refine y_iload dX3_makeStep_114 rfl ?_
  refine y_callV2 mX1_addressOf dX3_makeStep_116 rfl rfl hS.1.1 (Nat.le_of_ble_eq_true rfl) (kaddressOf (d := d) hS hc.1.1 hw hc.1.2.1 hc.1.2.2.1 hm hb ?_)
  refine y_iast (a) dX3_makeStep_119 (k3_0 hX) rfl (by omega) (by omega) ?_
  refine y_iconst (v := (-1)) dX3_makeStep_120 (by decide) ?_
  refine y_ret dX3_makeStep_121 rfl rfl (hp.go (xFk.u (by omega)) (hc.reg hL) ?_)
  dsimp only
  rw [xuI_o (Or.inl (by decide))]
  exact h0
theorem kms13 {d : Nat} {Pp : Option Value → xH → Prop} {K : Nat → Nat × Nat} {I : Nat → Nat → Int32} {P : Nat → Nat → Option Nat} {n s : Nat} {o L m k dp de bd sd a : Nat} {G X : xX} {ord sl : List Nat} {st : Nat} {x y : Int32} (hX : xAt K P (o + 2) 3) (hS : xSL K P o L (gC G)) (hw : ∀ m, m < 12 → wfM G m) (hc : xCr I G (xuI X 0 38 (nI (k + 1))) o L ord sl st) (h37 : X 0 37 = nI m) (hm : m ∈ ord) (h36 : X 0 36 = nI dp) (hdp : 1 ≤ dp) (hdp2 : dp ≤ 101) (h32 : X 0 32 = nI de) (hde : de ≤ 100) (h31 : X 0 31 = nI bd) (hbd : bd ≤ 10000) (h30 : X 0 30 = nI sd) (hsd : sd ≤ 10000) (hl : sl.length ≤ 13) (hst : st ≤ 13) (ha : a < 8) (hp : xOut Pp K P n s I G o L ord sl st (rMkO G ord X m k 13 (nI a) x y)) : xC (d + 3) mX3_makeStep [(.ref (o + 2)), (.ref L), (.int 13), (.int (nI a)), (.int x), (.int y)] (K, I, P, n, s) Pp := by
  refine y_met 0 0 ?_
  show xB (d + 3) 3 cX3_makeStep (some .int) false (xE n s 0 0 Pp) 0 [some (.ref (o + 2)), some (.ref L), some (.int 13), some (.int (nI a)), some (.int x), some (.int y)] [] (K, I, P, n, s)
  have hL := hS.2.2.2.2.2
  have hc12 := hS.2.2.2.1
  have g36 : rN (X 0 36) = dp := rN_of h36 (by omega)
  have g30 : rN (X 0 30) = sd := rN_of h30 (by omega)
  have k36 : (xuI X 0 38 (nI (k + 1))) 0 36 = nI dp := (xuI_o (Or.inr (by decide))).trans h36
  have k37 : (xuI X 0 38 (nI (k + 1))) 0 37 = nI m := (xuI_o (Or.inr (by decide))).trans h37
  have k32 : (xuI X 0 38 (nI (k + 1))) 0 32 = nI de := (xuI_o (Or.inr (by decide))).trans h32
  have k31 : (xuI X 0 38 (nI (k + 1))) 0 31 = nI bd := (xuI_o (Or.inr (by decide))).trans h31
  have h0 : rN ((xuI X 0 38 (nI (k + 1))) 0 36) ≠ 0 := by rw [rN_of k36 (by omega)]; omega
  have hreg : ∀ j, j < 8 → I (o + 2 + 1) j = X 20 j := fun j hj => by rw [hc.2.1.1 j hj, xuI_ne (by decide)]
  have hmc : m < gC G := hc.1.2.1.2.2.2.2.2 m hm
  rw [rMkO_13] at hp
  rw [g30, rN_nI (show a < 2 ^ 31 by omega)] at hp
  refine y_iload_n dX3_makeStep_0 rfl ?_
  refine y_tsw dX3_makeStep_1 (fun q => absurd q (by decide)) (fun _ _ => ⟨121, 122, rfl, by decide, ?_⟩)
  refine y_aload_n dX3_makeStep_122 rfl ?_
  refine y_aload_n dX3_makeStep_123 rfl ?_
  refine y_getr 3 0 dX3_makeStep_124 rfl rfl hX.1 (r3_0 hX) ?_
  refine y_iload_n dX3_makeStep_127 rfl ?_
  refine y_ialdN (a) dX3_makeStep_128 (k3_0 hX) rfl (by omega) (by omega) (hreg a ha) ?_
  refine y_callV1 mX3_say dX3_makeStep_129 rfl rfl hX.1 (Nat.le_of_ble_eq_true rfl) (ksay (d := d + 2) (sd := sd) hX (hc.2.1.2.2.2.1.trans ((xuI_o (Or.inr (by decide))).trans h30)) hsd (fun c13 => ?_) (fun c13 => ?_))
  · refine y_iconst (v := (-1)) dX3_makeStep_132 (by decide) ?_
    rw [if_neg c13] at hp
    refine y_ret dX3_makeStep_133 rfl rfl (hp.go xFk.f (hc.fld hL 3 30 (by omega)) ?_)
    dsimp only
    rw [xuI_o (Or.inr (by decide))]
    exact h0
  · refine y_iconst (v := (-1)) dX3_makeStep_132 (by decide) ?_
    rw [if_pos c13] at hp
    refine y_ret dX3_makeStep_133 rfl rfl (hp.go ((xFk.u (by omega)).tr xFk.f) ((hc.say hL).fld hL 3 30 (by omega)) ?_)
    dsimp only
    rw [xuI_o (Or.inr (by decide)), xuI_o (Or.inl (by decide))]
    exact h0
theorem kmakeStep {d : Nat} {Pp : Option Value → xH → Prop} {K : Nat → Nat × Nat} {I : Nat → Nat → Int32} {P : Nat → Nat → Option Nat} {n s : Nat} {o L m k dp de bd sd : Nat} {G X : xX} {ord sl : List Nat} {st : Nat} {op a b c : Int32} (hX : xAt K P (o + 2) 3) (hS : xSL K P o L (gC G)) (hw : ∀ m, m < 12 → wfM G m) (hc : xCr I G (xuI X 0 38 (nI (k + 1))) o L ord sl st) (h37 : X 0 37 = nI m) (hm : m ∈ ord) (h36 : X 0 36 = nI dp) (hdp : 1 ≤ dp) (hdp2 : dp ≤ 101) (h32 : X 0 32 = nI de) (hde : de ≤ 100) (h31 : X 0 31 = nI bd) (hbd : bd ≤ 10000) (h30 : X 0 30 = nI sd) (hsd : sd ≤ 10000) (hl : sl.length ≤ 13) (hst : st ≤ 13) (hk : k < gS G m) (eo : sOp G m k = op) (ea : sAr G m k 1 = a) (hx : xStep op a b c) (hp : xOut Pp K P n s I G o L ord sl st (rMkO G ord X m k op a b c)) : xC (d + 3) mX3_makeStep [(.ref (o + 2)), (.ref L), (.int op), (.int a), (.int b), (.int c)] (K, I, P, n, s) Pp := by
  rcases hx with ⟨rfl, h⟩ | ⟨rfl, h1, h2⟩ | ⟨rfl, h1, h2, h3⟩ | ⟨rfl, h1, h2, h3⟩ | ⟨rfl, h1, h2, h3⟩ | ⟨rfl, h1, h2, h3⟩ | ⟨rfl, h1⟩ | ⟨rfl, h1⟩ | ⟨rfl, h1, h2⟩ | ⟨rfl, h1, h2⟩ | ⟨rfl, h1, h2⟩ | ⟨rfl, h1⟩ | rfl | ⟨rfl, h1⟩ | rfl
  · obtain ⟨a, ha, rfl⟩ := h; exact kms0 hX hS hw hc h37 hm h36 hdp hdp2 h32 hde h31 hbd h30 hsd hl hst ha hp
  · obtain ⟨a, ha, rfl⟩ := h1; obtain ⟨b, hb, rfl⟩ := h2; exact kms1 hX hS hw hc h37 hm h36 hdp hdp2 h32 hde h31 hbd h30 hsd hl hst ha hb hp
  · obtain ⟨a, ha, rfl⟩ := h1; obtain ⟨b, hb, rfl⟩ := h2; obtain ⟨c, hc3, rfl⟩ := h3; exact kms2 hX hS hw hc h37 hm h36 hdp hdp2 h32 hde h31 hbd h30 hsd hl hst ha hb hc3 hp
  · obtain ⟨a, ha, rfl⟩ := h1; obtain ⟨b, hb, rfl⟩ := h2; obtain ⟨c, hc3, rfl⟩ := h3; exact kms3 hX hS hw hc h37 hm h36 hdp hdp2 h32 hde h31 hbd h30 hsd hl hst ha hb hc3 hp
  · obtain ⟨a, ha, rfl⟩ := h1; obtain ⟨b, hb, rfl⟩ := h2; obtain ⟨c, hc3, rfl⟩ := h3; exact kms4 hX hS hw hc h37 hm h36 hdp hdp2 h32 hde h31 hbd h30 hsd hl hst ha hb hc3 hp
  · obtain ⟨a, ha, rfl⟩ := h1; obtain ⟨b, hb, rfl⟩ := h2; exact kms5 hX hS hw hc h37 hm h36 hdp hdp2 h32 hde h31 hbd h30 hsd hl hst ha hb hp
  · exact kms6 hX hS hw hc h37 hm h36 hdp hdp2 h32 hde h31 hbd h30 hsd hl hst hp
  · obtain ⟨a, ha, rfl⟩ := h1; exact kms7 hX hS hw hc h37 hm h36 hdp hdp2 h32 hde h31 hbd h30 hsd hl hst ha ((sUC_iff _ _).mpr ⟨k, Nat.zero_le _, by omega, eo, ea⟩) hp
  · obtain ⟨a, ha, rfl⟩ := h1; obtain ⟨b, hb, rfl⟩ := h2; exact kms8 hX hS hw hc h37 hm h36 hdp hdp2 h32 hde h31 hbd h30 hsd hl hst ha hb hp
  · obtain ⟨a, ha, rfl⟩ := h1; obtain ⟨b, hb, rfl⟩ := h2; exact kms9 hX hS hw hc h37 hm h36 hdp hdp2 h32 hde h31 hbd h30 hsd hl hst ha hb hp
  · obtain ⟨a, ha, rfl⟩ := h1; obtain ⟨b, hb, rfl⟩ := h2; exact kms10 hX hS hw hc h37 hm h36 hdp hdp2 h32 hde h31 hbd h30 hsd hl hst ha hb hp
  · obtain ⟨a, ha, rfl⟩ := h1; exact kms11 hX hS hw hc h37 hm h36 hdp hdp2 h32 hde h31 hbd h30 hsd hl hst ha hp
  · exact kms12 hX hS hw hc h37 hm h36 hdp hdp2 h32 hde h31 hbd h30 hsd hl hst hp
  · obtain ⟨a, ha, rfl⟩ := h1; exact kms13 hX hS hw hc h37 hm h36 hdp hdp2 h32 hde h31 hbd h30 hsd hl hst ha hp
  · exact kms14 hX hS hw hc h37 hm h36 hdp hdp2 h32 hde h31 hbd h30 hsd hl hst hp
