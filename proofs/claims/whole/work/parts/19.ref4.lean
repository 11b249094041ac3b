def okl (c : Nat) (l : List Nat) : Prop := l.Nodup ∧ ∀ q ∈ l, q < c
theorem okl_len {c : Nat} {l : List Nat} (h : okl c l) : l.length ≤ c := by
  have := h.1.length_le_of_subset (l₂ := List.range c) (fun q hq => List.mem_range.mpr (h.2 q hq))
  simpa using this
theorem okl_add {c o : Nat} {l : List Nat} (h : okl c l) (ho : o < c) (hn : o ∉ l) : okl c (l ++ [o]) := by
  refine ⟨List.nodup_append.mpr ⟨h.1, by simp, fun a ha b hb e => ?_⟩, fun q hq => ?_⟩
  · rw [List.mem_singleton.mp hb] at e
    exact hn (e ▸ ha)
  · rcases List.mem_append.mp hq with z | z
    · exact h.2 q z
    · rw [List.mem_singleton.mp z]; exact ho
theorem sAdd_len (l : List Nat) (m : Nat) : l.length ≤ (sAdd l m).length := by
  unfold sAdd
  split
  · exact Nat.le_refl _
  · simp
theorem sAdds_len {X : xX} {m : Nat} : ∀ (t k : Nat) (l : List Nat), l.length ≤ (sAdds X m t k l).length
  | 0, _, l => Nat.le_refl _
  | t + 1, k, l => Nat.le_trans (sAdd_len l _) (sAdds_len t (k + 1) _)
/-- what the search of the order may change -/
def xFo (R : Nat) (I I' : Nat → Nat → Int32) : Prop := ∀ a j, a ≠ R + 16 → a ≠ R + 17 → (a ≠ R ∨ j ≠ 20) → I' a j = I a j
theorem xFo.rf {R : Nat} {I : Nat → Nat → Int32} : xFo R I I := fun _ _ _ _ _ => rfl
theorem xFo.tr {R : Nat} {I I' I2 : Nat → Nat → Int32} (h : xFo R I I') (h2 : xFo R I' I2) : xFo R I I2 := fun a j p q r => (h2 a j p q r).trans (h a j p q r)
theorem xFo.pg {R : Nat} {X : xX} {I I' : Nat → Nat → Int32} (h : xFo R I I') (hA : xPg I R X) : xPg I' R X := fun i h1 h2 => by
  funext j
  rw [h (R + i) j (by omega) (by omega) (Or.inl (by omega))]
  exact congrFun (hA i h1 h2) j
theorem xFo.u {R a i : Nat} {I : Nat → Nat → Int32} {x : Int32} (h : a = R + 16 ∨ a = R + 17 ∨ (a = R ∧ i = 20)) : xFo R I (xuI I a i x) := fun b j p q r => xuI_o (by
  rcases h with h | h | ⟨h, h2⟩
  · exact Or.inl (by omega)
  · exact Or.inl (by omega)
  · subst h h2; exact r)
/-- the search stands at the list l -/
def xBF (X : xX) (I : Nat → Nat → Int32) (R : Nat) (l : List Nat) : Prop := I R 20 = nI l.length ∧ xHl I (R + 16) l ∧ (∀ q, q < 12 → I (R + 17) q = bI (decide (q ∈ l))) ∧ okl (gC X) l
theorem xHl_add {I : Nat → Nat → Int32} {a o : Nat} {l : List Nat} (h : xHl I a l) (h2 : I a l.length = nI o) : xHl I a (l ++ [o]) := fun p m hp => by
  rcases Nat.lt_trichotomy p l.length with z | z | z
  · rw [List.getElem?_append_left z] at hp; exact h p m hp
  · subst z
    rw [List.getElem?_append_right (Nat.le_refl _), Nat.sub_self] at hp
    simp at hp
    rw [← hp]; exact h2
  · rw [List.getElem?_eq_none (by simp; omega)] at hp; cases hp
theorem xHl_put {I : Nat → Nat → Int32} {a b i : Nat} {x : Int32} {l : List Nat} (h : xHl I a l) (h2 : a ≠ b ∨ l.length ≤ i) : xHl (xuI I b i x) a l := fun p m hp => by
  have hl : p < l.length := (List.getElem?_eq_some_iff.mp hp).1
  rw [xuI_o (by rcases h2 with h2 | h2
                · exact Or.inl h2
                · exact Or.inr (by omega))]
  exact h p m hp
theorem xBF_add {X : xX} {I : Nat → Nat → Int32} {R o : Nat} {l : List Nat} (h : xBF X I R l) (ho : o < gC X) (hg : gC X ≤ 12) (hn : o ∉ l) : xBF X (xuI (xuI (xuI I (R + 17) o 1) (R + 16) l.length (nI o)) R 20 (nI (l.length + 1))) R (l ++ [o]) := by
  obtain ⟨h1, h2, h3, h4⟩ := h
  refine ⟨by rw [xuI_s]; simp, ?_, fun q hq => ?_, okl_add h4 ho hn⟩
  · refine xHl_put (xHl_add (xHl_put (xHl_put h2 (Or.inl (by omega))) (Or.inr (Nat.le_refl _))) (by rw [xuI_s])) (Or.inl (by omega))
  · rw [xuI_o (Or.inl (by omega)), xuI_o (Or.inl (by omega))]
    by_cases e : q = o
    · subst e
      rw [xuI_s, decide_eq_true (by simp)]; rfl
    · rw [xuI_o (Or.inr e), h3 q hq]
      congr 1
      simp [e]
theorem kfo_in {d R : Nat} {X : xX} {Q : Option Value → xH → Prop} {K : Nat → Nat × Nat} {P : Nat → Nat → Option Nat} {n s : Nat} (hR : xAt K P R 5) {m p : Nat} {x1 : Int32} (hm : m < 12) (hw : wfM X m) (hg : gC X ≤ 12) : ∀ (t k : Nat) (I : Nat → Nat → Int32) (l : List Nat) (v5 : Option Value), xPg I R X → k + t = gN X m → xBF X I R l → (∀ I' x4 v5', xFo R I I' → xBF X I' R (sAdds X m t k l) → xB d 5 cX5_findOrder none false Q 132 [some (.ref R), some (.int x1), some (.int (nI p)), some (.int (nI m)), some (.int x4), v5'] [] (K, I', P, n, s)) → xB d 5 cX5_findOrder none false Q 62 [some (.ref R), some (.int x1), some (.int (nI p)), some (.int (nI m)), some (.int (nI k)), v5] [] (K, I, P, n, s) := by
  obtain ⟨⟨w1, w2⟩, w3, -⟩ := hw
  intro t
  induction t with
  | zero =>
    intro k I l v5 hA hk hb k1
    refine y_iload dX5_findOrder_62 rfl ?_
    refine y_aload_n dX5_findOrder_64 rfl ?_
    refine y_getr 5 2 dX5_findOrder_65 rfl rfl hR.1 (r5_2 hR) ?_
    refine y_iload_n dX5_findOrder_68 rfl ?_
    refine y_ialdN (m) dX5_findOrder_69 (k5_2 hR) rfl (by omega) (by omega) ((congrFun (hA 2 (by decide) (by decide)) m).trans w1) ?_
    refine y_icmpN_ge 132 (k) ((gN X m)) dX5_findOrder_70 (by decide) rfl rfl (by omega) (by omega) (fun _ => ?_) (fun c70 => absurd c70 (by omega))
    exact k1 I _ _ xFo.rf hb
  | succ t ih =>
    intro k I l v5 hA hk hb k1
    obtain ⟨w4, w5⟩ := w3 k (by omega)
    unfold sAdds at k1
    refine y_iload dX5_findOrder_62 rfl ?_
    refine y_aload_n dX5_findOrder_64 rfl ?_
    refine y_getr 5 2 dX5_findOrder_65 rfl rfl hR.1 (r5_2 hR) ?_
    refine y_iload_n dX5_findOrder_68 rfl ?_
    refine y_ialdN (m) dX5_findOrder_69 (k5_2 hR) rfl (by omega) (by omega) ((congrFun (hA 2 (by decide) (by decide)) m).trans w1) ?_
    refine y_icmpN_ge 132 (k) ((gN X m)) dX5_findOrder_70 (by decide) rfl rfl (by omega) (by omega) (fun c70 => absurd c70 (by omega)) (fun _ => ?_)
    refine y_aload_n dX5_findOrder_73 rfl ?_
    refine y_getr 5 1 dX5_findOrder_74 rfl rfl hR.1 (r5_1 hR) ?_
    refine y_bipush (v := 6) dX5_findOrder_77 (by decide) ?_
    refine y_iload_n dX5_findOrder_79 rfl ?_
    refine y_imulv (nI (6 * m)) dX5_findOrder_80 (pk_mul (6) (m)) ?_
    refine y_iload dX5_findOrder_81 rfl ?_
    refine y_iaddv (nI (((6 * m)) + k)) dX5_findOrder_83 (nI_add ((6 * m)) (k)) ?_
    refine y_ialdN ((((6 * m)) + k)) dX5_findOrder_84 (k5_1 hR) rfl (by omega) (by omega) ((congrFun (hA 1 (by decide) (by decide)) (6 * m + k)).trans w4) ?_
    refine y_istore dX5_findOrder_85 (by first | (simp; done) | (simp; decide)) (fun x1 e_x1 => ?_)
    subst e_x1
    by_cases hin : gD X m k ∈ l
    · rw [show sAdd l (gD X m k) = l from if_pos hin] at k1
      refine y_aload_n dX5_findOrder_87 rfl ?_
      refine y_getr 5 22 dX5_findOrder_88 rfl rfl hR.1 (r5_22 hR) ?_
      refine y_iload dX5_findOrder_91 rfl ?_
      refine y_baldN ((gD X m k)) dX5_findOrder_93 (k5_22 hR) rfl (by omega) (by omega) (show I (R + 17) (gD X m k) = 1 by rw [hb.2.2.1 _ (by omega), decide_eq_true hin]; rfl) ?_
      refine y_if_ne 126 dX5_findOrder_94 (by decide) (fun _ => ?_) (fun q => absurd q (by decide))
      refine y_iinc dX5_findOrder_126 rfl (fun x2 e_x2 => ?_)
      obtain rfl : x2 = nI (k + 1) := by rw [e_x2]; exact nI_1 (k)
      refine y_goto 62 dX5_findOrder_129 (by decide) ?_
      exact ih (k + 1) I l _ hA (by omega) hb k1
    · rw [show sAdd l (gD X m k) = l ++ [gD X m k] from if_neg hin] at k1
      have hl := okl_len (okl_add hb.2.2.2 w5 hin)
      rw [List.length_append] at hl
      simp only [List.length_cons, List.length_nil] at hl
      refine y_aload_n dX5_findOrder_87 rfl ?_
      refine y_getr 5 22 dX5_findOrder_88 rfl rfl hR.1 (r5_22 hR) ?_
      refine y_iload dX5_findOrder_91 rfl ?_
      refine y_baldN ((gD X m k)) dX5_findOrder_93 (k5_22 hR) rfl (by omega) (by omega) (show I (R + 17) (gD X m k) = 0 by rw [hb.2.2.1 _ (by omega), decide_eq_false hin]; rfl) ?_
      refine y_if_ne 126 dX5_findOrder_94 (by decide) (fun q => absurd q (by decide)) (fun _ => ?_)
      refine y_aload_n dX5_findOrder_97 rfl ?_
      refine y_getr 5 22 dX5_findOrder_98 rfl rfl hR.1 (r5_22 hR) ?_
      refine y_iload dX5_findOrder_101 rfl ?_
      refine y_iconst (v := 1) dX5_findOrder_103 (by decide) ?_
      refine y_bast ((gD X m k)) dX5_findOrder_104 (k5_22 hR) rfl (by omega) (by omega) (by decide) ?_
      refine y_aload_n dX5_findOrder_105 rfl ?_
      refine y_getr 5 21 dX5_findOrder_106 rfl rfl hR.1 (r5_21 hR) ?_
      refine y_aload_n dX5_findOrder_109 rfl ?_
      refine y_getv 5 20 dX5_findOrder_110 rfl rfl hR.1 (show xuI I (R + 17) (gD X m k) 1 R 20 = nI l.length by rw [xuI_o (Or.inl (by omega))]; exact hb.1) ?_
      refine y_iload dX5_findOrder_113 rfl ?_
      refine y_iast (l.length) dX5_findOrder_115 (k5_21 hR) rfl (by omega) (by omega) ?_
      refine y_aload_n dX5_findOrder_116 rfl ?_
      refine y_dup dX5_findOrder_117 rfl ?_
      refine y_getv 5 20 dX5_findOrder_118 rfl rfl hR.1 (show xuI (xuI I (R + 17) (gD X m k) 1) (R + 16) l.length (nI (gD X m k)) R 20 = nI l.length by rw [xuI_o (Or.inl (by omega)), xuI_o (Or.inl (by omega))]; exact hb.1) ?_
      refine y_iconst (v := 1) dX5_findOrder_121 (by decide) ?_
      refine y_iaddv (nI (l.length + 1)) dX5_findOrder_122 (nI_add (l.length) (1)) ?_
      refine y_puti 5 20 dX5_findOrder_123 rfl rfl rfl hR.1 ?_
      have hf : xFo R I (xuI (xuI (xuI I (R + 17) (gD X m k) 1) (R + 16) l.length (nI (gD X m k))) R 20 (nI (l.length + 1))) := (xFo.u (Or.inr (Or.inl rfl))).tr ((xFo.u (Or.inl rfl)).tr (xFo.u (Or.inr (Or.inr ⟨rfl, rfl⟩))))
      refine y_iinc dX5_findOrder_126 rfl (fun x3 e_x3 => ?_)
      obtain rfl : x3 = nI (k + 1) := by rw [e_x3]; exact nI_1 (k)
      refine y_goto 62 dX5_findOrder_129 (by decide) ?_
      exact ih (k + 1) _ _ _ (hf.pg hA) (by omega) (xBF_add hb w5 hg hin) (fun I2 x4 v5' q1 q2 => k1 I2 x4 v5' (hf.tr q1) q2)
theorem kfo_out {d R : Nat} {X : xX} {Q : Option Value → xH → Prop} {K : Nat → Nat × Nat} {P : Nat → Nat → Option Nat} {n s : Nat} (hR : xAt K P R 5) {x1 : Int32} (hw : ∀ m, m < 12 → wfM X m) (hg : gC X ≤ 12) : ∀ (t p : Nat) (I : Nat → Nat → Int32) (l : List Nat) (v3 v4 v5 : Option Value), xPg I R X → p + t = 12 → p ≤ l.length → xBF X I R l → (∀ I' ls, xFo R I I' → xBF X I' R (sBfs X t p l) → xB d 5 cX5_findOrder none false Q 138 ls [] (K, I', P, n, s)) → xB d 5 cX5_findOrder none false Q 44 [some (.ref R), some (.int x1), some (.int (nI p)), v3, v4, v5] [] (K, I, P, n, s) := by
  intro t
  induction t with
  | zero =>
    intro p I l v3 v4 v5 hA hp hpl hb k1
    have hl := okl_len hb.2.2.2
    refine y_iload_n dX5_findOrder_44 rfl ?_
    refine y_aload_n dX5_findOrder_45 rfl ?_
    refine y_getv 5 20 dX5_findOrder_46 rfl rfl hR.1 hb.1 ?_
    refine y_icmpN_ge 138 (p) (l.length) dX5_findOrder_49 (by decide) rfl rfl (by omega) (by omega) (fun _ => ?_) (fun c49 => absurd c49 (by omega))
    exact k1 I _ xFo.rf hb
  | succ t ih =>
    intro p I l v3 v4 v5 hA hp hpl hb k1
    have hl := okl_len hb.2.2.2
    unfold sBfs at k1
    refine y_iload_n dX5_findOrder_44 rfl ?_
    refine y_aload_n dX5_findOrder_45 rfl ?_
    refine y_getv 5 20 dX5_findOrder_46 rfl rfl hR.1 hb.1 ?_
    refine y_icmpN_ge 138 (p) (l.length) dX5_findOrder_49 (by decide) rfl rfl (by omega) (by omega) (fun c49 => ?_) (fun c49 => ?_)
    · rw [List.getElem?_eq_none (by omega)] at k1
      exact k1 I _ xFo.rf hb
    · obtain ⟨q, hq⟩ : ∃ q, l[p]? = some q := ⟨_, List.getElem?_eq_getElem (by omega)⟩
      have hq2 := hb.2.2.2.2 q (List.mem_of_getElem? hq)
      rw [hq] at k1
      simp only at k1
      refine y_aload_n dX5_findOrder_52 rfl ?_
      refine y_getr 5 21 dX5_findOrder_53 rfl rfl hR.1 (r5_21 hR) ?_
      refine y_iload_n dX5_findOrder_56 rfl ?_
      refine y_ialdN (p) dX5_findOrder_57 (k5_21 hR) rfl (by omega) (by omega) (hb.2.1 p q hq) ?_
      refine y_istore_n dX5_findOrder_58 (by first | (simp; done) | (simp; decide)) (fun x1 e_x1 => ?_)
      subst e_x1
      refine y_iconst (v := nI 0) dX5_findOrder_59 (by decide) ?_
      refine y_istore dX5_findOrder_60 (by first | (simp; done) | (simp; decide)) (fun x2 e_x2 => ?_)
      subst e_x2
      refine kfo_in hR (by omega) (hw q (by omega)) hg _ 0 I l _ hA (Nat.zero_add _) hb (fun I2 x4 v5' f1 b1 => ?_)
      have hl2 := sAdds_len (X := X) (m := q) (gN X q) 0 l
      refine y_iinc dX5_findOrder_132 rfl (fun x3 e_x3 => ?_)
      obtain rfl : x3 = nI (p + 1) := by rw [e_x3]; exact nI_1 (p)
      refine y_goto 44 dX5_findOrder_135 (by decide) ?_
      exact ih (p + 1) I2 _ _ _ _ (f1.pg hA) (by omega) (by omega) b1 (fun I3 ls q1 q2 => k1 I3 ls (f1.tr q1) q2)
theorem kfo_met {d R : Nat} {X : xX} {Q : Option Value → xH → Prop} {K : Nat → Nat × Nat} {P : Nat → Nat → Option Nat} {n s : Nat} (hR : xAt K P R 5) {r : Nat} (hr : r < 12) : ∀ (t i : Nat) (I : Nat → Nat → Int32), i + t = 12 → (∀ q, q < i → I (R + 17) q = bI (decide (q ∈ [r]))) → (∀ I' y, xFo R I I' → (∀ q, q < 12 → I' (R + 17) q = bI (decide (q ∈ [r]))) → xB d 5 cX5_findOrder none false Q 30 [some (.ref R), some (.int (nI r)), some (.int y), none, none, none] [] (K, I', P, n, s)) → xB d 5 cX5_findOrder none false Q 2 [some (.ref R), some (.int (nI r)), some (.int (nI i)), none, none, none] [] (K, I, P, n, s) := by
  intro t
  induction t with
  | zero =>
    intro i I hi hq k1
    refine y_iload_n dX5_findOrder_2 rfl ?_
    refine y_bipush (v := 12) dX5_findOrder_3 (by decide) ?_
    refine y_icmpN_ge 30 (i) (12) dX5_findOrder_5 (by decide) rfl rfl (by omega) (by omega) (fun _ => ?_) (fun c5 => absurd c5 (by omega))
    exact k1 I _ xFo.rf (fun q h => hq q (by omega))
  | succ t ih =>
    intro i I hi hq k1
    refine y_iload_n dX5_findOrder_2 rfl ?_
    refine y_bipush (v := 12) dX5_findOrder_3 (by decide) ?_
    refine y_icmpN_ge 30 (i) (12) dX5_findOrder_5 (by decide) rfl rfl (by omega) (by omega) (fun c5 => absurd c5 (by omega)) (fun _ => ?_)
    refine y_aload_n dX5_findOrder_8 rfl ?_
    refine y_getr 5 22 dX5_findOrder_9 rfl rfl hR.1 (r5_22 hR) ?_
    refine y_iload_n dX5_findOrder_12 rfl ?_
    refine y_iload_n dX5_findOrder_13 rfl ?_
    refine y_iload_n dX5_findOrder_14 rfl ?_
    refine y_icmpN_ne 22 (i) (r) dX5_findOrder_15 (by decide) rfl rfl (by omega) (by omega) (fun c15 => ?_) (fun c15 => ?_)
    · refine y_iconst (v := 0) dX5_findOrder_22 (by decide) ?_
      refine y_bast (i) dX5_findOrder_23 (k5_22 hR) rfl (by omega) (by omega) (by decide) ?_
      refine y_iinc dX5_findOrder_24 rfl (fun x1 e_x1 => ?_)
      obtain rfl : x1 = nI (i + 1) := by rw [e_x1]; exact nI_1 (i)
      refine y_goto 2 dX5_findOrder_27 (by decide) ?_
      refine ih (i + 1) _ (by omega) (fun q h => ?_) (fun I2 y q1 q2 => k1 I2 y ((xFo.u (Or.inr (Or.inl rfl))).tr q1) q2)
      by_cases e : q = i
      · subst e
        rw [xuI_s, decide_eq_false (by simp; omega)]; rfl
      · rw [xuI_o (Or.inr e)]; exact hq q (by omega)
    · refine y_iconst (v := 1) dX5_findOrder_18 (by decide) ?_
      refine y_goto 23 dX5_findOrder_19 (by decide) ?_
      refine y_bast (i) dX5_findOrder_23 (k5_22 hR) rfl (by omega) (by omega) (by decide) ?_
      refine y_iinc dX5_findOrder_24 rfl (fun x2 e_x2 => ?_)
      obtain rfl : x2 = nI (i + 1) := by rw [e_x2]; exact nI_1 (i)
      refine y_goto 2 dX5_findOrder_27 (by decide) ?_
      refine ih (i + 1) _ (by omega) (fun q h => ?_) (fun I2 y q1 q2 => k1 I2 y ((xFo.u (Or.inr (Or.inl rfl))).tr q1) q2)
      by_cases e : q = i
      · subst e
        rw [xuI_s, decide_eq_true (by simp; omega)]; rfl
      · rw [xuI_o (Or.inr e)]; exact hq q (by omega)
theorem kfindOrder {d : Nat} {Pp : Option Value → xH → Prop} {K : Nat → Nat × Nat} {I : Nat → Nat → Int32} {P : Nat → Nat → Option Nat} {n s : Nat} {R r : Nat} {X : xX} (hR : xAt K P R 5) (hA : xPg I R X) (hw : ∀ m, m < 12 → wfM X m) (hg : gC X ≤ 12) (hr : r < gC X) (hp : ∀ I', xFo R I I' → xBF X I' R (sOrd X r) → Pp none (K, I', P, n, s)) : xC d mX5_findOrder [(.ref R), (.int (nI r))] (K, I, P, n, s) Pp := by
  refine y_met 0 0 ?_
  show xB d 5 cX5_findOrder none false (xE n s 0 0 Pp) 0 [some (.ref R), some (.int (nI r)), none, none, none, none] [] (K, I, P, n, s)
  refine y_iconst (v := nI 0) dX5_findOrder_0 (by decide) ?_
  refine y_istore_n dX5_findOrder_1 (by first | (simp; done) | (simp; decide)) (fun x1 e_x1 => ?_)
  subst e_x1
  refine kfo_met (X := X) hR (by omega) 12 0 I rfl (fun q h => absurd h (by omega)) (fun I2 y f1 g1 => ?_)
  refine y_aload_n dX5_findOrder_30 rfl ?_
  refine y_getr 5 21 dX5_findOrder_31 rfl rfl hR.1 (r5_21 hR) ?_
  refine y_iconst (v := nI 0) dX5_findOrder_34 (by decide) ?_
  refine y_iload_n dX5_findOrder_35 rfl ?_
  refine y_iast (0) dX5_findOrder_36 (k5_21 hR) rfl (by omega) (by omega) ?_
  refine y_aload_n dX5_findOrder_37 rfl ?_
  refine y_iconst (v := 1) dX5_findOrder_38 (by decide) ?_
  refine y_puti 5 20 dX5_findOrder_39 rfl rfl rfl hR.1 ?_
  refine y_iconst (v := nI 0) dX5_findOrder_42 (by decide) ?_
  refine y_istore_n dX5_findOrder_43 (by first | (simp; done) | (simp; decide)) (fun x2 e_x2 => ?_)
  subst e_x2
  have f2 : xFo R I (xuI (xuI I2 (R + 16) 0 (nI r)) R 20 1) := f1.tr ((xFo.u (Or.inl rfl)).tr (xFo.u (Or.inr (Or.inr ⟨rfl, rfl⟩))))
  refine kfo_out hR hw hg 12 0 _ [r] _ _ _ (f2.pg hA) rfl (Nat.zero_le _) ⟨by rw [xuI_s]; rfl, fun p q h => ?_, fun q h => ?_, ⟨by simp, fun q h => by rw [List.mem_singleton.mp h]; exact hr⟩⟩ (fun I3 ls q1 q2 => y_retv dX5_findOrder_138 rfl rfl (hp I3 (f2.tr q1) q2))
  · rw [xuI_o (Or.inl (by omega))]
    cases p with
    | zero => simp at h; subst h; exact xuI_s
    | succ p => simp at h
  · rw [xuI_o (Or.inl (by omega)), xuI_o (Or.inl (by omega))]; exact g1 q h
