/-- rows and fields of the reference that may change -/
def xF (R : Nat) (rows flds : List Nat) (I I' : Nat → Nat → Int32) : Prop := ∀ a j, (∀ i ∈ rows, a ≠ R + i) → (a = R → j ∉ flds) → I' a j = I a j
section XF
variable {R : Nat} {rows flds : List Nat} {I I' I2 : Nat → Nat → Int32}
theorem xF.rf : xF R rows flds I I := fun _ _ _ _ => rfl
theorem xF.tr (h : xF R rows flds I I') (h2 : xF R rows flds I' I2) : xF R rows flds I I2 := fun a j p q => (h2 a j p q).trans (h a j p q)
theorem xF.mono {rows' flds' : List Nat} (h : xF R rows flds I I') (hr : ∀ i ∈ rows, i ∈ rows') (hf : ∀ i ∈ flds, i ∈ flds') : xF R rows' flds' I I' := fun a j p q => h a j (fun i hi => p i (hr i hi)) (fun e hj => q e (hf j hj))
theorem xF.u (i : Nat) {j : Nat} {x : Int32} (h : i ∈ rows) : xF R rows flds I (xuI I (R + i) j x) := fun a k p _ => xuI_o (Or.inl (p i h))
theorem xF.f (k : Nat) {x : Int32} (h : k ∈ flds) : xF R rows flds I (xuI I R k x) := fun a j _ q => xuI_o (by
  by_cases e : a = R
  · exact Or.inr (fun ej => q e (ej ▸ h))
  · exact Or.inl e)
theorem xF.row (h : xF R rows flds I I') (i : Nat) (hi : i ∉ rows) (h0 : i ≠ 0) : I' (R + i) = I (R + i) := by
  funext j
  exact h (R + i) j (fun k hk e => hi (by rw [show i = k by omega]; exact hk)) (fun e => absurd e (by omega))
theorem xF.fld (h : xF R rows flds I I') (k : Nat) (hk : k ∉ flds) (h0 : 0 ∉ rows) : I' R k = I R k := h R k (fun i hi e => h0 (by rw [show 0 = i by omega]; exact hi)) (fun _ => hk)
theorem xF.pg {X : xX} (h : xF R rows flds I I') (hA : xPg I R X) (hr : ∀ i ∈ rows, 11 < i) : xPg I' R X := fun i h1 h2 => by
  rw [h.row i (fun hi => absurd (hr i hi) (by omega)) (by omega)]
  exact hA i h1 h2
theorem xFo.F (h : xFo R I I') : xF R [16, 17] [20] I I' := fun a j p q => h a j (p 16 (by decide)) (p 17 (by decide)) (by
  by_cases e : a = R
  · exact Or.inr (fun ej => q e (by rw [ej]; decide))
  · exact Or.inl e)
end XF
theorem xHl_F {R a i : Nat} {rows flds : List Nat} {I I' : Nat → Nat → Int32} {l : List Nat} (h : xHl I (R + i) l) (f : xF R rows flds I I') (hi : i ∉ rows) (h0 : i ≠ 0) : xHl I' (R + i) l := fun p m hp => by rw [f.row i hi h0]; exact h p m hp
/-- the rest of a search in depth: its stack, and what it has met and begun -/
def sRun (X : xX) : List (Nat × Nat) → List Nat × List Nat → List Nat × List Nat
  | [], z => z
  | (m, k) :: r, z => sRun X r ((sLp (sDfs X (11 - r.length)) X m (gN X m - k) k z).1, (sLp (sDfs X (11 - r.length)) X m (gN X m - k) k z).2 ++ [m])
def xSk (I : Nat → Nat → Int32) (R : Nat) : List (Nat × Nat) → Prop
  | [] => True
  | (m, k) :: r => I (R + 18) r.length = nI m ∧ I (R + 19) r.length = nI k ∧ xSk I R r
theorem xSk_put {I : Nat → Nat → Int32} {R a i : Nat} {x : Int32} : ∀ {r : List (Nat × Nat)}, xSk I R r → (r.length ≤ i ∨ (a ≠ R + 18 ∧ a ≠ R + 19)) → xSk (xuI I a i x) R r
  | [], _, _ => trivial
  | (m, k) :: r, h, hi => by
    obtain ⟨h1, h2, h3⟩ := h
    have hi2 : ∀ b, b = R + 18 ∨ b = R + 19 → b ≠ a ∨ r.length ≠ i := fun b hb => by
      rcases hi with z | ⟨z1, z2⟩
      · exact Or.inr (by simp only [List.length_cons] at z; omega)
      · exact Or.inl (by omega)
    refine ⟨by rw [xuI_o (hi2 _ (Or.inl rfl))]; exact h1, by rw [xuI_o (hi2 _ (Or.inr rfl))]; exact h2, xSk_put h3 ?_⟩
    rcases hi with z | z
    · exact Or.inl (by simp only [List.length_cons] at z; omega)
    · exact Or.inr z
/-- the depth search stands here -/
def xDF (X : xX) (I : Nat → Nat → Int32) (R : Nat) (stk : List (Nat × Nat)) (z : List Nat × List Nat) : Prop := xSk I R stk ∧ (∀ q ∈ stk, q.1 < gC X ∧ q.2 ≤ gN X q.1) ∧ (∀ q, q < 12 → I (R + 17) q = bI (decide (q ∈ z.1))) ∧ okl (gC X) z.1 ∧ xHl I (R + 13) z.2 ∧ z.2.length + stk.length = z.1.length
def sMu (X : xX) (stk : List (Nat × Nat)) (z : List Nat × List Nat) : Nat := 8 * (12 - z.1.length) + (stk.map (fun q => gN X q.1 - q.2 + 1)).sum
theorem sDfs_in {X : xX} {f m : Nat} {z : List Nat × List Nat} (h : m ∈ z.1) : sDfs X f m z = z := by
  cases f with
  | zero => rfl
  | succ f => exact if_pos h
theorem sDfs_out {X : xX} {f m : Nat} {z : List Nat × List Nat} (h : m ∉ z.1) : sDfs X (f + 1) m z = ((sLp (sDfs X f) X m (gN X m) 0 (z.1 ++ [m], z.2)).1, (sLp (sDfs X f) X m (gN X m) 0 (z.1 ++ [m], z.2)).2 ++ [m]) := if_neg h
set_option maxHeartbeats 1000000 in
theorem kfb_loop {d R : Nat} {X : xX} {Q : Option Value → xH → Prop} {K : Nat → Nat × Nat} {P : Nat → Nat → Option Nat} {n s : Nat} (hR : xAt K P R 5) (hw : ∀ m, m < 12 → wfM X m) (hg : gC X ≤ 12) : ∀ (T : Nat) (stk : List (Nat × Nat)) (z : List Nat × List Nat) (I : Nat → Nat → Int32) (v3 v4 v5 : Option Value), sMu X stk z < T → xPg I R X → xDF X I R stk z → (∀ I' ls, xF R [13, 17, 18, 19] [] I I' → xHl I' (R + 13) (sRun X stk z).2 → okl (gC X) (sRun X stk z).1 → (sRun X stk z).2.length = (sRun X stk z).1.length → xB d 5 cX5_findBegun none false Q 179 ls [] (K, I', P, n, s)) → xB d 5 cX5_findBegun none false Q 54 [some (.ref R), some (.int (nI z.2.length)), some (.int (nI stk.length)), v3, v4, v5] [] (K, I, P, n, s) := by
  intro T
  induction T with
  | zero =>
    intro stk z I v3 v4 v5 h
    exact absurd h (Nat.not_lt_zero _)
  | succ T ih =>
    intro stk z I v3 v4 v5 hT hA hb k1
    obtain ⟨b1, b2, b3, b4, b5, b6⟩ := hb
    have hzl := okl_len b4
    cases stk with
    | nil =>
      refine y_iload_n dX5_findBegun_54 rfl ?_
      refine y_ifZ_le 179 ((0 : Int)) dX5_findBegun_55 (by decide) (by rfl) (fun _ => ?_) (fun c55 => absurd c55 (by omega))
      exact k1 I _ xF.rf b5 b4 (by simpa [sRun] using b6)
    | cons top r =>
      obtain ⟨m, k⟩ := top
      obtain ⟨b11, b12, b13⟩ := b1
      obtain ⟨hm, hk⟩ := b2 (m, k) List.mem_cons_self
      simp only at hm hk
      obtain ⟨⟨w1, w2⟩, w3, -⟩ := hw m (by omega)
      have hlen : ((m, k) :: r).length = r.length + 1 := rfl
      simp only [List.length_cons] at b6
      unfold sRun at k1
      refine y_iload_n dX5_findBegun_54 rfl ?_
      refine y_ifZ_le 179 (((r.length + 1 : Nat) : Int)) dX5_findBegun_55 (by decide) (nI_toInt (by omega)) (fun c55 => absurd c55 (by omega)) (fun _ => ?_)
      refine y_aload_n dX5_findBegun_58 rfl ?_
      refine y_getr 5 23 dX5_findBegun_59 rfl rfl hR.1 (r5_23 hR) ?_
      refine y_iload_n dX5_findBegun_62 rfl ?_
      refine y_iconst (v := 1) dX5_findBegun_63 (by decide) ?_
      refine y_isubv ((nI r.length)) dX5_findBegun_64 (nI_pred r.length) ?_
      refine y_ialdN (r.length) dX5_findBegun_65 (k5_23 hR) rfl (by omega) (by omega) b11 ?_
      refine y_istore_n dX5_findBegun_66 (by first | (simp; done) | (simp; decide)) (fun x1 e_x1 => ?_)
      subst e_x1
      refine y_aload_n dX5_findBegun_67 rfl ?_
      refine y_getr 5 24 dX5_findBegun_68 rfl rfl hR.1 (r5_24 hR) ?_
      refine y_iload_n dX5_findBegun_71 rfl ?_
      refine y_iconst (v := 1) dX5_findBegun_72 (by decide) ?_
      refine y_isubv ((nI r.length)) dX5_findBegun_73 (nI_pred r.length) ?_
      refine y_ialdN (r.length) dX5_findBegun_74 (k5_24 hR) rfl (by omega) (by omega) b12 ?_
      refine y_istore dX5_findBegun_75 (by first | (simp; done) | (simp; decide)) (fun x2 e_x2 => ?_)
      subst e_x2
      refine y_aload_n dX5_findBegun_77 rfl ?_
      refine y_getr 5 24 dX5_findBegun_78 rfl rfl hR.1 (r5_24 hR) ?_
      refine y_iload_n dX5_findBegun_81 rfl ?_
      refine y_iconst (v := 1) dX5_findBegun_82 (by decide) ?_
      refine y_isubv ((nI r.length)) dX5_findBegun_83 (nI_pred r.length) ?_
      refine y_dup2 dX5_findBegun_84 rfl rfl ?_
      refine y_ialdN (r.length) dX5_findBegun_85 (k5_24 hR) rfl (by omega) (by omega) b12 ?_
      refine y_iconst (v := 1) dX5_findBegun_86 (by decide) ?_
      refine y_iaddv (nI (k + 1)) dX5_findBegun_87 (nI_add (k) (1)) ?_
      refine y_iast (r.length) dX5_findBegun_88 (k5_24 hR) rfl (by omega) (by omega) ?_
      have hf1 : xF R [13, 17, 18, 19] [] I (xuI I (R + 19) r.length (nI (k + 1))) := xF.u 19 (by decide)
      have hA1 := hf1.pg hA (by decide)
      refine y_iload dX5_findBegun_89 rfl ?_
      refine y_aload_n dX5_findBegun_91 rfl ?_
      refine y_getr 5 2 dX5_findBegun_92 rfl rfl hR.1 (r5_2 hR) ?_
      refine y_iload_n dX5_findBegun_95 rfl ?_
      refine y_ialdN (m) dX5_findBegun_96 (k5_2 hR) rfl (by omega) (by omega) ((congrFun (hA1 2 (by decide) (by decide)) m).trans w1) ?_
      refine y_icmpN_ne 116 (k) ((gN X m)) dX5_findBegun_97 (by decide) rfl rfl (by omega) (by omega) (fun c97 => ?_) (fun c97 => ?_)
      · have hk2 : k < gN X m := by omega
        obtain ⟨w4, w5⟩ := w3 k hk2
        rw [show gN X m - k = (gN X m - (k + 1)) + 1 by omega] at k1
        unfold sLp at k1
        have hneed := (congrFun (hA1 1 (by decide) (by decide)) (6 * m + k)).trans w4
        by_cases hin : gD X m k ∈ z.1
        · rw [show sDfs X (11 - r.length) (gD X m k) z = z from sDfs_in hin] at k1
          refine y_aload_n dX5_findBegun_116 rfl ?_
          refine y_getr 5 22 dX5_findBegun_117 rfl rfl hR.1 (r5_22 hR) ?_
          refine y_aload_n dX5_findBegun_120 rfl ?_
          refine y_getr 5 1 dX5_findBegun_121 rfl rfl hR.1 (r5_1 hR) ?_
          refine y_bipush (v := 6) dX5_findBegun_124 (by decide) ?_
          refine y_iload_n dX5_findBegun_126 rfl ?_
          refine y_imulv (nI (6 * m)) dX5_findBegun_127 (pk_mul (6) (m)) ?_
          refine y_iload dX5_findBegun_128 rfl ?_
          refine y_iaddv (nI (((6 * m)) + k)) dX5_findBegun_130 (nI_add ((6 * m)) (k)) ?_
          refine y_ialdN ((((6 * m)) + k)) dX5_findBegun_131 (k5_1 hR) rfl (by omega) (by omega) hneed ?_
          refine y_baldN ((gD X m k)) dX5_findBegun_132 (k5_22 hR) rfl (by omega) (by omega) (show (xuI I (R + 19) r.length (nI (k + 1))) (R + 17) (gD X m k) = 1 by rw [xuI_o (Or.inl (by omega)), b3 _ (by omega), decide_eq_true hin]; rfl) ?_
          refine y_if_ne 176 dX5_findBegun_133 (by decide) (fun _ => ?_) (fun q => absurd q (by decide))
          refine y_goto 54 dX5_findBegun_176 (by decide) ?_
          refine ih ((m, k + 1) :: r) z _ _ _ _ (by simp only [sMu, List.map_cons, List.sum_cons] at hT ⊢; omega) hA1 ⟨⟨by rw [xuI_o (Or.inl (by omega))]; exact b11, xuI_s, xSk_put b13 (Or.inl (Nat.le_refl _))⟩, fun q hq => ?_, fun q hq => ?_, b4, xHl_put b5 (Or.inl (by omega)), b6⟩ (fun I2 ls q1 q2 q3 q4 => k1 I2 ls (hf1.tr q1) q2 q3 q4)
          · rcases List.mem_cons.mp hq with rfl | hq
            · exact ⟨hm, hk2⟩
            · exact b2 q (List.mem_cons_of_mem _ hq)
          · rw [xuI_o (Or.inl (by omega))]; exact b3 q hq
        · have hl := okl_len (okl_add b4 w5 hin)
          rw [List.length_append] at hl
          simp only [List.length_cons, List.length_nil] at hl
          have hdo := sDfs_out (X := X) (f := 11 - (r.length + 1)) hin
          rw [show 11 - (r.length + 1) + 1 = 11 - r.length by omega] at hdo
          rw [hdo] at k1
          refine y_aload_n dX5_findBegun_116 rfl ?_
          refine y_getr 5 22 dX5_findBegun_117 rfl rfl hR.1 (r5_22 hR) ?_
          refine y_aload_n dX5_findBegun_120 rfl ?_
          refine y_getr 5 1 dX5_findBegun_121 rfl rfl hR.1 (r5_1 hR) ?_
          refine y_bipush (v := 6) dX5_findBegun_124 (by decide) ?_
          refine y_iload_n dX5_findBegun_126 rfl ?_
          refine y_imulv (nI (6 * m)) dX5_findBegun_127 (pk_mul (6) (m)) ?_
          refine y_iload dX5_findBegun_128 rfl ?_
          refine y_iaddv (nI (((6 * m)) + k)) dX5_findBegun_130 (nI_add ((6 * m)) (k)) ?_
          refine y_ialdN ((((6 * m)) + k)) dX5_findBegun_131 (k5_1 hR) rfl (by omega) (by omega) hneed ?_
          refine y_baldN ((gD X m k)) dX5_findBegun_132 (k5_22 hR) rfl (by omega) (by omega) (show (xuI I (R + 19) r.length (nI (k + 1))) (R + 17) (gD X m k) = 0 by rw [xuI_o (Or.inl (by omega)), b3 _ (by omega), decide_eq_false hin]; rfl) ?_
          refine y_if_ne 176 dX5_findBegun_133 (by decide) (fun q => absurd q (by decide)) (fun _ => ?_)
          refine y_aload_n dX5_findBegun_136 rfl ?_
          refine y_getr 5 1 dX5_findBegun_137 rfl rfl hR.1 (r5_1 hR) ?_
          refine y_bipush (v := 6) dX5_findBegun_140 (by decide) ?_
          refine y_iload_n dX5_findBegun_142 rfl ?_
          refine y_imulv (nI (6 * m)) dX5_findBegun_143 (pk_mul (6) (m)) ?_
          refine y_iload dX5_findBegun_144 rfl ?_
          refine y_iaddv (nI (((6 * m)) + k)) dX5_findBegun_146 (nI_add ((6 * m)) (k)) ?_
          refine y_ialdN ((((6 * m)) + k)) dX5_findBegun_147 (k5_1 hR) rfl (by omega) (by omega) hneed ?_
          refine y_istore dX5_findBegun_148 (by first | (simp; done) | (simp; decide)) (fun x3 e_x3 => ?_)
          subst e_x3
          refine y_aload_n dX5_findBegun_150 rfl ?_
          refine y_getr 5 22 dX5_findBegun_151 rfl rfl hR.1 (r5_22 hR) ?_
          refine y_iload dX5_findBegun_154 rfl ?_
          refine y_iconst (v := 1) dX5_findBegun_156 (by decide) ?_
          refine y_bast ((gD X m k)) dX5_findBegun_157 (k5_22 hR) rfl (by omega) (by omega) (by decide) ?_
          refine y_aload_n dX5_findBegun_158 rfl ?_
          refine y_getr 5 23 dX5_findBegun_159 rfl rfl hR.1 (r5_23 hR) ?_
          refine y_iload_n dX5_findBegun_162 rfl ?_
          refine y_iload dX5_findBegun_163 rfl ?_
          refine y_iast ((r.length + 1)) dX5_findBegun_165 (k5_23 hR) rfl (by omega) (by omega) ?_
          refine y_aload_n dX5_findBegun_166 rfl ?_
          refine y_getr 5 24 dX5_findBegun_167 rfl rfl hR.1 (r5_24 hR) ?_
          refine y_iload_n dX5_findBegun_170 rfl ?_
          refine y_iconst (v := 0) dX5_findBegun_171 (by decide) ?_
          refine y_iast ((r.length + 1)) dX5_findBegun_172 (k5_24 hR) rfl (by omega) (by omega) ?_
          have hf : xF R [13, 17, 18, 19] [] I (xuI (xuI (xuI (xuI I (R + 19) r.length (nI (k + 1))) (R + 17) (gD X m k) 1) (R + 18) (r.length + 1) (nI (gD X m k))) (R + 19) (r.length + 1) 0) := hf1.tr ((xF.u 17 (by decide)).tr ((xF.u 18 (by decide)).tr (xF.u 19 (by decide))))
          refine y_iinc dX5_findBegun_173 rfl (fun x4 e_x4 => ?_)
          obtain rfl : x4 = nI ((r.length + 1) + 1) := by rw [e_x4]; exact nI_1 ((r.length + 1))
          refine y_goto 54 dX5_findBegun_176 (by decide) ?_
          have hgo := (hw (gD X m k) (by omega)).1.2
          refine ih ((gD X m k, 0) :: (m, k + 1) :: r) (z.1 ++ [gD X m k], z.2) _ _ _ _ (by simp only [sMu, List.map_cons, List.sum_cons, List.length_append, List.length_cons, List.length_nil] at hT ⊢; omega) (hf.pg hA (by decide)) ⟨⟨by rw [xuI_o (Or.inl (by omega))]; exact xuI_s, xuI_s, by rw [xuI_o (Or.inl (by omega)), xuI_o (Or.inr (by simp)), xuI_o (Or.inl (by omega)), xuI_o (Or.inl (by omega))]; exact b11, by rw [xuI_o (Or.inr (by simp)), xuI_o (Or.inl (by omega)), xuI_o (Or.inl (by omega))]; exact xuI_s, xSk_put (xSk_put (xSk_put (xSk_put b13 (Or.inl (Nat.le_refl _))) (Or.inr ⟨by omega, by omega⟩)) (Or.inl (by simp))) (Or.inl (by simp))⟩, fun q hq => ?_, fun q hq => ?_, okl_add b4 w5 hin, xHl_put (xHl_put (xHl_put (xHl_put b5 (Or.inl (by omega))) (Or.inl (by omega))) (Or.inl (by omega))) (Or.inl (by omega)), by simp only [List.length_append, List.length_cons, List.length_nil]; omega⟩ (fun I2 ls q1 q2 q3 q4 => k1 I2 ls (hf.tr q1) q2 q3 q4)
          · rcases List.mem_cons.mp hq with rfl | hq
            · exact ⟨w5, Nat.zero_le _⟩
            · rcases List.mem_cons.mp hq with rfl | hq
              · exact ⟨hm, hk2⟩
              · exact b2 q (List.mem_cons_of_mem _ hq)
          · rw [xuI_o (Or.inl (by omega)), xuI_o (Or.inl (by omega))]
            by_cases e : q = gD X m k
            · subst e
              rw [xuI_s, decide_eq_true (by simp)]; rfl
            · rw [xuI_o (Or.inr e), xuI_o (Or.inl (by omega)), b3 q hq]
              congr 1
              simp [e]
      · refine y_aload_n dX5_findBegun_100 rfl ?_
        refine y_getr 5 17 dX5_findBegun_101 rfl rfl hR.1 (r5_17 hR) ?_
        refine y_iload_n dX5_findBegun_104 rfl ?_
        refine y_iload_n dX5_findBegun_105 rfl ?_
        refine y_iast (z.2.length) dX5_findBegun_106 (k5_17 hR) rfl (by omega) (by omega) ?_
        have hf : xF R [13, 17, 18, 19] [] I (xuI (xuI I (R + 19) r.length (nI (k + 1))) (R + 13) z.2.length (nI m)) := hf1.tr (xF.u 13 (by decide))
        refine y_iinc dX5_findBegun_107 rfl (fun x5 e_x5 => ?_)
        obtain rfl : x5 = nI (z.2.length + 1) := by rw [e_x5]; exact nI_1 (z.2.length)
        refine y_iinc dX5_findBegun_110 rfl (fun y2 e_y2 => ?_)
        refine y_goto 176 dX5_findBegun_113 (by decide) ?_
        refine y_goto 54 dX5_findBegun_176 (by decide) ?_
        obtain rfl : y2 = nI r.length := by rw [e_y2]; exact pk_m1 r.length
        subst c97
        rw [Nat.sub_self] at k1
        have e13 : z.2.length + 1 = (z.2 ++ [m]).length := by simp
        rw [e13]
        refine ih r (z.1, z.2 ++ [m]) _ _ _ _ (by simp only [sMu, List.map_cons, List.sum_cons] at hT ⊢; omega) (hf.pg hA (by decide)) ⟨xSk_put (xSk_put b13 (Or.inl (Nat.le_refl _))) (Or.inr ⟨by omega, by omega⟩), fun q hq => b2 q (List.mem_cons_of_mem _ hq), fun q hq => ?_, b4, ?_, by simp only [List.length_append, List.length_cons, List.length_nil]; omega⟩ (fun I2 ls q1 q2 q3 q4 => k1 I2 ls (hf.tr q1) q2 q3 q4)
        · rw [xuI_o (Or.inl (by omega)), xuI_o (Or.inl (by omega))]; exact b3 q hq
        · exact xHl_add (xHl_put (xHl_put b5 (Or.inl (by omega))) (Or.inr (Nat.le_refl _))) xuI_s
theorem kfb_met {d R : Nat} {Q : Option Value → xH → Prop} {K : Nat → Nat × Nat} {P : Nat → Nat → Option Nat} {n s : Nat} (hR : xAt K P R 5) {r : Nat} (hr : r < 12) : ∀ (t i : Nat) (I : Nat → Nat → Int32), i + t = 12 → I R 14 = nI r → (∀ q, q < i → I (R + 17) q = bI (decide (q ∈ [r]))) → (∀ I' y, xF R [13, 17, 18, 19] [] I I' → (∀ q, q < 12 → I' (R + 17) q = bI (decide (q ∈ [r]))) → xB d 5 cX5_findBegun none false Q 35 [some (.ref R), some (.int (nI 0)), some (.int y), none, none, none] [] (K, I', P, n, s)) → xB d 5 cX5_findBegun none false Q 4 [some (.ref R), some (.int (nI 0)), some (.int (nI i)), none, none, none] [] (K, I, P, n, s) := by
  intro t
  induction t with
  | zero =>
    intro i I hi h14 hq k1
    refine y_iload_n dX5_findBegun_4 rfl ?_
    refine y_bipush (v := 12) dX5_findBegun_5 (by decide) ?_
    refine y_icmpN_ge 35 (i) (12) dX5_findBegun_7 (by decide) rfl rfl (by omega) (by omega) (fun _ => ?_) (fun c7 => absurd c7 (by omega))
    exact k1 I _ xF.rf (fun q h => hq q (by omega))
  | succ t ih =>
    intro i I hi h14 hq k1
    refine y_iload_n dX5_findBegun_4 rfl ?_
    refine y_bipush (v := 12) dX5_findBegun_5 (by decide) ?_
    refine y_icmpN_ge 35 (i) (12) dX5_findBegun_7 (by decide) rfl rfl (by omega) (by omega) (fun c7 => absurd c7 (by omega)) (fun _ => ?_)
    refine y_aload_n dX5_findBegun_10 rfl ?_
    refine y_getr 5 22 dX5_findBegun_11 rfl rfl hR.1 (r5_22 hR) ?_
    refine y_iload_n dX5_findBegun_14 rfl ?_
    refine y_iload_n dX5_findBegun_15 rfl ?_
    refine y_aload_n dX5_findBegun_16 rfl ?_
    refine y_getv 5 14 dX5_findBegun_17 rfl rfl hR.1 h14 ?_
    refine y_icmpN_ne 27 (i) (r) dX5_findBegun_20 (by decide) rfl rfl (by omega) (by omega) (fun c20 => ?_) (fun c20 => ?_)
    · refine y_iconst (v := 0) dX5_findBegun_27 (by decide) ?_
      refine y_bast (i) dX5_findBegun_28 (k5_22 hR) rfl (by omega) (by omega) (by decide) ?_
      refine y_iinc dX5_findBegun_29 rfl (fun x1 e_x1 => ?_)
      obtain rfl : x1 = nI (i + 1) := by rw [e_x1]; exact nI_1 (i)
      refine y_goto 4 dX5_findBegun_32 (by decide) ?_
      refine ih (i + 1) _ (by omega) (by rw [xuI_o (Or.inl (by omega))]; exact h14) (fun q h => ?_) (fun I2 y q1 q2 => k1 I2 y ((xF.u 17 (by decide)).tr q1) q2)
      by_cases e : q = i
      · subst e
        rw [xuI_s, decide_eq_false (by simp; omega)]; rfl
      · rw [xuI_o (Or.inr e)]; exact hq q (by omega)
    · refine y_iconst (v := 1) dX5_findBegun_23 (by decide) ?_
      refine y_goto 28 dX5_findBegun_24 (by decide) ?_
      refine y_bast (i) dX5_findBegun_28 (k5_22 hR) rfl (by omega) (by omega) (by decide) ?_
      refine y_iinc dX5_findBegun_29 rfl (fun x2 e_x2 => ?_)
      obtain rfl : x2 = nI (i + 1) := by rw [e_x2]; exact nI_1 (i)
      refine y_goto 4 dX5_findBegun_32 (by decide) ?_
      refine ih (i + 1) _ (by omega) (by rw [xuI_o (Or.inl (by omega))]; exact h14) (fun q h => ?_) (fun I2 y q1 q2 => k1 I2 y ((xF.u 17 (by decide)).tr q1) q2)
      by_cases e : q = i
      · subst e
        rw [xuI_s, decide_eq_true (by simp; omega)]; rfl
      · rw [xuI_o (Or.inr e)]; exact hq q (by omega)
theorem kfindBegun {d : Nat} {Pp : Option Value → xH → Prop} {K : Nat → Nat × Nat} {I : Nat → Nat → Int32} {P : Nat → Nat → Option Nat} {n s : Nat} {R r : Nat} {X : xX} (hR : xAt K P R 5) (hA : xPg I R X) (hw : ∀ m, m < 12 → wfM X m) (hg : gC X ≤ 12) (hr : r < gC X) (h14 : I R 14 = nI r) (hp : ∀ I', xF R [13, 17, 18, 19] [] I I' → xHl I' (R + 13) (sBeg X r) → okl (gC X) (sDfs X 12 r ([], [])).1 → (sBeg X r).length = (sDfs X 12 r ([], [])).1.length → Pp none (K, I', P, n, s)) : xC d mX5_findBegun [(.ref R)] (K, I, P, n, s) Pp := by
  refine y_met 0 0 ?_
  show xB d 5 cX5_findBegun none false (xE n s 0 0 Pp) 0 [some (.ref R), none, none, none, none, none] [] (K, I, P, n, s)
  refine y_iconst (v := nI 0) dX5_findBegun_0 (by decide) ?_
  refine y_istore_n dX5_findBegun_1 (by first | (simp; done) | (simp; decide)) (fun x1 e_x1 => ?_)
  subst e_x1
  refine y_iconst (v := nI 0) dX5_findBegun_2 (by decide) ?_
  refine y_istore_n dX5_findBegun_3 (by first | (simp; done) | (simp; decide)) (fun x2 e_x2 => ?_)
  subst e_x2
  refine kfb_met hR (by omega) 12 0 I rfl h14 (fun q h => absurd h (by omega)) (fun I2 y f1 g1 => ?_)
  have h14b : I2 R 14 = nI r := (f1.fld 14 (by decide) (by decide)).trans h14
  refine y_iconst (v := nI 1) dX5_findBegun_35 (by decide) ?_
  refine y_istore_n dX5_findBegun_36 (by first | (simp; done) | (simp; decide)) (fun x3 e_x3 => ?_)
  subst e_x3
  refine y_aload_n dX5_findBegun_37 rfl ?_
  refine y_getr 5 23 dX5_findBegun_38 rfl rfl hR.1 (r5_23 hR) ?_
  refine y_iconst (v := nI 0) dX5_findBegun_41 (by decide) ?_
  refine y_aload_n dX5_findBegun_42 rfl ?_
  refine y_getv 5 14 dX5_findBegun_43 rfl rfl hR.1 h14b ?_
  refine y_iast (0) dX5_findBegun_46 (k5_23 hR) rfl (by omega) (by omega) ?_
  refine y_aload_n dX5_findBegun_47 rfl ?_
  refine y_getr 5 24 dX5_findBegun_48 rfl rfl hR.1 (r5_24 hR) ?_
  refine y_iconst (v := nI 0) dX5_findBegun_51 (by decide) ?_
  refine y_iconst (v := 0) dX5_findBegun_52 (by decide) ?_
  refine y_iast (0) dX5_findBegun_53 (k5_24 hR) rfl (by omega) (by omega) ?_
  have f2 : xF R [13, 17, 18, 19] [] I (xuI (xuI I2 (R + 18) 0 (nI r)) (R + 19) 0 0) := f1.tr ((xF.u 18 (by decide)).tr (xF.u 19 (by decide)))
  have e0 : sRun X [(r, 0)] ([r], []) = sDfs X 12 r ([], []) := by rw [sDfs_out (f := 11) (m := r) (z := ([], [])) List.not_mem_nil]; rfl
  refine kfb_loop hR hw hg _ [(r, 0)] ([r], []) _ _ _ _ (Nat.lt_succ_self _) (f2.pg hA (by decide)) ⟨⟨by rw [xuI_o (Or.inl (by omega))]; exact xuI_s, xuI_s, trivial⟩, fun q h => by rw [List.mem_singleton.mp h]; exact ⟨hr, Nat.zero_le _⟩, fun q h => ?_, ⟨by simp, fun q h => by rw [List.mem_singleton.mp h]; exact hr⟩, fun p q h => by simp at h, rfl⟩ (fun I3 ls q1 q2 q3 q4 => ?_)
  · rw [xuI_o (Or.inl (by omega)), xuI_o (Or.inl (by omega))]; exact g1 q h
  · rw [e0] at q2 q3 q4
    exact y_retv dX5_findBegun_179 rfl rfl (hp I3 (f2.tr q1) q2 q3 q4)
