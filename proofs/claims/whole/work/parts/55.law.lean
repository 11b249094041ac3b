/-! the law -/
def xLw (K : Nat → Nat × Nat) (I : Nat → Nat → Int32) (P : Nat → Nat → Option Nat) (n s b o Ls L Lb : Nat) (G X : xX) : Prop := xCl K I P o L Lb G X ∧ xRe I (o + 35) X ∧ xAt K P (o + 35) 5 ∧ K b = (103, Ls) ∧ n = o + 59 + 13 * gC G ∧ s ≤ 20000 + 906 * gC G
theorem bI_inj {a b : Bool} (h : bI a = bI b) : a = b := by
  cases a <;> cases b <;> first | rfl | exact absurd h (by decide)
theorem ls6 {n : Nat} (h : n ≤ 3072) : (nI n - 6).toInt = (n : Int) - 6 := by
  rw [Int32.toInt_sub, nI_toInt (by omega), show (6 : Int32).toInt = 6 from rfl, Int.bmod_eq_of_le (by omega) (by omega)]
set_option maxHeartbeats 4000000 in
theorem klaw_loop {d b o Ls : Nat} {Q : Option Value → xH → Prop} (hb : b < o) (hLs : Ls ≤ 3072) (kend : ∀ (K : Nat → Nat × Nat) (I : Nat → Nat → Int32) (P : Nat → Nat → Option Nat) (n s : Nat) (ls : xL), n ≤ o + 300 → s ≤ 40000 → xB (d + 20) 6 cL_law (some .boolean) false Q 663 ls [] (K, I, P, n, s)) : ∀ (t i : Nat) (K : Nat → Nat × Nat) (I : Nat → Nat → Int32) (P : Nat → Nat → Option Nat) (n s L Lb : Nat) (G X : xX), Ls ≤ i + t → i ≤ 4000 → xLw K I P n s b o Ls L Lb G X → xB (d + 20) 6 cL_law (some .boolean) false Q 18 [some (.ref b), some (.ref o), some (.ref (o + 35)), some (.int (nI i))] [] (K, I, P, n, s) := by
  intro t
  induction t with
  | zero =>
    intro i K I P n s L Lb G X ht hi hlw
    obtain ⟨hcl, hre, hR, hKb, hn, hs⟩ := hlw
    have hg := hcl.2.2.1.2.1
    have hl6 := ls6 hLs
    refine y_iload_n dL_law_18 rfl ?_
    refine y_aload_n dL_law_19 rfl ?_
    refine y_slen dL_law_20 hKb ?_
    refine y_bipush (v := 6) dL_law_21 (by decide) ?_
    refine y_isub dL_law_23 ?_
    refine y_icmpZ_gt 663 ((i : Int)) ((Ls : Int) - 6) dL_law_24 (by decide) (nI_toInt (by omega)) hl6 (fun _ => ?_) (fun c24 => absurd c24 (by omega))
    exact kend _ _ _ _ _ _ (by omega) (by omega)
  | succ t ih =>
    intro i K I P n s L Lb G X ht hi hlw
    obtain ⟨hcl, hre, hR, hKb, hn, hs⟩ := id hlw
    obtain ⟨hT, hC, hW, hM, hU, hV, hFv, hwc, hPr, hSe⟩ := id hcl
    obtain ⟨w0, hg, hw, hZ⟩ := id hW
    have T0 := hT.1
    have hl6 := ls6 hLs
    have hA : xPg I (o + 35) G := fun i i1 i2 => (hre i (by omega)).trans (hPr.2 i i1 i2)
    have re0 : I (o + 35) = X 0 := hre 0 (by decide)
    have hR0 : I (o + 35) 0 = nI (gC G) := by rw [re0]; exact hPr.1.trans w0
    have hLo := hT.2.2.2.2.2.2.2.2.1.2.2.2.2.2
    have hLbo := hT.2.2.2.2.2.2.2.2.2.1.2.2.2.2.2
    have k657 : ∀ (K : Nat → Nat × Nat) (I : Nat → Nat → Int32) (P : Nat → Nat → Option Nat) (n s L Lb : Nat) (G X : xX), i + 6 ≤ Ls → xLw K I P n s b o Ls L Lb G X → xB (d + 20) 6 cL_law (some .boolean) false Q 657 [some (.ref b), some (.ref o), some (.ref (o + 35)), some (.int (nI i))] [] (K, I, P, n, s) := by
      intro K I P n s L Lb G X hi2 hlw
      refine y_iinc dL_law_657 rfl (fun y e_y => ?_)
      obtain rfl : y = nI (i + 6) := by rw [e_y]; exact nI_add i 6
      refine y_goto 18 dL_law_660 (by decide) ?_
      exact ih (i + 6) K I P n s L Lb G X (by omega) (by omega) hlw
    obtain ⟨x1, hx1⟩ : ∃ x, x = I b (i + 1) := ⟨_, rfl⟩
    obtain ⟨x2, hx2⟩ : ∃ x, x = I b (i + 2) := ⟨_, rfl⟩
    obtain ⟨x3, hx3⟩ : ∃ x, x = I b (i + 3) := ⟨_, rfl⟩
    obtain ⟨x4, hx4⟩ : ∃ x, x = I b (i + 4) := ⟨_, rfl⟩
    obtain ⟨x5, hx5⟩ : ∃ x, x = I b (i + 5) := ⟨_, rfl⟩
    obtain ⟨xo, hxo⟩ : ∃ x, x = I b i &&& 31 := ⟨_, rfl⟩
    refine y_iload_n dL_law_18 rfl ?_
    refine y_aload_n dL_law_19 rfl ?_
    refine y_slen dL_law_20 hKb ?_
    refine y_bipush (v := 6) dL_law_21 (by decide) ?_
    refine y_isub dL_law_23 ?_
    refine y_icmpZ_gt 663 ((i : Int)) ((Ls : Int) - 6) dL_law_24 (by decide) (nI_toInt (by omega)) hl6 (fun c24 => ?_) (fun c24 => ?_)
    · exact kend _ _ _ _ _ _ (by omega) (by omega)
    · refine y_aload_n dL_law_27 rfl ?_
      refine y_iload_n dL_law_28 rfl ?_
      refine y_saldN (i) dL_law_29 hKb rfl (by omega) (by omega) rfl ?_
      refine y_bipush (v := 31) dL_law_30 (by decide) ?_
      refine y_iand dL_law_32 ?_
      rw [← hxo]
      refine y_tsw dL_law_33 (fun c33 => ⟨657, by decide, ?_⟩) (fun c33a c33b => ?_)
      · exact k657 K I P n s L Lb G X (by omega) hlw
      · have c33c : xo.toInt = 0 ∨ xo.toInt = 1 ∨ xo.toInt = 2 ∨ xo.toInt = 3 ∨ xo.toInt = 4 ∨ xo.toInt = 5 ∨ xo.toInt = 6 ∨ xo.toInt = 7 ∨ xo.toInt = 8 ∨ xo.toInt = 9 ∨ xo.toInt = 10 ∨ xo.toInt = 11 ∨ xo.toInt = 12 ∨ xo.toInt = 13 ∨ xo.toInt = 14 ∨ xo.toInt = 15 ∨ xo.toInt = 16 := by omega
        rcases c33c with e33 | e33 | e33 | e33 | e33 | e33 | e33 | e33 | e33 | e33 | e33 | e33 | e33 | e33 | e33 | e33 | e33
        · refine ⟨83, 116, by rw [e33]; rfl, by decide, ?_⟩
          clear e33 hxo
          by_cases hg12 : gC G = 12
          · refine y_aload_n dL_law_116 rfl ?_
            refine y_callV0 mX4_module dL_law_117 rfl rfl (And.intro T0 trivial).1 (Nat.le_of_ble_eq_true rfl) (knmodule0 (d := d + 17) hT hC hg12 ?_)
            refine y_aload_n dL_law_120 rfl ?_
            refine y_callV0 mX5_module dL_law_121 rfl rfl hR.1 (Nat.le_of_ble_eq_true rfl) (krmodule (d := d + 19) hR hA hw hR0 hg (fun _ => ?_) (fun c => absurd c (by omega)))
            refine y_icmp_eq 657 dL_law_124 (by decide) (fun _ => ?_) (fun q => absurd q (by decide))
            exact k657 K I P n s L Lb G X (by omega) hlw
          · subst hn
            refine y_aload_n dL_law_116 rfl ?_
            refine y_callV0 mX4_module dL_law_117 rfl rfl (And.intro T0 trivial).1 (Nat.le_of_ble_eq_true rfl) (knmodule (d := d + 17) hT hC (by omega) (fun K1 I1 P1 fK fI i1 fP pk pc ha f1 f5 f8 f13 g2 g11 g5 g6 => ?_))
            · have hR1 : xAt K1 P1 (o + 35) 5 := hR.fr (by decide) (fun a h1 h2 => fK a (by simp only [xSp] at h2; omega)) (fP _ (by omega) (by omega))
              have hbI : I1 b = I b := fI b (by omega) (by omega)
              have hA1 : xPg I1 (o + 35) G := fun i i1 i2 => by rw [fI _ (by omega) (by omega)]; exact hA i i1 i2
              have hre1 : xRe I1 (o + 35) X := hre.fr (fun a a1 a2 => fI a (by omega) (by omega))
              have hR01 : I1 (o + 35) 0 = nI (gC G) := by rw [fI (o + 35) (by omega) (by omega)]; exact hR0
              refine y_aload_n dL_law_120 rfl ?_
              refine y_callV0 mX5_module dL_law_121 rfl rfl hR1.1 (Nat.le_of_ble_eq_true rfl) (krmodule (d := d + 19) hR1 hA1 hw hR01 hg (fun c => absurd c (by omega)) (fun _ => ?_))
              refine y_icmp_eq 657 dL_law_124 (by decide) (fun _ => ?_) (fun c124 => absurd (rfl) c124)
              obtain ⟨q1, q2⟩ := xCl.mod (G' := xuI (xuI G 11 (gC G) (-1)) 0 0 (nI (gC G + 1))) (X' := xuI (xuI X 11 (gC G) (-1)) 0 0 (nI (gC G + 1))) hcl rfl (by omega) fK fI i1 fP pk pc ha f1 f5 f8 f13 g2 g11 g5 g6 rfl rfl
              have q3 := q2.fr (I' := (xuI (xuI I1 (o + 35 + 11) (gC G) (-1)) (o + 35) 0 (nI (gC G + 1)))) (fun a ha => by rw [xuI_ne (by omega), xuI_ne (by omega)])
              exact k657 _ _ _ _ _ L Lb _ _ (by omega) ⟨q3, (hre1.u).f, hR1, by rw [fK _ (by omega)]; exact hKb, by rw [q1]; omega, by rw [q1]; omega⟩
        · refine ⟨96, 129, by rw [e33]; rfl, by decide, ?_⟩
          clear e33 hxo
          refine y_aload_n dL_law_129 rfl ?_
          refine y_aload_n dL_law_130 rfl ?_
          refine y_iload_n dL_law_131 rfl ?_
          refine y_iconst (v := 1) dL_law_132 (by decide) ?_
          refine y_iaddv (nI (i + 1)) dL_law_133 (nI_add (i) (1)) ?_
          refine y_saldN ((i + 1)) dL_law_134 hKb rfl (by omega) (by omega) hx1.symm ?_
          refine y_aload_n dL_law_135 rfl ?_
          refine y_iload_n dL_law_136 rfl ?_
          refine y_iconst (v := 2) dL_law_137 (by decide) ?_
          refine y_iaddv (nI (i + 2)) dL_law_138 (nI_add (i) (2)) ?_
          refine y_saldN ((i + 2)) dL_law_139 hKb rfl (by omega) (by omega) hx2.symm ?_
          refine y_callV2 mX4_need dL_law_140 rfl rfl (And.intro T0 trivial).1 (Nat.le_of_ble_eq_true rfl) (knneed (d := d + 17) hT hw hC hM (fun c1 => ?_) (fun m x I1 g f1 f2 f4 => ?_))
          · refine y_aload_n dL_law_143 rfl ?_
            refine y_aload_n dL_law_144 rfl ?_
            refine y_iload_n dL_law_145 rfl ?_
            refine y_iconst (v := 1) dL_law_146 (by decide) ?_
            refine y_iaddv (nI (i + 1)) dL_law_147 (nI_add (i) (1)) ?_
            refine y_saldN ((i + 1)) dL_law_148 hKb rfl (by omega) (by omega) hx1.symm ?_
            refine y_aload_n dL_law_149 rfl ?_
            refine y_iload_n dL_law_150 rfl ?_
            refine y_iconst (v := 2) dL_law_151 (by decide) ?_
            refine y_iaddv (nI (i + 2)) dL_law_152 (nI_add (i) (2)) ?_
            refine y_saldN ((i + 2)) dL_law_153 hKb rfl (by omega) (by omega) hx2.symm ?_
            refine y_callV2 mX5_need dL_law_154 rfl rfl hR.1 (Nat.le_of_ble_eq_true rfl) (krneed (d := d + 18) hR hA hw hR0 hg (fun _ => ?_) (fun m x g => absurd g (c1 m x)))
            refine y_icmp_eq 657 dL_law_157 (by decide) (fun _ => ?_) (fun q => absurd q (by decide))
            exact k657 K I P n s L Lb G X (by omega) hlw
          · have hm := g.1
            have hx := g.2.2.1
            have fJ : ∀ a, a < o + 59 → (xuI (xuI I (o + 59 + 13 * m + 1) (gN G m) (nI x)) (o + 59 + 13 * m) 1 (nI (gN G m + 1))) a = I a := fun a h => by rw [xuI_ne (by omega), xuI_ne (by omega)]
            have hbI : I1 b = I b := (f1 b (by omega)).trans (fJ b (by omega))
            have hA1 : xPg I1 (o + 35) G := fun i i1 i2 => by rw [(f1 _ (by omega)).trans (fJ _ (by omega))]; exact hA i i1 i2
            have hre1 : xRe I1 (o + 35) X := hre.fr (fun a a1 a2 => (f1 a (by omega)).trans (fJ a (by omega)))
            have hR01 : I1 (o + 35) 0 = nI (gC G) := by rw [(f1 (o + 35) (by omega)).trans (fJ (o + 35) (by omega))]; exact hR0
            refine y_aload_n dL_law_143 rfl ?_
            refine y_aload_n dL_law_144 rfl ?_
            refine y_iload_n dL_law_145 rfl ?_
            refine y_iconst (v := 1) dL_law_146 (by decide) ?_
            refine y_iaddv (nI (i + 1)) dL_law_147 (nI_add (i) (1)) ?_
            refine y_saldN ((i + 1)) dL_law_148 hKb rfl (by omega) (by omega) ((congrFun hbI (i + 1)).trans hx1.symm) ?_
            refine y_aload_n dL_law_149 rfl ?_
            refine y_iload_n dL_law_150 rfl ?_
            refine y_iconst (v := 2) dL_law_151 (by decide) ?_
            refine y_iaddv (nI (i + 2)) dL_law_152 (nI_add (i) (2)) ?_
            refine y_saldN ((i + 2)) dL_law_153 hKb rfl (by omega) (by omega) ((congrFun hbI (i + 2)).trans hx2.symm) ?_
            refine y_callV2 mX5_need dL_law_154 rfl rfl hR.1 (Nat.le_of_ble_eq_true rfl) (krneed (d := d + 18) hR hA1 hw hR01 hg (fun c => absurd g (c m x)) (fun m2 y2 g2 => ?_))
            obtain rfl : m2 = m := nI_inj (by have := g2.1; omega) (by omega) (g2.2.1.symm.trans g.2.1)
            obtain rfl : y2 = x := nI_inj (by have := g2.2.2.1; omega) (by omega) (g2.2.2.2.1.symm.trans g.2.2.2.1)
            refine y_icmp_eq 657 dL_law_157 (by decide) (fun _ => ?_) (fun c157 => absurd (rfl) c157)
            obtain ⟨q1, q3, q2, q4⟩ := mut_need hM hW hU hm hx g.2.2.2.2.1 rfl rfl
            have hcl2 := xCl.mut (X' := (xuI (xuI (xuI X 1 (6 * m2 + gN G m2) (nI y2)) 2 m2 (nI (gN G m2 + 1))) 0 12 0)) hcl fJ f1 f2 f4 q1 q2 q3 q4 (fun k hk => by rw [xuI_o (Or.inr hk), xuI_ne (by decide), xuI_ne (by decide)]) xuI_s (fun i hi => by rw [xuI_ne (by omega), xuI_ne (by omega), xuI_ne (by omega)]) (((hPr.u (by decide)).u (by decide)).z (by decide))
            have hcl3 := hcl2.fr (I' := (xuI (xuI (xuI I1 (o + 35 + 1) (6 * m2 + gN G m2) (nI y2)) (o + 35 + 2) m2 (nI (gN G m2 + 1))) (o + 35) 12 0)) (fun a ha => by rw [xuI_ne (by omega), xuI_ne (by omega), xuI_ne (by omega)])
            exact k657 _ _ _ _ _ L Lb _ _ (by omega) ⟨hcl3, (((hre1.u).u)).f, hR, hKb, by rw [q1]; exact hn, by rw [q1]; exact hs⟩
        · refine ⟨129, 162, by rw [e33]; rfl, by decide, ?_⟩
          clear e33 hxo
          refine y_aload_n dL_law_162 rfl ?_
          refine y_aload_n dL_law_163 rfl ?_
          refine y_iload_n dL_law_164 rfl ?_
          refine y_iconst (v := 1) dL_law_165 (by decide) ?_
          refine y_iaddv (nI (i + 1)) dL_law_166 (nI_add (i) (1)) ?_
          refine y_saldN ((i + 1)) dL_law_167 hKb rfl (by omega) (by omega) hx1.symm ?_
          refine y_aload_n dL_law_168 rfl ?_
          refine y_iload_n dL_law_169 rfl ?_
          refine y_iconst (v := 2) dL_law_170 (by decide) ?_
          refine y_iaddv (nI (i + 2)) dL_law_171 (nI_add (i) (2)) ?_
          refine y_saldN ((i + 2)) dL_law_172 hKb rfl (by omega) (by omega) hx2.symm ?_
          refine y_aload_n dL_law_173 rfl ?_
          refine y_iload_n dL_law_174 rfl ?_
          refine y_iconst (v := 3) dL_law_175 (by decide) ?_
          refine y_iaddv (nI (i + 3)) dL_law_176 (nI_add (i) (3)) ?_
          refine y_saldN ((i + 3)) dL_law_177 hKb rfl (by omega) (by omega) hx3.symm ?_
          refine y_aload_n dL_law_178 rfl ?_
          refine y_iload_n dL_law_179 rfl ?_
          refine y_iconst (v := 4) dL_law_180 (by decide) ?_
          refine y_iaddv (nI (i + 4)) dL_law_181 (nI_add (i) (4)) ?_
          refine y_saldN ((i + 4)) dL_law_182 hKb rfl (by omega) (by omega) hx4.symm ?_
          refine y_aload_n dL_law_183 rfl ?_
          refine y_iload_n dL_law_184 rfl ?_
          refine y_iconst (v := 5) dL_law_185 (by decide) ?_
          refine y_iaddv (nI (i + 5)) dL_law_186 (nI_add (i) (5)) ?_
          refine y_saldN ((i + 5)) dL_law_187 hKb rfl (by omega) (by omega) hx5.symm ?_
          refine y_callV5 mX4_define dL_law_188 rfl rfl (And.intro T0 trivial).1 (Nat.le_of_ble_eq_true rfl) (kndefine (d := d + 17) hT hw hC hM (fun c1 => ?_) (fun m v I1 g e3 f1 f2 f4 => ?_) (fun m v t9 I1 g e3 ht9 e4 f1 f2 f4 => ?_))
          · refine y_aload_n dL_law_191 rfl ?_
            refine y_aload_n dL_law_192 rfl ?_
            refine y_iload_n dL_law_193 rfl ?_
            refine y_iconst (v := 1) dL_law_194 (by decide) ?_
            refine y_iaddv (nI (i + 1)) dL_law_195 (nI_add (i) (1)) ?_
            refine y_saldN ((i + 1)) dL_law_196 hKb rfl (by omega) (by omega) hx1.symm ?_
            refine y_aload_n dL_law_197 rfl ?_
            refine y_iload_n dL_law_198 rfl ?_
            refine y_iconst (v := 2) dL_law_199 (by decide) ?_
            refine y_iaddv (nI (i + 2)) dL_law_200 (nI_add (i) (2)) ?_
            refine y_saldN ((i + 2)) dL_law_201 hKb rfl (by omega) (by omega) hx2.symm ?_
            refine y_aload_n dL_law_202 rfl ?_
            refine y_iload_n dL_law_203 rfl ?_
            refine y_iconst (v := 3) dL_law_204 (by decide) ?_
            refine y_iaddv (nI (i + 3)) dL_law_205 (nI_add (i) (3)) ?_
            refine y_saldN ((i + 3)) dL_law_206 hKb rfl (by omega) (by omega) hx3.symm ?_
            refine y_aload_n dL_law_207 rfl ?_
            refine y_iload_n dL_law_208 rfl ?_
            refine y_iconst (v := 4) dL_law_209 (by decide) ?_
            refine y_iaddv (nI (i + 4)) dL_law_210 (nI_add (i) (4)) ?_
            refine y_saldN ((i + 4)) dL_law_211 hKb rfl (by omega) (by omega) hx4.symm ?_
            refine y_aload_n dL_law_212 rfl ?_
            refine y_iload_n dL_law_213 rfl ?_
            refine y_iconst (v := 5) dL_law_214 (by decide) ?_
            refine y_iaddv (nI (i + 5)) dL_law_215 (nI_add (i) (5)) ?_
            refine y_saldN ((i + 5)) dL_law_216 hKb rfl (by omega) (by omega) hx5.symm ?_
            refine y_callV5 mX5_define dL_law_217 rfl rfl hR.1 (Nat.le_of_ble_eq_true rfl) (krdefine (d := d + 18) hR hA hw hR0 hg (fun _ => ?_) (fun m v g => absurd g (c1 m v)))
            refine y_icmp_eq 657 dL_law_220 (by decide) (fun _ => ?_) (fun q => absurd q (by decide))
            exact k657 K I P n s L Lb G X (by omega) hlw
          · have hm := g.1
            have hv := g.2.2.1
            have fJ : ∀ a, a < o + 59 → (xuI (xuI (xuI (xuI I (o + 59 + 13 * m + 2) v x3) (o + 59 + 13 * m + 3) v x4) (o + 59 + 13 * m + 4) v x5) (o + 59 + 13 * m) 5 (nI (gF G m + 1))) a = I a := fun a h => by rw [xuI_ne (by omega), xuI_ne (by omega), xuI_ne (by omega), xuI_ne (by omega)]
            have hbI : I1 b = I b := (f1 b (by omega)).trans (fJ b (by omega))
            have hA1 : xPg I1 (o + 35) G := fun i i1 i2 => by rw [(f1 _ (by omega)).trans (fJ _ (by omega))]; exact hA i i1 i2
            have hre1 : xRe I1 (o + 35) X := hre.fr (fun a a1 a2 => (f1 a (by omega)).trans (fJ a (by omega)))
            have hR01 : I1 (o + 35) 0 = nI (gC G) := by rw [(f1 (o + 35) (by omega)).trans (fJ (o + 35) (by omega))]; exact hR0
            refine y_aload_n dL_law_191 rfl ?_
            refine y_aload_n dL_law_192 rfl ?_
            refine y_iload_n dL_law_193 rfl ?_
            refine y_iconst (v := 1) dL_law_194 (by decide) ?_
            refine y_iaddv (nI (i + 1)) dL_law_195 (nI_add (i) (1)) ?_
            refine y_saldN ((i + 1)) dL_law_196 hKb rfl (by omega) (by omega) ((congrFun hbI (i + 1)).trans hx1.symm) ?_
            refine y_aload_n dL_law_197 rfl ?_
            refine y_iload_n dL_law_198 rfl ?_
            refine y_iconst (v := 2) dL_law_199 (by decide) ?_
            refine y_iaddv (nI (i + 2)) dL_law_200 (nI_add (i) (2)) ?_
            refine y_saldN ((i + 2)) dL_law_201 hKb rfl (by omega) (by omega) ((congrFun hbI (i + 2)).trans hx2.symm) ?_
            refine y_aload_n dL_law_202 rfl ?_
            refine y_iload_n dL_law_203 rfl ?_
            refine y_iconst (v := 3) dL_law_204 (by decide) ?_
            refine y_iaddv (nI (i + 3)) dL_law_205 (nI_add (i) (3)) ?_
            refine y_saldN ((i + 3)) dL_law_206 hKb rfl (by omega) (by omega) ((congrFun hbI (i + 3)).trans hx3.symm) ?_
            refine y_aload_n dL_law_207 rfl ?_
            refine y_iload_n dL_law_208 rfl ?_
            refine y_iconst (v := 4) dL_law_209 (by decide) ?_
            refine y_iaddv (nI (i + 4)) dL_law_210 (nI_add (i) (4)) ?_
            refine y_saldN ((i + 4)) dL_law_211 hKb rfl (by omega) (by omega) ((congrFun hbI (i + 4)).trans hx4.symm) ?_
            refine y_aload_n dL_law_212 rfl ?_
            refine y_iload_n dL_law_213 rfl ?_
            refine y_iconst (v := 5) dL_law_214 (by decide) ?_
            refine y_iaddv (nI (i + 5)) dL_law_215 (nI_add (i) (5)) ?_
            refine y_saldN ((i + 5)) dL_law_216 hKb rfl (by omega) (by omega) ((congrFun hbI (i + 5)).trans hx5.symm) ?_
            refine y_callV5 mX5_define dL_law_217 rfl rfl hR.1 (Nat.le_of_ble_eq_true rfl) (krdefine (d := d + 18) hR hA1 hw hR01 hg (fun c => absurd g (c m v)) (fun m2 v2 g2 => ?_))
            obtain rfl : m2 = m := nI_inj (by have := g2.1; omega) (by omega) (g2.2.1.symm.trans g.2.1)
            obtain rfl : v2 = v := nI_inj (by have := g2.2.2.1; omega) (by omega) (g2.2.2.2.1.symm.trans g.2.2.2.1)
            refine y_icmp_eq 657 dL_law_220 (by decide) (fun _ => ?_) (fun c220 => absurd (rfl) c220)
            obtain ⟨q1, q3, q2, q4⟩ := mut_def (J := (xuI (xuI (xuI (xuI I (o + 59 + 13 * m2 + 2) v2 x3) (o + 59 + 13 * m2 + 3) v2 x4) (o + 59 + 13 * m2 + 4) v2 x5) (o + 59 + 13 * m2) 5 (nI (gF G m2 + 1)))) hM hW hU hm hv g.2.2.2.2.1 g.2.2.2.2.2.1 (by have := g.2.2.2.2.2.2.2.1; rw [g.2.2.2.1] at this; exact this) g.2.2.2.2.2.2.2.2 (fun a h1 h2 => by rw [xuI_ne h1, xuI_ne (by omega), xuI_ne (by omega), xuI_ne (by omega)]) (fun k hk => by rw [xuI_o (Or.inr hk), xuI_ne (by omega), xuI_ne (by omega), xuI_ne (by omega)]) xuI_s (fun i v3 i1 i2 hv3 => by rw [xuI_ne (by omega), xuI_o (Or.inr hv3), xuI_o (Or.inr hv3), xuI_o (Or.inr hv3)]) (by rw [xuI_ne (by omega), xuI_ne (by omega), xuI_ne (by omega), xuI_s]) (by rw [xuI_ne (by omega), xuI_ne (by omega), xuI_s]) (by rw [xuI_ne (by omega), xuI_s]) (fun t0 _ c1 _ => absurd (c1.symm.trans e3) (by decide)) (fun t0 _ => by rw [xuI_ne (by omega), xuI_ne (by omega), xuI_ne (by omega), xuI_ne (by omega)]) rfl
            have hcl2 := xCl.mut (X' := (xuI (xuI (xuI (xuI (xuI (xuI X 3 (20 * m2 + gF G m2) (nI v2)) 4 (20 * m2 + gF G m2) x3) 5 (20 * m2 + gF G m2) x4) 6 (20 * m2 + gF G m2) x5) 7 m2 (nI (gF G m2 + 1))) 0 12 0)) hcl fJ f1 f2 f4 q1 q2 q3 q4 (fun k hk => by rw [xuI_o (Or.inr hk), xuI_ne (by decide), xuI_ne (by decide), xuI_ne (by decide), xuI_ne (by decide), xuI_ne (by decide)]) xuI_s (fun i hi => by rw [xuI_ne (by omega), xuI_ne (by omega), xuI_ne (by omega), xuI_ne (by omega), xuI_ne (by omega), xuI_ne (by omega)]) ((((((hPr.u (by decide)).u (by decide)).u (by decide)).u (by decide)).u (by decide)).z (by decide))
            have hcl3 := hcl2.fr (I' := (xuI (xuI (xuI (xuI (xuI (xuI I1 (o + 35 + 3) (20 * m2 + gF G m2) (nI v2)) (o + 35 + 4) (20 * m2 + gF G m2) x3) (o + 35 + 5) (20 * m2 + gF G m2) x4) (o + 35 + 6) (20 * m2 + gF G m2) x5) (o + 35 + 7) m2 (nI (gF G m2 + 1))) (o + 35) 12 0)) (fun a ha => by rw [xuI_ne (by omega), xuI_ne (by omega), xuI_ne (by omega), xuI_ne (by omega), xuI_ne (by omega), xuI_ne (by omega)])
            exact k657 _ _ _ _ _ L Lb _ _ (by omega) ⟨hcl3, ((((((hre1.u).u).u).u).u)).f, hR, hKb, by rw [q1]; exact hn, by rw [q1]; exact hs⟩
          · have hm := g.1
            have hv := g.2.2.1
            have fJ : ∀ a, a < o + 59 → (xuI (xuI (xuI (xuI (xuI I (o + 59 + 13 * m + 2) v x3) (o + 59 + 13 * m + 3) v x4) (o + 59 + 13 * m + 4) v x5) (o + 59 + 13 * m + 5) t9 1) (o + 59 + 13 * m) 5 (nI (gF G m + 1))) a = I a := fun a h => by rw [xuI_ne (by omega), xuI_ne (by omega), xuI_ne (by omega), xuI_ne (by omega), xuI_ne (by omega)]
            have hbI : I1 b = I b := (f1 b (by omega)).trans (fJ b (by omega))
            have hA1 : xPg I1 (o + 35) G := fun i i1 i2 => by rw [(f1 _ (by omega)).trans (fJ _ (by omega))]; exact hA i i1 i2
            have hre1 : xRe I1 (o + 35) X := hre.fr (fun a a1 a2 => (f1 a (by omega)).trans (fJ a (by omega)))
            have hR01 : I1 (o + 35) 0 = nI (gC G) := by rw [(f1 (o + 35) (by omega)).trans (fJ (o + 35) (by omega))]; exact hR0
            refine y_aload_n dL_law_191 rfl ?_
            refine y_aload_n dL_law_192 rfl ?_
            refine y_iload_n dL_law_193 rfl ?_
            refine y_iconst (v := 1) dL_law_194 (by decide) ?_
            refine y_iaddv (nI (i + 1)) dL_law_195 (nI_add (i) (1)) ?_
            refine y_saldN ((i + 1)) dL_law_196 hKb rfl (by omega) (by omega) ((congrFun hbI (i + 1)).trans hx1.symm) ?_
            refine y_aload_n dL_law_197 rfl ?_
            refine y_iload_n dL_law_198 rfl ?_
            refine y_iconst (v := 2) dL_law_199 (by decide) ?_
            refine y_iaddv (nI (i + 2)) dL_law_200 (nI_add (i) (2)) ?_
            refine y_saldN ((i + 2)) dL_law_201 hKb rfl (by omega) (by omega) ((congrFun hbI (i + 2)).trans hx2.symm) ?_
            refine y_aload_n dL_law_202 rfl ?_
            refine y_iload_n dL_law_203 rfl ?_
            refine y_iconst (v := 3) dL_law_204 (by decide) ?_
            refine y_iaddv (nI (i + 3)) dL_law_205 (nI_add (i) (3)) ?_
            refine y_saldN ((i + 3)) dL_law_206 hKb rfl (by omega) (by omega) ((congrFun hbI (i + 3)).trans hx3.symm) ?_
            refine y_aload_n dL_law_207 rfl ?_
            refine y_iload_n dL_law_208 rfl ?_
            refine y_iconst (v := 4) dL_law_209 (by decide) ?_
            refine y_iaddv (nI (i + 4)) dL_law_210 (nI_add (i) (4)) ?_
            refine y_saldN ((i + 4)) dL_law_211 hKb rfl (by omega) (by omega) ((congrFun hbI (i + 4)).trans hx4.symm) ?_
            refine y_aload_n dL_law_212 rfl ?_
            refine y_iload_n dL_law_213 rfl ?_
            refine y_iconst (v := 5) dL_law_214 (by decide) ?_
            refine y_iaddv (nI (i + 5)) dL_law_215 (nI_add (i) (5)) ?_
            refine y_saldN ((i + 5)) dL_law_216 hKb rfl (by omega) (by omega) ((congrFun hbI (i + 5)).trans hx5.symm) ?_
            refine y_callV5 mX5_define dL_law_217 rfl rfl hR.1 (Nat.le_of_ble_eq_true rfl) (krdefine (d := d + 18) hR hA1 hw hR01 hg (fun c => absurd g (c m v)) (fun m2 v2 g2 => ?_))
            obtain rfl : m2 = m := nI_inj (by have := g2.1; omega) (by omega) (g2.2.1.symm.trans g.2.1)
            obtain rfl : v2 = v := nI_inj (by have := g2.2.2.1; omega) (by omega) (g2.2.2.2.1.symm.trans g.2.2.2.1)
            refine y_icmp_eq 657 dL_law_220 (by decide) (fun _ => ?_) (fun c220 => absurd (rfl) c220)
            obtain ⟨q1, q3, q2, q4⟩ := mut_def (J := (xuI (xuI (xuI (xuI (xuI I (o + 59 + 13 * m2 + 2) v2 x3) (o + 59 + 13 * m2 + 3) v2 x4) (o + 59 + 13 * m2 + 4) v2 x5) (o + 59 + 13 * m2 + 5) t9 1) (o + 59 + 13 * m2) 5 (nI (gF G m2 + 1)))) hM hW hU hm hv g.2.2.2.2.1 g.2.2.2.2.2.1 (by have := g.2.2.2.2.2.2.2.1; rw [g.2.2.2.1] at this; exact this) g.2.2.2.2.2.2.2.2 (fun a h1 h2 => by rw [xuI_ne h1, xuI_ne (by omega), xuI_ne (by omega), xuI_ne (by omega), xuI_ne (by omega)]) (fun k hk => by rw [xuI_o (Or.inr hk), xuI_ne (by omega), xuI_ne (by omega), xuI_ne (by omega), xuI_ne (by omega)]) xuI_s (fun i v3 i1 i2 hv3 => by rw [xuI_ne (by omega), xuI_ne (by omega), xuI_o (Or.inr hv3), xuI_o (Or.inr hv3), xuI_o (Or.inr hv3)]) (by rw [xuI_ne (by omega), xuI_ne (by omega), xuI_ne (by omega), xuI_ne (by omega), xuI_s]) (by rw [xuI_ne (by omega), xuI_ne (by omega), xuI_ne (by omega), xuI_s]) (by rw [xuI_ne (by omega), xuI_ne (by omega), xuI_s]) (fun t0 ht0 c1 c2 => by rw [xuI_ne (by omega), nI_inj (by omega) (by omega) (c2.symm.trans e4), xuI_s]) (fun t0 c => by rw [xuI_ne (by omega), xuI_o (Or.inr (fun e => c.elim (fun c => absurd (c.symm.trans e3) (by decide)) (fun c => c (by rw [e]; exact e4)))), xuI_ne (by omega), xuI_ne (by omega), xuI_ne (by omega)]) rfl
            have hcl2 := xCl.mut (X' := (xuI (xuI (xuI (xuI (xuI (xuI X 3 (20 * m2 + gF G m2) (nI v2)) 4 (20 * m2 + gF G m2) x3) 5 (20 * m2 + gF G m2) x4) 6 (20 * m2 + gF G m2) x5) 7 m2 (nI (gF G m2 + 1))) 0 12 0)) hcl fJ f1 f2 f4 q1 q2 q3 q4 (fun k hk => by rw [xuI_o (Or.inr hk), xuI_ne (by decide), xuI_ne (by decide), xuI_ne (by decide), xuI_ne (by decide), xuI_ne (by decide)]) xuI_s (fun i hi => by rw [xuI_ne (by omega), xuI_ne (by omega), xuI_ne (by omega), xuI_ne (by omega), xuI_ne (by omega), xuI_ne (by omega)]) ((((((hPr.u (by decide)).u (by decide)).u (by decide)).u (by decide)).u (by decide)).z (by decide))
            have hcl3 := hcl2.fr (I' := (xuI (xuI (xuI (xuI (xuI (xuI I1 (o + 35 + 3) (20 * m2 + gF G m2) (nI v2)) (o + 35 + 4) (20 * m2 + gF G m2) x3) (o + 35 + 5) (20 * m2 + gF G m2) x4) (o + 35 + 6) (20 * m2 + gF G m2) x5) (o + 35 + 7) m2 (nI (gF G m2 + 1))) (o + 35) 12 0)) (fun a ha => by rw [xuI_ne (by omega), xuI_ne (by omega), xuI_ne (by omega), xuI_ne (by omega), xuI_ne (by omega), xuI_ne (by omega)])
            exact k657 _ _ _ _ _ L Lb _ _ (by omega) ⟨hcl3, ((((((hre1.u).u).u).u).u)).f, hR, hKb, by rw [q1]; exact hn, by rw [q1]; exact hs⟩
        · refine ⟨192, 225, by rw [e33]; rfl, by decide, ?_⟩
          clear e33 hxo
          refine y_aload_n dL_law_225 rfl ?_
          refine y_aload_n dL_law_226 rfl ?_
          refine y_iload_n dL_law_227 rfl ?_
          refine y_iconst (v := 1) dL_law_228 (by decide) ?_
          refine y_iaddv (nI (i + 1)) dL_law_229 (nI_add (i) (1)) ?_
          refine y_saldN ((i + 1)) dL_law_230 hKb rfl (by omega) (by omega) hx1.symm ?_
          refine y_aload_n dL_law_231 rfl ?_
          refine y_iload_n dL_law_232 rfl ?_
          refine y_iconst (v := 2) dL_law_233 (by decide) ?_
          refine y_iaddv (nI (i + 2)) dL_law_234 (nI_add (i) (2)) ?_
          refine y_saldN ((i + 2)) dL_law_235 hKb rfl (by omega) (by omega) hx2.symm ?_
          refine y_callV2 mX4_optional dL_law_236 rfl rfl (And.intro T0 trivial).1 (Nat.le_of_ble_eq_true rfl) (knoptional (d := d + 17) hT hw hC hM (fun c1 => ?_) (fun m v I1 g f1 f2 f4 => ?_))
          · refine y_aload_n dL_law_239 rfl ?_
            refine y_aload_n dL_law_240 rfl ?_
            refine y_iload_n dL_law_241 rfl ?_
            refine y_iconst (v := 1) dL_law_242 (by decide) ?_
            refine y_iaddv (nI (i + 1)) dL_law_243 (nI_add (i) (1)) ?_
            refine y_saldN ((i + 1)) dL_law_244 hKb rfl (by omega) (by omega) hx1.symm ?_
            refine y_aload_n dL_law_245 rfl ?_
            refine y_iload_n dL_law_246 rfl ?_
            refine y_iconst (v := 2) dL_law_247 (by decide) ?_
            refine y_iaddv (nI (i + 2)) dL_law_248 (nI_add (i) (2)) ?_
            refine y_saldN ((i + 2)) dL_law_249 hKb rfl (by omega) (by omega) hx2.symm ?_
            refine y_callV2 mX5_optional dL_law_250 rfl rfl hR.1 (Nat.le_of_ble_eq_true rfl) (kroptional (d := d + 18) hR hA hw hR0 hg (fun _ => ?_) (fun m v g => absurd g (c1 m v)))
            refine y_icmp_eq 657 dL_law_253 (by decide) (fun _ => ?_) (fun q => absurd q (by decide))
            exact k657 K I P n s L Lb G X (by omega) hlw
          · have hm := g.1
            have hv := g.2.2.1
            have fJ : ∀ a, a < o + 59 → (xuI I (o + 59 + 13 * m + 6) v 1) a = I a := fun a h => by rw [xuI_ne (by omega)]
            have hbI : I1 b = I b := (f1 b (by omega)).trans (fJ b (by omega))
            have hA1 : xPg I1 (o + 35) G := fun i i1 i2 => by rw [(f1 _ (by omega)).trans (fJ _ (by omega))]; exact hA i i1 i2
            have hre1 : xRe I1 (o + 35) X := hre.fr (fun a a1 a2 => (f1 a (by omega)).trans (fJ a (by omega)))
            have hR01 : I1 (o + 35) 0 = nI (gC G) := by rw [(f1 (o + 35) (by omega)).trans (fJ (o + 35) (by omega))]; exact hR0
            refine y_aload_n dL_law_239 rfl ?_
            refine y_aload_n dL_law_240 rfl ?_
            refine y_iload_n dL_law_241 rfl ?_
            refine y_iconst (v := 1) dL_law_242 (by decide) ?_
            refine y_iaddv (nI (i + 1)) dL_law_243 (nI_add (i) (1)) ?_
            refine y_saldN ((i + 1)) dL_law_244 hKb rfl (by omega) (by omega) ((congrFun hbI (i + 1)).trans hx1.symm) ?_
            refine y_aload_n dL_law_245 rfl ?_
            refine y_iload_n dL_law_246 rfl ?_
            refine y_iconst (v := 2) dL_law_247 (by decide) ?_
            refine y_iaddv (nI (i + 2)) dL_law_248 (nI_add (i) (2)) ?_
            refine y_saldN ((i + 2)) dL_law_249 hKb rfl (by omega) (by omega) ((congrFun hbI (i + 2)).trans hx2.symm) ?_
            refine y_callV2 mX5_optional dL_law_250 rfl rfl hR.1 (Nat.le_of_ble_eq_true rfl) (kroptional (d := d + 18) hR hA1 hw hR01 hg (fun c => absurd g (c m v)) (fun m2 v2 g2 => ?_))
            obtain rfl : m2 = m := nI_inj (by have := g2.1; omega) (by omega) (g2.2.1.symm.trans g.2.1)
            obtain rfl : v2 = v := nI_inj (by have := g2.2.2.1; omega) (by omega) (g2.2.2.2.1.symm.trans g.2.2.2.1)
            refine y_icmp_eq 657 dL_law_253 (by decide) (fun _ => ?_) (fun c253 => absurd (rfl) c253)
            obtain ⟨q1, q3, q2, q4⟩ := mut_opt hM hW hU hm hv rfl rfl
            have hcl2 := xCl.mut (X' := (xuI (xuI X 10 (64 * m2 + v2) 1) 0 12 0)) hcl fJ f1 f2 f4 q1 q2 q3 q4 (fun k hk => by rw [xuI_o (Or.inr hk), xuI_ne (by decide)]) xuI_s (fun i hi => by rw [xuI_ne (by omega), xuI_ne (by omega)]) ((hPr.u (by decide)).z (by decide))
            have hcl3 := hcl2.fr (I' := (xuI (xuI I1 (o + 35 + 10) (64 * m2 + v2) 1) (o + 35) 12 0)) (fun a ha => by rw [xuI_ne (by omega), xuI_ne (by omega)])
            exact k657 _ _ _ _ _ L Lb _ _ (by omega) ⟨hcl3, ((hre1.u)).f, hR, hKb, by rw [q1]; exact hn, by rw [q1]; exact hs⟩
        · refine ⟨225, 258, by rw [e33]; rfl, by decide, ?_⟩
          clear e33 hxo
          refine y_aload_n dL_law_258 rfl ?_
          refine y_aload_n dL_law_259 rfl ?_
          refine y_iload_n dL_law_260 rfl ?_
          refine y_iconst (v := 1) dL_law_261 (by decide) ?_
          refine y_iaddv (nI (i + 1)) dL_law_262 (nI_add (i) (1)) ?_
          refine y_saldN ((i + 1)) dL_law_263 hKb rfl (by omega) (by omega) hx1.symm ?_
          refine y_aload_n dL_law_264 rfl ?_
          refine y_iload_n dL_law_265 rfl ?_
          refine y_iconst (v := 2) dL_law_266 (by decide) ?_
          refine y_iaddv (nI (i + 2)) dL_law_267 (nI_add (i) (2)) ?_
          refine y_saldN ((i + 2)) dL_law_268 hKb rfl (by omega) (by omega) hx2.symm ?_
          refine y_callV2 mX4_beginner dL_law_269 rfl rfl (And.intro T0 trivial).1 (Nat.le_of_ble_eq_true rfl) (knbeginner (d := d + 17) hT hw hC hM (fun c1 => ?_) (fun m I1 g f1 f2 f4 => ?_))
          · refine y_aload_n dL_law_272 rfl ?_
            refine y_aload_n dL_law_273 rfl ?_
            refine y_iload_n dL_law_274 rfl ?_
            refine y_iconst (v := 1) dL_law_275 (by decide) ?_
            refine y_iaddv (nI (i + 1)) dL_law_276 (nI_add (i) (1)) ?_
            refine y_saldN ((i + 1)) dL_law_277 hKb rfl (by omega) (by omega) hx1.symm ?_
            refine y_aload_n dL_law_278 rfl ?_
            refine y_iload_n dL_law_279 rfl ?_
            refine y_iconst (v := 2) dL_law_280 (by decide) ?_
            refine y_iaddv (nI (i + 2)) dL_law_281 (nI_add (i) (2)) ?_
            refine y_saldN ((i + 2)) dL_law_282 hKb rfl (by omega) (by omega) hx2.symm ?_
            refine y_callV2 mX5_beginner dL_law_283 rfl rfl hR.1 (Nat.le_of_ble_eq_true rfl) (krbeginner (d := d + 18) hR hA hw hR0 hg (fun _ => ?_) (fun m g => absurd g (c1 m)))
            refine y_icmp_eq 657 dL_law_286 (by decide) (fun _ => ?_) (fun q => absurd q (by decide))
            exact k657 K I P n s L Lb G X (by omega) hlw
          · have hm := g.1
            have fJ : ∀ a, a < o + 59 → (xuI I (o + 59 + 13 * m) 8 x2) a = I a := fun a h => by rw [xuI_ne (by omega)]
            have hbI : I1 b = I b := (f1 b (by omega)).trans (fJ b (by omega))
            have hA1 : xPg I1 (o + 35) G := fun i i1 i2 => by rw [(f1 _ (by omega)).trans (fJ _ (by omega))]; exact hA i i1 i2
            have hre1 : xRe I1 (o + 35) X := hre.fr (fun a a1 a2 => (f1 a (by omega)).trans (fJ a (by omega)))
            have hR01 : I1 (o + 35) 0 = nI (gC G) := by rw [(f1 (o + 35) (by omega)).trans (fJ (o + 35) (by omega))]; exact hR0
            refine y_aload_n dL_law_272 rfl ?_
            refine y_aload_n dL_law_273 rfl ?_
            refine y_iload_n dL_law_274 rfl ?_
            refine y_iconst (v := 1) dL_law_275 (by decide) ?_
            refine y_iaddv (nI (i + 1)) dL_law_276 (nI_add (i) (1)) ?_
            refine y_saldN ((i + 1)) dL_law_277 hKb rfl (by omega) (by omega) ((congrFun hbI (i + 1)).trans hx1.symm) ?_
            refine y_aload_n dL_law_278 rfl ?_
            refine y_iload_n dL_law_279 rfl ?_
            refine y_iconst (v := 2) dL_law_280 (by decide) ?_
            refine y_iaddv (nI (i + 2)) dL_law_281 (nI_add (i) (2)) ?_
            refine y_saldN ((i + 2)) dL_law_282 hKb rfl (by omega) (by omega) ((congrFun hbI (i + 2)).trans hx2.symm) ?_
            refine y_callV2 mX5_beginner dL_law_283 rfl rfl hR.1 (Nat.le_of_ble_eq_true rfl) (krbeginner (d := d + 18) hR hA1 hw hR01 hg (fun c => absurd g (c m)) (fun m2 g2 => ?_))
            obtain rfl : m2 = m := nI_inj (by have := g2.1; omega) (by omega) (g2.2.1.symm.trans g.2.1)
            refine y_icmp_eq 657 dL_law_286 (by decide) (fun _ => ?_) (fun c286 => absurd (rfl) c286)
            obtain ⟨q1, q3, q2, q4⟩ := mut_beg hM hW hU hm g.2.2 rfl rfl
            have hcl2 := xCl.mut (X' := (xuI (xuI X 11 m2 x2) 0 12 0)) hcl fJ f1 f2 f4 q1 q2 q3 q4 (fun k hk => by rw [xuI_o (Or.inr hk), xuI_ne (by decide)]) xuI_s (fun i hi => by rw [xuI_ne (by omega), xuI_ne (by omega)]) ((hPr.u (by decide)).z (by decide))
            have hcl3 := hcl2.fr (I' := (xuI (xuI I1 (o + 35 + 11) m2 x2) (o + 35) 12 0)) (fun a ha => by rw [xuI_ne (by omega), xuI_ne (by omega)])
            exact k657 _ _ _ _ _ L Lb _ _ (by omega) ⟨hcl3, ((hre1.u)).f, hR, hKb, by rw [q1]; exact hn, by rw [q1]; exact hs⟩
        · refine ⟨258, 291, by rw [e33]; rfl, by decide, ?_⟩
          clear e33 hxo
          refine y_aload_n dL_law_291 rfl ?_
          refine y_aload_n dL_law_292 rfl ?_
          refine y_iload_n dL_law_293 rfl ?_
          refine y_iconst (v := 1) dL_law_294 (by decide) ?_
          refine y_iaddv (nI (i + 1)) dL_law_295 (nI_add (i) (1)) ?_
          refine y_saldN ((i + 1)) dL_law_296 hKb rfl (by omega) (by omega) hx1.symm ?_
          refine y_aload_n dL_law_297 rfl ?_
          refine y_iload_n dL_law_298 rfl ?_
          refine y_iconst (v := 2) dL_law_299 (by decide) ?_
          refine y_iaddv (nI (i + 2)) dL_law_300 (nI_add (i) (2)) ?_
          refine y_saldN ((i + 2)) dL_law_301 hKb rfl (by omega) (by omega) hx2.symm ?_
          refine y_aload_n dL_law_302 rfl ?_
          refine y_iload_n dL_law_303 rfl ?_
          refine y_iconst (v := 3) dL_law_304 (by decide) ?_
          refine y_iaddv (nI (i + 3)) dL_law_305 (nI_add (i) (3)) ?_
          refine y_saldN ((i + 3)) dL_law_306 hKb rfl (by omega) (by omega) hx3.symm ?_
          refine y_aload_n dL_law_307 rfl ?_
          refine y_iload_n dL_law_308 rfl ?_
          refine y_iconst (v := 4) dL_law_309 (by decide) ?_
          refine y_iaddv (nI (i + 4)) dL_law_310 (nI_add (i) (4)) ?_
          refine y_saldN ((i + 4)) dL_law_311 hKb rfl (by omega) (by omega) hx4.symm ?_
          refine y_aload_n dL_law_312 rfl ?_
          refine y_iload_n dL_law_313 rfl ?_
          refine y_iconst (v := 5) dL_law_314 (by decide) ?_
          refine y_iaddv (nI (i + 5)) dL_law_315 (nI_add (i) (5)) ?_
          refine y_saldN ((i + 5)) dL_law_316 hKb rfl (by omega) (by omega) hx5.symm ?_
          refine y_callV5 mX4_put dL_law_317 rfl rfl (And.intro T0 trivial).1 (Nat.le_of_ble_eq_true rfl) (knput (d := d + 17) hT hw hC hM (fun c1 => ?_) (fun m I1 g f1 f2 f4 => ?_))
          · refine y_aload_n dL_law_320 rfl ?_
            refine y_aload_n dL_law_321 rfl ?_
            refine y_iload_n dL_law_322 rfl ?_
            refine y_iconst (v := 1) dL_law_323 (by decide) ?_
            refine y_iaddv (nI (i + 1)) dL_law_324 (nI_add (i) (1)) ?_
            refine y_saldN ((i + 1)) dL_law_325 hKb rfl (by omega) (by omega) hx1.symm ?_
            refine y_aload_n dL_law_326 rfl ?_
            refine y_iload_n dL_law_327 rfl ?_
            refine y_iconst (v := 2) dL_law_328 (by decide) ?_
            refine y_iaddv (nI (i + 2)) dL_law_329 (nI_add (i) (2)) ?_
            refine y_saldN ((i + 2)) dL_law_330 hKb rfl (by omega) (by omega) hx2.symm ?_
            refine y_aload_n dL_law_331 rfl ?_
            refine y_iload_n dL_law_332 rfl ?_
            refine y_iconst (v := 3) dL_law_333 (by decide) ?_
            refine y_iaddv (nI (i + 3)) dL_law_334 (nI_add (i) (3)) ?_
            refine y_saldN ((i + 3)) dL_law_335 hKb rfl (by omega) (by omega) hx3.symm ?_
            refine y_aload_n dL_law_336 rfl ?_
            refine y_iload_n dL_law_337 rfl ?_
            refine y_iconst (v := 4) dL_law_338 (by decide) ?_
            refine y_iaddv (nI (i + 4)) dL_law_339 (nI_add (i) (4)) ?_
            refine y_saldN ((i + 4)) dL_law_340 hKb rfl (by omega) (by omega) hx4.symm ?_
            refine y_aload_n dL_law_341 rfl ?_
            refine y_iload_n dL_law_342 rfl ?_
            refine y_iconst (v := 5) dL_law_343 (by decide) ?_
            refine y_iaddv (nI (i + 5)) dL_law_344 (nI_add (i) (5)) ?_
            refine y_saldN ((i + 5)) dL_law_345 hKb rfl (by omega) (by omega) hx5.symm ?_
            refine y_callV5 mX5_put dL_law_346 rfl rfl hR.1 (Nat.le_of_ble_eq_true rfl) (krput (d := d + 17) hR hA hw hR0 hg (fun _ => ?_) (fun m g => absurd g (c1 m)))
            refine y_icmp_eq 657 dL_law_349 (by decide) (fun _ => ?_) (fun q => absurd q (by decide))
            exact k657 K I P n s L Lb G X (by omega) hlw
          · have hm := g.1
            have fJ : ∀ a, a < o + 59 → (xuI (xuI (xuI (xuI (xuI I (o + 59 + 13 * m + 7) (gS G m) x2) (o + 59 + 13 * m + 8) (gS G m) x3) (o + 59 + 13 * m + 9) (gS G m) x4) (o + 59 + 13 * m + 10) (gS G m) x5) (o + 59 + 13 * m) 13 (nI (gS G m + 1))) a = I a := fun a h => by rw [xuI_ne (by omega), xuI_ne (by omega), xuI_ne (by omega), xuI_ne (by omega), xuI_ne (by omega)]
            have hbI : I1 b = I b := (f1 b (by omega)).trans (fJ b (by omega))
            have hA1 : xPg I1 (o + 35) G := fun i i1 i2 => by rw [(f1 _ (by omega)).trans (fJ _ (by omega))]; exact hA i i1 i2
            have hre1 : xRe I1 (o + 35) X := hre.fr (fun a a1 a2 => (f1 a (by omega)).trans (fJ a (by omega)))
            have hR01 : I1 (o + 35) 0 = nI (gC G) := by rw [(f1 (o + 35) (by omega)).trans (fJ (o + 35) (by omega))]; exact hR0
            refine y_aload_n dL_law_320 rfl ?_
            refine y_aload_n dL_law_321 rfl ?_
            refine y_iload_n dL_law_322 rfl ?_
            refine y_iconst (v := 1) dL_law_323 (by decide) ?_
            refine y_iaddv (nI (i + 1)) dL_law_324 (nI_add (i) (1)) ?_
            refine y_saldN ((i + 1)) dL_law_325 hKb rfl (by omega) (by omega) ((congrFun hbI (i + 1)).trans hx1.symm) ?_
            refine y_aload_n dL_law_326 rfl ?_
            refine y_iload_n dL_law_327 rfl ?_
            refine y_iconst (v := 2) dL_law_328 (by decide) ?_
            refine y_iaddv (nI (i + 2)) dL_law_329 (nI_add (i) (2)) ?_
            refine y_saldN ((i + 2)) dL_law_330 hKb rfl (by omega) (by omega) ((congrFun hbI (i + 2)).trans hx2.symm) ?_
            refine y_aload_n dL_law_331 rfl ?_
            refine y_iload_n dL_law_332 rfl ?_
            refine y_iconst (v := 3) dL_law_333 (by decide) ?_
            refine y_iaddv (nI (i + 3)) dL_law_334 (nI_add (i) (3)) ?_
            refine y_saldN ((i + 3)) dL_law_335 hKb rfl (by omega) (by omega) ((congrFun hbI (i + 3)).trans hx3.symm) ?_
            refine y_aload_n dL_law_336 rfl ?_
            refine y_iload_n dL_law_337 rfl ?_
            refine y_iconst (v := 4) dL_law_338 (by decide) ?_
            refine y_iaddv (nI (i + 4)) dL_law_339 (nI_add (i) (4)) ?_
            refine y_saldN ((i + 4)) dL_law_340 hKb rfl (by omega) (by omega) ((congrFun hbI (i + 4)).trans hx4.symm) ?_
            refine y_aload_n dL_law_341 rfl ?_
            refine y_iload_n dL_law_342 rfl ?_
            refine y_iconst (v := 5) dL_law_343 (by decide) ?_
            refine y_iaddv (nI (i + 5)) dL_law_344 (nI_add (i) (5)) ?_
            refine y_saldN ((i + 5)) dL_law_345 hKb rfl (by omega) (by omega) ((congrFun hbI (i + 5)).trans hx5.symm) ?_
            refine y_callV5 mX5_put dL_law_346 rfl rfl hR.1 (Nat.le_of_ble_eq_true rfl) (krput (d := d + 17) hR hA1 hw hR01 hg (fun c => absurd g (c m)) (fun m2 g2 => ?_))
            obtain rfl : m2 = m := nI_inj (by have := g2.1; omega) (by omega) (g2.2.1.symm.trans g.2.1)
            refine y_icmp_eq 657 dL_law_349 (by decide) (fun _ => ?_) (fun c349 => absurd (rfl) c349)
            obtain ⟨q1, q3, q2, q4⟩ := mut_put hM hW hU hm g.2.2.2 g.2.2.1 rfl rfl
            have hcl2 := xCl.mut (X' := (xuI (xuI (xuI (xuI (xuI (xuI X 8 (4 * (100 * m2 + gS G m2)) x2) 8 (4 * (100 * m2 + gS G m2) + 1) x3) 8 (4 * (100 * m2 + gS G m2) + 2) x4) 8 (4 * (100 * m2 + gS G m2) + 3) x5) 9 m2 (nI (gS G m2 + 1))) 0 12 0)) hcl fJ f1 f2 f4 q1 q2 q3 q4 (fun k hk => by rw [xuI_o (Or.inr hk), xuI_ne (by decide), xuI_ne (by decide), xuI_ne (by decide), xuI_ne (by decide), xuI_ne (by decide)]) xuI_s (fun i hi => by rw [xuI_ne (by omega), xuI_ne (by omega), xuI_ne (by omega), xuI_ne (by omega), xuI_ne (by omega), xuI_ne (by omega)]) ((((((hPr.u (by decide)).u (by decide)).u (by decide)).u (by decide)).u (by decide)).z (by decide))
            have hcl3 := hcl2.fr (I' := (xuI (xuI (xuI (xuI (xuI (xuI I1 (o + 35 + 8) (4 * (100 * m2 + gS G m2)) x2) (o + 35 + 8) (4 * (100 * m2 + gS G m2) + 1) x3) (o + 35 + 8) (4 * (100 * m2 + gS G m2) + 2) x4) (o + 35 + 8) (4 * (100 * m2 + gS G m2) + 3) x5) (o + 35 + 9) m2 (nI (gS G m2 + 1))) (o + 35) 12 0)) (fun a ha => by rw [xuI_ne (by omega), xuI_ne (by omega), xuI_ne (by omega), xuI_ne (by omega), xuI_ne (by omega), xuI_ne (by omega)])
            exact k657 _ _ _ _ _ L Lb _ _ (by omega) ⟨hcl3, ((((((hre1.u).u).u).u).u)).f, hR, hKb, by rw [q1]; exact hn, by rw [q1]; exact hs⟩
        · refine ⟨321, 354, by rw [e33]; rfl, by decide, ?_⟩
          clear e33 hxo
          refine y_aload_n dL_law_354 rfl ?_
          refine y_aload_n dL_law_355 rfl ?_
          refine y_iload_n dL_law_356 rfl ?_
          refine y_iconst (v := 1) dL_law_357 (by decide) ?_
          refine y_iaddv (nI (i + 1)) dL_law_358 (nI_add (i) (1)) ?_
          refine y_saldN ((i + 1)) dL_law_359 hKb rfl (by omega) (by omega) hx1.symm ?_
          refine y_aload_n dL_law_360 rfl ?_
          refine y_iload_n dL_law_361 rfl ?_
          refine y_iconst (v := 2) dL_law_362 (by decide) ?_
          refine y_iaddv (nI (i + 2)) dL_law_363 (nI_add (i) (2)) ?_
          refine y_saldN ((i + 2)) dL_law_364 hKb rfl (by omega) (by omega) hx2.symm ?_
          refine y_callV2 mX4_load dL_law_365 rfl rfl (And.intro T0 trivial).1 (Nat.le_of_ble_eq_true rfl) (knload (d := d + 5) hT hw hC hM hU (fun c1 => ?_) (fun r lz I1 hr er el hz f g1 g2 g3 => ?_) (fun r lz I1 hr er el hz f g1 g2 g3 hy hu hnw => ?_))
          · refine y_aload_n dL_law_368 rfl ?_
            refine y_aload_n dL_law_369 rfl ?_
            refine y_iload_n dL_law_370 rfl ?_
            refine y_iconst (v := 1) dL_law_371 (by decide) ?_
            refine y_iaddv (nI (i + 1)) dL_law_372 (nI_add (i) (1)) ?_
            refine y_saldN ((i + 1)) dL_law_373 hKb rfl (by omega) (by omega) hx1.symm ?_
            refine y_aload_n dL_law_374 rfl ?_
            refine y_iload_n dL_law_375 rfl ?_
            refine y_iconst (v := 2) dL_law_376 (by decide) ?_
            refine y_iaddv (nI (i + 2)) dL_law_377 (nI_add (i) (2)) ?_
            refine y_saldN ((i + 2)) dL_law_378 hKb rfl (by omega) (by omega) hx2.symm ?_
            refine y_callV2 mX5_load dL_law_379 rfl rfl hR.1 (Nat.le_of_ble_eq_true rfl) (kload (d := d + 15) hR hA hw hR0 hg (fun _ => ?_) (fun r lz I2 h1 h2 h3 _ _ _ _ _ _ => absurd c1 (fun c => c.elim (fun c => c r h1 h2) (fun c => c lz h3))) (fun r lz I2 h1 h2 h3 _ _ _ _ _ _ _ _ _ _ => absurd c1 (fun c => c.elim (fun c => c r h1 h2) (fun c => c lz h3))))
            refine y_icmp_eq 657 dL_law_382 (by decide) (fun _ => ?_) (fun q => absurd q (by decide))
            exact k657 K I P n s L Lb G X (by omega) hlw
          · have hbI : I1 b = I b := f b (by omega) (by omega)
            have hA1 : xPg I1 (o + 35) G := fun i i1 i2 => by rw [f _ (by omega) (by omega)]; exact hA i i1 i2
            have hre1 : xRe I1 (o + 35) X := hre.fr (fun a a1 a2 => f a (by omega) (by omega))
            have hR01 : I1 (o + 35) 0 = nI (gC G) := by rw [f (o + 35) (by omega) (by omega)]; exact hR0
            refine y_aload_n dL_law_368 rfl ?_
            refine y_aload_n dL_law_369 rfl ?_
            refine y_iload_n dL_law_370 rfl ?_
            refine y_iconst (v := 1) dL_law_371 (by decide) ?_
            refine y_iaddv (nI (i + 1)) dL_law_372 (nI_add (i) (1)) ?_
            refine y_saldN ((i + 1)) dL_law_373 hKb rfl (by omega) (by omega) ((congrFun hbI (i + 1)).trans hx1.symm) ?_
            refine y_aload_n dL_law_374 rfl ?_
            refine y_iload_n dL_law_375 rfl ?_
            refine y_iconst (v := 2) dL_law_376 (by decide) ?_
            refine y_iaddv (nI (i + 2)) dL_law_377 (nI_add (i) (2)) ?_
            refine y_saldN ((i + 2)) dL_law_378 hKb rfl (by omega) (by omega) ((congrFun hbI (i + 2)).trans hx2.symm) ?_
            refine y_callV2 mX5_load dL_law_379 rfl rfl hR.1 (Nat.le_of_ble_eq_true rfl) (kload (d := d + 15) hR hA1 hw hR01 hg (fun c => absurd c (fun c => c.elim (fun c => c r hr er) (fun c => c lz el))) (fun r2 lz2 I2 h1 h2 h3 hz2 hF v1 v2 v3 _ => ?_) (fun r2 lz2 I2 h1 h2 h3 hz2 _ _ _ _ _ _ _ _ _ => absurd hz2 (by rw [nI_inj (by omega) (by omega) (h2.symm.trans er)]; exact hz)))
            obtain rfl : r2 = r := nI_inj (by omega) (by omega) (h2.symm.trans er)
            obtain rfl : lz2 = lz := bI_inj (h3.symm.trans el)
            refine y_icmp_eq 657 dL_law_382 (by decide) (fun _ => ?_) (fun c382 => absurd (rfl) c382)
            have hX2 : xRe I2 (o + 35) (ov (xRf I2 (o + 35)) X) := fun i hi => by rw [ov_r hi]; rfl
            have e20 : (ov (xRf I2 (o + 35)) X) 0 = I2 (o + 35) := ov_r (by decide)
            have hFX : xF 0 [16, 17] [20, 25, 26, 27] X (ov (xRf I2 (o + 35)) X) := fun a j p q => by
              by_cases ha : a ≤ 23
              · rw [ov_r ha]
                show I2 (o + 35 + a) j = X a j
                rw [hF (o + 35 + a) j (fun i hi e => p i hi (by omega)) (fun e => q (by omega)), hre1 a ha]
              · rw [ov_w (by omega)]
            have hfI : ∀ a, (a < o + 35 ∨ o + 58 < a) → I2 a = I1 a := fun a h => (hF.R (by decide)) a (by omega)
            have q2 := (xCl.ldf (r := r2) (X' := (ov (xRf I2 (o + 35)) X)) hcl f hFX (by rw [e20, v1]; exact g1) (by rw [e20, v2]; exact g2) (by rw [e20, v3]; exact g3)).fr hfI
            exact k657 _ _ _ _ _ L Lb _ _ (by omega) ⟨q2, hX2, hR, hKb, hn, hs⟩
          · have hR1 := xAt_P hR (show xuP (xuP P o 2 (some Lb)) o 3 (some L) (o + 35) = P (o + 35) from by rw [xuP_ne (by omega), xuP_ne (by omega)])
            have hbI : I1 b = I b := f b (by omega) (by omega) (fun m _ => by omega)
            have hA1 : xPg I1 (o + 35) G := fun i i1 i2 => by rw [f _ (by omega) (by omega) (fun m _ => by omega)]; exact hA i i1 i2
            have hre1 : xRe I1 (o + 35) X := hre.fr (fun a a1 a2 => f a (by omega) (by omega) (fun m _ => by omega))
            have hR01 : I1 (o + 35) 0 = nI (gC G) := by rw [f (o + 35) (by omega) (by omega) (fun m _ => by omega)]; exact hR0
            refine y_aload_n dL_law_368 rfl ?_
            refine y_aload_n dL_law_369 rfl ?_
            refine y_iload_n dL_law_370 rfl ?_
            refine y_iconst (v := 1) dL_law_371 (by decide) ?_
            refine y_iaddv (nI (i + 1)) dL_law_372 (nI_add (i) (1)) ?_
            refine y_saldN ((i + 1)) dL_law_373 hKb rfl (by omega) (by omega) ((congrFun hbI (i + 1)).trans hx1.symm) ?_
            refine y_aload_n dL_law_374 rfl ?_
            refine y_iload_n dL_law_375 rfl ?_
            refine y_iconst (v := 2) dL_law_376 (by decide) ?_
            refine y_iaddv (nI (i + 2)) dL_law_377 (nI_add (i) (2)) ?_
            refine y_saldN ((i + 2)) dL_law_378 hKb rfl (by omega) (by omega) ((congrFun hbI (i + 2)).trans hx2.symm) ?_
            refine y_callV2 mX5_load dL_law_379 rfl rfl hR1.1 (Nat.le_of_ble_eq_true rfl) (kload (d := d + 15) hR1 hA1 hw hR01 hg (fun c => absurd c (fun c => c.elim (fun c => c r hr er) (fun c => c lz el))) (fun r2 lz2 I2 h1 h2 h3 hz2 _ _ _ _ _ => absurd hz (by rw [nI_inj (by omega) (by omega) (er.symm.trans h2)]; exact hz2)) (fun r2 lz2 I2 h1 h2 h3 hz2 hF v1 v2 v3 _ hld hfr _ _ => ?_))
            obtain rfl : r2 = r := nI_inj (by omega) (by omega) (h2.symm.trans er)
            obtain rfl : lz2 = lz := bI_inj (h3.symm.trans el)
            refine y_icmp_eq 657 dL_law_382 (by decide) (fun _ => ?_) (fun q => absurd q (by decide))
            have hX2 : xRe I2 (o + 35) (ov (xRf I2 (o + 35)) X) := fun i hi => by rw [ov_r hi]; rfl
            have e20 : (ov (xRf I2 (o + 35)) X) 0 = I2 (o + 35) := ov_r (by decide)
            have hFX : xF 0 [12, 13, 14, 15, 16, 17, 18, 19] [12, 13, 14, 15, 20, 25, 26, 27] X (ov (xRf I2 (o + 35)) X) := fun a j p q => by
              by_cases ha : a ≤ 23
              · rw [ov_r ha]
                show I2 (o + 35 + a) j = X a j
                rw [hF (o + 35 + a) j (fun i hi e => p i hi (by omega)) (fun e => q (by omega)), hre1 a ha]
              · rw [ov_w (by omega)]
            have hfI : ∀ a, (a < o + 35 ∨ o + 58 < a) → I2 a = I1 a := fun a h => (hF.R (by decide)) a (by omega)
            have z4 := sFt_z hz
            rw [z4] at g1 g2 g3
            have hl2 : xLd G (ov (xRf I2 (o + 35)) X) 0 r2 lz2 := ⟨by rw [e20]; exact hld.1, by rw [e20]; exact hld.2.1, by rw [e20]; exact hld.2.2.1, by rw [e20]; exact hld.2.2.2.1, fun p m hp => by rw [ov_r (i := 0 + 12) (by decide)]; exact hld.2.2.2.2.1 p m hp, fun p m hp => by rw [ov_r (i := 0 + 13) (by decide)]; exact hld.2.2.2.2.2 p m hp⟩
            have hf2 : xFresh G (ov (xRf I2 (o + 35)) X) 0 r2 lz2 := ⟨fun a c h1 h2 => by rw [ov_r (i := 0 + 14) (by decide)]; exact hfr.1 a c h1 h2, fun q hq => by rw [ov_r (i := 0 + 15) (by decide)]; exact hfr.2 q hq⟩
            have q2 := (xCl.ldk (X' := (ov (xRf I2 (o + 35)) X)) hcl hr hz f hy hu hnw hFX (by rw [e20, v1]; exact g1) (by rw [e20, v2]; exact g2) (by rw [e20, v3]; exact g3) hl2 hf2).fr hfI
            exact k657 _ _ _ _ _ Lb L _ _ (by omega) ⟨q2, hX2, hR1, hKb, hn, hs⟩
        · refine ⟨354, 387, by rw [e33]; rfl, by decide, ?_⟩
          clear e33 hxo
          refine y_aload_n dL_law_387 rfl ?_
          refine y_aload_n dL_law_388 rfl ?_
          refine y_iload_n dL_law_389 rfl ?_
          refine y_iconst (v := 1) dL_law_390 (by decide) ?_
          refine y_iaddv (nI (i + 1)) dL_law_391 (nI_add (i) (1)) ?_
          refine y_saldN ((i + 1)) dL_law_392 hKb rfl (by omega) (by omega) hx1.symm ?_
          refine y_callV1 mX4_fault dL_law_393 rfl rfl (And.intro T0 trivial).1 (Nat.le_of_ble_eq_true rfl) (knfault (d := d + 19) hT ?_)
          refine y_aload_n dL_law_396 rfl ?_
          refine y_aload_n dL_law_397 rfl ?_
          refine y_iload_n dL_law_398 rfl ?_
          refine y_iconst (v := 1) dL_law_399 (by decide) ?_
          refine y_iaddv (nI (i + 1)) dL_law_400 (nI_add (i) (1)) ?_
          refine y_saldN ((i + 1)) dL_law_401 hKb rfl (by omega) (by omega) hx1.symm ?_
          refine y_callV1 mX5_fault dL_law_402 rfl rfl hR.1 (Nat.le_of_ble_eq_true rfl) (krfault (d := d + 19) hR ?_)
          refine y_icmp_eq 657 dL_law_405 (by decide) (fun _ => ?_) (fun c405 => absurd (by rw [hFv.1, hFv.2.1, hFv.2.2, re0]) c405)
          exact k657 K I P n s L Lb G X (by omega) hlw
        · refine ⟨377, 410, by rw [e33]; rfl, by decide, ?_⟩
          clear e33 hxo
          rcases hSe with hun | ⟨r, lz, hld⟩
          · obtain ⟨u1, u2, c15, u3, u4⟩ := id hun
            have r12 : I (o + 35) 12 = 0 := by rw [re0]; exact u1
            have r15 : I (o + 35) 15 = nI c15 := by rw [re0]; exact u4
            refine y_aload_n dL_law_410 rfl ?_
            refine y_aload_n dL_law_411 rfl ?_
            refine y_iload_n dL_law_412 rfl ?_
            refine y_iconst (v := 1) dL_law_413 (by decide) ?_
            refine y_iaddv (nI (i + 1)) dL_law_414 (nI_add (i) (1)) ?_
            refine y_saldN ((i + 1)) dL_law_415 hKb rfl (by omega) (by omega) hx1.symm ?_
            refine y_aload_n dL_law_416 rfl ?_
            refine y_iload_n dL_law_417 rfl ?_
            refine y_iconst (v := 2) dL_law_418 (by decide) ?_
            refine y_iaddv (nI (i + 2)) dL_law_419 (nI_add (i) (2)) ?_
            refine y_saldN ((i + 2)) dL_law_420 hKb rfl (by omega) (by omega) hx2.symm ?_
            refine y_callV2 mX4_order dL_law_421 rfl rfl (And.intro T0 trivial).1 (Nat.le_of_ble_eq_true rfl) (knorder (d := d + 19) (ord := []) hT u2 (fun _ => ?_) (fun k b hk _ _ => absurd hk (by simp)))
            refine y_aload_n dL_law_424 rfl ?_
            refine y_aload_n dL_law_425 rfl ?_
            refine y_iload_n dL_law_426 rfl ?_
            refine y_iconst (v := 1) dL_law_427 (by decide) ?_
            refine y_iaddv (nI (i + 1)) dL_law_428 (nI_add (i) (1)) ?_
            refine y_saldN ((i + 1)) dL_law_429 hKb rfl (by omega) (by omega) hx1.symm ?_
            refine y_aload_n dL_law_430 rfl ?_
            refine y_iload_n dL_law_431 rfl ?_
            refine y_iconst (v := 2) dL_law_432 (by decide) ?_
            refine y_iaddv (nI (i + 2)) dL_law_433 (nI_add (i) (2)) ?_
            refine y_saldN ((i + 2)) dL_law_434 hKb rfl (by omega) (by omega) hx2.symm ?_
            refine y_callV2 mX5_order dL_law_435 rfl rfl hR.1 (Nat.le_of_ble_eq_true rfl) (krorder (d := d + 19) (lb := false) hR r12 r15 u3 (fun _ => ?_) (fun k b h _ _ _ => absurd h (by decide)))
            refine y_icmp_eq 657 dL_law_438 (by decide) (fun _ => ?_) (fun q => absurd q (by decide))
            exact k657 K I P n s L Lb G X (by omega) hlw
          · obtain ⟨l1, l2, ⟨y1, y2, y3, y4⟩, l4, l5, l6⟩ := id hld
            obtain ⟨b1, b2, b3, b4, b5⟩ := sOB hw hg l1
            have ho12 : ∀ q ∈ sOrd G r, q < 12 := fun q hq => by have := b1.2 q hq; omega
            have ho3 : (sOrd G r).length ≤ 12 := by have := okl_len b1; omega
            have r12 : I (o + 35) 12 = 1 := by rw [re0]; exact l2.1
            have r13 : I (o + 35) 13 = bI lz := by rw [re0]; exact l2.2.1
            have r14 : I (o + 35) 14 = nI r := by rw [re0]; exact l2.2.2.1
            have r15 : I (o + 35) 15 = nI (sOrd G r).length := by rw [re0]; exact l2.2.2.2.1
            have rho : xHl I (o + 35 + 12) (sOrd G r) := fun p m hp => by rw [hre 12 (by decide)]; exact l2.2.2.2.2.1 p m hp
            have rhb : xHl I (o + 35 + 13) (sBeg G r) := fun p m hp => by rw [hre 13 (by decide)]; exact l2.2.2.2.2.2 p m hp
            refine y_aload_n dL_law_410 rfl ?_
            refine y_aload_n dL_law_411 rfl ?_
            refine y_iload_n dL_law_412 rfl ?_
            refine y_iconst (v := 1) dL_law_413 (by decide) ?_
            refine y_iaddv (nI (i + 1)) dL_law_414 (nI_add (i) (1)) ?_
            refine y_saldN ((i + 1)) dL_law_415 hKb rfl (by omega) (by omega) hx1.symm ?_
            refine y_aload_n dL_law_416 rfl ?_
            refine y_iload_n dL_law_417 rfl ?_
            refine y_iconst (v := 2) dL_law_418 (by decide) ?_
            refine y_iaddv (nI (i + 2)) dL_law_419 (nI_add (i) (2)) ?_
            refine y_saldN ((i + 2)) dL_law_420 hKb rfl (by omega) (by omega) hx2.symm ?_
            refine y_callV2 mX4_order dL_law_421 rfl rfl (And.intro T0 trivial).1 (Nat.le_of_ble_eq_true rfl) (knorder (d := d + 19) hT y1 (fun c1 => ?_) (fun k b0 hk e1 e2 => ?_))
            · refine y_aload_n dL_law_424 rfl ?_
              refine y_aload_n dL_law_425 rfl ?_
              refine y_iload_n dL_law_426 rfl ?_
              refine y_iconst (v := 1) dL_law_427 (by decide) ?_
              refine y_iaddv (nI (i + 1)) dL_law_428 (nI_add (i) (1)) ?_
              refine y_saldN ((i + 1)) dL_law_429 hKb rfl (by omega) (by omega) hx1.symm ?_
              refine y_aload_n dL_law_430 rfl ?_
              refine y_iload_n dL_law_431 rfl ?_
              refine y_iconst (v := 2) dL_law_432 (by decide) ?_
              refine y_iaddv (nI (i + 2)) dL_law_433 (nI_add (i) (2)) ?_
              refine y_saldN ((i + 2)) dL_law_434 hKb rfl (by omega) (by omega) hx2.symm ?_
              refine y_callV2 mX5_order dL_law_435 rfl rfl hR.1 (Nat.le_of_ble_eq_true rfl) (krorder (d := d + 19) (lb := true) hR r12 r15 ho3 (fun _ => ?_) (fun k b0 _ hk e1 e2 => absurd c1 (fun c => c.elim (fun c => c k hk e1) (fun c => c b0 e2))))
              refine y_icmp_eq 657 dL_law_438 (by decide) (fun _ => ?_) (fun q => absurd q (by decide))
              exact k657 K I P n s L Lb G X (by omega) hlw
            · refine y_aload_n dL_law_424 rfl ?_
              refine y_aload_n dL_law_425 rfl ?_
              refine y_iload_n dL_law_426 rfl ?_
              refine y_iconst (v := 1) dL_law_427 (by decide) ?_
              refine y_iaddv (nI (i + 1)) dL_law_428 (nI_add (i) (1)) ?_
              refine y_saldN ((i + 1)) dL_law_429 hKb rfl (by omega) (by omega) hx1.symm ?_
              refine y_aload_n dL_law_430 rfl ?_
              refine y_iload_n dL_law_431 rfl ?_
              refine y_iconst (v := 2) dL_law_432 (by decide) ?_
              refine y_iaddv (nI (i + 2)) dL_law_433 (nI_add (i) (2)) ?_
              refine y_saldN ((i + 2)) dL_law_434 hKb rfl (by omega) (by omega) hx2.symm ?_
              refine y_callV2 mX5_order dL_law_435 rfl rfl hR.1 (Nat.le_of_ble_eq_true rfl) (krorder (d := d + 19) (lb := true) hR r12 r15 ho3 (fun c => absurd c (fun c => c.elim (fun c => absurd c (by decide)) (fun c => c.elim (fun c => c k hk e1) (fun c => c b0 e2)))) (fun k2 b2 _ hk2 e12 e22 => ?_))
              obtain rfl : k2 = k := nI_inj (by omega) (by omega) (e12.symm.trans e1)
              obtain rfl : b2 = b0 := bI_inj (e22.symm.trans e2)
              refine y_icmp_eq 657 dL_law_438 (by decide) (fun _ => ?_) (fun c438 => absurd (by cases b2 with | false => exact (y1.2.1 k2 _ (List.getElem?_eq_getElem hk)).trans (rho k2 _ (List.getElem?_eq_getElem hk)).symm | true => exact (y3.2 k2 _ (List.getElem?_eq_getElem (by omega))).trans (rhb k2 _ (List.getElem?_eq_getElem (by omega))).symm) c438)
              exact k657 K I P n s L Lb G X (by omega) hlw
        · refine ⟨410, 443, by rw [e33]; rfl, by decide, ?_⟩
          clear e33 hxo
          rcases hSe with hun | ⟨r, lz, hld⟩
          · obtain ⟨u1, u2, c15, u3, u4⟩ := id hun
            have r12 : I (o + 35) 12 = 0 := by rw [re0]; exact u1
            have r15 : I (o + 35) 15 = nI c15 := by rw [re0]; exact u4
            refine y_aload_n dL_law_443 rfl ?_
            refine y_aload_n dL_law_444 rfl ?_
            refine y_iload_n dL_law_445 rfl ?_
            refine y_iconst (v := 1) dL_law_446 (by decide) ?_
            refine y_iaddv (nI (i + 1)) dL_law_447 (nI_add (i) (1)) ?_
            refine y_saldN ((i + 1)) dL_law_448 hKb rfl (by omega) (by omega) hx1.symm ?_
            refine y_aload_n dL_law_449 rfl ?_
            refine y_iload_n dL_law_450 rfl ?_
            refine y_iconst (v := 2) dL_law_451 (by decide) ?_
            refine y_iaddv (nI (i + 2)) dL_law_452 (nI_add (i) (2)) ?_
            refine y_saldN ((i + 2)) dL_law_453 hKb rfl (by omega) (by omega) hx2.symm ?_
            refine y_callV2 mX4_comes dL_law_454 rfl rfl (And.intro T0 trivial).1 (Nat.le_of_ble_eq_true rfl) (kncomes (d := d + 17) (ord := []) hT hw hM u2 (fun h => absurd rfl h) (fun _ => ?_) (fun m v hm _ _ _ => absurd hm (by simp)))
            refine y_aload_n dL_law_457 rfl ?_
            refine y_aload_n dL_law_458 rfl ?_
            refine y_iload_n dL_law_459 rfl ?_
            refine y_iconst (v := 1) dL_law_460 (by decide) ?_
            refine y_iaddv (nI (i + 1)) dL_law_461 (nI_add (i) (1)) ?_
            refine y_saldN ((i + 1)) dL_law_462 hKb rfl (by omega) (by omega) hx1.symm ?_
            refine y_aload_n dL_law_463 rfl ?_
            refine y_iload_n dL_law_464 rfl ?_
            refine y_iconst (v := 2) dL_law_465 (by decide) ?_
            refine y_iaddv (nI (i + 2)) dL_law_466 (nI_add (i) (2)) ?_
            refine y_saldN ((i + 2)) dL_law_467 hKb rfl (by omega) (by omega) hx2.symm ?_
            refine y_callV2 mX5_comes dL_law_468 rfl rfl hR.1 (Nat.le_of_ble_eq_true rfl) (krcomes0 (d := d + 17) hR r12 r15 u3 ?_)
            refine y_icmp_eq 657 dL_law_471 (by decide) (fun _ => ?_) (fun q => absurd q (by decide))
            exact k657 K I P n s L Lb G X (by omega) hlw
          · obtain ⟨l1, l2, ⟨y1, y2, y3, y4⟩, l4, l5, l6⟩ := id hld
            obtain ⟨b1, b2, b3, b4, b5⟩ := sOB hw hg l1
            have ho12 : ∀ q ∈ sOrd G r, q < 12 := fun q hq => by have := b1.2 q hq; omega
            have ho3 : (sOrd G r).length ≤ 12 := by have := okl_len b1; omega
            have r12 : I (o + 35) 12 = 1 := by rw [re0]; exact l2.1
            have r13 : I (o + 35) 13 = bI lz := by rw [re0]; exact l2.2.1
            have r14 : I (o + 35) 14 = nI r := by rw [re0]; exact l2.2.2.1
            have r15 : I (o + 35) 15 = nI (sOrd G r).length := by rw [re0]; exact l2.2.2.2.1
            have rho : xHl I (o + 35 + 12) (sOrd G r) := fun p m hp => by rw [hre 12 (by decide)]; exact l2.2.2.2.2.1 p m hp
            have rhb : xHl I (o + 35 + 13) (sBeg G r) := fun p m hp => by rw [hre 13 (by decide)]; exact l2.2.2.2.2.2 p m hp
            refine y_aload_n dL_law_443 rfl ?_
            refine y_aload_n dL_law_444 rfl ?_
            refine y_iload_n dL_law_445 rfl ?_
            refine y_iconst (v := 1) dL_law_446 (by decide) ?_
            refine y_iaddv (nI (i + 1)) dL_law_447 (nI_add (i) (1)) ?_
            refine y_saldN ((i + 1)) dL_law_448 hKb rfl (by omega) (by omega) hx1.symm ?_
            refine y_aload_n dL_law_449 rfl ?_
            refine y_iload_n dL_law_450 rfl ?_
            refine y_iconst (v := 2) dL_law_451 (by decide) ?_
            refine y_iaddv (nI (i + 2)) dL_law_452 (nI_add (i) (2)) ?_
            refine y_saldN ((i + 2)) dL_law_453 hKb rfl (by omega) (by omega) hx2.symm ?_
            refine y_callV2 mX4_comes dL_law_454 rfl rfl (And.intro T0 trivial).1 (Nat.le_of_ble_eq_true rfl) (kncomes (d := d + 17) hT hw hM y1 (fun _ => y2) (fun c1 => ?_) (fun m v hm e1 hv e2 => ?_))
            · refine y_aload_n dL_law_457 rfl ?_
              refine y_aload_n dL_law_458 rfl ?_
              refine y_iload_n dL_law_459 rfl ?_
              refine y_iconst (v := 1) dL_law_460 (by decide) ?_
              refine y_iaddv (nI (i + 1)) dL_law_461 (nI_add (i) (1)) ?_
              refine y_saldN ((i + 1)) dL_law_462 hKb rfl (by omega) (by omega) hx1.symm ?_
              refine y_aload_n dL_law_463 rfl ?_
              refine y_iload_n dL_law_464 rfl ?_
              refine y_iconst (v := 2) dL_law_465 (by decide) ?_
              refine y_iaddv (nI (i + 2)) dL_law_466 (nI_add (i) (2)) ?_
              refine y_saldN ((i + 2)) dL_law_467 hKb rfl (by omega) (by omega) hx2.symm ?_
              refine y_callV2 mX5_comes dL_law_468 rfl rfl hR.1 (Nat.le_of_ble_eq_true rfl) (krcomes1 (d := d + 17) hR hA hw r12 r15 rho ho12 ho3 (fun _ => ?_) (fun m v hm e1 hv e2 => absurd c1 (fun c => c.elim (fun c => c m hm e1) (fun c => c v hv e2))))
              refine y_icmp_eq 657 dL_law_471 (by decide) (fun _ => ?_) (fun q => absurd q (by decide))
              exact k657 K I P n s L Lb G X (by omega) hlw
            · refine y_aload_n dL_law_457 rfl ?_
              refine y_aload_n dL_law_458 rfl ?_
              refine y_iload_n dL_law_459 rfl ?_
              refine y_iconst (v := 1) dL_law_460 (by decide) ?_
              refine y_iaddv (nI (i + 1)) dL_law_461 (nI_add (i) (1)) ?_
              refine y_saldN ((i + 1)) dL_law_462 hKb rfl (by omega) (by omega) hx1.symm ?_
              refine y_aload_n dL_law_463 rfl ?_
              refine y_iload_n dL_law_464 rfl ?_
              refine y_iconst (v := 2) dL_law_465 (by decide) ?_
              refine y_iaddv (nI (i + 2)) dL_law_466 (nI_add (i) (2)) ?_
              refine y_saldN ((i + 2)) dL_law_467 hKb rfl (by omega) (by omega) hx2.symm ?_
              refine y_callV2 mX5_comes dL_law_468 rfl rfl hR.1 (Nat.le_of_ble_eq_true rfl) (krcomes1 (d := d + 17) hR hA hw r12 r15 rho ho12 ho3 (fun c => absurd c (fun c => c.elim (fun c => c m hm e1) (fun c => c v hv e2))) (fun m2 v2 hm2 e12 hv2 e22 => ?_))
              obtain rfl : m = m2 := nI_inj (by have := ho12 m hm; omega) (by have := ho12 m2 hm2; omega) (e1.symm.trans e12)
              obtain rfl : v = v2 := nI_inj (by omega) (by omega) (e2.symm.trans e22)
              refine y_icmp_eq 657 dL_law_471 (by decide) (fun _ => ?_) (fun c471 => absurd (rfl) c471)
              exact k657 K I P n s L Lb G X (by omega) hlw
        · refine ⟨443, 476, by rw [e33]; rfl, by decide, ?_⟩
          clear e33 hxo
          rcases hSe with hun | ⟨r, lz, hld⟩
          · obtain ⟨u1, u2, c15, u3, u4⟩ := id hun
            have r12 : I (o + 35) 12 = 0 := by rw [re0]; exact u1
            have r15 : I (o + 35) 15 = nI c15 := by rw [re0]; exact u4
            refine y_aload_n dL_law_476 rfl ?_
            refine y_aload_n dL_law_477 rfl ?_
            refine y_iload_n dL_law_478 rfl ?_
            refine y_iconst (v := 1) dL_law_479 (by decide) ?_
            refine y_iaddv (nI (i + 1)) dL_law_480 (nI_add (i) (1)) ?_
            refine y_saldN ((i + 1)) dL_law_481 hKb rfl (by omega) (by omega) hx1.symm ?_
            refine y_aload_n dL_law_482 rfl ?_
            refine y_iload_n dL_law_483 rfl ?_
            refine y_iconst (v := 2) dL_law_484 (by decide) ?_
            refine y_iaddv (nI (i + 2)) dL_law_485 (nI_add (i) (2)) ?_
            refine y_saldN ((i + 2)) dL_law_486 hKb rfl (by omega) (by omega) hx2.symm ?_
            refine y_callV2 mX4_bound dL_law_487 rfl rfl (And.intro T0 trivial).1 (Nat.le_of_ble_eq_true rfl) (knbound (d := d + 17) (ord := []) hT u2 (fun _ => ?_) (fun m v hm _ _ _ => absurd hm (by simp)))
            refine y_aload_n dL_law_490 rfl ?_
            refine y_aload_n dL_law_491 rfl ?_
            refine y_iload_n dL_law_492 rfl ?_
            refine y_iconst (v := 1) dL_law_493 (by decide) ?_
            refine y_iaddv (nI (i + 1)) dL_law_494 (nI_add (i) (1)) ?_
            refine y_saldN ((i + 1)) dL_law_495 hKb rfl (by omega) (by omega) hx1.symm ?_
            refine y_aload_n dL_law_496 rfl ?_
            refine y_iload_n dL_law_497 rfl ?_
            refine y_iconst (v := 2) dL_law_498 (by decide) ?_
            refine y_iaddv (nI (i + 2)) dL_law_499 (nI_add (i) (2)) ?_
            refine y_saldN ((i + 2)) dL_law_500 hKb rfl (by omega) (by omega) hx2.symm ?_
            refine y_callV2 mX5_bound dL_law_501 rfl rfl hR.1 (Nat.le_of_ble_eq_true rfl) (krbound0 (d := d + 17) hR r12 r15 u3 ?_)
            refine y_icmp_eq 657 dL_law_504 (by decide) (fun _ => ?_) (fun q => absurd q (by decide))
            exact k657 K I P n s L Lb G X (by omega) hlw
          · obtain ⟨l1, l2, ⟨y1, y2, y3, y4⟩, l4, l5, l6⟩ := id hld
            obtain ⟨b1, b2, b3, b4, b5⟩ := sOB hw hg l1
            have ho12 : ∀ q ∈ sOrd G r, q < 12 := fun q hq => by have := b1.2 q hq; omega
            have ho3 : (sOrd G r).length ≤ 12 := by have := okl_len b1; omega
            have r12 : I (o + 35) 12 = 1 := by rw [re0]; exact l2.1
            have r13 : I (o + 35) 13 = bI lz := by rw [re0]; exact l2.2.1
            have r14 : I (o + 35) 14 = nI r := by rw [re0]; exact l2.2.2.1
            have r15 : I (o + 35) 15 = nI (sOrd G r).length := by rw [re0]; exact l2.2.2.2.1
            have rho : xHl I (o + 35 + 12) (sOrd G r) := fun p m hp => by rw [hre 12 (by decide)]; exact l2.2.2.2.2.1 p m hp
            have rhb : xHl I (o + 35 + 13) (sBeg G r) := fun p m hp => by rw [hre 13 (by decide)]; exact l2.2.2.2.2.2 p m hp
            refine y_aload_n dL_law_476 rfl ?_
            refine y_aload_n dL_law_477 rfl ?_
            refine y_iload_n dL_law_478 rfl ?_
            refine y_iconst (v := 1) dL_law_479 (by decide) ?_
            refine y_iaddv (nI (i + 1)) dL_law_480 (nI_add (i) (1)) ?_
            refine y_saldN ((i + 1)) dL_law_481 hKb rfl (by omega) (by omega) hx1.symm ?_
            refine y_aload_n dL_law_482 rfl ?_
            refine y_iload_n dL_law_483 rfl ?_
            refine y_iconst (v := 2) dL_law_484 (by decide) ?_
            refine y_iaddv (nI (i + 2)) dL_law_485 (nI_add (i) (2)) ?_
            refine y_saldN ((i + 2)) dL_law_486 hKb rfl (by omega) (by omega) hx2.symm ?_
            refine y_callV2 mX4_bound dL_law_487 rfl rfl (And.intro T0 trivial).1 (Nat.le_of_ble_eq_true rfl) (knbound (d := d + 17) hT y1 (fun c1 => ?_) (fun m v hm e1 hv e2 => ?_))
            · refine y_aload_n dL_law_490 rfl ?_
              refine y_aload_n dL_law_491 rfl ?_
              refine y_iload_n dL_law_492 rfl ?_
              refine y_iconst (v := 1) dL_law_493 (by decide) ?_
              refine y_iaddv (nI (i + 1)) dL_law_494 (nI_add (i) (1)) ?_
              refine y_saldN ((i + 1)) dL_law_495 hKb rfl (by omega) (by omega) hx1.symm ?_
              refine y_aload_n dL_law_496 rfl ?_
              refine y_iload_n dL_law_497 rfl ?_
              refine y_iconst (v := 2) dL_law_498 (by decide) ?_
              refine y_iaddv (nI (i + 2)) dL_law_499 (nI_add (i) (2)) ?_
              refine y_saldN ((i + 2)) dL_law_500 hKb rfl (by omega) (by omega) hx2.symm ?_
              refine y_callV2 mX5_bound dL_law_501 rfl rfl hR.1 (Nat.le_of_ble_eq_true rfl) (krbound1 (d := d + 17) hR hA hw r12 r15 rho ho12 ho3 (fun _ => ?_) (fun m v hm e1 hv e2 => absurd c1 (fun c => c.elim (fun c => c m hm e1) (fun c => c v hv e2))))
              refine y_icmp_eq 657 dL_law_504 (by decide) (fun _ => ?_) (fun q => absurd q (by decide))
              exact k657 K I P n s L Lb G X (by omega) hlw
            · refine y_aload_n dL_law_490 rfl ?_
              refine y_aload_n dL_law_491 rfl ?_
              refine y_iload_n dL_law_492 rfl ?_
              refine y_iconst (v := 1) dL_law_493 (by decide) ?_
              refine y_iaddv (nI (i + 1)) dL_law_494 (nI_add (i) (1)) ?_
              refine y_saldN ((i + 1)) dL_law_495 hKb rfl (by omega) (by omega) hx1.symm ?_
              refine y_aload_n dL_law_496 rfl ?_
              refine y_iload_n dL_law_497 rfl ?_
              refine y_iconst (v := 2) dL_law_498 (by decide) ?_
              refine y_iaddv (nI (i + 2)) dL_law_499 (nI_add (i) (2)) ?_
              refine y_saldN ((i + 2)) dL_law_500 hKb rfl (by omega) (by omega) hx2.symm ?_
              refine y_callV2 mX5_bound dL_law_501 rfl rfl hR.1 (Nat.le_of_ble_eq_true rfl) (krbound1 (d := d + 17) hR hA hw r12 r15 rho ho12 ho3 (fun c => absurd c (fun c => c.elim (fun c => c m hm e1) (fun c => c v hv e2))) (fun m2 v2 hm2 e12 hv2 e22 => ?_))
              obtain rfl : m = m2 := nI_inj (by have := ho12 m hm; omega) (by have := ho12 m2 hm2; omega) (e1.symm.trans e12)
              obtain rfl : v = v2 := nI_inj (by omega) (by omega) (e2.symm.trans e22)
              refine y_icmp_eq 657 dL_law_504 (by decide) (fun _ => ?_) (fun c504 => absurd (by rw [(l4 m hm).1 v hv, hre 14 (by decide)]) c504)
              exact k657 K I P n s L Lb G X (by omega) hlw
        · refine ⟨476, 509, by rw [e33]; rfl, by decide, ?_⟩
          clear e33 hxo
          rcases hSe with hun | ⟨r, lz, hld⟩
          · obtain ⟨u1, u2, c15, u3, u4⟩ := id hun
            have r12 : I (o + 35) 12 = 0 := by rw [re0]; exact u1
            have r15 : I (o + 35) 15 = nI c15 := by rw [re0]; exact u4
            refine y_aload_n dL_law_509 rfl ?_
            refine y_aload_n dL_law_510 rfl ?_
            refine y_iload_n dL_law_511 rfl ?_
            refine y_iconst (v := 1) dL_law_512 (by decide) ?_
            refine y_iaddv (nI (i + 1)) dL_law_513 (nI_add (i) (1)) ?_
            refine y_saldN ((i + 1)) dL_law_514 hKb rfl (by omega) (by omega) hx1.symm ?_
            refine y_aload_n dL_law_515 rfl ?_
            refine y_iload_n dL_law_516 rfl ?_
            refine y_iconst (v := 2) dL_law_517 (by decide) ?_
            refine y_iaddv (nI (i + 2)) dL_law_518 (nI_add (i) (2)) ?_
            refine y_saldN ((i + 2)) dL_law_519 hKb rfl (by omega) (by omega) hx2.symm ?_
            refine y_callV2 mX4_run dL_law_520 rfl rfl (And.intro T0 trivial).1 (Nat.le_of_ble_eq_true rfl) (knrun0 (d := d + 19) hT u2.1 ?_)
            refine y_aload_n dL_law_523 rfl ?_
            refine y_aload_n dL_law_524 rfl ?_
            refine y_iload_n dL_law_525 rfl ?_
            refine y_iconst (v := 1) dL_law_526 (by decide) ?_
            refine y_iaddv (nI (i + 1)) dL_law_527 (nI_add (i) (1)) ?_
            refine y_saldN ((i + 1)) dL_law_528 hKb rfl (by omega) (by omega) hx1.symm ?_
            refine y_aload_n dL_law_529 rfl ?_
            refine y_iload_n dL_law_530 rfl ?_
            refine y_iconst (v := 2) dL_law_531 (by decide) ?_
            refine y_iaddv (nI (i + 2)) dL_law_532 (nI_add (i) (2)) ?_
            refine y_saldN ((i + 2)) dL_law_533 hKb rfl (by omega) (by omega) hx2.symm ?_
            refine y_callV2 mX5_run dL_law_534 rfl rfl hR.1 (Nat.le_of_ble_eq_true rfl) (krrun0 (d := d + 19) hR r12 ?_)
            refine y_icmp_eq 657 dL_law_537 (by decide) (fun _ => ?_) (fun q => absurd q (by decide))
            exact k657 K I P n s L Lb G X (by omega) hlw
          · obtain ⟨l1, l2, ⟨y1, y2, y3, y4⟩, l4, l5, l6⟩ := id hld
            obtain ⟨b1, b2, b3, b4, b5⟩ := sOB hw hg l1
            have ho12 : ∀ q ∈ sOrd G r, q < 12 := fun q hq => by have := b1.2 q hq; omega
            have ho3 : (sOrd G r).length ≤ 12 := by have := okl_len b1; omega
            have r12 : I (o + 35) 12 = 1 := by rw [re0]; exact l2.1
            have r13 : I (o + 35) 13 = bI lz := by rw [re0]; exact l2.2.1
            have r14 : I (o + 35) 14 = nI r := by rw [re0]; exact l2.2.2.1
            have r15 : I (o + 35) 15 = nI (sOrd G r).length := by rw [re0]; exact l2.2.2.2.1
            have rho : xHl I (o + 35 + 12) (sOrd G r) := fun p m hp => by rw [hre 12 (by decide)]; exact l2.2.2.2.2.1 p m hp
            have rhb : xHl I (o + 35 + 13) (sBeg G r) := fun p m hp => by rw [hre 13 (by decide)]; exact l2.2.2.2.2.2 p m hp
            obtain ⟨hk1, hk2⟩ := sFt_chk l6
            refine y_aload_n dL_law_509 rfl ?_
            refine y_aload_n dL_law_510 rfl ?_
            refine y_iload_n dL_law_511 rfl ?_
            refine y_iconst (v := 1) dL_law_512 (by decide) ?_
            refine y_iaddv (nI (i + 1)) dL_law_513 (nI_add (i) (1)) ?_
            refine y_saldN ((i + 1)) dL_law_514 hKb rfl (by omega) (by omega) hx1.symm ?_
            refine y_aload_n dL_law_515 rfl ?_
            refine y_iload_n dL_law_516 rfl ?_
            refine y_iconst (v := 2) dL_law_517 (by decide) ?_
            refine y_iaddv (nI (i + 2)) dL_law_518 (nI_add (i) (2)) ?_
            refine y_saldN ((i + 2)) dL_law_519 hKb rfl (by omega) (by omega) hx2.symm ?_
            refine y_callV2 mX4_run dL_law_520 rfl rfl (And.intro T0 trivial).1 (Nat.le_of_ble_eq_true rfl) (knrun1 (d := d + 13) (X := G) (Y := X) (beg := sBeg G r) (lz := lz) hT hw hM y1 y2 y3 y4 hU hV b3 b4 b5 hk1 hk2 (fun c1 => ?_) (fun v gr e I1 g fk hq => ?_))
            · refine y_aload_n dL_law_523 rfl ?_
              refine y_aload_n dL_law_524 rfl ?_
              refine y_iload_n dL_law_525 rfl ?_
              refine y_iconst (v := 1) dL_law_526 (by decide) ?_
              refine y_iaddv (nI (i + 1)) dL_law_527 (nI_add (i) (1)) ?_
              refine y_saldN ((i + 1)) dL_law_528 hKb rfl (by omega) (by omega) hx1.symm ?_
              refine y_aload_n dL_law_529 rfl ?_
              refine y_iload_n dL_law_530 rfl ?_
              refine y_iconst (v := 2) dL_law_531 (by decide) ?_
              refine y_iaddv (nI (i + 2)) dL_law_532 (nI_add (i) (2)) ?_
              refine y_saldN ((i + 2)) dL_law_533 hKb rfl (by omega) (by omega) hx2.symm ?_
              refine y_callV2 mX5_run dL_law_534 rfl rfl hR.1 (Nat.le_of_ble_eq_true rfl) (krrun1 (d := d + 14) (beg := sBeg G r) (lz := lz) hR hw ho12 ho3 hk1 hk2 b4 b5 b2 hA r12 r13 r14 r15 rho rhb (fun _ => ?_) (fun v gr e g => absurd g (c1 v gr e)))
              refine y_icmp_eq 657 dL_law_537 (by decide) (fun _ => ?_) (fun q => absurd q (by decide))
              exact k657 K I P n s L Lb G X (by omega) hlw
            · have hbI : I1 b = I b := fk b (by omega)
              have hA1 : xPg I1 (o + 35) G := fun i i1 i2 => by rw [fk _ (Or.inr ⟨by omega, fun m _ => by omega⟩)]; exact hA i i1 i2
              have hre1 : xRe I1 (o + 35) X := hre.fr (fun a a1 a2 => fk a (Or.inr ⟨by omega, fun m _ => by omega⟩))
              have f35 : ∀ a, o + 35 ≤ a → a ≤ o + 58 → I1 a = I a := fun a h1 h2 => fk a (Or.inr ⟨by omega, fun m _ => by omega⟩)
              have hov1 := hre1.ov
              have hrr : rRuns G (sOrd G r) gr (rBg G (sOrd G r) (sBeg G r) ++ [e]) (rFr G (sOrd G r) lz (xRf I1 (o + 35))) = ovp (rRuns G (sOrd G r) gr (rBg G (sOrd G r) (sBeg G r) ++ [e]) (rFr G (sOrd G r) lz X)) (xRf I1 (o + 35)) := by
                conv => lhs; rw [hov1]
                rw [rFr_ov, rRuns_ov]
              refine y_aload_n dL_law_523 rfl ?_
              refine y_aload_n dL_law_524 rfl ?_
              refine y_iload_n dL_law_525 rfl ?_
              refine y_iconst (v := 1) dL_law_526 (by decide) ?_
              refine y_iaddv (nI (i + 1)) dL_law_527 (nI_add (i) (1)) ?_
              refine y_saldN ((i + 1)) dL_law_528 hKb rfl (by omega) (by omega) ((congrFun hbI (i + 1)).trans hx1.symm) ?_
              refine y_aload_n dL_law_529 rfl ?_
              refine y_iload_n dL_law_530 rfl ?_
              refine y_iconst (v := 2) dL_law_531 (by decide) ?_
              refine y_iaddv (nI (i + 2)) dL_law_532 (nI_add (i) (2)) ?_
              refine y_saldN ((i + 2)) dL_law_533 hKb rfl (by omega) (by omega) ((congrFun hbI (i + 2)).trans hx2.symm) ?_
              refine y_callV2 mX5_run dL_law_534 rfl rfl hR.1 (Nat.le_of_ble_eq_true rfl) (krrun1 (d := d + 14) (beg := sBeg G r) (lz := lz) hR hw ho12 ho3 hk1 hk2 b4 b5 b2 hA1 (by rw [f35 _ (by omega) (by omega)]; exact r12) (by rw [f35 _ (by omega) (by omega)]; exact r13) (by rw [f35 _ (by omega) (by omega)]; exact r14) (by rw [f35 _ (by omega) (by omega)]; exact r15) (fun p m hp => by rw [f35 _ (by omega) (by omega)]; exact rho p m hp) (fun p m hp => by rw [f35 _ (by omega) (by omega)]; exact rhb p m hp) (fun c => absurd g (c v gr e)) (fun v2 gr2 e2 g2 I2 mk p2 p3 p4 p5 => ?_))
              obtain rfl : gr = gr2 := nI_inj (by have := g.2.2.1; omega) (by have := g2.2.2.1; omega) (g.2.2.2.1.symm.trans g2.2.2.2.1)
              obtain rfl : e = e2 := Option.some.inj (g.2.2.2.2.1.symm.trans g2.2.2.2.2.1)
              rw [hrr] at p2 ⊢
              dsimp only [ovp] at p2 ⊢
              refine y_icmp_eq 657 dL_law_537 (by decide) (fun _ => ?_) (fun c537 => absurd (rfl) c537)
              have hov : rRuns G (sOrd G r) gr (rBg G (sOrd G r) (sBeg G r) ++ [e]) (rFr G (sOrd G r) lz X) = ovp (rRuns G (sOrd G r) gr (rBg G (sOrd G r) (sBeg G r) ++ [e]) (rFr G (sOrd G r) lz X)) X := by
                conv => lhs; rw [← ov_self (X := X)]
                rw [rFr_ov, rRuns_ov]
              have hrow : ∀ i, i ≤ 23 → I2 (o + 35 + i) = (rRuns G (sOrd G r) gr (rBg G (sOrd G r) (sBeg G r) ++ [e]) (rFr G (sOrd G r) lz X)).2 i := fun i hi => by
                have := congrFun p2 i
                rw [ov_r hi] at this
                exact this
              have hFX : xF 0 [14, 15, 20, 21, 22, 23] [29, 30, 31, 32, 36, 37, 38] X (rRuns G (sOrd G r) gr (rBg G (sOrd G r) (sBeg G r) ++ [e]) (rFr G (sOrd G r) lz X)).2 := fun a j p q => by
                by_cases ha : a ≤ 23
                · rw [← hrow a ha, ← hre1 a ha]
                  exact p4 a j p q
                · have := congrArg Prod.snd hov
                  dsimp only [ovp] at this
                  rw [this, ov_w (by omega)]
              have hw2 : wfC (rRuns G (sOrd G r) gr (rBg G (sOrd G r) (sBeg G r) ++ [e]) (rFr G (sOrd G r) lz X)).2 mk := by
                obtain ⟨de, bd, sd, a1, a2, a3, a4, a5, a6, a7, a8⟩ := p5
                have e0 : (rRuns G (sOrd G r) gr (rBg G (sOrd G r) (sBeg G r) ++ [e]) (rFr G (sOrd G r) lz X)).2 0 = xRf I2 (o + 35) 0 := (hrow 0 (by decide)).symm
                exact ⟨de, bd, sd, by rw [e0]; exact a1, a2, by rw [e0]; exact a3, by rw [e0]; exact a4, by rw [e0]; exact a5, a6, a7, a8⟩
              have q2 := (xCl.run hcl hld fk hq hFX hw2).fr (I' := I2) (fun a h => p3 a (by omega))
              exact k657 _ _ _ _ _ L Lb _ _ (by omega) ⟨q2, hrow, hR, hKb, hn, hs⟩
        · refine ⟨509, 542, by rw [e33]; rfl, by decide, ?_⟩
          clear e33 hxo
          rcases hSe with hun | ⟨r, lz, hld⟩
          · obtain ⟨u1, u2, c15, u3, u4⟩ := id hun
            have r12 : I (o + 35) 12 = 0 := by rw [re0]; exact u1
            have r15 : I (o + 35) 15 = nI c15 := by rw [re0]; exact u4
            refine y_aload_n dL_law_542 rfl ?_
            refine y_aload_n dL_law_543 rfl ?_
            refine y_iload_n dL_law_544 rfl ?_
            refine y_iconst (v := 1) dL_law_545 (by decide) ?_
            refine y_iaddv (nI (i + 1)) dL_law_546 (nI_add (i) (1)) ?_
            refine y_saldN ((i + 1)) dL_law_547 hKb rfl (by omega) (by omega) hx1.symm ?_
            refine y_callV1 mX4_count dL_law_548 rfl rfl (And.intro T0 trivial).1 (Nat.le_of_ble_eq_true rfl) (kncount (d := d + 19) hT ?_)
            refine y_aload_n dL_law_551 rfl ?_
            refine y_aload_n dL_law_552 rfl ?_
            refine y_iload_n dL_law_553 rfl ?_
            refine y_iconst (v := 1) dL_law_554 (by decide) ?_
            refine y_iaddv (nI (i + 1)) dL_law_555 (nI_add (i) (1)) ?_
            refine y_saldN ((i + 1)) dL_law_556 hKb rfl (by omega) (by omega) hx1.symm ?_
            refine y_callV1 mX5_count dL_law_557 rfl rfl hR.1 (Nat.le_of_ble_eq_true rfl) (krcount (d := d + 19) (lb := false) hR r12 ?_)
            refine y_icmp_eq 657 dL_law_560 (by decide) (fun _ => ?_) (fun c560 => absurd (by rw [hV.2.2.1, hV.2.2.2.1, hV.2.2.2.2.1, hV.2.2.2.2.2, hC, u2.1, if_neg (show ¬ (false = true) by decide), re0, hPr.1.trans w0]; rfl) c560)
            exact k657 K I P n s L Lb G X (by omega) hlw
          · obtain ⟨l1, l2, ⟨y1, y2, y3, y4⟩, l4, l5, l6⟩ := id hld
            obtain ⟨b1, b2, b3, b4, b5⟩ := sOB hw hg l1
            have ho12 : ∀ q ∈ sOrd G r, q < 12 := fun q hq => by have := b1.2 q hq; omega
            have ho3 : (sOrd G r).length ≤ 12 := by have := okl_len b1; omega
            have r12 : I (o + 35) 12 = 1 := by rw [re0]; exact l2.1
            have r13 : I (o + 35) 13 = bI lz := by rw [re0]; exact l2.2.1
            have r14 : I (o + 35) 14 = nI r := by rw [re0]; exact l2.2.2.1
            have r15 : I (o + 35) 15 = nI (sOrd G r).length := by rw [re0]; exact l2.2.2.2.1
            have rho : xHl I (o + 35 + 12) (sOrd G r) := fun p m hp => by rw [hre 12 (by decide)]; exact l2.2.2.2.2.1 p m hp
            have rhb : xHl I (o + 35 + 13) (sBeg G r) := fun p m hp => by rw [hre 13 (by decide)]; exact l2.2.2.2.2.2 p m hp
            refine y_aload_n dL_law_542 rfl ?_
            refine y_aload_n dL_law_543 rfl ?_
            refine y_iload_n dL_law_544 rfl ?_
            refine y_iconst (v := 1) dL_law_545 (by decide) ?_
            refine y_iaddv (nI (i + 1)) dL_law_546 (nI_add (i) (1)) ?_
            refine y_saldN ((i + 1)) dL_law_547 hKb rfl (by omega) (by omega) hx1.symm ?_
            refine y_callV1 mX4_count dL_law_548 rfl rfl (And.intro T0 trivial).1 (Nat.le_of_ble_eq_true rfl) (kncount (d := d + 19) hT ?_)
            refine y_aload_n dL_law_551 rfl ?_
            refine y_aload_n dL_law_552 rfl ?_
            refine y_iload_n dL_law_553 rfl ?_
            refine y_iconst (v := 1) dL_law_554 (by decide) ?_
            refine y_iaddv (nI (i + 1)) dL_law_555 (nI_add (i) (1)) ?_
            refine y_saldN ((i + 1)) dL_law_556 hKb rfl (by omega) (by omega) hx1.symm ?_
            refine y_callV1 mX5_count dL_law_557 rfl rfl hR.1 (Nat.le_of_ble_eq_true rfl) (krcount (d := d + 19) (lb := true) hR r12 ?_)
            refine y_icmp_eq 657 dL_law_560 (by decide) (fun _ => ?_) (fun c560 => absurd (by rw [hV.2.2.1, hV.2.2.2.1, hV.2.2.2.2.1, hV.2.2.2.2.2, hC, y1.1, if_pos rfl, r15, re0, hPr.1.trans w0]) c560)
            exact k657 K I P n s L Lb G X (by omega) hlw
        · refine ⟨532, 565, by rw [e33]; rfl, by decide, ?_⟩
          clear e33 hxo
          obtain ⟨mk, de, bd, sd, a3, a4, a5, s30, a7, a8, a9, a10⟩ := hwc
          refine y_aload_n dL_law_565 rfl ?_
          refine y_aload_n dL_law_566 rfl ?_
          refine y_iload_n dL_law_567 rfl ?_
          refine y_iconst (v := 1) dL_law_568 (by decide) ?_
          refine y_iaddv (nI (i + 1)) dL_law_569 (nI_add (i) (1)) ?_
          refine y_saldN ((i + 1)) dL_law_570 hKb rfl (by omega) (by omega) hx1.symm ?_
          refine y_callV1 mX4_said dL_law_571 rfl rfl (And.intro T0 trivial).1 (Nat.le_of_ble_eq_true rfl) (knsaid (d := d + 19) (c := sd) hT (hV.2.2.2.1.trans s30) (by omega) (fun c1 => ?_) (fun k hk hk3 e => ?_))
          · refine y_aload_n dL_law_574 rfl ?_
            refine y_aload_n dL_law_575 rfl ?_
            refine y_iload_n dL_law_576 rfl ?_
            refine y_iconst (v := 1) dL_law_577 (by decide) ?_
            refine y_iaddv (nI (i + 1)) dL_law_578 (nI_add (i) (1)) ?_
            refine y_saldN ((i + 1)) dL_law_579 hKb rfl (by omega) (by omega) hx1.symm ?_
            refine y_callV1 mX5_said dL_law_580 rfl rfl hR.1 (Nat.le_of_ble_eq_true rfl) (krsaid (d := d + 19) (c := sd) hR (by rw [re0]; exact s30) (by omega) (fun _ => ?_) (fun k hk hk3 e => absurd e (c1 k hk hk3)))
            refine y_icmp_eq 657 dL_law_583 (by decide) (fun _ => ?_) (fun q => absurd q (by decide))
            exact k657 K I P n s L Lb G X (by omega) hlw
          · refine y_aload_n dL_law_574 rfl ?_
            refine y_aload_n dL_law_575 rfl ?_
            refine y_iload_n dL_law_576 rfl ?_
            refine y_iconst (v := 1) dL_law_577 (by decide) ?_
            refine y_iaddv (nI (i + 1)) dL_law_578 (nI_add (i) (1)) ?_
            refine y_saldN ((i + 1)) dL_law_579 hKb rfl (by omega) (by omega) hx1.symm ?_
            refine y_callV1 mX5_said dL_law_580 rfl rfl hR.1 (Nat.le_of_ble_eq_true rfl) (krsaid (d := d + 19) (c := sd) hR (by rw [re0]; exact s30) (by omega) (fun c => absurd e (c k hk hk3)) (fun k2 hk2 _ e2 => ?_))
            obtain rfl : k2 = k := nI_inj (by omega) (by omega) (e2.symm.trans e)
            refine y_icmp_eq 657 dL_law_583 (by decide) (fun _ => ?_) (fun c583 => absurd (by rw [hV.2.1 _ hk, hre 21 (by decide)]) c583)
            exact k657 K I P n s L Lb G X (by omega) hlw
        · refine ⟨555, 588, by rw [e33]; rfl, by decide, ?_⟩
          clear e33 hxo
          refine y_aload_n dL_law_588 rfl ?_
          refine y_aload_n dL_law_589 rfl ?_
          refine y_iload_n dL_law_590 rfl ?_
          refine y_iconst (v := 1) dL_law_591 (by decide) ?_
          refine y_iaddv (nI (i + 1)) dL_law_592 (nI_add (i) (1)) ?_
          refine y_saldN ((i + 1)) dL_law_593 hKb rfl (by omega) (by omega) hx1.symm ?_
          refine y_callV1 mX4_register dL_law_594 rfl rfl (And.intro T0 trivial).1 (Nat.le_of_ble_eq_true rfl) (knregister (d := d + 18) hT (fun c1 => ?_) (fun k hk e => ?_))
          · refine y_aload_n dL_law_597 rfl ?_
            refine y_aload_n dL_law_598 rfl ?_
            refine y_iload_n dL_law_599 rfl ?_
            refine y_iconst (v := 1) dL_law_600 (by decide) ?_
            refine y_iaddv (nI (i + 1)) dL_law_601 (nI_add (i) (1)) ?_
            refine y_saldN ((i + 1)) dL_law_602 hKb rfl (by omega) (by omega) hx1.symm ?_
            refine y_callV1 mX5_register dL_law_603 rfl rfl hR.1 (Nat.le_of_ble_eq_true rfl) (krregister (d := d + 18) hR (fun _ => ?_) (fun k hk e => absurd e (c1 k hk)))
            refine y_icmp_eq 657 dL_law_606 (by decide) (fun _ => ?_) (fun q => absurd q (by decide))
            exact k657 K I P n s L Lb G X (by omega) hlw
          · refine y_aload_n dL_law_597 rfl ?_
            refine y_aload_n dL_law_598 rfl ?_
            refine y_iload_n dL_law_599 rfl ?_
            refine y_iconst (v := 1) dL_law_600 (by decide) ?_
            refine y_iaddv (nI (i + 1)) dL_law_601 (nI_add (i) (1)) ?_
            refine y_saldN ((i + 1)) dL_law_602 hKb rfl (by omega) (by omega) hx1.symm ?_
            refine y_callV1 mX5_register dL_law_603 rfl rfl hR.1 (Nat.le_of_ble_eq_true rfl) (krregister (d := d + 18) hR (fun c => absurd e (c k hk)) (fun k2 hk2 e2 => ?_))
            obtain rfl : k2 = k := nI_inj (by omega) (by omega) (e2.symm.trans e)
            refine y_icmp_eq 657 dL_law_606 (by decide) (fun _ => ?_) (fun c606 => absurd (by rw [hV.1 _ hk, hre 20 (by decide)]) c606)
            exact k657 K I P n s L Lb G X (by omega) hlw
        · refine ⟨578, 611, by rw [e33]; rfl, by decide, ?_⟩
          clear e33 hxo
          rcases hSe with hun | ⟨r, lz, hld⟩
          · obtain ⟨u1, u2, c15, u3, u4⟩ := id hun
            have r12 : I (o + 35) 12 = 0 := by rw [re0]; exact u1
            have r15 : I (o + 35) 15 = nI c15 := by rw [re0]; exact u4
            refine y_aload_n dL_law_611 rfl ?_
            refine y_aload_n dL_law_612 rfl ?_
            refine y_iload_n dL_law_613 rfl ?_
            refine y_iconst (v := 1) dL_law_614 (by decide) ?_
            refine y_iaddv (nI (i + 1)) dL_law_615 (nI_add (i) (1)) ?_
            refine y_saldN ((i + 1)) dL_law_616 hKb rfl (by omega) (by omega) hx1.symm ?_
            refine y_aload_n dL_law_617 rfl ?_
            refine y_iload_n dL_law_618 rfl ?_
            refine y_iconst (v := 2) dL_law_619 (by decide) ?_
            refine y_iaddv (nI (i + 2)) dL_law_620 (nI_add (i) (2)) ?_
            refine y_saldN ((i + 2)) dL_law_621 hKb rfl (by omega) (by omega) hx2.symm ?_
            refine y_callV2 mX4_datum dL_law_622 rfl rfl (And.intro T0 trivial).1 (Nat.le_of_ble_eq_true rfl) (kndatum (d := d + 17) (ord := []) hT hw hM u2 (fun _ => ?_) (fun m v e hm _ _ _ _ _ => absurd hm (by simp)))
            refine y_aload_n dL_law_625 rfl ?_
            refine y_aload_n dL_law_626 rfl ?_
            refine y_iload_n dL_law_627 rfl ?_
            refine y_iconst (v := 1) dL_law_628 (by decide) ?_
            refine y_iaddv (nI (i + 1)) dL_law_629 (nI_add (i) (1)) ?_
            refine y_saldN ((i + 1)) dL_law_630 hKb rfl (by omega) (by omega) hx1.symm ?_
            refine y_aload_n dL_law_631 rfl ?_
            refine y_iload_n dL_law_632 rfl ?_
            refine y_iconst (v := 2) dL_law_633 (by decide) ?_
            refine y_iaddv (nI (i + 2)) dL_law_634 (nI_add (i) (2)) ?_
            refine y_saldN ((i + 2)) dL_law_635 hKb rfl (by omega) (by omega) hx2.symm ?_
            refine y_callV2 mX5_datum dL_law_636 rfl rfl hR.1 (Nat.le_of_ble_eq_true rfl) (krdatum0 (d := d + 17) hR r12 r15 u3 ?_)
            refine y_icmp_eq 657 dL_law_639 (by decide) (fun _ => ?_) (fun q => absurd q (by decide))
            exact k657 K I P n s L Lb G X (by omega) hlw
          · obtain ⟨l1, l2, ⟨y1, y2, y3, y4⟩, l4, l5, l6⟩ := id hld
            obtain ⟨b1, b2, b3, b4, b5⟩ := sOB hw hg l1
            have ho12 : ∀ q ∈ sOrd G r, q < 12 := fun q hq => by have := b1.2 q hq; omega
            have ho3 : (sOrd G r).length ≤ 12 := by have := okl_len b1; omega
            have r12 : I (o + 35) 12 = 1 := by rw [re0]; exact l2.1
            have r13 : I (o + 35) 13 = bI lz := by rw [re0]; exact l2.2.1
            have r14 : I (o + 35) 14 = nI r := by rw [re0]; exact l2.2.2.1
            have r15 : I (o + 35) 15 = nI (sOrd G r).length := by rw [re0]; exact l2.2.2.2.1
            have rho : xHl I (o + 35 + 12) (sOrd G r) := fun p m hp => by rw [hre 12 (by decide)]; exact l2.2.2.2.2.1 p m hp
            have rhb : xHl I (o + 35 + 13) (sBeg G r) := fun p m hp => by rw [hre 13 (by decide)]; exact l2.2.2.2.2.2 p m hp
            refine y_aload_n dL_law_611 rfl ?_
            refine y_aload_n dL_law_612 rfl ?_
            refine y_iload_n dL_law_613 rfl ?_
            refine y_iconst (v := 1) dL_law_614 (by decide) ?_
            refine y_iaddv (nI (i + 1)) dL_law_615 (nI_add (i) (1)) ?_
            refine y_saldN ((i + 1)) dL_law_616 hKb rfl (by omega) (by omega) hx1.symm ?_
            refine y_aload_n dL_law_617 rfl ?_
            refine y_iload_n dL_law_618 rfl ?_
            refine y_iconst (v := 2) dL_law_619 (by decide) ?_
            refine y_iaddv (nI (i + 2)) dL_law_620 (nI_add (i) (2)) ?_
            refine y_saldN ((i + 2)) dL_law_621 hKb rfl (by omega) (by omega) hx2.symm ?_
            refine y_callV2 mX4_datum dL_law_622 rfl rfl (And.intro T0 trivial).1 (Nat.le_of_ble_eq_true rfl) (kndatum (d := d + 17) hT hw hM y1 (fun c1 => ?_) (fun m v e hm e1 hv e2 hso h4 => ?_))
            · refine y_aload_n dL_law_625 rfl ?_
              refine y_aload_n dL_law_626 rfl ?_
              refine y_iload_n dL_law_627 rfl ?_
              refine y_iconst (v := 1) dL_law_628 (by decide) ?_
              refine y_iaddv (nI (i + 1)) dL_law_629 (nI_add (i) (1)) ?_
              refine y_saldN ((i + 1)) dL_law_630 hKb rfl (by omega) (by omega) hx1.symm ?_
              refine y_aload_n dL_law_631 rfl ?_
              refine y_iload_n dL_law_632 rfl ?_
              refine y_iconst (v := 2) dL_law_633 (by decide) ?_
              refine y_iaddv (nI (i + 2)) dL_law_634 (nI_add (i) (2)) ?_
              refine y_saldN ((i + 2)) dL_law_635 hKb rfl (by omega) (by omega) hx2.symm ?_
              refine y_callV2 mX5_datum dL_law_636 rfl rfl hR.1 (Nat.le_of_ble_eq_true rfl) (krdatum1 (d := d + 17) hR hA hw r12 r15 rho ho12 ho3 (fun _ => ?_) (fun m e hm e1 hso h4 => absurd h4 (c1 m e hm e1 hso)))
              refine y_icmp_eq 657 dL_law_639 (by decide) (fun _ => ?_) (fun q => absurd q (by decide))
              exact k657 K I P n s L Lb G X (by omega) hlw
            · refine y_aload_n dL_law_625 rfl ?_
              refine y_aload_n dL_law_626 rfl ?_
              refine y_iload_n dL_law_627 rfl ?_
              refine y_iconst (v := 1) dL_law_628 (by decide) ?_
              refine y_iaddv (nI (i + 1)) dL_law_629 (nI_add (i) (1)) ?_
              refine y_saldN ((i + 1)) dL_law_630 hKb rfl (by omega) (by omega) hx1.symm ?_
              refine y_aload_n dL_law_631 rfl ?_
              refine y_iload_n dL_law_632 rfl ?_
              refine y_iconst (v := 2) dL_law_633 (by decide) ?_
              refine y_iaddv (nI (i + 2)) dL_law_634 (nI_add (i) (2)) ?_
              refine y_saldN ((i + 2)) dL_law_635 hKb rfl (by omega) (by omega) hx2.symm ?_
              refine y_callV2 mX5_datum dL_law_636 rfl rfl hR.1 (Nat.le_of_ble_eq_true rfl) (krdatum1 (d := d + 17) hR hA hw r12 r15 rho ho12 ho3 (fun c => absurd h4 (c m e hm e1 hso)) (fun m2 e22 hm2 e12 hso2 _ => ?_))
              obtain rfl : m = m2 := nI_inj (by have := ho12 m hm; omega) (by have := ho12 m2 hm2; omega) (e1.symm.trans e12)
              obtain rfl : e = e22 := Option.some.inj (hso.symm.trans hso2)
              refine y_icmp_eq 657 dL_law_639 (by decide) (fun _ => ?_) (fun c639 => absurd (by rw [(l4 m hm).2 v e hv (by rw [← e2]; exact hso), hre 15 (by decide)]) c639)
              exact k657 K I P n s L Lb G X (by omega) hlw
        · refine ⟨611, 644, by rw [e33]; rfl, by decide, ?_⟩
          clear e33 hxo
          rcases hSe with hun | ⟨r, lz, hld⟩
          · obtain ⟨u1, u2, c15, u3, u4⟩ := id hun
            have r12 : I (o + 35) 12 = 0 := by rw [re0]; exact u1
            have r15 : I (o + 35) 15 = nI c15 := by rw [re0]; exact u4
            refine y_aload_n dL_law_644 rfl ?_
            refine y_callV0 mX4_check dL_law_645 rfl rfl (And.intro T0 trivial).1 (Nat.le_of_ble_eq_true rfl) (kncheck (d := d + 16) (ord := []) hT hw hM u2 (fun h => absurd rfl h) (fun m v hm => absurd hm (by simp)) ?_)
            refine y_aload_n dL_law_648 rfl ?_
            refine y_callV0 mX5_check dL_law_649 rfl rfl hR.1 (Nat.le_of_ble_eq_true rfl) (krcheck (d := d + 19) ?_)
            refine y_icmp_eq 657 dL_law_652 (by decide) (fun _ => ?_) (fun q => absurd q (by decide))
            exact k657 K I P n s L Lb G X (by omega) hlw
          · obtain ⟨l1, l2, ⟨y1, y2, y3, y4⟩, l4, l5, l6⟩ := id hld
            obtain ⟨b1, b2, b3, b4, b5⟩ := sOB hw hg l1
            have ho12 : ∀ q ∈ sOrd G r, q < 12 := fun q hq => by have := b1.2 q hq; omega
            have ho3 : (sOrd G r).length ≤ 12 := by have := okl_len b1; omega
            have r12 : I (o + 35) 12 = 1 := by rw [re0]; exact l2.1
            have r13 : I (o + 35) 13 = bI lz := by rw [re0]; exact l2.2.1
            have r14 : I (o + 35) 14 = nI r := by rw [re0]; exact l2.2.2.1
            have r15 : I (o + 35) 15 = nI (sOrd G r).length := by rw [re0]; exact l2.2.2.2.1
            have rho : xHl I (o + 35 + 12) (sOrd G r) := fun p m hp => by rw [hre 12 (by decide)]; exact l2.2.2.2.2.1 p m hp
            have rhb : xHl I (o + 35 + 13) (sBeg G r) := fun p m hp => by rw [hre 13 (by decide)]; exact l2.2.2.2.2.2 p m hp
            refine y_aload_n dL_law_644 rfl ?_
            refine y_callV0 mX4_check dL_law_645 rfl rfl (And.intro T0 trivial).1 (Nat.le_of_ble_eq_true rfl) (kncheck (d := d + 16) hT hw hM y1 (fun _ => y2) (fun m v hm hv => ?_) ?_)
            · rw [(l4 m hm).1 v hv]; cases c : sUC G m (nI v) (gS G m) 0 with | false => exact Or.inl ((l5 m v hm hv).2 c) | true => exact Or.inr ((l5 m v hm hv).1 c)
            · refine y_aload_n dL_law_648 rfl ?_
              refine y_callV0 mX5_check dL_law_649 rfl rfl hR.1 (Nat.le_of_ble_eq_true rfl) (krcheck (d := d + 19) ?_)
              refine y_icmp_eq 657 dL_law_652 (by decide) (fun _ => ?_) (fun q => absurd q (by decide))
              exact k657 K I P n s L Lb G X (by omega) hlw
