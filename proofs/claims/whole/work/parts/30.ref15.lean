theorem rRuns_one {G : xX} {ord : List Nat} {gr e : Nat} {X : xX} : rRuns G ord gr [e] X = rGo G ord gr X e := by
  rw [rRuns_cons, rRuns_nil]
  by_cases h : (rGo G ord gr X e).1 = -1
  · rw [if_pos h]; exact Prod.ext h.symm rfl
  · rw [if_neg h]
def gdRun (G : xX) (ord : List Nat) (r : Nat) (x1 x2 : Int32) (v gr e : Nat) : Prop := v < 64 ∧ x1 = nI v ∧ gr ≤ 5000 ∧ x2 = nI gr ∧ sFi G ord r x1 = some e ∧ G 4 e = 0
def xF20 (R : Nat) (I I' : Nat → Nat → Int32) : Prop := ∀ a j, (a ≠ R + 20 ∨ 8 ≤ j) → I' a j = I a j
theorem rFr_F {G : xX} {ord : List Nat} {lz : Bool} {X : xX} : xF 0 [14, 15, 20, 21, 22, 23] [29, 30, 31, 32, 36, 37, 38] X (rFr G ord lz X) := fun a j p q => by
  unfold rFr
  rw [if_neg (fun h => p 14 (by decide) (by omega)), if_neg (fun h => p 15 (by decide) (by omega)), if_neg (fun h => p 20 (by decide) (by omega)), if_neg]
  rintro ⟨h0, h1, h2⟩
  refine q h0 ?_
  have : j = 29 ∨ j = 30 ∨ j = 31 ∨ j = 32 := by omega
  rcases this with rfl | rfl | rfl | rfl <;> decide
theorem krun_reg {d R gr e : Nat} {x1 : Int32} {Q : Option Value → xH → Prop} {K : Nat → Nat × Nat} {P : Nat → Nat → Option Nat} {n s : Nat} (hR : xAt K P R 5) : ∀ (t i : Nat) (I : Nat → Nat → Int32), i + t = 8 → (∀ q, q < i → I (R + 20) q = 0) → (∀ I' y, xF20 R I I' → (∀ q, q < 8 → I' (R + 20) q = 0) → xB d 5 cX5_run (some .int) false Q 89 [some (.ref R), some (.int x1), some (.int (nI gr)), some (.int (nI e)), some (.int y), none, none, none] [] (K, I', P, n, s)) → xB d 5 cX5_run (some .int) false Q 68 [some (.ref R), some (.int x1), some (.int (nI gr)), some (.int (nI e)), some (.int (nI i)), none, none, none] [] (K, I, P, n, s) := by
  intro t
  induction t with
  | zero =>
    intro i I hi h k1
    obtain rfl : i = 8 := by omega
    refine y_iload dX5_run_68 rfl ?_
    refine y_bipush (v := 8) dX5_run_70 (by decide) ?_
    refine y_icmpN_ge 89 (8) (8) dX5_run_72 (by decide) rfl rfl (by omega) (by omega) (fun _ => ?_) (fun c72 => absurd c72 (by omega))
    exact k1 I _ (fun _ _ _ => rfl) h
  | succ t ih =>
    intro i I hi h k1
    refine y_iload dX5_run_68 rfl ?_
    refine y_bipush (v := 8) dX5_run_70 (by decide) ?_
    refine y_icmpN_ge 89 (i) (8) dX5_run_72 (by decide) rfl rfl (by omega) (by omega) (fun c72 => absurd c72 (by omega)) (fun _ => ?_)
    refine y_aload_n dX5_run_75 rfl ?_
    refine y_getr 5 28 dX5_run_76 rfl rfl hR.1 (r5_28 hR) ?_
    refine y_iload dX5_run_79 rfl ?_
    refine y_iconst (v := 0) dX5_run_81 (by decide) ?_
    refine y_iast (i) dX5_run_82 (k5_28 hR) rfl (by omega) (by omega) ?_
    refine y_iinc dX5_run_83 rfl (fun x1 e_x1 => ?_)
    obtain rfl : x1 = nI (i + 1) := by rw [e_x1]; exact nI_1 (i)
    refine y_goto 68 dX5_run_86 (by decide) ?_
    refine ih (i + 1) _ (by omega) (fun q hq => ?_) (fun I' y f1 f2 => k1 I' y (fun a j p => (f1 a j p).trans (xuI_o (by omega))) f2)
    by_cases hqi : q = i
    · subst hqi; exact xuI_s
    · rw [xuI_o (Or.inr hqi)]; exact h q (by omega)
theorem krrun0 {d : Nat} {Pp : Option Value → xH → Prop} {K : Nat → Nat × Nat} {I : Nat → Nat → Int32} {P : Nat → Nat → Option Nat} {n s : Nat} {R : Nat} {x1 x2 : Int32} (hR : xAt K P R 5) (hl : I R 12 = 0) (hp : Pp (some (.int (-1))) (K, I, P, n, s)) : xC d mX5_run [(.ref R), (.int x1), (.int x2)] (K, I, P, n, s) Pp := by
  refine y_met 0 0 ?_
  show xB d 5 cX5_run (some .int) false (xE n s 0 0 Pp) 0 [some (.ref R), some (.int x1), some (.int x2), none, none, none, none, none] [] (K, I, P, n, s)
  refine y_aload_n dX5_run_0 rfl ?_
  refine y_getv 5 12 dX5_run_1 rfl rfl hR.1 hl ?_
  refine y_if_eq 25 dX5_run_4 (by decide) (fun _ => ?_) (fun q => absurd q (by decide))
  refine y_iconst (v := (-1)) dX5_run_25 (by decide) ?_
  exact y_ret dX5_run_26 rfl rfl hp
set_option maxHeartbeats 2000000 in
theorem krrun1 {d : Nat} {Pp : Option Value → xH → Prop} {K : Nat → Nat × Nat} {I : Nat → Nat → Int32} {P : Nat → Nat → Option Nat} {n s : Nat} {R r : Nat} {G : xX} {ord beg : List Nat} {lz : Bool} {x1 x2 : Int32} (hR : xAt K P R 5) (hw : ∀ m, m < 12 → wfM G m) (ho2 : ∀ q ∈ ord, q < 12) (ho3 : ord.length ≤ 12) (hl : lchk G ord) (hlb : lchkB G ord) (hbl : beg.length = ord.length) (hbo : ∀ q ∈ beg, q ∈ ord) (hro : r ∈ ord) (hA : xPg I R G) (h12 : I R 12 = 1) (h13 : I R 13 = bI lz) (h14 : I R 14 = nI r) (h15 : I R 15 = nI ord.length) (ho : xHl I (R + 12) ord) (hbg : xHl I (R + 13) beg) (hb : (∀ v gr e, ¬ gdRun G ord r x1 x2 v gr e) → Pp (some (.int (-1))) (K, I, P, n, s)) (hp : ∀ v gr e, gdRun G ord r x1 x2 v gr e → ∀ I' mk, xRf I' R = (rRuns G ord gr (rBg G ord beg ++ [e]) (rFr G ord lz (xRf I R))).2 → xFrR R I I' → xF 0 [14, 15, 20, 21, 22, 23] [29, 30, 31, 32, 36, 37, 38] (xRf I R) (xRf I' R) → wfC (xRf I' R) mk → Pp (some (.int (if (rRuns G ord gr (rBg G ord beg ++ [e]) (rFr G ord lz (xRf I R))).1 = -1 then 0 else (rRuns G ord gr (rBg G ord beg ++ [e]) (rFr G ord lz (xRf I R))).1))) (K, I', P, n, s)) : xC (d + 5) mX5_run [(.ref R), (.int x1), (.int x2)] (K, I, P, n, s) Pp := by
  refine y_met 0 0 ?_
  show xB (d + 5) 5 cX5_run (some .int) false (xE n s 0 0 Pp) 0 [some (.ref R), some (.int x1), some (.int x2), none, none, none, none, none] [] (K, I, P, n, s)
  have hr12 := ho2 r hro
  refine y_aload_n dX5_run_0 rfl ?_
  refine y_getv 5 12 dX5_run_1 rfl rfl hR.1 h12 ?_
  refine y_if_eq 25 dX5_run_4 (by decide) (fun q => absurd q (by decide)) (fun _ => ?_)
  refine y_iload_n dX5_run_7 rfl ?_
  refine y_callS1 mX5_isName 0 dX5_run_8 rfl rfl (Nat.le_of_ble_eq_true rfl) (kX5_isName (fun v hv ev => ?_) (fun c8 => ?_))
  · subst ev
    refine y_if_eq 25 dX5_run_11 (by decide) (fun q => absurd q (by decide)) (fun _ => ?_)
    refine y_iload_n dX5_run_14 rfl ?_
    refine y_ifZ_lt 25 (x2.toInt) dX5_run_15 (by decide) rfl (fun c15 => ?_) (fun c15 => ?_)
    · refine y_iconst (v := (-1)) dX5_run_25 (by decide) ?_
      exact y_ret dX5_run_26 rfl rfl (hb (fun v gr e hg => absurd c15 (by rw [hg.2.2.2.1, nI_toInt (by have := hg.2.2.1; omega)]; omega)))
    · refine y_iload_n dX5_run_18 rfl ?_
      refine y_sipush (v := 5000) dX5_run_19 (by decide) ?_
      refine y_icmpZ_le 27 (x2.toInt) (5000) dX5_run_22 (by decide) rfl rfl (fun c22 => ?_) (fun c22 => ?_)
      · obtain ⟨gr, hgr0⟩ : ∃ gr : Nat, x2.toInt = gr := ⟨x2.toInt.toNat, by omega⟩
        obtain rfl : x2 = nI gr := by have := zN c15; rw [hgr0, Int.toNat_natCast] at this; exact this
        have c22 : gr ≤ 5000 := by omega
        refine y_aload_n dX5_run_27 rfl ?_
        refine y_aload_n dX5_run_28 rfl ?_
        refine y_getr 5 16 dX5_run_29 rfl rfl hR.1 (r5_16 hR) ?_
        refine y_aload_n dX5_run_32 rfl ?_
        refine y_getv 5 15 dX5_run_33 rfl rfl hR.1 h15 ?_
        refine y_aload_n dX5_run_36 rfl ?_
        refine y_getv 5 14 dX5_run_37 rfl rfl hR.1 h14 ?_
        refine y_iload_n dX5_run_40 rfl ?_
        refine y_callV4 mX5_find dX5_run_41 rfl rfl hR.1 (Nat.le_of_ble_eq_true rfl) (kfind (d := d + 3) hR hA (k5_16 hR) ho ho2 ho3 hr12 hw (fun ef => ?_) (fun e ef he => ?_))
        · refine y_istore_n dX5_run_44 (by first | (simp; done) | (simp; decide)) (fun x1 e_x1 => ?_)
          subst e_x1
          refine y_iload_n dX5_run_45 rfl ?_
          refine y_iconst (v := (-1)) dX5_run_46 (by decide) ?_
          refine y_icmp_eq 59 dX5_run_47 (by decide) (fun _ => ?_) (fun q => absurd q (by decide))
          refine y_iconst (v := (-1)) dX5_run_59 (by decide) ?_
          exact y_ret dX5_run_60 rfl rfl (hb (fun v gr e hg => (by have q := hg.2.2.2.2.1; rw [ef] at q; cases q)))
        · refine y_istore_n dX5_run_44 (by first | (simp; done) | (simp; decide)) (fun x2 e_x2 => ?_)
          subst e_x2
          refine y_iload_n dX5_run_45 rfl ?_
          refine y_iconst (v := (-1)) dX5_run_46 (by decide) ?_
          refine y_icmp_eq 59 dX5_run_47 (by decide) (fun c47 => absurd c47 (nI_m1 (by omega))) (fun _ => ?_)
          refine y_aload_n dX5_run_50 rfl ?_
          refine y_getr 5 4 dX5_run_51 rfl rfl hR.1 (r5_4 hR) ?_
          refine y_iload_n dX5_run_54 rfl ?_
          refine y_ialdN (e) dX5_run_55 (k5_4 hR) rfl (by omega) (by omega) (congrFun (hA 4 (by decide) (by decide)) (e)) ?_
          refine y_if_eq 61 dX5_run_56 (by decide) (fun c56 => ?_) (fun c56 => ?_)
          · refine y_aload_n dX5_run_61 rfl ?_
            refine y_callV0 mX5_setAll dX5_run_62 rfl rfl hR.1 (Nat.le_of_ble_eq_true rfl) (ksetAll (d := d + 2) (X := G) (ord := ord) (lz := lz) hR hA ho2 ho3 hw h15 h13 ho (fun I1 f1 g1 g3 => ?_))
            refine y_iconst (v := 0) dX5_run_65 (by decide) ?_
            refine y_istore dX5_run_66 (by first | (simp; done) | (simp; decide)) (fun x3 e_x3 => ?_)
            subst e_x3
            refine krun_reg hR 8 0 _ rfl (fun q hq => absurd hq (by omega)) (fun I2 y f2 g2 => ?_)
            refine y_aload_n dX5_run_89 rfl ?_
            refine y_iconst (v := 0) dX5_run_90 (by decide) ?_
            refine y_puti 5 29 dX5_run_91 rfl rfl rfl hR.1 ?_
            refine y_aload_n dX5_run_94 rfl ?_
            refine y_iconst (v := 0) dX5_run_95 (by decide) ?_
            refine y_puti 5 30 dX5_run_96 rfl rfl rfl hR.1 ?_
            refine y_aload_n dX5_run_99 rfl ?_
            refine y_iconst (v := 0) dX5_run_100 (by decide) ?_
            refine y_puti 5 31 dX5_run_101 rfl rfl rfl hR.1 ?_
            refine y_aload_n dX5_run_104 rfl ?_
            refine y_iconst (v := 0) dX5_run_105 (by decide) ?_
            refine y_puti 5 32 dX5_run_106 rfl rfl rfl hR.1 ?_
            refine y_iconst (v := (-1)) dX5_run_109 (by decide) ?_
            refine y_istore dX5_run_110 (by first | (simp; done) | (simp; decide)) (fun x4 e_x4 => ?_)
            subst e_x4
            refine y_iconst (v := 0) dX5_run_112 (by decide) ?_
            refine y_istore dX5_run_113 (by first | (simp; done) | (simp; decide)) (fun x5 e_x5 => ?_)
            subst e_x5
            have hm : xRf (xuI (xuI (xuI (xuI I2 R 29 0) R 30 0) R 31 0) R 32 0) R = (rFr G ord lz (xRf I R)) := by
              funext i j
              show (xuI (xuI (xuI (xuI I2 R 29 0) R 30 0) R 31 0) R 32 0) (R + i) j = _
              unfold rFr
              by_cases c1 : i = 14 ∧ j < 768
              · rw [if_pos c1]
                obtain ⟨rfl, hj⟩ := c1
                rw [xuI_o (Or.inl (by omega)), xuI_o (Or.inl (by omega)), xuI_o (Or.inl (by omega)), xuI_o (Or.inl (by omega)), f2 _ _ (Or.inl (by omega))]
                have := g1 (j / 64) (j % 64) (by omega) (by omega)
                rw [show 64 * (j / 64) + j % 64 = j by omega] at this
                exact this
              rw [if_neg c1]
              by_cases c2 : i = 15 ∧ j < 240
              · rw [if_pos c2]
                obtain ⟨rfl, hj⟩ := c2
                rw [xuI_o (Or.inl (by omega)), xuI_o (Or.inl (by omega)), xuI_o (Or.inl (by omega)), xuI_o (Or.inl (by omega)), f2 _ _ (Or.inl (by omega))]
                exact g3 j hj
              rw [if_neg c2]
              by_cases c3 : i = 20 ∧ j < 8
              · rw [if_pos c3]
                obtain ⟨rfl, hj⟩ := c3
                rw [xuI_o (Or.inl (by omega)), xuI_o (Or.inl (by omega)), xuI_o (Or.inl (by omega)), xuI_o (Or.inl (by omega))]
                exact g2 j hj
              rw [if_neg c3]
              by_cases c4 : i = 0 ∧ 29 ≤ j ∧ j ≤ 32
              · rw [if_pos c4]
                obtain ⟨rfl, hj⟩ := c4
                have : j = 29 ∨ j = 30 ∨ j = 31 ∨ j = 32 := by omega
                rcases this with rfl | rfl | rfl | rfl <;> simp [xuI]
              rw [if_neg c4]
              rw [xuI_o (by omega), xuI_o (by omega), xuI_o (by omega), xuI_o (by omega), f2 _ _ (by omega)]
              show I1 (R + i) j = I (R + i) j
              by_cases d1 : i = 14
              · subst d1; exact (f1.2 j).1 (by omega)
              by_cases d2 : i = 15
              · subst d2; exact (f1.2 j).2 (by omega)
              exact f1.1 (R + i) j (fun q hq => by simp only [List.mem_cons, List.not_mem_nil, or_false] at hq; omega) (fun _ => List.not_mem_nil)
            have hFr : xF 0 [14, 15, 20, 21, 22, 23] [29, 30, 31, 32, 36, 37, 38] (xRf I R) (xRf (xuI (xuI (xuI (xuI I2 R 29 0) R 30 0) R 31 0) R 32 0) R) := by rw [hm]; exact rFr_F
            have hfr : xFrR R I (xuI (xuI (xuI (xuI I2 R 29 0) R 30 0) R 31 0) R 32 0) := (f1.1.R (by decide)).tr ((show xFrR R I1 I2 from fun a p => funext fun j => f2 a j (Or.inl (by omega))).tr (xFrR.f.tr (xFrR.f.tr (xFrR.f.tr xFrR.f))))
            have hc0 : wfC (xRf (xuI (xuI (xuI (xuI I2 R 29 0) R 30 0) R 31 0) R 32 0) R) 0 := by
              rw [hm]
              exact ⟨0, 0, 0, rfl, by omega, rfl, rfl, rfl, by omega, by omega, by omega⟩
            clear f1 f2 g1 g2 g3
            generalize (xuI (xuI (xuI (xuI I2 R 29 0) R 30 0) R 31 0) R 32 0) = I3 at hm hFr hfr hc0 ⊢
            refine krun_loop hR hw ho2 ho3 hl hlb c22 hbl hbo beg 0 I3 0 _ _ (Nat.zero_le _) rfl (xRF_pg hFr hA (by decide)) ((xRF_fld hFr 12 (by decide) (by decide)).trans h12) ((xRF_fld hFr 15 (by decide) (by decide)).trans h15) (xRF_hl hFr ho (by decide) (by decide)) (xRF_hl hFr hbg (by decide) (by decide)) hc0 (Nat.zero_le _) (fun I' ls v6' v7' mk' p2 p3 p4 p5 p6 => ?_)
            have hg : gdRun G ord r (nI v) (nI gr) v gr e := ⟨hv, rfl, c22, rfl, ef, c56⟩
            have hpp := hp v gr e hg
            rw [hm] at p2 ⊢
            rw [rRuns_app, rRuns_one] at hpp
            generalize rRuns G ord gr (rBg G ord beg) (rFr G ord lz (xRf I R)) = y at hpp p2 ⊢
            obtain ⟨z, Y⟩ := y
            simp only at p2 hpp ⊢
            by_cases hz : z = -1
            · subst hz
              rw [if_pos rfl] at hpp
              have hF := hFr.tr p4
              obtain ⟨qq, hqq, hqe⟩ := sFi_mem hro ef
              obtain ⟨d1, d2⟩ := def5 hw ho2 hqq hqe c56
              refine y_iload dX5_run_198 rfl ?_
              refine y_iconst (v := (-1)) dX5_run_200 (by decide) ?_
              refine y_icmp_ne 213 dX5_run_201 (by decide) (fun q => absurd q (by decide)) (fun _ => ?_)
              refine y_aload_n dX5_run_204 rfl ?_
              refine y_iload_n dX5_run_205 rfl ?_
              refine y_iload_n dX5_run_206 rfl ?_
              refine y_callV2 mX5_go dX5_run_207 rfl rfl hR.1 (Nat.le_of_ble_eq_true rfl) (krgo (d := d) (ord := ord) hR hw ho2 ho3 hl c22 (xRF_pg hF hA (by decide)) ((xRF_fld hF 12 (by decide) (by decide)).trans h12) ((xRF_fld hF 15 (by decide) (by decide)).trans h15) (xRF_hl hF ho (by decide) (by decide)) p5 p6 he d1 d2 (fun I4 dp2 mk2 q1 q2 hF4 hwr hmk2 => ?_))
              refine y_goto 215 dX5_run_210 (by decide) ?_
              rw [p2] at q1 ⊢
              have hpq := hpp I4 mk2 q1 (hfr.tr (p3.tr q2)) (hF.tr hF4) hwr.C
              refine y_istore dX5_run_215 (by first | (simp; done) | (simp; decide)) (fun z4 e_z4 => ?_)
              refine y_iload dX5_run_217 rfl ?_
              refine y_iconst (v := (-1)) dX5_run_219 (by decide) ?_
              refine y_icmp_ne 227 dX5_run_220 (by decide) (fun c220 => ?_) (fun c220 => ?_)
              · refine y_iload dX5_run_227 rfl ?_
                rw [if_neg (by rw [← e_z4]; exact c220), ← e_z4] at hpq
                exact y_ret dX5_run_229 rfl rfl hpq
              · refine y_iconst (v := 0) dX5_run_223 (by decide) ?_
                refine y_goto 229 dX5_run_224 (by decide) ?_
                rw [if_pos (by rw [← e_z4]; exact c220)] at hpq
                exact y_ret dX5_run_229 rfl rfl hpq
            · rw [if_neg hz] at hpp
              have hpq := hpp I' mk' p2 (hfr.tr p3) (hFr.tr p4) p5
              rw [if_neg hz] at hpq
              refine y_iload dX5_run_198 rfl ?_
              refine y_iconst (v := (-1)) dX5_run_200 (by decide) ?_
              refine y_icmp_ne 213 dX5_run_201 (by decide) (fun _ => ?_) (fun c201 => absurd c201 hz)
              refine y_iload dX5_run_213 rfl ?_
              refine y_istore dX5_run_215 (by first | (simp; done) | (simp; decide)) (fun x6 e_x6 => ?_)
              subst e_x6
              refine y_iload dX5_run_217 rfl ?_
              refine y_iconst (v := (-1)) dX5_run_219 (by decide) ?_
              refine y_icmp_ne 227 dX5_run_220 (by decide) (fun _ => ?_) (fun c220 => absurd c220 hz)
              refine y_iload dX5_run_227 rfl ?_
              exact y_ret dX5_run_229 rfl rfl hpq
          · refine y_iconst (v := (-1)) dX5_run_59 (by decide) ?_
            exact y_ret dX5_run_60 rfl rfl (hb (fun v gr e hg => (by have q := hg.2.2.2.2.1; rw [ef] at q; cases q; exact c56 hg.2.2.2.2.2)))
      · refine y_iconst (v := (-1)) dX5_run_25 (by decide) ?_
        exact y_ret dX5_run_26 rfl rfl (hb (fun v gr e hg => absurd c22 (by have := hg.2.2.1; rw [hg.2.2.2.1, nI_toInt (by omega)]; omega)))
  · refine y_if_eq 25 dX5_run_11 (by decide) (fun _ => ?_) (fun q => absurd q (by decide))
    refine y_iconst (v := (-1)) dX5_run_25 (by decide) ?_
    exact y_ret dX5_run_26 rfl rfl (hb (fun v gr e hg => c8 v hg.1 hg.2.1))
