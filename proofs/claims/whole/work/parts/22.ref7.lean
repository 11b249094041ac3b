theorem z01 {x : Int32} (h0 : ¬ x.toInt < 0) (h1 : x.toInt ≤ 1) : ∃ b : Bool, x = bI b := by
  rcases (show x.toInt = 0 ∨ x.toInt = 1 by omega) with e | e
  · exact ⟨false, Int32.toInt_inj.mp e⟩
  · exact ⟨true, Int32.toInt_inj.mp e⟩
theorem zpos {e : Int32} (he : e = 1 ∨ e = 2) : ¬ e ≤ 0 := by rcases he with rfl | rfl <;> decide
theorem kld_1 {d R : Nat} {X : xX} {Q : Option Value → xH → Prop} {K : Nat → Nat × Nat} {P : Nat → Nat → Option Nat} {n s : Nat} (hR : xAt K P R 5) {ord : List Nat} (ho2 : ∀ q ∈ ord, q < 12) (ho3 : ord.length ≤ 12) (hw : ∀ m, m < 12 → wfM X m) {x1 x2 : Int32} {I : Nat → Nat → Int32} (hA : xPg I R X) (hc : I R 20 = nI ord.length) (ho : xHl I (R + 16) ord) : ∀ (l : List Nat) (p : Nat) (v4 : Option Value), p ≤ ord.length → ord.drop p = l → ((sFt X ord l).1 = 0 → ∀ v3 v4, xB (d + 4) 5 cX5_load (some .int) false Q 75 [some (.ref R), some (.int x1), some (.int x2), v3, v4] [] (K, I, P, n, s)) → ((sFt X ord l).1 ≠ 0 → ∀ ls, xB (d + 4) 5 cX5_load (some .int) false Q 68 ls [.int (sFt X ord l).1] (K, xuI (xuI (xuI I R 25 (sFt X ord l).2.1) R 26 (sFt X ord l).2.2.1) R 27 (sFt X ord l).2.2.2, P, n, s)) → xB (d + 4) 5 cX5_load (some .int) false Q 41 [some (.ref R), some (.int x1), some (.int x2), some (.int (nI p)), v4] [] (K, I, P, n, s) := by
  intro l
  induction l with
  | nil =>
    intro p v4 hp hl h0 h1
    have h2 := drop_nil hl
    refine y_iload_n dX5_load_41 rfl ?_
    refine y_aload_n dX5_load_42 rfl ?_
    refine y_getv 5 20 dX5_load_43 rfl rfl hR.1 hc ?_
    refine y_icmpN_ge 75 (p) (ord.length) dX5_load_46 (by decide) rfl rfl (by omega) (by omega) (fun _ => ?_) (fun c46 => absurd c46 (by omega))
    exact h0 rfl _ _
  | cons q r ih =>
    intro p v4 hp hl h0 h1
    obtain ⟨g1, g2, g3⟩ := drop_get hl
    have hq : q < 12 := ho2 q (List.mem_of_getElem? g2)
    unfold sFt at h0 h1
    refine y_iload_n dX5_load_41 rfl ?_
    refine y_aload_n dX5_load_42 rfl ?_
    refine y_getv 5 20 dX5_load_43 rfl rfl hR.1 hc ?_
    refine y_icmpN_ge 75 (p) (ord.length) dX5_load_46 (by decide) rfl rfl (by omega) (by omega) (fun c46 => absurd c46 (by omega)) (fun _ => ?_)
    refine y_aload_n dX5_load_49 rfl ?_
    refine y_aload_n dX5_load_50 rfl ?_
    refine y_getr 5 21 dX5_load_51 rfl rfl hR.1 (r5_21 hR) ?_
    refine y_iload_n dX5_load_54 rfl ?_
    refine y_ialdN (p) dX5_load_55 (k5_21 hR) rfl (by omega) (by omega) (ho p q g2) ?_
    refine y_callV1 mX5_lookAt dX5_load_56 rfl rfl hR.1 (Nat.le_of_ble_eq_true rfl) (klookAt (d := d) hR hA hc ho ho2 ho3 hq hw (fun eq => ?_) (fun eq => ?_))
    · rw [if_pos eq] at h0 h1
      refine y_istore dX5_load_59 (by first | (simp; done) | (simp; decide)) (fun x1 e_x1 => ?_)
      subst e_x1
      refine y_iload dX5_load_61 rfl ?_
      refine y_if_le 69 dX5_load_63 (by decide) (fun _ => ?_) (fun q => absurd q (by decide))
      refine y_iinc dX5_load_69 rfl (fun x2 e_x2 => ?_)
      obtain rfl : x2 = nI (p + 1) := by rw [e_x2]; exact nI_1 (p)
      refine y_goto 41 dX5_load_72 (by decide) ?_
      exact ih (p + 1) _ g1 g3 h0 h1
    · rw [if_neg eq] at h1
      have he := sLk_val.resolve_left eq
      refine y_istore dX5_load_59 (by first | (simp; done) | (simp; decide)) (fun z4 e_z4 => ?_)
      refine y_iload dX5_load_61 rfl ?_
      refine y_if_le 69 dX5_load_63 (by decide) (fun c63 => absurd c63 (by rw [e_z4]; exact zpos he)) (fun _ => ?_)
      refine y_iload dX5_load_66 rfl ?_
      subst e_z4
      exact h1 eq _
theorem kld_2 {d R : Nat} {Q : Option Value → xH → Prop} {K : Nat → Nat × Nat} {P : Nat → Nat → Option Nat} {n s : Nat} (hR : xAt K P R 5) {ord : List Nat} (ho3 : ord.length ≤ 12) {x1 x2 : Int32} {v4 : Option Value} : ∀ (t i : Nat) (I : Nat → Nat → Int32), i + t = ord.length → I R 15 = nI ord.length → xHl I (R + 16) ord → (∀ q a, q < i → ord[q]? = some a → I (R + 12) q = nI a) → (∀ I' v3, xF R [12] [] I I' → xHl I' (R + 12) ord → xB d 5 cX5_load (some .int) false Q 135 [some (.ref R), some (.int x1), some (.int x2), v3, v4] [] (K, I', P, n, s)) → xB d 5 cX5_load (some .int) false Q 109 [some (.ref R), some (.int x1), some (.int x2), some (.int (nI i)), v4] [] (K, I, P, n, s) := by
  intro t
  induction t with
  | zero =>
    intro i I hi h15 ho hq k1
    refine y_iload_n dX5_load_109 rfl ?_
    refine y_aload_n dX5_load_110 rfl ?_
    refine y_getv 5 15 dX5_load_111 rfl rfl hR.1 h15 ?_
    refine y_icmpN_ge 135 (i) (ord.length) dX5_load_114 (by decide) rfl rfl (by omega) (by omega) (fun _ => ?_) (fun c114 => absurd c114 (by omega))
    exact k1 I _ xF.rf (fun p a h => hq p a (by have := (List.getElem?_eq_some_iff.mp h).1; omega) h)
  | succ t ih =>
    intro i I hi h15 ho hq k1
    obtain ⟨b, hb⟩ : ∃ b, ord[i]? = some b := ⟨_, List.getElem?_eq_getElem (by omega)⟩
    refine y_iload_n dX5_load_109 rfl ?_
    refine y_aload_n dX5_load_110 rfl ?_
    refine y_getv 5 15 dX5_load_111 rfl rfl hR.1 h15 ?_
    refine y_icmpN_ge 135 (i) (ord.length) dX5_load_114 (by decide) rfl rfl (by omega) (by omega) (fun c114 => absurd c114 (by omega)) (fun _ => ?_)
    refine y_aload_n dX5_load_117 rfl ?_
    refine y_getr 5 16 dX5_load_118 rfl rfl hR.1 (r5_16 hR) ?_
    refine y_iload_n dX5_load_121 rfl ?_
    refine y_aload_n dX5_load_122 rfl ?_
    refine y_getr 5 21 dX5_load_123 rfl rfl hR.1 (r5_21 hR) ?_
    refine y_iload_n dX5_load_126 rfl ?_
    refine y_ialdN (i) dX5_load_127 (k5_21 hR) rfl (by omega) (by omega) (ho i b hb) ?_
    refine y_iast (i) dX5_load_128 (k5_16 hR) rfl (by omega) (by omega) ?_
    refine y_iinc dX5_load_129 rfl (fun x1 e_x1 => ?_)
    obtain rfl : x1 = nI (i + 1) := by rw [e_x1]; exact nI_1 (i)
    refine y_goto 109 dX5_load_132 (by decide) ?_
    refine ih (i + 1) _ (by omega) (by rw [xuI_o (Or.inl (by omega))]; exact h15) (xHl_put ho (Or.inl (by omega))) (fun q a h1 h2 => ?_) (fun I2 v3 q1 q2 => k1 I2 v3 ((xF.u 12 (by decide)).tr q1) q2)
    by_cases e : q = i
    · subst e; rw [hb] at h2; cases h2; exact xuI_s
    · rw [xuI_o (Or.inr e)]; exact hq q a (by omega) h2
/-- what the reference holds when something is loaded: the root, the orders -/
def xLd (X : xX) (I : Nat → Nat → Int32) (R r : Nat) (lz : Bool) : Prop := I R 12 = 1 ∧ I R 13 = bI lz ∧ I R 14 = nI r ∧ I R 15 = nI (sOrd X r).length ∧ xHl I (R + 12) (sOrd X r) ∧ xHl I (R + 13) (sBeg X r)
/-- slots and data as loaded -/
def xFresh (X : xX) (I : Nat → Nat → Int32) (R r : Nat) (lz : Bool) : Prop := (∀ a b, a < 12 → b < 64 → I (R + 14) (64 * a + b) = if a ∈ sOrd X r then sSl X (sOrd X r) lz a b else -1) ∧ (∀ q, q < 240 → I (R + 15) q = X 5 q)
theorem kload {d : Nat} {Pp : Option Value → xH → Prop} {K : Nat → Nat × Nat} {I : Nat → Nat → Int32} {P : Nat → Nat → Option Nat} {n s : Nat} {R : Nat} {X : xX} {x1 x2 : Int32} (hR : xAt K P R 5) (hA : xPg I R X) (hw : ∀ m, m < 12 → wfM X m) (h0 : I R 0 = nI (gC X)) (hg : gC X ≤ 12)
    (hb : ((∀ k, k < gC X → x1 ≠ nI k) ∨ ∀ b, x2 ≠ bI b) → Pp (some (.int (-1))) (K, I, P, n, s))
    (hf : ∀ (r : Nat) (lz : Bool) (I' : Nat → Nat → Int32), r < gC X → x1 = nI r → x2 = bI lz → (sFt X (sOrd X r) (sOrd X r)).1 ≠ 0 → xF R [16, 17] [20, 25, 26, 27] I I' → I' R 25 = (sFt X (sOrd X r) (sOrd X r)).2.1 → I' R 26 = (sFt X (sOrd X r) (sOrd X r)).2.2.1 → I' R 27 = (sFt X (sOrd X r) (sOrd X r)).2.2.2 → okl (gC X) (sOrd X r) → Pp (some (.int (sFt X (sOrd X r) (sOrd X r)).1)) (K, I', P, n, s))
    (hk : ∀ (r : Nat) (lz : Bool) (I' : Nat → Nat → Int32), r < gC X → x1 = nI r → x2 = bI lz → (sFt X (sOrd X r) (sOrd X r)).1 = 0 → xF R [12, 13, 14, 15, 16, 17, 18, 19] [12, 13, 14, 15, 20, 25, 26, 27] I I' → I' R 25 = -1 → I' R 26 = -1 → I' R 27 = -1 → okl (gC X) (sOrd X r) → xLd X I' R r lz → xFresh X I' R r lz → okl (gC X) (sDfs X 12 r ([], [])).1 → (sBeg X r).length = (sDfs X 12 r ([], [])).1.length → Pp (some (.int 0)) (K, I', P, n, s)) : xC (d + 4) mX5_load [(.ref R), (.int x1), (.int x2)] (K, I, P, n, s) Pp := by
  refine y_met 0 0 ?_
  show xB (d + 4) 5 cX5_load (some .int) false (xE n s 0 0 Pp) 0 [some (.ref R), some (.int x1), some (.int x2), none, none] [] (K, I, P, n, s)
  refine y_aload_n dX5_load_0 rfl ?_
  refine y_iload_n dX5_load_1 rfl ?_
  refine y_callV1 mX5_isModule dX5_load_2 rfl rfl hR.1 (Nat.le_of_ble_eq_true rfl) (kX5_isModule hR.1 h0 hg (fun r hr er => ?_) (fun e1 => ?_))
  · subst er
    refine y_if_eq 17 dX5_load_5 (by decide) (fun q => absurd q (by decide)) (fun _ => ?_)
    refine y_iload_n dX5_load_8 rfl ?_
    refine y_ifZ_lt 17 (x2.toInt) dX5_load_9 (by decide) rfl (fun c9 => ?_) (fun c9 => ?_)
    · refine y_iconst (v := (-1)) dX5_load_17 (by decide) ?_
      exact y_ret dX5_load_18 rfl rfl (hb (Or.inr (fun b e => by rw [e] at c9; cases b <;> exact absurd c9 (by decide))))
    · refine y_iload_n dX5_load_12 rfl ?_
      refine y_iconst (v := 1) dX5_load_13 (by decide) ?_
      refine y_icmpZ_le 19 (x2.toInt) (1) dX5_load_14 (by decide) rfl rfl (fun c14 => ?_) (fun c14 => ?_)
      · obtain ⟨lz, elz⟩ := z01 c9 c14
        subst elz
        refine y_aload_n dX5_load_19 rfl ?_
        refine y_iconst (v := (-1)) dX5_load_20 (by decide) ?_
        refine y_puti 5 25 dX5_load_21 rfl rfl rfl hR.1 ?_
        refine y_aload_n dX5_load_24 rfl ?_
        refine y_iconst (v := (-1)) dX5_load_25 (by decide) ?_
        refine y_puti 5 26 dX5_load_26 rfl rfl rfl hR.1 ?_
        refine y_aload_n dX5_load_29 rfl ?_
        refine y_iconst (v := (-1)) dX5_load_30 (by decide) ?_
        refine y_puti 5 27 dX5_load_31 rfl rfl rfl hR.1 ?_
        refine y_aload_n dX5_load_34 rfl ?_
        refine y_iload_n dX5_load_35 rfl ?_
        refine y_callV1 mX5_findOrder dX5_load_36 rfl rfl hR.1 (Nat.le_of_ble_eq_true rfl) (kfindOrder hR (xPg_R (xPg_R (xPg_R hA))) hw hg hr (fun I2 f1 b1 => ?_))
        refine y_iconst (v := nI 0) dX5_load_39 (by decide) ?_
        refine y_istore_n dX5_load_40 (by first | (simp; done) | (simp; decide)) (fun x1 e_x1 => ?_)
        subst e_x1
        have f2 : xF R [16, 17] [20, 25, 26, 27] I I2 := ((xF.f 25 (by decide)).tr ((xF.f 26 (by decide)).tr (xF.f 27 (by decide)))).tr (f1.F.mono (by decide) (by decide))
        have hA2 := f2.pg hA (by decide)
        have hol : ∀ q ∈ sOrd X r, q < 12 := fun q hq => by have := b1.2.2.2.2 q hq; omega
        have hol2 := okl_len b1.2.2.2
        have g25 : I2 R 25 = -1 := by rw [f1.F.fld 25 (by decide) (by decide), xuI_o (Or.inr (by decide)), xuI_o (Or.inr (by decide)), xuI_s]
        have g26 : I2 R 26 = -1 := by rw [f1.F.fld 26 (by decide) (by decide), xuI_o (Or.inr (by decide)), xuI_s]
        have g27 : I2 R 27 = -1 := by rw [f1.F.fld 27 (by decide) (by decide), xuI_s]
        refine kld_1 hR hol (by omega) hw hA2 b1.1 b1.2.1 (sOrd X r) 0 _ (Nat.zero_le _) rfl (fun q v3 v4 => ?_) (fun q ls => ?_)
        · refine y_aload_n dX5_load_75 rfl ?_
          refine y_iconst (v := 1) dX5_load_76 (by decide) ?_
          refine y_putz 5 12 dX5_load_77 rfl rfl rfl hR.1 (by decide) ?_
          cases lz with
          | true =>
            refine y_aload_n dX5_load_80 rfl ?_
            refine y_iload_n dX5_load_81 rfl ?_
            refine y_iconst (v := 1) dX5_load_82 (by decide) ?_
            refine y_icmp_ne 90 dX5_load_83 (by decide) (fun q => absurd q (by decide)) (fun _ => ?_)
            refine y_iconst (v := 1) dX5_load_86 (by decide) ?_
            refine y_goto 91 dX5_load_87 (by decide) ?_
            refine y_putz 5 13 dX5_load_91 rfl rfl rfl hR.1 (by decide) ?_
            refine y_aload_n dX5_load_94 rfl ?_
            refine y_iload_n dX5_load_95 rfl ?_
            refine y_puti 5 14 dX5_load_96 rfl rfl rfl hR.1 ?_
            refine y_aload_n dX5_load_99 rfl ?_
            refine y_aload_n dX5_load_100 rfl ?_
            refine y_getv 5 20 dX5_load_101 rfl rfl hR.1 (show xuI (xuI (xuI I2 R 12 1) R 13 1) R 14 (nI r) R 20 = nI (sOrd X r).length by rw [xuI_o (Or.inr (by decide)), xuI_o (Or.inr (by decide)), xuI_o (Or.inr (by decide))]; exact b1.1) ?_
            refine y_puti 5 15 dX5_load_104 rfl rfl rfl hR.1 ?_
            refine y_iconst (v := nI 0) dX5_load_107 (by decide) ?_
            refine y_istore_n dX5_load_108 (by first | (simp; done) | (simp; decide)) (fun x2 e_x2 => ?_)
            subst e_x2
            have f3 : xF R [] [12, 13, 14, 15] I2 (xuI (xuI (xuI (xuI I2 R 12 1) R 13 1) R 14 (nI r)) R 15 (nI (sOrd X r).length)) := (xF.f 12 (by decide)).tr ((xF.f 13 (by decide)).tr ((xF.f 14 (by decide)).tr (xF.f 15 (by decide))))
            refine kld_2 hR (by omega) (sOrd X r).length 0 _ (Nat.zero_add _) xuI_s (xHl_put (xHl_put (xHl_put (xHl_put b1.2.1 (Or.inl (by omega))) (Or.inl (by omega))) (Or.inl (by omega))) (Or.inl (by omega))) (fun q a h => absurd h (Nat.not_lt_zero _)) (fun I4 v3b f4 g4 => ?_)
            have f5 : xF R [12, 13, 14, 15, 16, 17, 18, 19] [12, 13, 14, 15, 20, 25, 26, 27] I I4 := (f2.mono (by decide) (by decide)).tr ((f3.mono (by decide) (by decide)).tr (f4.mono (by decide) (by decide)))
            have k12 : I4 R 12 = 1 := by rw [f4.fld 12 (by decide) (by decide), xuI_o (Or.inr (by decide)), xuI_o (Or.inr (by decide)), xuI_o (Or.inr (by decide)), xuI_s]
            have k13 : I4 R 13 = bI true := by rw [f4.fld 13 (by decide) (by decide), xuI_o (Or.inr (by decide)), xuI_o (Or.inr (by decide)), xuI_s]; rfl
            have k14 : I4 R 14 = nI r := by rw [f4.fld 14 (by decide) (by decide), xuI_o (Or.inr (by decide)), xuI_s]
            have k15 : I4 R 15 = nI (sOrd X r).length := by rw [f4.fld 15 (by decide) (by decide), xuI_s]
            refine y_aload_n dX5_load_135 rfl ?_
            refine y_callV0 mX5_findBegun dX5_load_136 rfl rfl hR.1 (Nat.le_of_ble_eq_true rfl) (kfindBegun hR (f5.pg hA (by decide)) hw hg hr k14 (fun I5 f6 g5 o1 o2 => ?_))
            refine y_aload_n dX5_load_139 rfl ?_
            refine y_callV0 mX5_setAll dX5_load_140 rfl rfl hR.1 (Nat.le_of_ble_eq_true rfl) (ksetAll (d := d + 1) (lz := true) (ord := sOrd X r) hR ((f5.tr (f6.mono (by decide) (by decide))).pg hA (by decide)) hol (by omega) hw ((f6.fld 15 (by decide) (by decide)).trans k15) ((f6.fld 13 (by decide) (by decide)).trans k13) (xHl_F (a := 0) g4 f6 (by decide) (by decide)) (fun I6 f7 g6 g7 => ?_))
            refine y_iconst (v := 0) dX5_load_143 (by decide) ?_
            exact y_ret dX5_load_144 rfl rfl (hk r true I6 hr rfl rfl q (f5.tr ((f6.mono (by decide) (by decide)).tr (f7.1.mono (by decide) (by decide)))) ((f7.1.fld 25 (by decide) (by decide)).trans ((f6.fld 25 (by decide) (by decide)).trans ((f4.fld 25 (by decide) (by decide)).trans ((f3.fld 25 (by decide) (by decide)).trans g25)))) ((f7.1.fld 26 (by decide) (by decide)).trans ((f6.fld 26 (by decide) (by decide)).trans ((f4.fld 26 (by decide) (by decide)).trans ((f3.fld 26 (by decide) (by decide)).trans g26)))) ((f7.1.fld 27 (by decide) (by decide)).trans ((f6.fld 27 (by decide) (by decide)).trans ((f4.fld 27 (by decide) (by decide)).trans ((f3.fld 27 (by decide) (by decide)).trans g27)))) b1.2.2.2 ⟨((f7.1.fld 12 (by decide) (by decide)).trans ((f6.fld 12 (by decide) (by decide)).trans (k12))), ((f7.1.fld 13 (by decide) (by decide)).trans ((f6.fld 13 (by decide) (by decide)).trans (k13))), ((f7.1.fld 14 (by decide) (by decide)).trans ((f6.fld 14 (by decide) (by decide)).trans (k14))), ((f7.1.fld 15 (by decide) (by decide)).trans ((f6.fld 15 (by decide) (by decide)).trans (k15))), xHl_F (a := 0) (xHl_F (a := 0) g4 f6 (by decide) (by decide)) f7.1 (by decide) (by decide), xHl_F (a := 0) g5 f7.1 (by decide) (by decide)⟩ ⟨g6, g7⟩ o1 o2)
          | false =>
            refine y_aload_n dX5_load_80 rfl ?_
            refine y_iload_n dX5_load_81 rfl ?_
            refine y_iconst (v := 1) dX5_load_82 (by decide) ?_
            refine y_icmp_ne 90 dX5_load_83 (by decide) (fun _ => ?_) (fun q => absurd q (by decide))
            refine y_iconst (v := 0) dX5_load_90 (by decide) ?_
            refine y_putz 5 13 dX5_load_91 rfl rfl rfl hR.1 (by decide) ?_
            refine y_aload_n dX5_load_94 rfl ?_
            refine y_iload_n dX5_load_95 rfl ?_
            refine y_puti 5 14 dX5_load_96 rfl rfl rfl hR.1 ?_
            refine y_aload_n dX5_load_99 rfl ?_
            refine y_aload_n dX5_load_100 rfl ?_
            refine y_getv 5 20 dX5_load_101 rfl rfl hR.1 (show xuI (xuI (xuI I2 R 12 1) R 13 0) R 14 (nI r) R 20 = nI (sOrd X r).length by rw [xuI_o (Or.inr (by decide)), xuI_o (Or.inr (by decide)), xuI_o (Or.inr (by decide))]; exact b1.1) ?_
            refine y_puti 5 15 dX5_load_104 rfl rfl rfl hR.1 ?_
            refine y_iconst (v := nI 0) dX5_load_107 (by decide) ?_
            refine y_istore_n dX5_load_108 (by first | (simp; done) | (simp; decide)) (fun x3 e_x3 => ?_)
            subst e_x3
            have f3 : xF R [] [12, 13, 14, 15] I2 (xuI (xuI (xuI (xuI I2 R 12 1) R 13 0) R 14 (nI r)) R 15 (nI (sOrd X r).length)) := (xF.f 12 (by decide)).tr ((xF.f 13 (by decide)).tr ((xF.f 14 (by decide)).tr (xF.f 15 (by decide))))
            refine kld_2 hR (by omega) (sOrd X r).length 0 _ (Nat.zero_add _) xuI_s (xHl_put (xHl_put (xHl_put (xHl_put b1.2.1 (Or.inl (by omega))) (Or.inl (by omega))) (Or.inl (by omega))) (Or.inl (by omega))) (fun q a h => absurd h (Nat.not_lt_zero _)) (fun I4 v3b f4 g4 => ?_)
            have f5 : xF R [12, 13, 14, 15, 16, 17, 18, 19] [12, 13, 14, 15, 20, 25, 26, 27] I I4 := (f2.mono (by decide) (by decide)).tr ((f3.mono (by decide) (by decide)).tr (f4.mono (by decide) (by decide)))
            have k12 : I4 R 12 = 1 := by rw [f4.fld 12 (by decide) (by decide), xuI_o (Or.inr (by decide)), xuI_o (Or.inr (by decide)), xuI_o (Or.inr (by decide)), xuI_s]
            have k13 : I4 R 13 = bI false := by rw [f4.fld 13 (by decide) (by decide), xuI_o (Or.inr (by decide)), xuI_o (Or.inr (by decide)), xuI_s]; rfl
            have k14 : I4 R 14 = nI r := by rw [f4.fld 14 (by decide) (by decide), xuI_o (Or.inr (by decide)), xuI_s]
            have k15 : I4 R 15 = nI (sOrd X r).length := by rw [f4.fld 15 (by decide) (by decide), xuI_s]
            refine y_aload_n dX5_load_135 rfl ?_
            refine y_callV0 mX5_findBegun dX5_load_136 rfl rfl hR.1 (Nat.le_of_ble_eq_true rfl) (kfindBegun hR (f5.pg hA (by decide)) hw hg hr k14 (fun I5 f6 g5 o1 o2 => ?_))
            refine y_aload_n dX5_load_139 rfl ?_
            refine y_callV0 mX5_setAll dX5_load_140 rfl rfl hR.1 (Nat.le_of_ble_eq_true rfl) (ksetAll (d := d + 1) (lz := false) (ord := sOrd X r) hR ((f5.tr (f6.mono (by decide) (by decide))).pg hA (by decide)) hol (by omega) hw ((f6.fld 15 (by decide) (by decide)).trans k15) ((f6.fld 13 (by decide) (by decide)).trans k13) (xHl_F (a := 0) g4 f6 (by decide) (by decide)) (fun I6 f7 g6 g7 => ?_))
            refine y_iconst (v := 0) dX5_load_143 (by decide) ?_
            exact y_ret dX5_load_144 rfl rfl (hk r false I6 hr rfl rfl q (f5.tr ((f6.mono (by decide) (by decide)).tr (f7.1.mono (by decide) (by decide)))) ((f7.1.fld 25 (by decide) (by decide)).trans ((f6.fld 25 (by decide) (by decide)).trans ((f4.fld 25 (by decide) (by decide)).trans ((f3.fld 25 (by decide) (by decide)).trans g25)))) ((f7.1.fld 26 (by decide) (by decide)).trans ((f6.fld 26 (by decide) (by decide)).trans ((f4.fld 26 (by decide) (by decide)).trans ((f3.fld 26 (by decide) (by decide)).trans g26)))) ((f7.1.fld 27 (by decide) (by decide)).trans ((f6.fld 27 (by decide) (by decide)).trans ((f4.fld 27 (by decide) (by decide)).trans ((f3.fld 27 (by decide) (by decide)).trans g27)))) b1.2.2.2 ⟨((f7.1.fld 12 (by decide) (by decide)).trans ((f6.fld 12 (by decide) (by decide)).trans (k12))), ((f7.1.fld 13 (by decide) (by decide)).trans ((f6.fld 13 (by decide) (by decide)).trans (k13))), ((f7.1.fld 14 (by decide) (by decide)).trans ((f6.fld 14 (by decide) (by decide)).trans (k14))), ((f7.1.fld 15 (by decide) (by decide)).trans ((f6.fld 15 (by decide) (by decide)).trans (k15))), xHl_F (a := 0) (xHl_F (a := 0) g4 f6 (by decide) (by decide)) f7.1 (by decide) (by decide), xHl_F (a := 0) g5 f7.1 (by decide) (by decide)⟩ ⟨g6, g7⟩ o1 o2)
        · refine y_ret dX5_load_68 rfl rfl (hf r lz _ hr rfl rfl q (f2.tr ((xF.f 25 (by decide)).tr ((xF.f 26 (by decide)).tr (xF.f 27 (by decide))))) ?_ ?_ ?_ b1.2.2.2)
          · rw [xuI_o (Or.inr (by decide)), xuI_o (Or.inr (by decide)), xuI_s]
          · rw [xuI_o (Or.inr (by decide)), xuI_s]
          · rw [xuI_s]
      · refine y_iconst (v := (-1)) dX5_load_17 (by decide) ?_
        exact y_ret dX5_load_18 rfl rfl (hb (Or.inr (fun b e => by rw [e] at c14; cases b <;> exact absurd c14 (by decide))))
  · refine y_if_eq 17 dX5_load_5 (by decide) (fun _ => ?_) (fun q => absurd q (by decide))
    refine y_iconst (v := (-1)) dX5_load_17 (by decide) ?_
    exact y_ret dX5_load_18 rfl rfl (hb (Or.inl e1))
