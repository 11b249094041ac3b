theorem xRF_row {R : Nat} {rows flds : List Nat} {I I' : Nat → Nat → Int32} (hF : xF 0 rows flds (xRf I R) (xRf I' R)) (i : Nat) (hi : i ∉ rows) (h0 : i ≠ 0) : I' (R + i) = I (R + i) := by
  have := hF.row i hi h0
  rw [Nat.zero_add] at this
  exact this
theorem xRF_fld {R : Nat} {rows flds : List Nat} {I I' : Nat → Nat → Int32} (hF : xF 0 rows flds (xRf I R) (xRf I' R)) (k : Nat) (hk : k ∉ flds) (h0 : 0 ∉ rows) : I' R k = I R k := hF.fld k hk h0
theorem xRF_pg {R : Nat} {rows flds : List Nat} {G : xX} {I I' : Nat → Nat → Int32} (hF : xF 0 rows flds (xRf I R) (xRf I' R)) (hA : xPg I R G) (hr : ∀ i ∈ rows, 11 < i) : xPg I' R G := fun i h1 h2 => by
  rw [xRF_row hF i (fun hi => absurd (hr i hi) (by omega)) (by omega)]
  exact hA i h1 h2
theorem xRF_hl {R i : Nat} {rows flds : List Nat} {l : List Nat} {I I' : Nat → Nat → Int32} (hF : xF 0 rows flds (xRf I R) (xRf I' R)) (h : xHl I (R + i) l) (hi : i ∉ rows) (h0 : i ≠ 0) : xHl I' (R + i) l := fun p m hp => by rw [xRF_row hF i hi h0]; exact h p m hp
theorem wfR_made {ord : List Nat} {X : xX} {dp mk : Nat} (h : wfR ord X dp mk) (hm : mk + 1 ≤ 5000) : wfR ord (xuI X 0 29 (nI (mk + 1))) dp (mk + 1) := by
  obtain ⟨de, bd, sd, a1, a2, a3, a4, a5, a6, a7, a8, a9, a10, a11, a12⟩ := h
  exact ⟨de, bd, sd, by simpa [xuI] using a1, a2, by simpa [xuI] using a3, a4, by simpa [xuI] using a5, by simpa [xuI] using a6, by simp [xuI], by omega, by omega, hm, fun q => by obtain ⟨m', k', c1, c2, c3, c4⟩ := a11 q; exact ⟨m', k', by simpa [xuI] using c1, c2, by simpa [xuI] using c3, c4⟩, fun i i1 i2 => by obtain ⟨m', k', c1, c2, c3, c4⟩ := a12 i i1 i2; exact ⟨m', k', by simpa [xuI] using c1, c2, by simpa [xuI] using c3, c4⟩⟩
set_option maxHeartbeats 2000000 in
theorem krgo_loop {d R gr : Nat} {G : xX} {ord : List Nat} {Q : Option Value → xH → Prop} {K : Nat → Nat × Nat} {P : Nat → Nat → Option Nat} {n s : Nat} (hR : xAt K P R 5) (hw : ∀ m, m < 12 → wfM G m) (ho2 : ∀ q ∈ ord, q < 12) (ho3 : ord.length ≤ 12) (hl : lchk G ord) (hgr : gr ≤ 5000) {x1 : Int32} : ∀ (t : Nat) (I : Nat → Nat → Int32) (dp mk : Nat), xPg I R G → I R 12 = 1 → I R 15 = nI ord.length → xHl I (R + 12) ord → wfR ord (xRf I R) dp mk → mk ≤ gr → gr + 1 ≤ mk + t → (∀ I' ls pc dp' mk', (pc = 40 ∨ pc = 50 ∨ pc = 70) → xRf I' R = (rLp G ord gr t (xRf I R)).2 → xFrR R I I' → xF 0 [14, 15, 20, 21, 22, 23] [29, 30, 31, 32, 36, 37, 38] (xRf I R) (xRf I' R) → wfR ord (xRf I' R) dp' mk' → mk' ≤ gr → xB (d + 4) 5 cX5_go (some .int) false Q pc ls [.int (rLp G ord gr t (xRf I R)).1] (K, I', P, n, s)) → xB (d + 4) 5 cX5_go (some .int) false Q 11 [some (.ref R), some (.int x1), some (.int (nI gr)), some (.int (-1))] [] (K, I, P, n, s) := by
  intro t
  induction t with
  | zero =>
    intro I dp mk _ _ _ _ _ h1 h2
    exact absurd h2 (by omega)
  | succ t ih =>
    intro I dp mk hA h12 h15 ho hwr hmk ht k1
    obtain ⟨de, bd, sd, a1, a2, a3, a4, a5, a6, a7, a8, a9, a10, a11, a12⟩ := id hwr
    unfold rLp at k1
    rw [rN_of a1 (by omega), rN_of a7 (by omega)] at k1
    refine y_iload_n dX5_go_11 rfl ?_
    refine y_iconst (v := (-1)) dX5_go_12 (by decide) ?_
    refine y_icmp_ne 69 dX5_go_13 (by decide) (fun q => absurd q (by decide)) (fun _ => ?_)
    refine y_aload_n dX5_go_16 rfl ?_
    refine y_getv 5 36 dX5_go_17 rfl rfl hR.1 a1 ?_
    refine y_ifZ_le 69 ((dp : Int)) dX5_go_20 (by decide) (nI_toInt (by omega)) (fun c20 => ?_) (fun c20 => ?_)
    · rw [if_pos (show dp = 0 by omega)] at k1
      refine y_iload_n dX5_go_69 rfl ?_
      exact k1 I _ 70 dp mk (by decide) rfl xFrR.rf xF.rf hwr hmk
    · obtain ⟨m, k, b1, b2, b3, b4⟩ := a11 (by omega)
      have hm12 := ho2 m b2
      obtain ⟨w1, w2⟩ := (hw m hm12).2.2.2.2.2.1
      rw [if_neg (by omega), rN_of b3 (by omega), rN_of b1 (by omega)] at k1
      refine y_aload_n dX5_go_23 rfl ?_
      refine y_getv 5 38 dX5_go_24 rfl rfl hR.1 b3 ?_
      refine y_aload_n dX5_go_27 rfl ?_
      refine y_getr 5 9 dX5_go_28 rfl rfl hR.1 (r5_9 hR) ?_
      refine y_aload_n dX5_go_31 rfl ?_
      refine y_getv 5 37 dX5_go_32 rfl rfl hR.1 b1 ?_
      refine y_ialdN (m) dX5_go_35 (k5_9 hR) rfl (by omega) (by omega) ((congrFun (hA 9 (by decide) (by decide)) m).trans w1) ?_
      refine y_icmpN_lt 41 (k) ((gS G m)) dX5_go_36 (by decide) rfl rfl (by omega) (by omega) (fun c36 => ?_) (fun c36 => ?_)
      · rw [if_neg (by omega)] at k1
        refine y_aload_n dX5_go_41 rfl ?_
        refine y_getv 5 29 dX5_go_42 rfl rfl hR.1 a7 ?_
        refine y_iload_n dX5_go_45 rfl ?_
        refine y_icmpN_ne 51 (mk) (gr) dX5_go_46 (by decide) rfl rfl (by omega) (by omega) (fun c46 => ?_) (fun c46 => ?_)
        · rw [if_neg c46] at k1
          refine y_aload_n dX5_go_51 rfl ?_
          refine y_dup dX5_go_52 rfl ?_
          refine y_getv 5 29 dX5_go_53 rfl rfl hR.1 a7 ?_
          refine y_iconst (v := 1) dX5_go_56 (by decide) ?_
          refine y_iaddv (nI (mk + 1)) dX5_go_57 (nI_add (mk) (1)) ?_
          refine y_puti 5 29 dX5_go_58 rfl rfl rfl hR.1 ?_
          refine y_aload_n dX5_go_61 rfl ?_
          refine y_callV0 mX5_make dX5_go_62 rfl rfl hR.1 (Nat.le_of_ble_eq_true rfl) (krmake (d := d) (G := G) (ord := ord) (dp := dp) (de := de) (bd := bd) (sd := sd) (m := m) (k := k) hR (xPg_R hA) hw (by rw [xuI_o (Or.inr (by decide))]; exact h12) (by rw [xuI_o (Or.inr (by decide))]; exact h15) (xHl_put ho (Or.inl (by omega))) ho2 ho3 (by rw [xuI_o (Or.inr (by decide))]; exact a1) a2 (by rw [xuI_o (Or.inr (by decide))]; exact a3) (by omega) (by rw [xuI_o (Or.inr (by decide))]; exact a5) (by omega) (by rw [xuI_o (Or.inr (by decide))]; exact a6) (by omega) (by rw [xuI_o (Or.inr (by decide))]; exact b1) hm12 (by rw [xuI_o (Or.inr (by decide))]; exact b3) (by omega) (by omega) (fun I3 q1 q2 => ?_))
          refine y_istore_n dX5_go_65 (by first | (simp; done) | (simp; decide)) (fun z3 e_z3 => ?_)
          refine y_goto 11 dX5_go_66 (by decide) ?_
          have hF : xF 0 [14, 15, 20, 21, 22, 23] [29, 30, 31, 32, 36, 37, 38] (xRf I R) (xRf I3 R) := by
            rw [q1]
            exact (show xF 0 [14, 15, 20, 21, 22, 23] [29, 30, 31, 32, 36, 37, 38] (xRf I R) (xRf (xuI I R 29 (nI (mk + 1))) R) from by rw [xRf_f]; exact xF.f 29 (by decide)).tr (rMk_F.mono (by decide) (by decide))
          obtain ⟨dp2, hwr2⟩ : ∃ dp2, wfR ord (xRf I3 R) dp2 (mk + 1) := by
            rw [q1, xRf_f]
            exact wfR_make hw ho2 hl (wfR_made hwr (by omega)) ⟨bd, by simpa [xuI] using a5, a8⟩ ⟨sd, by simpa [xuI] using a6, a9⟩ (by omega) (by simpa [xuI] using b1) b2 (by simpa [xuI] using b3) (by omega)
          rw [xRf_f] at q1 e_z3
          by_cases hz : (rMk G ord (xuI (xRf I R) 0 29 (nI (mk + 1)))).1 = -1
          · rw [hz] at e_z3
            subst e_z3
            rw [if_pos hz, ← q1] at k1
            exact ih I3 dp2 (mk + 1) (xRF_pg hF hA (by decide)) ((xRF_fld hF 12 (by decide) (by decide)).trans h12) ((xRF_fld hF 15 (by decide) (by decide)).trans h15) (xRF_hl hF ho (by decide) (by decide)) hwr2 (by omega) (by omega) (fun I' ls pc dp' mk' p1 p2 p3 p4 p5 p6 => k1 I' ls pc dp' mk' p1 p2 ((xFrR.f.tr q2).tr p3) (hF.tr p4) p5 p6)
          · rw [if_neg hz] at k1
            refine y_iload_n dX5_go_11 rfl ?_
            refine y_iconst (v := (-1)) dX5_go_12 (by decide) ?_
            refine y_icmp_ne 69 dX5_go_13 (by decide) (fun _ => ?_) (fun c13 => absurd c13 (by rw [e_z3]; exact hz))
            refine y_iload_n dX5_go_69 rfl ?_
            subst e_z3
            exact k1 I3 _ 70 dp2 (mk + 1) (by decide) q1 (xFrR.f.tr q2) hF hwr2 (by omega)
        · rw [if_pos c46] at k1
          refine y_iconst (v := 1) dX5_go_49 (by decide) ?_
          exact k1 I _ 50 dp mk (by decide) rfl xFrR.rf xF.rf hwr hmk
      · rw [if_pos (by omega)] at k1
        refine y_iconst (v := 4) dX5_go_39 (by decide) ?_
        exact k1 I _ 40 dp mk (by decide) rfl xFrR.rf xF.rf hwr hmk
/-- the counts of the latest run -/
def wfC (X : xX) (mk : Nat) : Prop := ∃ de bd sd : Nat, X 0 32 = nI de ∧ de ≤ 100 ∧ X 0 31 = nI bd ∧ X 0 30 = nI sd ∧ X 0 29 = nI mk ∧ bd ≤ mk ∧ sd ≤ mk ∧ mk ≤ 5000
theorem wfR.C {ord : List Nat} {X : xX} {dp mk : Nat} (h : wfR ord X dp mk) : wfC X mk := by
  obtain ⟨de, bd, sd, a1, a2, a3, a4, a5, a6, a7, a8, a9, a10, -⟩ := h
  exact ⟨de, bd, sd, a3, a4, a5, a6, a7, a8, a9, a10⟩
theorem krgo {d : Nat} {Pp : Option Value → xH → Prop} {K : Nat → Nat × Nat} {I : Nat → Nat → Int32} {P : Nat → Nat → Option Nat} {n s : Nat} {R gr e mk : Nat} {G : xX} {ord : List Nat} (hR : xAt K P R 5) (hw : ∀ m, m < 12 → wfM G m) (ho2 : ∀ q ∈ ord, q < 12) (ho3 : ord.length ≤ 12) (hl : lchk G ord) (hgr : gr ≤ 5000) (hA : xPg I R G) (h12 : I R 12 = 1) (h15 : I R 15 = nI ord.length) (ho : xHl I (R + 12) ord) (hwc : wfC (xRf I R) mk) (hmk : mk ≤ gr) (he : e < 240) (heo : e / 20 ∈ ord) (hev : ∃ v : Nat, v < 100 ∧ G 5 e = nI v) (hp : ∀ I' dp' mk', xRf I' R = (rGo G ord gr (xRf I R) e).2 → xFrR R I I' → xF 0 [14, 15, 20, 21, 22, 23] [29, 30, 31, 32, 36, 37, 38] (xRf I R) (xRf I' R) → wfR ord (xRf I' R) dp' mk' → mk' ≤ gr → Pp (some (.int (rGo G ord gr (xRf I R) e).1)) (K, I', P, n, s)) : xC (d + 4) mX5_go [(.ref R), (.int (nI e)), (.int (nI gr))] (K, I, P, n, s) Pp := by
  refine y_met 0 0 ?_
  show xB (d + 4) 5 cX5_go (some .int) false (xE n s 0 0 Pp) 0 [some (.ref R), some (.int (nI e)), some (.int (nI gr)), none] [] (K, I, P, n, s)
  obtain ⟨de, bd, sd, a3, a4, a5, a6, a7, a8, a9, a10⟩ := id hwc
  have hwr0 : wfR ord (xuI (xRf I R) 0 36 0) 0 mk := ⟨de, bd, sd, by simp [xuI]; rfl, by omega, by simpa [xuI] using a3, a4, by simpa [xuI] using a5, by simpa [xuI] using a6, by simpa [xuI] using a7, a8, a9, a10, fun q => absurd q (by omega), fun i i1 i2 => absurd i2 (by omega)⟩
  obtain ⟨dp1, hwr1, hd1, -⟩ := wfR_call (G := G) hwr0 (Or.inl rfl) heo hev
  have hc1 : (rCall G (xuI (xRf I R) 0 36 0) (some e)).1 = -1 := by
    unfold rCall
    simp only
    rw [if_neg (by rw [show xuI (xRf I R) 0 36 0 0 36 = nI 0 from by simp [xuI]; rfl, rN_nI (by decide)]; decide)]
  unfold rGo at hp
  rw [if_pos hc1] at hp
  refine y_aload_n dX5_go_0 rfl ?_
  refine y_iconst (v := 0) dX5_go_1 (by decide) ?_
  refine y_puti 5 36 dX5_go_2 rfl rfl rfl hR.1 ?_
  refine y_aload_n dX5_go_5 rfl ?_
  refine y_iload_n dX5_go_6 rfl ?_
  refine y_callV1 mX5_call dX5_go_7 rfl rfl hR.1 (Nat.le_of_ble_eq_true rfl) (krcall (d := d + 3) (G := G) (o := some e) (dp := 0) (de := de) hR (xPg_R hA) (by rw [xuI_s]; rfl) (by omega) (by rw [xuI_o (Or.inr (by decide))]; exact a3) (by omega) (fun _ h => by cases h; exact he) (fun I3 q1 q2 => ?_))
  refine y_istore_n dX5_go_10 (by first | (simp; done) | (simp; decide)) (fun z3 e_z3 => ?_)
  rw [xRf_f] at q1 e_z3
  rw [hc1] at e_z3
  subst e_z3
  have hF : xF 0 [14, 15, 20, 21, 22, 23] [29, 30, 31, 32, 36, 37, 38] (xRf I R) (xRf I3 R) := by rw [q1]; exact (xF.f 36 (by decide)).tr (rCall_F.mono (by decide) (by decide))
  have hwr3 : wfR ord (xRf I3 R) dp1 mk := by rw [q1]; exact hwr1
  rw [← q1] at hp
  exact krgo_loop hR hw ho2 ho3 hl hgr (gr + 2) I3 dp1 mk (xRF_pg hF hA (by decide)) ((xRF_fld hF 12 (by decide) (by decide)).trans h12) ((xRF_fld hF 15 (by decide) (by decide)).trans h15) (xRF_hl hF ho (by decide) (by decide)) hwr3 hmk (by omega) (fun I' ls pc dp' mk' p1 p2 p3 p4 p5 p6 => by
    have hq := hp I' dp' mk' p2 ((xFrR.f.tr q2).tr p3) (hF.tr p4) p5 p6
    rcases p1 with rfl | rfl | rfl
    · exact y_ret dX5_go_40 rfl rfl hq
    · exact y_ret dX5_go_50 rfl rfl hq
    · exact y_ret dX5_go_70 rfl rfl hq)
def rBg (G : xX) (ord : List Nat) : List Nat → List Nat
  | [] => []
  | m :: r => if G 11 m = -1 then rBg G ord r else match sFi G ord m (G 11 m) with
    | none => rBg G ord r
    | some e => e :: rBg G ord r
def rRuns (G : xX) (ord : List Nat) (gr : Nat) : List Nat → xX → Int32 × xX
  | [], X => (-1, X)
  | e :: r, X => if (rGo G ord gr X e).1 = -1 then rRuns G ord gr r (rGo G ord gr X e).2 else rGo G ord gr X e
theorem rRuns_nil {G : xX} {ord : List Nat} {gr : Nat} {X : xX} : rRuns G ord gr [] X = (-1, X) := rfl
theorem rRuns_cons {G : xX} {ord : List Nat} {gr : Nat} {e : Nat} {r : List Nat} {X : xX} : rRuns G ord gr (e :: r) X = if (rGo G ord gr X e).1 = -1 then rRuns G ord gr r (rGo G ord gr X e).2 else rGo G ord gr X e := rfl
/-- the memory at a run's beginning -/
def rFr (G : xX) (ord : List Nat) (lz : Bool) (X : xX) : xX := fun i j => if i = 14 ∧ j < 768 then (if j / 64 ∈ ord then sSl G ord lz (j / 64) (j % 64) else -1) else if i = 15 ∧ j < 240 then G 5 j else if i = 20 ∧ j < 8 then 0 else if i = 0 ∧ 29 ≤ j ∧ j ≤ 32 then 0 else X i j
theorem rRuns_app {G : xX} {ord : List Nat} {gr : Nat} : ∀ (l1 l2 : List Nat) (X : xX), rRuns G ord gr (l1 ++ l2) X = if (rRuns G ord gr l1 X).1 = -1 then rRuns G ord gr l2 (rRuns G ord gr l1 X).2 else rRuns G ord gr l1 X
  | [], l2, X => by rw [List.nil_append, rRuns_nil, if_pos rfl]
  | e :: r, l2, X => by
    rw [List.cons_append, rRuns_cons, rRuns_cons]
    by_cases h : (rGo G ord gr X e).1 = -1
    · rw [if_pos h, if_pos h]; exact rRuns_app r l2 _
    · rw [if_neg h, if_neg h, if_neg h]
/-- beginners come to functions -/
def lchkB (G : xX) (ord : List Nat) : Prop := ∀ m e, m ∈ ord → G 11 m ≠ -1 → sFi G ord m (G 11 m) = some e → G 4 e = 0
theorem def5 {G : xX} {ord : List Nat} {q e : Nat} {x : Int32} (hw : ∀ m, m < 12 → wfM G m) (ho2 : ∀ q ∈ ord, q < 12) (hq : q ∈ ord) (h1 : sOf G q x = some e) (h2 : G 4 e = 0) : e / 20 ∈ ord ∧ ∃ v : Nat, v < 100 ∧ G 5 e = nI v := by
  have hq12 := ho2 q hq
  obtain ⟨j, j1, j2, -⟩ := sOf_some h1
  have hlt := (hw q hq12).2.2.1.2
  have := (sOf_lt hlt hq12 h1).2
  subst j2
  exact ⟨by rw [this]; exact hq, ((hw q hq12).2.2.2.1 j j1).2.2 h2⟩
theorem krun_out {d R gr : Nat} {Q : Option Value → xH → Prop} {K : Nat → Nat × Nat} {I : Nat → Nat → Int32} {P : Nat → Nat → Option Nat} {n s : Nat} (hR : xAt K P R 5) {x1 z : Int32} {e p c : Nat} {v6 v7 : Option Value} (h15 : I R 15 = nI c) (hc : c ≤ 12) (hp : p ≤ 12) (hz : z ≠ -1) (k1 : xB d 5 cX5_run (some .int) false Q 198 [some (.ref R), some (.int x1), some (.int (nI gr)), some (.int (nI e)), some (.int z), some (.int (nI p)), v6, v7] [] (K, I, P, n, s)) : xB d 5 cX5_run (some .int) false Q 115 [some (.ref R), some (.int x1), some (.int (nI gr)), some (.int (nI e)), some (.int z), some (.int (nI p)), v6, v7] [] (K, I, P, n, s) := by
  refine y_iload dX5_run_115 rfl ?_
  refine y_aload_n dX5_run_117 rfl ?_
  refine y_getv 5 15 dX5_run_118 rfl rfl hR.1 h15 ?_
  refine y_icmpN_ge 198 (p) (c) dX5_run_121 (by decide) rfl rfl (by omega) (by omega) (fun _ => ?_) (fun _ => ?_)
  · exact k1
  · refine y_iload dX5_run_124 rfl ?_
    refine y_iconst (v := (-1)) dX5_run_126 (by decide) ?_
    refine y_icmp_ne 198 dX5_run_127 (by decide) (fun _ => ?_) (fun c127 => absurd c127 hz)
    exact k1
set_option maxHeartbeats 2000000 in
theorem krun_loop {d R gr : Nat} {G : xX} {ord beg : List Nat} {Q : Option Value → xH → Prop} {K : Nat → Nat × Nat} {P : Nat → Nat → Option Nat} {n s : Nat} (hR : xAt K P R 5) (hw : ∀ m, m < 12 → wfM G m) (ho2 : ∀ q ∈ ord, q < 12) (ho3 : ord.length ≤ 12) (hl : lchk G ord) (hlb : lchkB G ord) (hgr : gr ≤ 5000) (hbl : beg.length = ord.length) (hbo : ∀ q ∈ beg, q ∈ ord) {x1 : Int32} {e : Nat} : ∀ (l : List Nat) (p : Nat) (I : Nat → Nat → Int32) (mk : Nat) (v6 v7 : Option Value), p ≤ beg.length → beg.drop p = l → xPg I R G → I R 12 = 1 → I R 15 = nI ord.length → xHl I (R + 12) ord → xHl I (R + 13) beg → wfC (xRf I R) mk → mk ≤ gr → (∀ I' ls v6' v7' mk', xRf I' R = (rRuns G ord gr (rBg G ord l) (xRf I R)).2 → xFrR R I I' → xF 0 [14, 15, 20, 21, 22, 23] [29, 30, 31, 32, 36, 37, 38] (xRf I R) (xRf I' R) → wfC (xRf I' R) mk' → mk' ≤ gr → xB (d + 5) 5 cX5_run (some .int) false Q 198 [some (.ref R), some (.int x1), some (.int (nI gr)), some (.int (nI e)), some (.int (rRuns G ord gr (rBg G ord l) (xRf I R)).1), ls, v6', v7'] [] (K, I', P, n, s)) → xB (d + 5) 5 cX5_run (some .int) false Q 115 [some (.ref R), some (.int x1), some (.int (nI gr)), some (.int (nI e)), some (.int (-1)), some (.int (nI p)), v6, v7] [] (K, I, P, n, s) := by
  intro l
  induction l with
  | nil =>
    intro p I mk v6 v7 hp hd hA h12 h15 ho hbg hwc hmk k1
    have h1 := drop_nil hd
    refine y_iload dX5_run_115 rfl ?_
    refine y_aload_n dX5_run_117 rfl ?_
    refine y_getv 5 15 dX5_run_118 rfl rfl hR.1 h15 ?_
    refine y_icmpN_ge 198 (p) (ord.length) dX5_run_121 (by decide) rfl rfl (by omega) (by omega) (fun _ => ?_) (fun c121 => absurd c121 (by omega))
    exact k1 I _ _ _ mk rfl xFrR.rf xF.rf hwc hmk
  | cons q r ih =>
    intro p I mk v6 v7 hp hd hA h12 h15 ho hbg hwc hmk k1
    obtain ⟨g1, g2, g3⟩ := drop_get hd
    have hqb := hbo q (List.mem_of_getElem? g2)
    have hq := ho2 q hqb
    unfold rBg at k1
    refine y_iload dX5_run_115 rfl ?_
    refine y_aload_n dX5_run_117 rfl ?_
    refine y_getv 5 15 dX5_run_118 rfl rfl hR.1 h15 ?_
    refine y_icmpN_ge 198 (p) (ord.length) dX5_run_121 (by decide) rfl rfl (by omega) (by omega) (fun c121 => absurd c121 (by omega)) (fun _ => ?_)
    refine y_iload dX5_run_124 rfl ?_
    refine y_iconst (v := (-1)) dX5_run_126 (by decide) ?_
    refine y_icmp_ne 198 dX5_run_127 (by decide) (fun q => absurd q (by decide)) (fun _ => ?_)
    refine y_aload_n dX5_run_130 rfl ?_
    refine y_getr 5 17 dX5_run_131 rfl rfl hR.1 (r5_17 hR) ?_
    refine y_iload dX5_run_134 rfl ?_
    refine y_ialdN (p) dX5_run_136 (k5_17 hR) rfl (by omega) (by omega) (hbg p q g2) ?_
    refine y_istore dX5_run_137 (by first | (simp; done) | (simp; decide)) (fun x1 e_x1 => ?_)
    subst e_x1
    refine y_aload_n dX5_run_139 rfl ?_
    refine y_getr 5 11 dX5_run_140 rfl rfl hR.1 (r5_11 hR) ?_
    refine y_iload dX5_run_143 rfl ?_
    refine y_ialdN (q) dX5_run_145 (k5_11 hR) rfl (by omega) (by omega) (congrFun (hA 11 (by decide) (by decide)) (q)) ?_
    refine y_iconst (v := (-1)) dX5_run_146 (by decide) ?_
    refine y_icmp_ne 154 dX5_run_147 (by decide) (fun c147 => ?_) (fun c147 => ?_)
    · rw [if_neg c147] at k1
      obtain ⟨vb, hvb, evb⟩ := (hw q hq).2.2.2.2.2.2.2.1.resolve_left c147
      refine y_aload_n dX5_run_154 rfl ?_
      refine y_aload_n dX5_run_155 rfl ?_
      refine y_getr 5 16 dX5_run_156 rfl rfl hR.1 (r5_16 hR) ?_
      refine y_aload_n dX5_run_159 rfl ?_
      refine y_getv 5 15 dX5_run_160 rfl rfl hR.1 h15 ?_
      refine y_iload dX5_run_163 rfl ?_
      refine y_aload_n dX5_run_165 rfl ?_
      refine y_getr 5 11 dX5_run_166 rfl rfl hR.1 (r5_11 hR) ?_
      refine y_iload dX5_run_169 rfl ?_
      refine y_ialdN (q) dX5_run_171 (k5_11 hR) rfl (by omega) (by omega) (congrFun (hA 11 (by decide) (by decide)) (q)) ?_
      refine y_callV4 mX5_find dX5_run_172 rfl rfl hR.1 (Nat.le_of_ble_eq_true rfl) (kfind (d := d + 3) hR hA (k5_16 hR) ho ho2 ho3 hq hw (fun ef => ?_) (fun e2 ef he => ?_))
      · rw [ef] at k1
        refine y_istore dX5_run_175 (by first | (simp; done) | (simp; decide)) (fun x2 e_x2 => ?_)
        subst e_x2
        refine y_iload dX5_run_177 rfl ?_
        refine y_iconst (v := (-1)) dX5_run_179 (by decide) ?_
        refine y_icmp_eq 192 dX5_run_180 (by decide) (fun _ => ?_) (fun q => absurd q (by decide))
        refine y_iinc dX5_run_192 rfl (fun x3 e_x3 => ?_)
        obtain rfl : x3 = nI (p + 1) := by rw [e_x3]; exact nI_1 (p)
        refine y_goto 115 dX5_run_195 (by decide) ?_
        exact ih (p + 1) I mk _ _ g1 g3 hA h12 h15 ho hbg hwc hmk k1
      · rw [ef] at k1
        obtain ⟨qq, hqq, hqe⟩ := sFi_mem hqb ef
        obtain ⟨d1, d2⟩ := def5 hw ho2 hqq hqe (hlb q e2 hqb c147 ef)
        refine y_istore dX5_run_175 (by first | (simp; done) | (simp; decide)) (fun x4 e_x4 => ?_)
        subst e_x4
        refine y_iload dX5_run_177 rfl ?_
        refine y_iconst (v := (-1)) dX5_run_179 (by decide) ?_
        refine y_icmp_eq 192 dX5_run_180 (by decide) (fun c180 => absurd c180 (nI_m1 (by omega))) (fun _ => ?_)
        refine y_aload_n dX5_run_183 rfl ?_
        refine y_iload dX5_run_184 rfl ?_
        refine y_iload_n dX5_run_186 rfl ?_
        refine y_callV2 mX5_go dX5_run_187 rfl rfl hR.1 (Nat.le_of_ble_eq_true rfl) (krgo (d := d) (ord := ord) hR hw ho2 ho3 hl hgr hA h12 h15 ho hwc hmk he d1 d2 (fun I3 dp2 mk2 q1 q2 hF hwr hmk2 => ?_))
        refine y_istore dX5_run_190 (by first | (simp; done) | (simp; decide)) (fun z4 e_z4 => ?_)
        refine y_iinc dX5_run_192 rfl (fun x5 e_x5 => ?_)
        obtain rfl : x5 = nI (p + 1) := by rw [e_x5]; exact nI_1 (p)
        refine y_goto 115 dX5_run_195 (by decide) ?_
        rw [rRuns_cons] at k1
        by_cases hz : (rGo G ord gr (xRf I R) e2).1 = -1
        · rw [hz] at e_z4
          subst e_z4
          rw [if_pos hz, ← q1] at k1
          exact ih (p + 1) I3 mk2 _ _ g1 g3 (xRF_pg hF hA (by decide)) ((xRF_fld hF 12 (by decide) (by decide)).trans h12) ((xRF_fld hF 15 (by decide) (by decide)).trans h15) (xRF_hl hF ho (by decide) (by decide)) (xRF_hl hF hbg (by decide) (by decide)) hwr.C hmk2 (fun I' ls v6' v7' mk' p2 p3 p4 p5 p6 => k1 I' ls v6' v7' mk' p2 (q2.tr p3) (hF.tr p4) p5 p6)
        · rw [if_neg hz] at k1
          subst e_z4
          exact krun_out hR ((xRF_fld hF 15 (by decide) (by decide)).trans h15) ho3 (by omega) hz (k1 I3 _ _ _ mk2 q1 q2 hF hwr.C hmk2)
    · rw [if_pos c147] at k1
      refine y_iconst (v := (-1)) dX5_run_150 (by decide) ?_
      refine y_goto 175 dX5_run_151 (by decide) ?_
      refine y_istore dX5_run_175 (by first | (simp; done) | (simp; decide)) (fun x6 e_x6 => ?_)
      subst e_x6
      refine y_iload dX5_run_177 rfl ?_
      refine y_iconst (v := (-1)) dX5_run_179 (by decide) ?_
      refine y_icmp_eq 192 dX5_run_180 (by decide) (fun _ => ?_) (fun q => absurd q (by decide))
      refine y_iinc dX5_run_192 rfl (fun x7 e_x7 => ?_)
      obtain rfl : x7 = nI (p + 1) := by rw [e_x7]; exact nI_1 (p)
      refine y_goto 115 dX5_run_195 (by decide) ?_
      exact ih (p + 1) I mk _ _ g1 g3 hA h12 h15 ho hbg hwc hmk k1
