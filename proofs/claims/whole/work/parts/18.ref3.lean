theorem e12 {e : Int32} (he : e = 1 ∨ e = 2) : e ≠ 0 := by rcases he with rfl | rfl <;> decide
theorem xPg_R {I : Nat → Nat → Int32} {R k : Nat} {X : xX} {x : Int32} (h : xPg I R X) : xPg (xuI I R k x) R X := fun i h1 h2 => by rw [xuI_ne (by omega)]; exact h i h1 h2
theorem xStep_use {op a b c : Int32} (h : xStep op a b c) (h1 : 6 < op.toInt) (h2 : op.toInt < 11) : (op = 7 ∧ ∃ k : Nat, k < 64 ∧ a = nI k) ∨ (op = 8 ∧ ∃ k : Nat, k < 64 ∧ b = nI k) ∨ (op = 9 ∧ ∃ k : Nat, k < 64 ∧ a = nI k) ∨ (op = 10 ∧ ∃ k : Nat, k < 64 ∧ b = nI k) := by
  unfold xStep at h
  rcases h with ⟨e, -⟩ | ⟨e, -⟩ | ⟨e, -⟩ | ⟨e, -⟩ | ⟨e, -⟩ | ⟨e, -⟩ | ⟨e, -⟩ | ⟨e, q⟩ | ⟨e, -, q⟩ | ⟨e, q, -⟩ | ⟨e, -, q⟩ | ⟨e, -⟩ | e | ⟨e, -⟩ | e
  · subst e; exact absurd h1 (by decide)
  · subst e; exact absurd h1 (by decide)
  · subst e; exact absurd h1 (by decide)
  · subst e; exact absurd h1 (by decide)
  · subst e; exact absurd h1 (by decide)
  · subst e; exact absurd h1 (by decide)
  · subst e; exact absurd h1 (by decide)
  · exact Or.inl ⟨e, q⟩
  · exact Or.inr (Or.inl ⟨e, q⟩)
  · exact Or.inr (Or.inr (Or.inl ⟨e, q⟩))
  · exact Or.inr (Or.inr (Or.inr ⟨e, q⟩))
  · subst e; exact absurd h2 (by decide)
  · subst e; exact absurd h2 (by decide)
  · subst e; exact absurd h2 (by decide)
  · subst e; exact absurd h2 (by decide)
theorem klookAt_out {d R : Nat} {X : xX} {Q : Option Value → xH → Prop} {K : Nat → Nat × Nat} {I : Nat → Nat → Int32} {P : Nat → Nat → Option Nat} {n s : Nat} (hR : xAt K P R 5) (hA : xPg I R X) {m k : Nat} {e : Int32} (hm : m < 12) (w1 : X 9 m = nI (gS X m)) (w2 : gS X m ≤ 100) (hk : k ≤ gS X m) (he : e = 1 ∨ e = 2) {v4 v5 : Option Value} (k1 : ∀ ls, xB d 5 cX5_lookAt (some .int) false Q 145 ls [.int e] (K, I, P, n, s)) : xB d 5 cX5_lookAt (some .int) false Q 30 [some (.ref R), some (.int (nI m)), some (.int e), some (.int (nI k)), v4, v5] [] (K, I, P, n, s) := by
  refine y_iload_n dX5_lookAt_30 rfl ?_
  refine y_aload_n dX5_lookAt_31 rfl ?_
  refine y_getr 5 9 dX5_lookAt_32 rfl rfl hR.1 (r5_9 hR) ?_
  refine y_iload_n dX5_lookAt_35 rfl ?_
  refine y_ialdN (m) dX5_lookAt_36 (k5_9 hR) rfl (by omega) (by omega) ((congrFun (hA 9 (by decide) (by decide)) m).trans w1) ?_
  refine y_icmpN_ge 144 (k) ((gS X m)) dX5_lookAt_37 (by decide) rfl rfl (by omega) (by omega) (fun c37 => ?_) (fun c37 => ?_)
  · refine y_iload_n dX5_lookAt_144 rfl ?_
    exact k1 _
  · refine y_iload_n dX5_lookAt_40 rfl ?_
    refine y_if_ne 144 dX5_lookAt_41 (by decide) (fun _ => ?_) (fun c41 => absurd c41 (by rcases he with rfl | rfl <;> decide))
    refine y_iload_n dX5_lookAt_144 rfl ?_
    exact k1 _
set_option maxHeartbeats 2000000 in
theorem klookAt_loop {d R : Nat} {X : xX} {Q : Option Value → xH → Prop} {K : Nat → Nat × Nat} {I : Nat → Nat → Int32} {P : Nat → Nat → Option Nat} {n s : Nat} (hR : xAt K P R 5) (hA : xPg I R X) {m : Nat} {ord : List Nat} (hc : I R 20 = nI ord.length) (ho : xHl I (R + 16) ord) (ho2 : ∀ q ∈ ord, q < 12) (ho3 : ord.length ≤ 12) (hm : m < 12) (hw : ∀ m, m < 12 → wfM X m) : ∀ (t k : Nat) (v4 v5 : Option Value), k + t = gS X m → ((sLkS X ord m t k).1 = 0 → ∀ ls, xB (d + 3) 5 cX5_lookAt (some .int) false Q 145 ls [.int 0] (K, I, P, n, s)) → ((sLkS X ord m t k).1 ≠ 0 → ∀ ls, xB (d + 3) 5 cX5_lookAt (some .int) false Q 145 ls [.int (sLkS X ord m t k).1] (K, xuI (xuI (xuI I R 25 (nI m)) R 26 (sLkS X ord m t k).2.1) R 27 (sLkS X ord m t k).2.2, P, n, s)) → xB (d + 3) 5 cX5_lookAt (some .int) false Q 30 [some (.ref R), some (.int (nI m)), some (.int 0), some (.int (nI k)), v4, v5] [] (K, I, P, n, s) := by
  obtain ⟨w1, w2⟩ := (hw m hm).2.2.2.2.2.1
  intro t
  induction t with
  | zero =>
    intro k v4 v5 hk h0 h1
    refine y_iload_n dX5_lookAt_30 rfl ?_
    refine y_aload_n dX5_lookAt_31 rfl ?_
    refine y_getr 5 9 dX5_lookAt_32 rfl rfl hR.1 (r5_9 hR) ?_
    refine y_iload_n dX5_lookAt_35 rfl ?_
    refine y_ialdN (m) dX5_lookAt_36 (k5_9 hR) rfl (by omega) (by omega) ((congrFun (hA 9 (by decide) (by decide)) m).trans w1) ?_
    refine y_icmpN_ge 144 (k) ((gS X m)) dX5_lookAt_37 (by decide) rfl rfl (by omega) (by omega) (fun _ => ?_) (fun c37 => absurd c37 (by omega))
    refine y_iload_n dX5_lookAt_144 rfl ?_
    exact h0 rfl _
  | succ t ih =>
    intro k v4 v5 hk h0 h1
    unfold sLkS at h0 h1
    refine y_iload_n dX5_lookAt_30 rfl ?_
    refine y_aload_n dX5_lookAt_31 rfl ?_
    refine y_getr 5 9 dX5_lookAt_32 rfl rfl hR.1 (r5_9 hR) ?_
    refine y_iload_n dX5_lookAt_35 rfl ?_
    refine y_ialdN (m) dX5_lookAt_36 (k5_9 hR) rfl (by omega) (by omega) ((congrFun (hA 9 (by decide) (by decide)) m).trans w1) ?_
    refine y_icmpN_ge 144 (k) ((gS X m)) dX5_lookAt_37 (by decide) rfl rfl (by omega) (by omega) (fun c37 => absurd c37 (by omega)) (fun _ => ?_)
    refine y_iload_n dX5_lookAt_40 rfl ?_
    refine y_if_ne 144 dX5_lookAt_41 (by decide) (fun q => absurd q (by decide)) (fun _ => ?_)
    refine y_iconst (v := 4) dX5_lookAt_44 (by decide) ?_
    refine y_bipush (v := 100) dX5_lookAt_45 (by decide) ?_
    refine y_iload_n dX5_lookAt_47 rfl ?_
    refine y_imulv (nI (100 * m)) dX5_lookAt_48 (pk_mul (100) (m)) ?_
    refine y_iload_n dX5_lookAt_49 rfl ?_
    refine y_iaddv (nI (((100 * m)) + k)) dX5_lookAt_50 (nI_add ((100 * m)) (k)) ?_
    refine y_imulv (nI (4 * ((((100 * m)) + k)))) dX5_lookAt_51 (pk_mul (4) ((((100 * m)) + k))) ?_
    refine y_istore dX5_lookAt_52 (by first | (simp; done) | (simp; decide)) (fun x1 e_x1 => ?_)
    subst e_x1
    refine y_aload_n dX5_lookAt_54 rfl ?_
    refine y_getr 5 8 dX5_lookAt_55 rfl rfl hR.1 (r5_8 hR) ?_
    refine y_iload dX5_lookAt_58 rfl ?_
    refine y_ialdN ((4 * ((((100 * m)) + k)))) dX5_lookAt_60 (k5_8 hR) rfl (by omega) (by omega) (congrFun (hA 8 (by decide) (by decide)) ((4 * ((((100 * m)) + k))))) ?_
    refine y_istore dX5_lookAt_61 (by first | (simp; done) | (simp; decide)) (fun op e_op => ?_)
    rw [show sOp X m k = op from e_op.symm] at h0 h1
    refine y_iload dX5_lookAt_63 rfl ?_
    refine y_bipush (v := 6) dX5_lookAt_65 (by decide) ?_
    refine y_icmpZ_le 138 (op.toInt) (6) dX5_lookAt_67 (by decide) rfl rfl (fun c67 => ?_) (fun c67 => ?_)
    · rw [if_neg (by omega)] at h0 h1
      refine y_iinc dX5_lookAt_138 rfl (fun x2 e_x2 => ?_)
      obtain rfl : x2 = nI (k + 1) := by rw [e_x2]; exact nI_1 (k)
      refine y_goto 30 dX5_lookAt_141 (by decide) ?_
      exact ih (k + 1) _ _ (by omega) h0 h1
    · refine y_iload dX5_lookAt_70 rfl ?_
      refine y_bipush (v := 11) dX5_lookAt_72 (by decide) ?_
      refine y_icmpZ_ge 138 (op.toInt) (11) dX5_lookAt_74 (by decide) rfl rfl (fun c74 => ?_) (fun c74 => ?_)
      · rw [if_neg (by omega)] at h0 h1
        refine y_iinc dX5_lookAt_138 rfl (fun x3 e_x3 => ?_)
        obtain rfl : x3 = nI (k + 1) := by rw [e_x3]; exact nI_1 (k)
        refine y_goto 30 dX5_lookAt_141 (by decide) ?_
        exact ih (k + 1) _ _ (by omega) h0 h1
      · rw [if_pos ⟨by omega, by omega⟩] at h0 h1
        have hst := (hw m hm).2.2.2.2.2.2.1 k (by omega)
        rw [show sOp X m k = op from e_op.symm] at hst
        rcases xStep_use hst (by omega) (by omega) with ⟨eo, v, hv, ev⟩ | ⟨eo, v, hv, ev⟩ | ⟨eo, v, hv, ev⟩ | ⟨eo, v, hv, ev⟩
        · subst eo
          rw [show sNm X m k = nI v from by unfold sNm; rw [show sOp X m k = 7 from e_op.symm, if_pos (by decide)]; exact ev, show decide ((7 : Int32) = 7 ∨ (7 : Int32) = 10) = true from by decide] at h0 h1
          refine y_aload_n dX5_lookAt_77 rfl ?_
          refine y_iload_n dX5_lookAt_78 rfl ?_
          refine y_iload_n dX5_lookAt_79 rfl ?_
          refine y_iload dX5_lookAt_80 rfl ?_
          refine y_bipush (v := 7) dX5_lookAt_82 (by decide) ?_
          refine y_icmp_eq 94 dX5_lookAt_84 (by decide) (fun _ => ?_) (fun q => absurd q (by decide))
          refine y_aload_n dX5_lookAt_94 rfl ?_
          refine y_getr 5 8 dX5_lookAt_95 rfl rfl hR.1 (r5_8 hR) ?_
          refine y_iload dX5_lookAt_98 rfl ?_
          refine y_iconst (v := 1) dX5_lookAt_100 (by decide) ?_
          refine y_iaddv (nI (((4 * ((((100 * m)) + k)))) + 1)) dX5_lookAt_101 (nI_add ((4 * ((((100 * m)) + k)))) (1)) ?_
          refine y_ialdN ((((4 * ((((100 * m)) + k)))) + 1)) dX5_lookAt_102 (k5_8 hR) rfl (by omega) (by omega) ((congrFun (hA 8 (by decide) (by decide)) (4 * (100 * m + k) + 1)).trans ev) ?_
          refine y_goto 115 dX5_lookAt_103 (by decide) ?_
          refine y_iload dX5_lookAt_115 rfl ?_
          refine y_bipush (v := 7) dX5_lookAt_117 (by decide) ?_
          refine y_icmp_eq 129 dX5_lookAt_119 (by decide) (fun _ => ?_) (fun q => absurd q (by decide))
          refine y_iconst (v := 1) dX5_lookAt_129 (by decide) ?_
          refine y_goto 134 dX5_lookAt_130 (by decide) ?_
          refine y_callV4 mX5_look dX5_lookAt_134 rfl rfl hR.1 (Nat.le_of_ble_eq_true rfl) (klook (d := d) (fn := true) hR hA hc ho ho2 ho3 hm hw hv (fun eq => ?_) (fun e eq he => ?_))
          · rw [if_pos eq] at h0 h1
            refine y_istore_n dX5_lookAt_137 (by first | (simp; done) | (simp; decide)) (fun x4 e_x4 => ?_)
            subst e_x4
            refine y_iinc dX5_lookAt_138 rfl (fun x5 e_x5 => ?_)
            obtain rfl : x5 = nI (k + 1) := by rw [e_x5]; exact nI_1 (k)
            refine y_goto 30 dX5_lookAt_141 (by decide) ?_
            exact ih (k + 1) _ _ (by omega) h0 h1
          · rw [if_neg (by rw [eq]; rcases he with rfl | rfl <;> decide), eq] at h1
            refine y_istore_n dX5_lookAt_137 (by first | (simp; done) | (simp; decide)) (fun x6 e_x6 => ?_)
            subst e_x6
            refine y_iinc dX5_lookAt_138 rfl (fun x7 e_x7 => ?_)
            obtain rfl : x7 = nI (k + 1) := by rw [e_x7]; exact nI_1 (k)
            refine y_goto 30 dX5_lookAt_141 (by decide) ?_
            exact klookAt_out hR (xPg_R (xPg_R (xPg_R hA))) hm w1 w2 (by omega) he (h1 (e12 he))
        · subst eo
          rw [show sNm X m k = nI v from by unfold sNm; rw [show sOp X m k = 8 from e_op.symm, if_neg (by decide)]; exact ev, show decide ((8 : Int32) = 7 ∨ (8 : Int32) = 10) = false from by decide] at h0 h1
          refine y_aload_n dX5_lookAt_77 rfl ?_
          refine y_iload_n dX5_lookAt_78 rfl ?_
          refine y_iload_n dX5_lookAt_79 rfl ?_
          refine y_iload dX5_lookAt_80 rfl ?_
          refine y_bipush (v := 7) dX5_lookAt_82 (by decide) ?_
          refine y_icmp_eq 94 dX5_lookAt_84 (by decide) (fun q => absurd q (by decide)) (fun _ => ?_)
          refine y_iload dX5_lookAt_87 rfl ?_
          refine y_bipush (v := 9) dX5_lookAt_89 (by decide) ?_
          refine y_icmp_ne 106 dX5_lookAt_91 (by decide) (fun _ => ?_) (fun q => absurd q (by decide))
          refine y_aload_n dX5_lookAt_106 rfl ?_
          refine y_getr 5 8 dX5_lookAt_107 rfl rfl hR.1 (r5_8 hR) ?_
          refine y_iload dX5_lookAt_110 rfl ?_
          refine y_iconst (v := 2) dX5_lookAt_112 (by decide) ?_
          refine y_iaddv (nI (((4 * ((((100 * m)) + k)))) + 2)) dX5_lookAt_113 (nI_add ((4 * ((((100 * m)) + k)))) (2)) ?_
          refine y_ialdN ((((4 * ((((100 * m)) + k)))) + 2)) dX5_lookAt_114 (k5_8 hR) rfl (by omega) (by omega) ((congrFun (hA 8 (by decide) (by decide)) (4 * (100 * m + k) + 2)).trans ev) ?_
          refine y_iload dX5_lookAt_115 rfl ?_
          refine y_bipush (v := 7) dX5_lookAt_117 (by decide) ?_
          refine y_icmp_eq 129 dX5_lookAt_119 (by decide) (fun q => absurd q (by decide)) (fun _ => ?_)
          refine y_iload dX5_lookAt_122 rfl ?_
          refine y_bipush (v := 10) dX5_lookAt_124 (by decide) ?_
          refine y_icmp_ne 133 dX5_lookAt_126 (by decide) (fun _ => ?_) (fun q => absurd q (by decide))
          refine y_iconst (v := 0) dX5_lookAt_133 (by decide) ?_
          refine y_callV4 mX5_look dX5_lookAt_134 rfl rfl hR.1 (Nat.le_of_ble_eq_true rfl) (klook (d := d) (fn := false) hR hA hc ho ho2 ho3 hm hw hv (fun eq => ?_) (fun e eq he => ?_))
          · rw [if_pos eq] at h0 h1
            refine y_istore_n dX5_lookAt_137 (by first | (simp; done) | (simp; decide)) (fun x8 e_x8 => ?_)
            subst e_x8
            refine y_iinc dX5_lookAt_138 rfl (fun x9 e_x9 => ?_)
            obtain rfl : x9 = nI (k + 1) := by rw [e_x9]; exact nI_1 (k)
            refine y_goto 30 dX5_lookAt_141 (by decide) ?_
            exact ih (k + 1) _ _ (by omega) h0 h1
          · rw [if_neg (by rw [eq]; rcases he with rfl | rfl <;> decide), eq] at h1
            refine y_istore_n dX5_lookAt_137 (by first | (simp; done) | (simp; decide)) (fun x10 e_x10 => ?_)
            subst e_x10
            refine y_iinc dX5_lookAt_138 rfl (fun x11 e_x11 => ?_)
            obtain rfl : x11 = nI (k + 1) := by rw [e_x11]; exact nI_1 (k)
            refine y_goto 30 dX5_lookAt_141 (by decide) ?_
            exact klookAt_out hR (xPg_R (xPg_R (xPg_R hA))) hm w1 w2 (by omega) he (h1 (e12 he))
        · subst eo
          rw [show sNm X m k = nI v from by unfold sNm; rw [show sOp X m k = 9 from e_op.symm, if_pos (by decide)]; exact ev, show decide ((9 : Int32) = 7 ∨ (9 : Int32) = 10) = false from by decide] at h0 h1
          refine y_aload_n dX5_lookAt_77 rfl ?_
          refine y_iload_n dX5_lookAt_78 rfl ?_
          refine y_iload_n dX5_lookAt_79 rfl ?_
          refine y_iload dX5_lookAt_80 rfl ?_
          refine y_bipush (v := 7) dX5_lookAt_82 (by decide) ?_
          refine y_icmp_eq 94 dX5_lookAt_84 (by decide) (fun q => absurd q (by decide)) (fun _ => ?_)
          refine y_iload dX5_lookAt_87 rfl ?_
          refine y_bipush (v := 9) dX5_lookAt_89 (by decide) ?_
          refine y_icmp_ne 106 dX5_lookAt_91 (by decide) (fun q => absurd q (by decide)) (fun _ => ?_)
          refine y_aload_n dX5_lookAt_94 rfl ?_
          refine y_getr 5 8 dX5_lookAt_95 rfl rfl hR.1 (r5_8 hR) ?_
          refine y_iload dX5_lookAt_98 rfl ?_
          refine y_iconst (v := 1) dX5_lookAt_100 (by decide) ?_
          refine y_iaddv (nI (((4 * ((((100 * m)) + k)))) + 1)) dX5_lookAt_101 (nI_add ((4 * ((((100 * m)) + k)))) (1)) ?_
          refine y_ialdN ((((4 * ((((100 * m)) + k)))) + 1)) dX5_lookAt_102 (k5_8 hR) rfl (by omega) (by omega) ((congrFun (hA 8 (by decide) (by decide)) (4 * (100 * m + k) + 1)).trans ev) ?_
          refine y_goto 115 dX5_lookAt_103 (by decide) ?_
          refine y_iload dX5_lookAt_115 rfl ?_
          refine y_bipush (v := 7) dX5_lookAt_117 (by decide) ?_
          refine y_icmp_eq 129 dX5_lookAt_119 (by decide) (fun q => absurd q (by decide)) (fun _ => ?_)
          refine y_iload dX5_lookAt_122 rfl ?_
          refine y_bipush (v := 10) dX5_lookAt_124 (by decide) ?_
          refine y_icmp_ne 133 dX5_lookAt_126 (by decide) (fun _ => ?_) (fun q => absurd q (by decide))
          refine y_iconst (v := 0) dX5_lookAt_133 (by decide) ?_
          refine y_callV4 mX5_look dX5_lookAt_134 rfl rfl hR.1 (Nat.le_of_ble_eq_true rfl) (klook (d := d) (fn := false) hR hA hc ho ho2 ho3 hm hw hv (fun eq => ?_) (fun e eq he => ?_))
          · rw [if_pos eq] at h0 h1
            refine y_istore_n dX5_lookAt_137 (by first | (simp; done) | (simp; decide)) (fun x12 e_x12 => ?_)
            subst e_x12
            refine y_iinc dX5_lookAt_138 rfl (fun x13 e_x13 => ?_)
            obtain rfl : x13 = nI (k + 1) := by rw [e_x13]; exact nI_1 (k)
            refine y_goto 30 dX5_lookAt_141 (by decide) ?_
            exact ih (k + 1) _ _ (by omega) h0 h1
          · rw [if_neg (by rw [eq]; rcases he with rfl | rfl <;> decide), eq] at h1
            refine y_istore_n dX5_lookAt_137 (by first | (simp; done) | (simp; decide)) (fun x14 e_x14 => ?_)
            subst e_x14
            refine y_iinc dX5_lookAt_138 rfl (fun x15 e_x15 => ?_)
            obtain rfl : x15 = nI (k + 1) := by rw [e_x15]; exact nI_1 (k)
            refine y_goto 30 dX5_lookAt_141 (by decide) ?_
            exact klookAt_out hR (xPg_R (xPg_R (xPg_R hA))) hm w1 w2 (by omega) he (h1 (e12 he))
        · subst eo
          rw [show sNm X m k = nI v from by unfold sNm; rw [show sOp X m k = 10 from e_op.symm, if_neg (by decide)]; exact ev, show decide ((10 : Int32) = 7 ∨ (10 : Int32) = 10) = true from by decide] at h0 h1
          refine y_aload_n dX5_lookAt_77 rfl ?_
          refine y_iload_n dX5_lookAt_78 rfl ?_
          refine y_iload_n dX5_lookAt_79 rfl ?_
          refine y_iload dX5_lookAt_80 rfl ?_
          refine y_bipush (v := 7) dX5_lookAt_82 (by decide) ?_
          refine y_icmp_eq 94 dX5_lookAt_84 (by decide) (fun q => absurd q (by decide)) (fun _ => ?_)
          refine y_iload dX5_lookAt_87 rfl ?_
          refine y_bipush (v := 9) dX5_lookAt_89 (by decide) ?_
          refine y_icmp_ne 106 dX5_lookAt_91 (by decide) (fun _ => ?_) (fun q => absurd q (by decide))
          refine y_aload_n dX5_lookAt_106 rfl ?_
          refine y_getr 5 8 dX5_lookAt_107 rfl rfl hR.1 (r5_8 hR) ?_
          refine y_iload dX5_lookAt_110 rfl ?_
          refine y_iconst (v := 2) dX5_lookAt_112 (by decide) ?_
          refine y_iaddv (nI (((4 * ((((100 * m)) + k)))) + 2)) dX5_lookAt_113 (nI_add ((4 * ((((100 * m)) + k)))) (2)) ?_
          refine y_ialdN ((((4 * ((((100 * m)) + k)))) + 2)) dX5_lookAt_114 (k5_8 hR) rfl (by omega) (by omega) ((congrFun (hA 8 (by decide) (by decide)) (4 * (100 * m + k) + 2)).trans ev) ?_
          refine y_iload dX5_lookAt_115 rfl ?_
          refine y_bipush (v := 7) dX5_lookAt_117 (by decide) ?_
          refine y_icmp_eq 129 dX5_lookAt_119 (by decide) (fun q => absurd q (by decide)) (fun _ => ?_)
          refine y_iload dX5_lookAt_122 rfl ?_
          refine y_bipush (v := 10) dX5_lookAt_124 (by decide) ?_
          refine y_icmp_ne 133 dX5_lookAt_126 (by decide) (fun q => absurd q (by decide)) (fun _ => ?_)
          refine y_iconst (v := 1) dX5_lookAt_129 (by decide) ?_
          refine y_goto 134 dX5_lookAt_130 (by decide) ?_
          refine y_callV4 mX5_look dX5_lookAt_134 rfl rfl hR.1 (Nat.le_of_ble_eq_true rfl) (klook (d := d) (fn := true) hR hA hc ho ho2 ho3 hm hw hv (fun eq => ?_) (fun e eq he => ?_))
          · rw [if_pos eq] at h0 h1
            refine y_istore_n dX5_lookAt_137 (by first | (simp; done) | (simp; decide)) (fun x16 e_x16 => ?_)
            subst e_x16
            refine y_iinc dX5_lookAt_138 rfl (fun x17 e_x17 => ?_)
            obtain rfl : x17 = nI (k + 1) := by rw [e_x17]; exact nI_1 (k)
            refine y_goto 30 dX5_lookAt_141 (by decide) ?_
            exact ih (k + 1) _ _ (by omega) h0 h1
          · rw [if_neg (by rw [eq]; rcases he with rfl | rfl <;> decide), eq] at h1
            refine y_istore_n dX5_lookAt_137 (by first | (simp; done) | (simp; decide)) (fun x18 e_x18 => ?_)
            subst e_x18
            refine y_iinc dX5_lookAt_138 rfl (fun x19 e_x19 => ?_)
            obtain rfl : x19 = nI (k + 1) := by rw [e_x19]; exact nI_1 (k)
            refine y_goto 30 dX5_lookAt_141 (by decide) ?_
            exact klookAt_out hR (xPg_R (xPg_R (xPg_R hA))) hm w1 w2 (by omega) he (h1 (e12 he))
theorem klookAt {d : Nat} {Pp : Option Value → xH → Prop} {K : Nat → Nat × Nat} {I : Nat → Nat → Int32} {P : Nat → Nat → Option Nat} {n s : Nat} {R m : Nat} {X : xX} {ord : List Nat} (hR : xAt K P R 5) (hA : xPg I R X) (hc : I R 20 = nI ord.length) (ho : xHl I (R + 16) ord) (ho2 : ∀ q ∈ ord, q < 12) (ho3 : ord.length ≤ 12) (hm : m < 12) (hw : ∀ m, m < 12 → wfM X m) (h0 : (sLk X ord m).1 = 0 → Pp (some (.int 0)) (K, I, P, n, s)) (h1 : (sLk X ord m).1 ≠ 0 → Pp (some (.int (sLk X ord m).1)) (K, xuI (xuI (xuI I R 25 (nI m)) R 26 (sLk X ord m).2.1) R 27 (sLk X ord m).2.2, P, n, s)) : xC (d + 3) mX5_lookAt [(.ref R), (.int (nI m))] (K, I, P, n, s) Pp := by
  refine y_met 0 0 ?_
  show xB (d + 3) 5 cX5_lookAt (some .int) false (xE n s 0 0 Pp) 0 [some (.ref R), some (.int (nI m)), none, none, none, none] [] (K, I, P, n, s)
  obtain ⟨w1, w2⟩ := (hw m hm).2.2.2.2.2.1
  unfold sLk at h0 h1
  refine y_aload_n dX5_lookAt_0 rfl ?_
  refine y_getr 5 11 dX5_lookAt_1 rfl rfl hR.1 (r5_11 hR) ?_
  refine y_iload_n dX5_lookAt_4 rfl ?_
  refine y_ialdN (m) dX5_lookAt_5 (k5_11 hR) rfl (by omega) (by omega) (congrFun (hA 11 (by decide) (by decide)) (m)) ?_
  refine y_iconst (v := (-1)) dX5_lookAt_6 (by decide) ?_
  refine y_icmp_ne 14 dX5_lookAt_7 (by decide) (fun c7 => ?_) (fun c7 => ?_)
  · rw [if_neg c7] at h0 h1
    obtain ⟨v, hv, ev⟩ := (hw m hm).2.2.2.2.2.2.2.1.resolve_left c7
    rw [ev] at h0 h1
    refine y_aload_n dX5_lookAt_14 rfl ?_
    refine y_iload_n dX5_lookAt_15 rfl ?_
    refine y_iconst (v := (-1)) dX5_lookAt_16 (by decide) ?_
    refine y_aload_n dX5_lookAt_17 rfl ?_
    refine y_getr 5 11 dX5_lookAt_18 rfl rfl hR.1 (r5_11 hR) ?_
    refine y_iload_n dX5_lookAt_21 rfl ?_
    refine y_ialdN (m) dX5_lookAt_22 (k5_11 hR) rfl (by omega) (by omega) ((congrFun (hA 11 (by decide) (by decide)) m).trans ev) ?_
    refine y_iconst (v := 1) dX5_lookAt_23 (by decide) ?_
    refine y_callV4 mX5_look dX5_lookAt_24 rfl rfl hR.1 (Nat.le_of_ble_eq_true rfl) (klook (d := d) (fn := true) hR hA hc ho ho2 ho3 hm hw hv (fun eq => ?_) (fun e eq he => ?_))
    · rw [if_pos eq] at h0 h1
      refine y_istore_n dX5_lookAt_27 (by first | (simp; done) | (simp; decide)) (fun x1 e_x1 => ?_)
      subst e_x1
      refine y_iconst (v := nI 0) dX5_lookAt_28 (by decide) ?_
      refine y_istore_n dX5_lookAt_29 (by first | (simp; done) | (simp; decide)) (fun x2 e_x2 => ?_)
      subst e_x2
      exact klookAt_loop hR hA hc ho ho2 ho3 hm hw _ 0 _ _ (Nat.zero_add _) (fun q ls => y_ret dX5_lookAt_145 rfl rfl (h0 q)) (fun q ls => y_ret dX5_lookAt_145 rfl rfl (h1 q))
    · rw [if_neg (by rw [eq]; rcases he with rfl | rfl <;> decide), eq] at h1
      refine y_istore_n dX5_lookAt_27 (by first | (simp; done) | (simp; decide)) (fun x3 e_x3 => ?_)
      subst e_x3
      refine y_iconst (v := nI 0) dX5_lookAt_28 (by decide) ?_
      refine y_istore_n dX5_lookAt_29 (by first | (simp; done) | (simp; decide)) (fun x4 e_x4 => ?_)
      subst e_x4
      exact klookAt_out hR (xPg_R (xPg_R (xPg_R hA))) hm w1 w2 (Nat.zero_le _) he (fun ls => y_ret dX5_lookAt_145 rfl rfl (h1 (e12 he)))
  · rw [if_pos c7] at h0 h1
    refine y_iconst (v := 0) dX5_lookAt_10 (by decide) ?_
    refine y_goto 27 dX5_lookAt_11 (by decide) ?_
    refine y_istore_n dX5_lookAt_27 (by first | (simp; done) | (simp; decide)) (fun x5 e_x5 => ?_)
    subst e_x5
    refine y_iconst (v := nI 0) dX5_lookAt_28 (by decide) ?_
    refine y_istore_n dX5_lookAt_29 (by first | (simp; done) | (simp; decide)) (fun x6 e_x6 => ?_)
    subst e_x6
    exact klookAt_loop hR hA hc ho ho2 ho3 hm hw _ 0 _ _ (Nat.zero_add _) (fun q ls => y_ret dX5_lookAt_145 rfl rfl (h0 q)) (fun q ls => y_ret dX5_lookAt_145 rfl rfl (h1 q))
