theorem kplaceOf0 {d : Nat} {Pp : Option Value → xH → Prop} {K : Nat → Nat × Nat} {I : Nat → Nat → Int32} {P : Nat → Nat → Option Nat} {n s : Nat} {R c : Nat} {x : Int32} (hR : xAt K P R 5) (hl : I R 12 = 0) (hc : I R 15 = nI c) (hc2 : c ≤ 12) (hp : Pp (some (.int (-1))) (K, I, P, n, s)) : xC d mX5_placeOf [(.ref R), (.int x)] (K, I, P, n, s) Pp := by
  refine y_met 0 0 ?_
  show xB d 5 cX5_placeOf (some .int) false (xE n s 0 0 Pp) 0 [some (.ref R), some (.int x), none] [] (K, I, P, n, s)
  refine y_iconst (v := nI 0) dX5_placeOf_0 (by decide) ?_
  refine y_istore_n dX5_placeOf_1 (by first | (simp; done) | (simp; decide)) (fun x1 e_x1 => ?_)
  subst e_x1
  refine y_iload_n dX5_placeOf_2 rfl ?_
  refine y_aload_n dX5_placeOf_3 rfl ?_
  refine y_getv 5 15 dX5_placeOf_4 rfl rfl hR.1 hc ?_
  refine y_icmpN_ge 35 (0) (c) dX5_placeOf_7 (by decide) rfl rfl (by omega) (by omega) (fun _ => ?_) (fun _ => ?_)
  · refine y_iconst (v := (-1)) dX5_placeOf_35 (by decide) ?_
    exact y_ret dX5_placeOf_36 rfl rfl hp
  · refine y_aload_n dX5_placeOf_10 rfl ?_
    refine y_getv 5 12 dX5_placeOf_11 rfl rfl hR.1 hl ?_
    refine y_if_eq 35 dX5_placeOf_14 (by decide) (fun _ => ?_) (fun c14 => absurd rfl c14)
    refine y_iconst (v := (-1)) dX5_placeOf_35 (by decide) ?_
    exact y_ret dX5_placeOf_36 rfl rfl hp
theorem kplaceOf_loop {d R : Nat} {Q : Option Value → xH → Prop} {K : Nat → Nat × Nat} {I : Nat → Nat → Int32} {P : Nat → Nat → Option Nat} {n s : Nat} (hR : xAt K P R 5) {x : Int32} {ord : List Nat} (hl : I R 12 = 1) (hc : I R 15 = nI ord.length) (ho : xHl I (R + 12) ord) (ho3 : ord.length ≤ 12) : ∀ (l : List Nat) (p : Nat), p ≤ ord.length → ord.drop p = l → (sPlc x l p = none → ∀ y, xB d 5 cX5_placeOf (some .int) false Q 35 [some (.ref R), some (.int x), some (.int y)] [] (K, I, P, n, s)) → (∀ e y, sPlc x l p = some e → xB d 5 cX5_placeOf (some .int) false Q 28 [some (.ref R), some (.int x), some (.int y)] [.int (nI e)] (K, I, P, n, s)) → xB d 5 cX5_placeOf (some .int) false Q 2 [some (.ref R), some (.int x), some (.int (nI p))] [] (K, I, P, n, s) := by
  intro l
  induction l with
  | nil =>
    intro p hp hd h1 h2
    have h3 := drop_nil hd
    refine y_iload_n dX5_placeOf_2 rfl ?_
    refine y_aload_n dX5_placeOf_3 rfl ?_
    refine y_getv 5 15 dX5_placeOf_4 rfl rfl hR.1 hc ?_
    refine y_icmpN_ge 35 (p) (ord.length) dX5_placeOf_7 (by decide) rfl rfl (by omega) (by omega) (fun _ => ?_) (fun c7 => absurd c7 (by omega))
    exact h1 rfl _
  | cons q r ih =>
    intro p hp hd h1 h2
    obtain ⟨g1, g2, g3⟩ := drop_get hd
    unfold sPlc at h1 h2
    refine y_iload_n dX5_placeOf_2 rfl ?_
    refine y_aload_n dX5_placeOf_3 rfl ?_
    refine y_getv 5 15 dX5_placeOf_4 rfl rfl hR.1 hc ?_
    refine y_icmpN_ge 35 (p) (ord.length) dX5_placeOf_7 (by decide) rfl rfl (by omega) (by omega) (fun c7 => absurd c7 (by omega)) (fun _ => ?_)
    refine y_aload_n dX5_placeOf_10 rfl ?_
    refine y_getv 5 12 dX5_placeOf_11 rfl rfl hR.1 hl ?_
    refine y_if_eq 35 dX5_placeOf_14 (by decide) (fun c14 => absurd c14 (by decide)) (fun _ => ?_)
    refine y_aload_n dX5_placeOf_17 rfl ?_
    refine y_getr 5 16 dX5_placeOf_18 rfl rfl hR.1 (r5_16 hR) ?_
    refine y_iload_n dX5_placeOf_21 rfl ?_
    refine y_ialdN (p) dX5_placeOf_22 (k5_16 hR) rfl (by omega) (by omega) (ho p q g2) ?_
    refine y_iload_n dX5_placeOf_23 rfl ?_
    refine y_icmp_ne 29 dX5_placeOf_24 (by decide) (fun c24 => ?_) (fun c24 => ?_)
    · rw [if_neg c24] at h1 h2
      refine y_iinc dX5_placeOf_29 rfl (fun x1 e_x1 => ?_)
      obtain rfl : x1 = nI (p + 1) := by rw [e_x1]; exact nI_1 (p)
      refine y_goto 2 dX5_placeOf_32 (by decide) ?_
      exact ih (p + 1) g1 g3 h1 h2
    · rw [if_pos c24] at h1 h2
      refine y_iload_n dX5_placeOf_27 rfl ?_
      exact h2 _ _ rfl
theorem kplaceOf1 {d : Nat} {Pp : Option Value → xH → Prop} {K : Nat → Nat × Nat} {I : Nat → Nat → Int32} {P : Nat → Nat → Option Nat} {n s : Nat} {R : Nat} {x : Int32} {ord : List Nat} (hR : xAt K P R 5) (hl : I R 12 = 1) (hc : I R 15 = nI ord.length) (ho : xHl I (R + 12) ord) (ho3 : ord.length ≤ 12) (hn : sPlc x ord 0 = none → Pp (some (.int (-1))) (K, I, P, n, s)) (hs : ∀ e, sPlc x ord 0 = some e → Pp (some (.int (nI e))) (K, I, P, n, s)) : xC d mX5_placeOf [(.ref R), (.int x)] (K, I, P, n, s) Pp := by
  refine y_met 0 0 ?_
  show xB d 5 cX5_placeOf (some .int) false (xE n s 0 0 Pp) 0 [some (.ref R), some (.int x), none] [] (K, I, P, n, s)
  refine y_iconst (v := nI 0) dX5_placeOf_0 (by decide) ?_
  refine y_istore_n dX5_placeOf_1 (by first | (simp; done) | (simp; decide)) (fun x1 e_x1 => ?_)
  subst e_x1
  refine kplaceOf_loop hR hl hc ho ho3 ord 0 (Nat.zero_le _) rfl (fun q y => ?_) (fun e y q => ?_)
  · refine y_iconst (v := (-1)) dX5_placeOf_35 (by decide) ?_
    exact y_ret dX5_placeOf_36 rfl rfl (hn q)
  · exact y_ret dX5_placeOf_28 rfl rfl (hs e q)
theorem kusesCall_loop {d R : Nat} {X : xX} {Q : Option Value → xH → Prop} {K : Nat → Nat × Nat} {I : Nat → Nat → Int32} {P : Nat → Nat → Option Nat} {n s : Nat} (hR : xAt K P R 5) (hA : xPg I R X) {m : Nat} {x : Int32} (hm : m < 12) (hw : wfM X m) : ∀ (t k : Nat) (u : Bool) (v5 : Option Value), k + t = gS X m → (∀ ls, xB d 5 cX5_usesCall (some .boolean) false Q 69 ls [.int (bI (u || sUC X m x t k))] (K, I, P, n, s)) → xB d 5 cX5_usesCall (some .boolean) false Q 5 [some (.ref R), some (.int (nI m)), some (.int x), some (.int (bI u)), some (.int (nI k)), v5] [] (K, I, P, n, s) := by
  obtain ⟨-, -, -, -, -, ⟨w1, w2⟩, -⟩ := hw
  intro t
  induction t with
  | zero =>
    intro k u v5 hk k1
    rw [show sUC X m x 0 k = false from rfl, Bool.or_false] at k1
    refine y_iload dX5_usesCall_5 rfl ?_
    refine y_aload_n dX5_usesCall_7 rfl ?_
    refine y_getr 5 9 dX5_usesCall_8 rfl rfl hR.1 (r5_9 hR) ?_
    refine y_iload_n dX5_usesCall_11 rfl ?_
    refine y_ialdN (m) dX5_usesCall_12 (k5_9 hR) rfl (by omega) (by omega) ((congrFun (hA 9 (by decide) (by decide)) m).trans w1) ?_
    refine y_icmpN_ge 68 (k) ((gS X m)) dX5_usesCall_13 (by decide) rfl rfl (by omega) (by omega) (fun _ => ?_) (fun c13 => absurd c13 (by omega))
    refine y_iload_n dX5_usesCall_68 rfl ?_
    exact k1 _
  | succ t ih =>
    intro k u v5 hk k1
    unfold sUC at k1
    refine y_iload dX5_usesCall_5 rfl ?_
    refine y_aload_n dX5_usesCall_7 rfl ?_
    refine y_getr 5 9 dX5_usesCall_8 rfl rfl hR.1 (r5_9 hR) ?_
    refine y_iload_n dX5_usesCall_11 rfl ?_
    refine y_ialdN (m) dX5_usesCall_12 (k5_9 hR) rfl (by omega) (by omega) ((congrFun (hA 9 (by decide) (by decide)) m).trans w1) ?_
    refine y_icmpN_ge 68 (k) ((gS X m)) dX5_usesCall_13 (by decide) rfl rfl (by omega) (by omega) (fun c13 => absurd c13 (by omega)) (fun _ => ?_)
    refine y_iconst (v := 4) dX5_usesCall_16 (by decide) ?_
    refine y_bipush (v := 100) dX5_usesCall_17 (by decide) ?_
    refine y_iload_n dX5_usesCall_19 rfl ?_
    refine y_imulv (nI (100 * m)) dX5_usesCall_20 (pk_mul (100) (m)) ?_
    refine y_iload dX5_usesCall_21 rfl ?_
    refine y_iaddv (nI (((100 * m)) + k)) dX5_usesCall_23 (nI_add ((100 * m)) (k)) ?_
    refine y_imulv (nI (4 * ((((100 * m)) + k)))) dX5_usesCall_24 (pk_mul (4) ((((100 * m)) + k))) ?_
    refine y_istore dX5_usesCall_25 (by first | (simp; done) | (simp; decide)) (fun x1 e_x1 => ?_)
    subst e_x1
    cases u with
    | true =>
      refine y_iload_n dX5_usesCall_27 rfl ?_
      refine y_if_ne 56 dX5_usesCall_28 (by decide) (fun _ => ?_) (fun q => absurd q (by decide))
      refine y_iconst (v := 1) dX5_usesCall_56 (by decide) ?_
      refine y_goto 61 dX5_usesCall_57 (by decide) ?_
      refine y_istore_n dX5_usesCall_61 (by first | (simp; done) | (simp; decide)) (fun x2 e_x2 => ?_)
      subst e_x2
      refine y_iinc dX5_usesCall_62 rfl (fun x3 e_x3 => ?_)
      obtain rfl : x3 = nI (k + 1) := by rw [e_x3]; exact nI_1 (k)
      refine y_goto 5 dX5_usesCall_65 (by decide) ?_
      rw [Bool.true_or] at k1
      exact ih (k + 1) true _ (by omega) (fun ls => by rw [Bool.true_or]; exact k1 ls)
    | false =>
      refine y_iload_n dX5_usesCall_27 rfl ?_
      refine y_if_ne 56 dX5_usesCall_28 (by decide) (fun q => absurd q (by decide)) (fun _ => ?_)
      refine y_aload_n dX5_usesCall_31 rfl ?_
      refine y_getr 5 8 dX5_usesCall_32 rfl rfl hR.1 (r5_8 hR) ?_
      refine y_iload dX5_usesCall_35 rfl ?_
      refine y_ialdN ((4 * ((((100 * m)) + k)))) dX5_usesCall_37 (k5_8 hR) rfl (by omega) (by omega) (congrFun (hA 8 (by decide) (by decide)) ((4 * ((((100 * m)) + k))))) ?_
      refine y_bipush (v := 7) dX5_usesCall_38 (by decide) ?_
      refine y_icmp_ne 60 dX5_usesCall_40 (by decide) (fun c40 => ?_) (fun c40 => ?_)
      · refine y_iconst (v := 0) dX5_usesCall_60 (by decide) ?_
        refine y_istore_n dX5_usesCall_61 (by first | (simp; done) | (simp; decide)) (fun x4 e_x4 => ?_)
        subst e_x4
        refine y_iinc dX5_usesCall_62 rfl (fun x5 e_x5 => ?_)
        obtain rfl : x5 = nI (k + 1) := by rw [e_x5]; exact nI_1 (k)
        refine y_goto 5 dX5_usesCall_65 (by decide) ?_
        rw [Bool.false_or, show decide (sOp X m k = 7) = false from decide_eq_false c40, Bool.false_and, Bool.false_or] at k1
        exact ih (k + 1) false _ (by omega) (fun ls => by rw [Bool.false_or]; exact k1 ls)
      · refine y_aload_n dX5_usesCall_43 rfl ?_
        refine y_getr 5 8 dX5_usesCall_44 rfl rfl hR.1 (r5_8 hR) ?_
        refine y_iload dX5_usesCall_47 rfl ?_
        refine y_iconst (v := 1) dX5_usesCall_49 (by decide) ?_
        refine y_iaddv (nI (((4 * ((((100 * m)) + k)))) + 1)) dX5_usesCall_50 (nI_add ((4 * ((((100 * m)) + k)))) (1)) ?_
        refine y_ialdN ((((4 * ((((100 * m)) + k)))) + 1)) dX5_usesCall_51 (k5_8 hR) rfl (by omega) (by omega) (congrFun (hA 8 (by decide) (by decide)) ((((4 * ((((100 * m)) + k)))) + 1))) ?_
        refine y_iload_n dX5_usesCall_52 rfl ?_
        refine y_icmp_ne 60 dX5_usesCall_53 (by decide) (fun c53 => ?_) (fun c53 => ?_)
        · refine y_iconst (v := 0) dX5_usesCall_60 (by decide) ?_
          refine y_istore_n dX5_usesCall_61 (by first | (simp; done) | (simp; decide)) (fun x6 e_x6 => ?_)
          subst e_x6
          refine y_iinc dX5_usesCall_62 rfl (fun x7 e_x7 => ?_)
          obtain rfl : x7 = nI (k + 1) := by rw [e_x7]; exact nI_1 (k)
          refine y_goto 5 dX5_usesCall_65 (by decide) ?_
          rw [Bool.false_or, show decide (sAr X m k 1 = x) = false from decide_eq_false c53, Bool.and_false, Bool.false_or] at k1
          exact ih (k + 1) false _ (by omega) (fun ls => by rw [Bool.false_or]; exact k1 ls)
        · refine y_iconst (v := 1) dX5_usesCall_56 (by decide) ?_
          refine y_goto 61 dX5_usesCall_57 (by decide) ?_
          refine y_istore_n dX5_usesCall_61 (by first | (simp; done) | (simp; decide)) (fun x8 e_x8 => ?_)
          subst e_x8
          refine y_iinc dX5_usesCall_62 rfl (fun x9 e_x9 => ?_)
          obtain rfl : x9 = nI (k + 1) := by rw [e_x9]; exact nI_1 (k)
          refine y_goto 5 dX5_usesCall_65 (by decide) ?_
          rw [Bool.false_or, show decide (sOp X m k = 7) = true from decide_eq_true c40, show decide (sAr X m k 1 = x) = true from decide_eq_true c53, Bool.and_self, Bool.true_or] at k1
          exact ih (k + 1) true _ (by omega) (fun ls => by rw [Bool.true_or]; exact k1 ls)
theorem kusesCall {d : Nat} {Pp : Option Value → xH → Prop} {K : Nat → Nat × Nat} {I : Nat → Nat → Int32} {P : Nat → Nat → Option Nat} {n s : Nat} {R m : Nat} {X : xX} {x : Int32} (hR : xAt K P R 5) (hA : xPg I R X) (hm : m < 12) (hw : wfM X m) (h1 : sUC X m x (gS X m) 0 = true → Pp (some (.int 1)) (K, I, P, n, s)) (h0 : sUC X m x (gS X m) 0 = false → Pp (some (.int 0)) (K, I, P, n, s)) : xC d mX5_usesCall [(.ref R), (.int (nI m)), (.int x)] (K, I, P, n, s) Pp := by
  refine y_met 0 0 ?_
  show xB d 5 cX5_usesCall (some .boolean) false (xE n s 0 0 Pp) 0 [some (.ref R), some (.int (nI m)), some (.int x), none, none, none] [] (K, I, P, n, s)
  refine y_iconst (v := 0) dX5_usesCall_0 (by decide) ?_
  refine y_istore_n dX5_usesCall_1 (by first | (simp; done) | (simp; decide)) (fun x1 e_x1 => ?_)
  subst e_x1
  refine y_iconst (v := nI 0) dX5_usesCall_2 (by decide) ?_
  refine y_istore dX5_usesCall_3 (by first | (simp; done) | (simp; decide)) (fun x2 e_x2 => ?_)
  subst e_x2
  refine kusesCall_loop hR hA hm hw _ 0 false _ (Nat.zero_add _) (fun ls => ?_)
  rw [Bool.false_or]
  cases hz : sUC X m x (gS X m) 0 with
  | true => exact y_retz dX5_usesCall_69 rfl rfl (Or.inr rfl) (h1 hz)
  | false => exact y_retz dX5_usesCall_69 rfl rfl (Or.inl rfl) (h0 hz)
theorem klook {d : Nat} {Pp : Option Value → xH → Prop} {K : Nat → Nat × Nat} {I : Nat → Nat → Int32} {P : Nat → Nat → Option Nat} {n s : Nat} {R m v : Nat} {X : xX} {y : Int32} {fn : Bool} {ord : List Nat} (hR : xAt K P R 5) (hA : xPg I R X) (hc : I R 20 = nI ord.length) (ho : xHl I (R + 16) ord) (ho2 : ∀ q ∈ ord, q < 12) (ho3 : ord.length ≤ 12) (hm : m < 12) (hw : ∀ m, m < 12 → wfM X m) (hv : v < 64) (h0 : sUse X ord m (nI v) fn = 0 → Pp (some (.int 0)) (K, I, P, n, s)) (h1 : ∀ e, sUse X ord m (nI v) fn = e → e = 1 ∨ e = 2 → Pp (some (.int e)) (K, xuI (xuI (xuI I R 25 (nI m)) R 26 y) R 27 (nI v), P, n, s)) : xC (d + 2) mX5_look [(.ref R), (.int (nI m)), (.int y), (.int (nI v)), (.int (bI fn))] (K, I, P, n, s) Pp := by
  refine y_met 0 0 ?_
  show xB (d + 2) 5 cX5_look (some .int) false (xE n s 0 0 Pp) 0 [some (.ref R), some (.int (nI m)), some (.int y), some (.int (nI v)), some (.int (bI fn)), none, none] [] (K, I, P, n, s)
  have hz : 64 * m + v < 768 := by omega
  unfold sUse at h0 h1
  rw [nI_clamp (show v < 2 ^ 31 by omega)] at h0 h1
  have hopt := (hw m hm).2.2.2.2.2.2.2.2 v hv
  cases fn with
  | true =>
    refine y_aload_n dX5_look_0 rfl ?_
    refine y_aload_n dX5_look_1 rfl ?_
    refine y_getr 5 21 dX5_look_2 rfl rfl hR.1 (r5_21 hR) ?_
    refine y_aload_n dX5_look_5 rfl ?_
    refine y_getv 5 20 dX5_look_6 rfl rfl hR.1 hc ?_
    refine y_iload_n dX5_look_9 rfl ?_
    refine y_iload_n dX5_look_10 rfl ?_
    refine y_callV4 mX5_find dX5_look_11 rfl rfl hR.1 (Nat.le_of_ble_eq_true rfl) (kfind (d := d) hR hA (k5_21 hR) ho ho2 ho3 hm hw (fun eq => ?_) (fun e eq he => ?_))
    · rw [eq] at h0 h1
      simp only at h0 h1
      refine y_istore dX5_look_14 (by first | (simp; done) | (simp; decide)) (fun x1 e_x1 => ?_)
      subst e_x1
      refine y_iload dX5_look_16 rfl ?_
      refine y_iconst (v := (-1)) dX5_look_18 (by decide) ?_
      refine y_icmp_ne 44 dX5_look_19 (by decide) (fun q => absurd q (by decide)) (fun _ => ?_)
      refine y_aload_n dX5_look_22 rfl ?_
      refine y_getr 5 10 dX5_look_23 rfl rfl hR.1 (r5_10 hR) ?_
      refine y_bipush (v := 64) dX5_look_26 (by decide) ?_
      refine y_iload_n dX5_look_28 rfl ?_
      refine y_imulv (nI (64 * m)) dX5_look_29 (pk_mul (64) (m)) ?_
      refine y_iload_n dX5_look_30 rfl ?_
      refine y_iaddv (nI (((64 * m)) + v)) dX5_look_31 (nI_add ((64 * m)) (v)) ?_
      refine y_baldN ((((64 * m)) + v)) dX5_look_32 (k5_10 hR) rfl (by omega) (by omega) (congrFun (hA 10 (by decide) (by decide)) ((((64 * m)) + v))) ?_
      refine y_if_eq 40 dX5_look_33 (by decide) (fun c33 => ?_) (fun c33 => ?_)
      · rw [if_pos c33] at h0 h1
        refine y_iconst (v := 1) dX5_look_40 (by decide) ?_
        refine y_goto 69 dX5_look_41 (by decide) ?_
        refine y_istore dX5_look_69 (by first | (simp; done) | (simp; decide)) (fun x2 e_x2 => ?_)
        subst e_x2
        refine y_iload dX5_look_71 rfl ?_
        refine y_if_le 91 dX5_look_73 (by decide) (fun q => absurd q (by decide)) (fun _ => ?_)
        refine y_aload_n dX5_look_76 rfl ?_
        refine y_iload_n dX5_look_77 rfl ?_
        refine y_puti 5 25 dX5_look_78 rfl rfl rfl hR.1 ?_
        refine y_aload_n dX5_look_81 rfl ?_
        refine y_iload_n dX5_look_82 rfl ?_
        refine y_puti 5 26 dX5_look_83 rfl rfl rfl hR.1 ?_
        refine y_aload_n dX5_look_86 rfl ?_
        refine y_iload_n dX5_look_87 rfl ?_
        refine y_puti 5 27 dX5_look_88 rfl rfl rfl hR.1 ?_
        refine y_iload dX5_look_91 rfl ?_
        exact y_ret dX5_look_93 rfl rfl (h1 1 rfl (by decide))
      · rw [if_neg c33] at h0 h1
        refine y_iconst (v := 0) dX5_look_36 (by decide) ?_
        refine y_goto 69 dX5_look_37 (by decide) ?_
        refine y_istore dX5_look_69 (by first | (simp; done) | (simp; decide)) (fun x3 e_x3 => ?_)
        subst e_x3
        refine y_iload dX5_look_71 rfl ?_
        refine y_if_le 91 dX5_look_73 (by decide) (fun _ => ?_) (fun q => absurd q (by decide))
        refine y_iload dX5_look_91 rfl ?_
        exact y_ret dX5_look_93 rfl rfl (h0 rfl)
    · rw [eq] at h0 h1
      simp only at h0 h1
      refine y_istore dX5_look_14 (by first | (simp; done) | (simp; decide)) (fun x4 e_x4 => ?_)
      subst e_x4
      refine y_iload dX5_look_16 rfl ?_
      refine y_iconst (v := (-1)) dX5_look_18 (by decide) ?_
      refine y_icmp_ne 44 dX5_look_19 (by decide) (fun _ => ?_) (fun c19 => absurd c19 (nI_m1 (by omega)))
      refine y_aload_n dX5_look_44 rfl ?_
      refine y_getr 5 4 dX5_look_45 rfl rfl hR.1 (r5_4 hR) ?_
      refine y_iload dX5_look_48 rfl ?_
      refine y_ialdN (e) dX5_look_50 (k5_4 hR) rfl (by omega) (by omega) (congrFun (hA 4 (by decide) (by decide)) (e)) ?_
      refine y_if_ne 58 dX5_look_51 (by decide) (fun c51 => ?_) (fun c51 => ?_)
      · rw [show decide (X 4 e = 0) = false from decide_eq_false c51] at h0 h1
        refine y_iconst (v := 0) dX5_look_58 (by decide) ?_
        refine y_iload dX5_look_59 rfl ?_
        refine y_icmp_ne 68 dX5_look_61 (by decide) (fun _ => ?_) (fun q => absurd q (by decide))
        refine y_iconst (v := 2) dX5_look_68 (by decide) ?_
        refine y_istore dX5_look_69 (by first | (simp; done) | (simp; decide)) (fun x5 e_x5 => ?_)
        subst e_x5
        refine y_iload dX5_look_71 rfl ?_
        refine y_if_le 91 dX5_look_73 (by decide) (fun q => absurd q (by decide)) (fun _ => ?_)
        refine y_aload_n dX5_look_76 rfl ?_
        refine y_iload_n dX5_look_77 rfl ?_
        refine y_puti 5 25 dX5_look_78 rfl rfl rfl hR.1 ?_
        refine y_aload_n dX5_look_81 rfl ?_
        refine y_iload_n dX5_look_82 rfl ?_
        refine y_puti 5 26 dX5_look_83 rfl rfl rfl hR.1 ?_
        refine y_aload_n dX5_look_86 rfl ?_
        refine y_iload_n dX5_look_87 rfl ?_
        refine y_puti 5 27 dX5_look_88 rfl rfl rfl hR.1 ?_
        refine y_iload dX5_look_91 rfl ?_
        exact y_ret dX5_look_93 rfl rfl (h1 2 rfl (by decide))
      · rw [show decide (X 4 e = 0) = true from decide_eq_true c51] at h0 h1
        refine y_iconst (v := 1) dX5_look_54 (by decide) ?_
        refine y_goto 59 dX5_look_55 (by decide) ?_
        refine y_iload dX5_look_59 rfl ?_
        refine y_icmp_ne 68 dX5_look_61 (by decide) (fun q => absurd q (by decide)) (fun _ => ?_)
        refine y_iconst (v := 0) dX5_look_64 (by decide) ?_
        refine y_goto 69 dX5_look_65 (by decide) ?_
        refine y_istore dX5_look_69 (by first | (simp; done) | (simp; decide)) (fun x6 e_x6 => ?_)
        subst e_x6
        refine y_iload dX5_look_71 rfl ?_
        refine y_if_le 91 dX5_look_73 (by decide) (fun _ => ?_) (fun q => absurd q (by decide))
        refine y_iload dX5_look_91 rfl ?_
        exact y_ret dX5_look_93 rfl rfl (h0 rfl)
  | false =>
    refine y_aload_n dX5_look_0 rfl ?_
    refine y_aload_n dX5_look_1 rfl ?_
    refine y_getr 5 21 dX5_look_2 rfl rfl hR.1 (r5_21 hR) ?_
    refine y_aload_n dX5_look_5 rfl ?_
    refine y_getv 5 20 dX5_look_6 rfl rfl hR.1 hc ?_
    refine y_iload_n dX5_look_9 rfl ?_
    refine y_iload_n dX5_look_10 rfl ?_
    refine y_callV4 mX5_find dX5_look_11 rfl rfl hR.1 (Nat.le_of_ble_eq_true rfl) (kfind (d := d) hR hA (k5_21 hR) ho ho2 ho3 hm hw (fun eq => ?_) (fun e eq he => ?_))
    · rw [eq] at h0 h1
      simp only at h0 h1
      refine y_istore dX5_look_14 (by first | (simp; done) | (simp; decide)) (fun x1 e_x1 => ?_)
      subst e_x1
      refine y_iload dX5_look_16 rfl ?_
      refine y_iconst (v := (-1)) dX5_look_18 (by decide) ?_
      refine y_icmp_ne 44 dX5_look_19 (by decide) (fun q => absurd q (by decide)) (fun _ => ?_)
      refine y_aload_n dX5_look_22 rfl ?_
      refine y_getr 5 10 dX5_look_23 rfl rfl hR.1 (r5_10 hR) ?_
      refine y_bipush (v := 64) dX5_look_26 (by decide) ?_
      refine y_iload_n dX5_look_28 rfl ?_
      refine y_imulv (nI (64 * m)) dX5_look_29 (pk_mul (64) (m)) ?_
      refine y_iload_n dX5_look_30 rfl ?_
      refine y_iaddv (nI (((64 * m)) + v)) dX5_look_31 (nI_add ((64 * m)) (v)) ?_
      refine y_baldN ((((64 * m)) + v)) dX5_look_32 (k5_10 hR) rfl (by omega) (by omega) (congrFun (hA 10 (by decide) (by decide)) ((((64 * m)) + v))) ?_
      refine y_if_eq 40 dX5_look_33 (by decide) (fun c33 => ?_) (fun c33 => ?_)
      · rw [if_pos c33] at h0 h1
        refine y_iconst (v := 1) dX5_look_40 (by decide) ?_
        refine y_goto 69 dX5_look_41 (by decide) ?_
        refine y_istore dX5_look_69 (by first | (simp; done) | (simp; decide)) (fun x2 e_x2 => ?_)
        subst e_x2
        refine y_iload dX5_look_71 rfl ?_
        refine y_if_le 91 dX5_look_73 (by decide) (fun q => absurd q (by decide)) (fun _ => ?_)
        refine y_aload_n dX5_look_76 rfl ?_
        refine y_iload_n dX5_look_77 rfl ?_
        refine y_puti 5 25 dX5_look_78 rfl rfl rfl hR.1 ?_
        refine y_aload_n dX5_look_81 rfl ?_
        refine y_iload_n dX5_look_82 rfl ?_
        refine y_puti 5 26 dX5_look_83 rfl rfl rfl hR.1 ?_
        refine y_aload_n dX5_look_86 rfl ?_
        refine y_iload_n dX5_look_87 rfl ?_
        refine y_puti 5 27 dX5_look_88 rfl rfl rfl hR.1 ?_
        refine y_iload dX5_look_91 rfl ?_
        exact y_ret dX5_look_93 rfl rfl (h1 1 rfl (by decide))
      · rw [if_neg c33] at h0 h1
        refine y_iconst (v := 0) dX5_look_36 (by decide) ?_
        refine y_goto 69 dX5_look_37 (by decide) ?_
        refine y_istore dX5_look_69 (by first | (simp; done) | (simp; decide)) (fun x3 e_x3 => ?_)
        subst e_x3
        refine y_iload dX5_look_71 rfl ?_
        refine y_if_le 91 dX5_look_73 (by decide) (fun _ => ?_) (fun q => absurd q (by decide))
        refine y_iload dX5_look_91 rfl ?_
        exact y_ret dX5_look_93 rfl rfl (h0 rfl)
    · rw [eq] at h0 h1
      simp only at h0 h1
      refine y_istore dX5_look_14 (by first | (simp; done) | (simp; decide)) (fun x4 e_x4 => ?_)
      subst e_x4
      refine y_iload dX5_look_16 rfl ?_
      refine y_iconst (v := (-1)) dX5_look_18 (by decide) ?_
      refine y_icmp_ne 44 dX5_look_19 (by decide) (fun _ => ?_) (fun c19 => absurd c19 (nI_m1 (by omega)))
      refine y_aload_n dX5_look_44 rfl ?_
      refine y_getr 5 4 dX5_look_45 rfl rfl hR.1 (r5_4 hR) ?_
      refine y_iload dX5_look_48 rfl ?_
      refine y_ialdN (e) dX5_look_50 (k5_4 hR) rfl (by omega) (by omega) (congrFun (hA 4 (by decide) (by decide)) (e)) ?_
      refine y_if_ne 58 dX5_look_51 (by decide) (fun c51 => ?_) (fun c51 => ?_)
      · rw [show decide (X 4 e = 0) = false from decide_eq_false c51] at h0 h1
        refine y_iconst (v := 0) dX5_look_58 (by decide) ?_
        refine y_iload dX5_look_59 rfl ?_
        refine y_icmp_ne 68 dX5_look_61 (by decide) (fun q => absurd q (by decide)) (fun _ => ?_)
        refine y_iconst (v := 0) dX5_look_64 (by decide) ?_
        refine y_goto 69 dX5_look_65 (by decide) ?_
        refine y_istore dX5_look_69 (by first | (simp; done) | (simp; decide)) (fun x5 e_x5 => ?_)
        subst e_x5
        refine y_iload dX5_look_71 rfl ?_
        refine y_if_le 91 dX5_look_73 (by decide) (fun _ => ?_) (fun q => absurd q (by decide))
        refine y_iload dX5_look_91 rfl ?_
        exact y_ret dX5_look_93 rfl rfl (h0 rfl)
      · rw [show decide (X 4 e = 0) = true from decide_eq_true c51] at h0 h1
        refine y_iconst (v := 1) dX5_look_54 (by decide) ?_
        refine y_goto 59 dX5_look_55 (by decide) ?_
        refine y_iload dX5_look_59 rfl ?_
        refine y_icmp_ne 68 dX5_look_61 (by decide) (fun _ => ?_) (fun q => absurd q (by decide))
        refine y_iconst (v := 2) dX5_look_68 (by decide) ?_
        refine y_istore dX5_look_69 (by first | (simp; done) | (simp; decide)) (fun x6 e_x6 => ?_)
        subst e_x6
        refine y_iload dX5_look_71 rfl ?_
        refine y_if_le 91 dX5_look_73 (by decide) (fun q => absurd q (by decide)) (fun _ => ?_)
        refine y_aload_n dX5_look_76 rfl ?_
        refine y_iload_n dX5_look_77 rfl ?_
        refine y_puti 5 25 dX5_look_78 rfl rfl rfl hR.1 ?_
        refine y_aload_n dX5_look_81 rfl ?_
        refine y_iload_n dX5_look_82 rfl ?_
        refine y_puti 5 26 dX5_look_83 rfl rfl rfl hR.1 ?_
        refine y_aload_n dX5_look_86 rfl ?_
        refine y_iload_n dX5_look_87 rfl ?_
        refine y_puti 5 27 dX5_look_88 rfl rfl rfl hR.1 ?_
        refine y_iload dX5_look_91 rfl ?_
        exact y_ret dX5_look_93 rfl rfl (h1 2 rfl (by decide))
