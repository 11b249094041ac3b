theorem krcallName {d : Nat} {Pp : Option Value → xH → Prop} {K : Nat → Nat × Nat} {I : Nat → Nat → Int32} {P : Nat → Nat → Option Nat} {n s : Nat} {R dp de bd m v : Nat} {G : xX} {ord : List Nat} (hR : xAt K P R 5) (hA : xPg I R G) (hw : ∀ m, m < 12 → wfM G m) (hl : I R 12 = 1) (hc : I R 15 = nI ord.length) (ho : xHl I (R + 12) ord) (ho2 : ∀ q ∈ ord, q < 12) (ho3 : ord.length ≤ 12) (h36 : I R 36 = nI dp) (hdp : dp ≤ 101) (h32 : I R 32 = nI de) (hde : de ≤ 200) (h31 : I R 31 = nI bd) (hbd : bd ≤ 10000) (h37 : I R 37 = nI m) (hm : m < 12) (hv : v < 64) (hp : ∀ I', xRf I' R = (rCn G ord (xRf I R) m (nI v)).2 → xFrR R I I' → Pp (some (.int (rCn G ord (xRf I R) m (nI v)).1)) (K, I', P, n, s)) : xC (d + 2) mX5_callName [(.ref R), (.int (nI v))] (K, I, P, n, s) Pp := by
  refine y_met 0 0 ?_
  show xB (d + 2) 5 cX5_callName (some .int) false (xE n s 0 0 Pp) 0 [some (.ref R), some (.int (nI v)), none, none] [] (K, I, P, n, s)
  unfold rCn at hp
  rw [rN_nI (show v < 2 ^ 31 by omega), show rN (xRf I R 0 31) = bd from by show rN (I R 31) = bd; rw [h31, rN_nI (by omega)]] at hp
  refine y_bipush (v := 64) dX5_callName_0 (by decide) ?_
  refine y_aload_n dX5_callName_2 rfl ?_
  refine y_getv 5 37 dX5_callName_3 rfl rfl hR.1 h37 ?_
  refine y_imulv (nI (64 * m)) dX5_callName_6 (pk_mul (64) (m)) ?_
  refine y_iload_n dX5_callName_7 rfl ?_
  refine y_iaddv (nI (((64 * m)) + v)) dX5_callName_8 (nI_add ((64 * m)) (v)) ?_
  refine y_istore_n dX5_callName_9 (by first | (simp; done) | (simp; decide)) (fun x1 e_x1 => ?_)
  subst e_x1
  refine y_aload_n dX5_callName_10 rfl ?_
  refine y_aload_n dX5_callName_11 rfl ?_
  refine y_getr 5 16 dX5_callName_12 rfl rfl hR.1 (r5_16 hR) ?_
  refine y_aload_n dX5_callName_15 rfl ?_
  refine y_getv 5 15 dX5_callName_16 rfl rfl hR.1 hc ?_
  refine y_aload_n dX5_callName_19 rfl ?_
  refine y_getv 5 37 dX5_callName_20 rfl rfl hR.1 h37 ?_
  refine y_iload_n dX5_callName_23 rfl ?_
  refine y_callV4 mX5_find dX5_callName_24 rfl rfl hR.1 (Nat.le_of_ble_eq_true rfl) (kfind (d := d) hR hA (k5_16 hR) ho ho2 ho3 hm hw (fun ef => ?_) (fun e ef he => ?_))
  · rw [ef] at hp
    refine y_istore_n dX5_callName_27 (by first | (simp; done) | (simp; decide)) (fun x2 e_x2 => ?_)
    subst e_x2
    refine y_aload_n dX5_callName_28 rfl ?_
    refine y_getr 5 18 dX5_callName_29 rfl rfl hR.1 (r5_18 hR) ?_
    refine y_iload_n dX5_callName_32 rfl ?_
    refine y_ialdN ((((64 * m)) + v)) dX5_callName_33 (k5_18 hR) rfl (by omega) (by omega) rfl ?_
    refine y_bipush (v := 21) dX5_callName_34 (by decide) ?_
    refine y_icmp_ne 60 dX5_callName_36 (by decide) (fun c36 => ?_) (fun c36 => ?_)
    · refine y_aload_n dX5_callName_60 rfl ?_
      refine y_iload_n dX5_callName_61 rfl ?_
      refine y_callV1 mX5_call dX5_callName_62 rfl rfl hR.1 (Nat.le_of_ble_eq_true rfl) (krcall (G := G) (o := none) hR hA h36 hdp h32 hde (fun _ h => by cases h) (fun I3 q1 q2 => ?_))
      rw [if_neg (show ¬ xRf I R 14 (64 * m + v) = 21 from c36)] at hp
      exact y_ret dX5_callName_65 rfl rfl (hp I3 q1 q2)
    · refine y_aload_n dX5_callName_39 rfl ?_
      refine y_getr 5 18 dX5_callName_40 rfl rfl hR.1 (r5_18 hR) ?_
      refine y_iload_n dX5_callName_43 rfl ?_
      refine y_aload_n dX5_callName_44 rfl ?_
      refine y_iload_n dX5_callName_45 rfl ?_
      refine y_callV1 mX5_moduleOf dX5_callName_46 rfl rfl hR.1 (Nat.le_of_ble_eq_true rfl) (kmoduleOf (o := none) (fun _ h => by cases h) ?_)
      refine y_iast ((((64 * m)) + v)) dX5_callName_49 (k5_18 hR) rfl (by omega) (by omega) ?_
      refine y_aload_n dX5_callName_50 rfl ?_
      refine y_dup dX5_callName_51 rfl ?_
      refine y_getv 5 31 dX5_callName_52 rfl rfl hR.1 (show (xuI I (R + 14) (64 * m + v) (oM none)) R 31 = nI bd by rw [xuI_o (Or.inl (by omega))]; exact h31) ?_
      refine y_iconst (v := 1) dX5_callName_55 (by decide) ?_
      refine y_iaddv (nI (bd + 1)) dX5_callName_56 (nI_add (bd) (1)) ?_
      refine y_puti 5 31 dX5_callName_57 rfl rfl rfl hR.1 ?_
      refine y_aload_n dX5_callName_60 rfl ?_
      refine y_iload_n dX5_callName_61 rfl ?_
      refine y_callV1 mX5_call dX5_callName_62 rfl rfl hR.1 (Nat.le_of_ble_eq_true rfl) (krcall (G := G) (o := none) hR (xPg_R ((xF.u (rows := [14]) (flds := []) 14 (by decide)).pg hA (by decide))) (dp := dp) (de := de) (by rw [xuI_o (Or.inr (by decide)), xuI_o (Or.inl (by omega))]; exact h36) hdp (by rw [xuI_o (Or.inr (by decide)), xuI_o (Or.inl (by omega))]; exact h32) hde (fun _ h => by cases h) (fun I3 q1 q2 => ?_))
      rw [if_pos (show xRf I R 14 (64 * m + v) = 21 from c36)] at hp
      simp only [xRf_u, xRf_f] at q1
      refine y_ret dX5_callName_65 rfl rfl ?_
      have := hp I3 q1 (((xFrR.u (by decide)).tr xFrR.f).tr q2)
      simp only [xRf_u, xRf_f]
      exact this
  · rw [ef] at hp
    refine y_istore_n dX5_callName_27 (by first | (simp; done) | (simp; decide)) (fun x3 e_x3 => ?_)
    subst e_x3
    refine y_aload_n dX5_callName_28 rfl ?_
    refine y_getr 5 18 dX5_callName_29 rfl rfl hR.1 (r5_18 hR) ?_
    refine y_iload_n dX5_callName_32 rfl ?_
    refine y_ialdN ((((64 * m)) + v)) dX5_callName_33 (k5_18 hR) rfl (by omega) (by omega) rfl ?_
    refine y_bipush (v := 21) dX5_callName_34 (by decide) ?_
    refine y_icmp_ne 60 dX5_callName_36 (by decide) (fun c36 => ?_) (fun c36 => ?_)
    · refine y_aload_n dX5_callName_60 rfl ?_
      refine y_iload_n dX5_callName_61 rfl ?_
      refine y_callV1 mX5_call dX5_callName_62 rfl rfl hR.1 (Nat.le_of_ble_eq_true rfl) (krcall (G := G) (o := (some e)) hR hA h36 hdp h32 hde (fun _ h => by cases h; exact he) (fun I3 q1 q2 => ?_))
      rw [if_neg (show ¬ xRf I R 14 (64 * m + v) = 21 from c36)] at hp
      exact y_ret dX5_callName_65 rfl rfl (hp I3 q1 q2)
    · refine y_aload_n dX5_callName_39 rfl ?_
      refine y_getr 5 18 dX5_callName_40 rfl rfl hR.1 (r5_18 hR) ?_
      refine y_iload_n dX5_callName_43 rfl ?_
      refine y_aload_n dX5_callName_44 rfl ?_
      refine y_iload_n dX5_callName_45 rfl ?_
      refine y_callV1 mX5_moduleOf dX5_callName_46 rfl rfl hR.1 (Nat.le_of_ble_eq_true rfl) (kmoduleOf (o := (some e)) (fun _ h => by cases h; exact he) ?_)
      refine y_iast ((((64 * m)) + v)) dX5_callName_49 (k5_18 hR) rfl (by omega) (by omega) ?_
      refine y_aload_n dX5_callName_50 rfl ?_
      refine y_dup dX5_callName_51 rfl ?_
      refine y_getv 5 31 dX5_callName_52 rfl rfl hR.1 (show (xuI I (R + 14) (64 * m + v) (oM (some e))) R 31 = nI bd by rw [xuI_o (Or.inl (by omega))]; exact h31) ?_
      refine y_iconst (v := 1) dX5_callName_55 (by decide) ?_
      refine y_iaddv (nI (bd + 1)) dX5_callName_56 (nI_add (bd) (1)) ?_
      refine y_puti 5 31 dX5_callName_57 rfl rfl rfl hR.1 ?_
      refine y_aload_n dX5_callName_60 rfl ?_
      refine y_iload_n dX5_callName_61 rfl ?_
      refine y_callV1 mX5_call dX5_callName_62 rfl rfl hR.1 (Nat.le_of_ble_eq_true rfl) (krcall (G := G) (o := (some e)) hR (xPg_R ((xF.u (rows := [14]) (flds := []) 14 (by decide)).pg hA (by decide))) (dp := dp) (de := de) (by rw [xuI_o (Or.inr (by decide)), xuI_o (Or.inl (by omega))]; exact h36) hdp (by rw [xuI_o (Or.inr (by decide)), xuI_o (Or.inl (by omega))]; exact h32) hde (fun _ h => by cases h; exact he) (fun I3 q1 q2 => ?_))
      rw [if_pos (show xRf I R 14 (64 * m + v) = 21 from c36)] at hp
      simp only [xRf_u, xRf_f] at q1
      refine y_ret dX5_callName_65 rfl rfl ?_
      have := hp I3 q1 (((xFrR.u (by decide)).tr xFrR.f).tr q2)
      simp only [xRf_u, xRf_f]
      exact this
theorem rAtF_some {X : xX} {m : Nat} {y : Int32} : ∀ {t k e : Nat}, rAtF X m y t k = some e → ∃ j, k ≤ j ∧ j < k + t ∧ e = 20 * m + j ∧ X 4 e = 0 ∧ X 5 e = y
  | 0, _, _, h => by cases h
  | t + 1, k, e, h => by
    unfold rAtF at h
    split at h
    · rename_i z
      cases h
      exact ⟨k, Nat.le_refl _, by omega, rfl, z.1, z.2⟩
    · obtain ⟨j, h1, h2, h3⟩ := rAtF_some h
      exact ⟨j, by omega, by omega, h3⟩
theorem rAt_some {X : xX} {ord : List Nat} {x : Int32} {e : Nat} (h : rAt X ord x = some e) : ∃ m j, m ∈ ord ∧ j < gF X m ∧ e = 20 * m + j ∧ X 4 e = 0 ∧ X 5 e = x - x / 1000 * 1000 := by
  unfold rAt at h
  split at h
  · cases h
  · split at h
    · cases h
    · rename_i m hm
      obtain ⟨j, h1, h2, h3, h4, h5⟩ := rAtF_some h
      exact ⟨m, j, List.mem_of_getElem? hm, by omega, h3, h4, h5⟩
theorem rAt_lt {X : xX} {ord : List Nat} {x : Int32} {e : Nat} (hw : ∀ m, m < 12 → wfM X m) (ho2 : ∀ q ∈ ord, q < 12) (h : rAt X ord x = some e) : e < 240 := by
  obtain ⟨m, j, h1, h2, h3, -⟩ := rAt_some h
  have a := ho2 m h1
  have b := (hw m a).2.2.1.2
  omega
set_option maxHeartbeats 4000000 in
theorem krmake {d : Nat} {Pp : Option Value → xH → Prop} {K : Nat → Nat × Nat} {I : Nat → Nat → Int32} {P : Nat → Nat → Option Nat} {n s : Nat} {R dp de bd sd m k : Nat} {G : xX} {ord : List Nat} (hR : xAt K P R 5) (hA : xPg I R G) (hw : ∀ m, m < 12 → wfM G m) (hl : I R 12 = 1) (hc : I R 15 = nI ord.length) (ho : xHl I (R + 12) ord) (ho2 : ∀ q ∈ ord, q < 12) (ho3 : ord.length ≤ 12) (h36 : I R 36 = nI dp) (hdp : dp ≤ 101) (h32 : I R 32 = nI de) (hde : de ≤ 200) (h31 : I R 31 = nI bd) (hbd : bd ≤ 10000) (h30 : I R 30 = nI sd) (hsd : sd ≤ 10000) (h37 : I R 37 = nI m) (hm : m < 12) (h38 : I R 38 = nI k) (hk : k < gS G m) (hd1 : 1 ≤ dp) (hp : ∀ I', xRf I' R = (rMk G ord (xRf I R)).2 → xFrR R I I' → Pp (some (.int (rMk G ord (xRf I R)).1)) (K, I', P, n, s)) : xC (d + 3) mX5_make [(.ref R)] (K, I, P, n, s) Pp := by
  refine y_met 0 0 ?_
  show xB (d + 3) 5 cX5_make (some .int) false (xE n s 0 0 Pp) 0 [some (.ref R), none, none, none, none, none, none] [] (K, I, P, n, s)
  have hk2 : k < 100 := by have := (hw m hm).2.2.2.2.2.1.2; omega
  unfold rMk at hp
  rw [show rN (xRf I R 0 37) = m from by show rN (I R 37) = m; rw [h37, rN_nI (by omega)], show rN (xRf I R 0 38) = k from by show rN (I R 38) = k; rw [h38, rN_nI (by omega)]] at hp
  have hst := (hw m hm).2.2.2.2.2.2.1 k hk
  have hA1 : xPg (xuI I R 38 (nI (k + 1))) R G := xPg_R hA
  have ho1 : xHl (xuI I R 38 (nI (k + 1))) (R + 12) ord := xHl_put ho (Or.inl (by omega))
  have t36 : xuI I R 38 (nI (k + 1)) R 36 = nI dp := by rw [xuI_o (Or.inr (by decide))]; exact h36
  have t32 : xuI I R 38 (nI (k + 1)) R 32 = nI de := by rw [xuI_o (Or.inr (by decide))]; exact h32
  have t31 : xuI I R 38 (nI (k + 1)) R 31 = nI bd := by rw [xuI_o (Or.inr (by decide))]; exact h31
  have t30 : xuI I R 38 (nI (k + 1)) R 30 = nI sd := by rw [xuI_o (Or.inr (by decide))]; exact h30
  have t37 : xuI I R 38 (nI (k + 1)) R 37 = nI m := by rw [xuI_o (Or.inr (by decide))]; exact h37
  have t12 : xuI I R 38 (nI (k + 1)) R 12 = 1 := by rw [xuI_o (Or.inr (by decide))]; exact hl
  have t15 : xuI I R 38 (nI (k + 1)) R 15 = nI ord.length := by rw [xuI_o (Or.inr (by decide))]; exact hc
  have u36 : rN (xRf I R 0 36) = dp := by show rN (I R 36) = dp; rw [h36, rN_nI (by omega)]
  have u30 : rN (xRf I R 0 30) = sd := by show rN (I R 30) = sd; rw [h30, rN_nI (by omega)]
  have trow : ∀ i j, 1 ≤ i → xuI I R 38 (nI (k + 1)) (R + i) j = I (R + i) j := fun i j hi => xuI_o (Or.inl (by omega))
  unfold xStep at hst
  rcases hst with ⟨eo, ⟨a1, ha1, ea⟩⟩ | ⟨eo, ⟨a1, ha1, ea⟩, ⟨b1, hb1, eb⟩⟩ | ⟨eo, ⟨a1, ha1, ea⟩, ⟨b1, hb1, eb⟩, ⟨c1, hc1, ec⟩⟩ | ⟨eo, ⟨a1, ha1, ea⟩, ⟨b1, hb1, eb⟩, ⟨c1, hc1, ec⟩⟩ | ⟨eo, ⟨a1, ha1, ea⟩, ⟨b1, hb1, eb⟩, ⟨c1, hc1, ec⟩⟩ | ⟨eo, ⟨a1, ha1, ea⟩, ⟨b1, hb1, eb⟩, ⟨c1, hc1, ec⟩⟩ | ⟨eo, ⟨a1, ha1, ea⟩⟩ | ⟨eo, ⟨a1, ha1, ea⟩⟩ | ⟨eo, ⟨a1, ha1, ea⟩, ⟨b1, hb1, eb⟩⟩ | ⟨eo, ⟨a1, ha1, ea⟩, ⟨b1, hb1, eb⟩⟩ | ⟨eo, ⟨a1, ha1, ea⟩, ⟨b1, hb1, eb⟩⟩ | ⟨eo, ⟨a1, ha1, ea⟩⟩ | eo | ⟨eo, ⟨a1, ha1, ea⟩⟩ | eo
  · unfold rMkO at hp
    rw [eo] at hp
    rw [if_pos rfl] at hp
    rw [ea] at hp
    rw [rN_nI (show a1 < 2 ^ 31 by omega)] at hp
    refine y_iconst (v := 4) dX5_make_0 (by decide) ?_
    refine y_bipush (v := 100) dX5_make_1 (by decide) ?_
    refine y_aload_n dX5_make_3 rfl ?_
    refine y_getv 5 37 dX5_make_4 rfl rfl hR.1 h37 ?_
    refine y_imulv (nI (100 * m)) dX5_make_7 (pk_mul (100) (m)) ?_
    refine y_aload_n dX5_make_8 rfl ?_
    refine y_getv 5 38 dX5_make_9 rfl rfl hR.1 h38 ?_
    refine y_iaddv (nI (((100 * m)) + k)) dX5_make_12 (nI_add ((100 * m)) (k)) ?_
    refine y_imulv (nI (4 * ((((100 * m)) + k)))) dX5_make_13 (pk_mul (4) ((((100 * m)) + k))) ?_
    refine y_istore_n dX5_make_14 (by first | (simp; done) | (simp; decide)) (fun x1 e_x1 => ?_)
    subst e_x1
    refine y_aload_n dX5_make_15 rfl ?_
    refine y_getr 5 8 dX5_make_16 rfl rfl hR.1 (r5_8 hR) ?_
    refine y_iload_n dX5_make_19 rfl ?_
    refine y_iconst (v := 1) dX5_make_20 (by decide) ?_
    refine y_iaddv (nI (((4 * ((((100 * m)) + k)))) + 1)) dX5_make_21 (nI_add ((4 * ((((100 * m)) + k)))) (1)) ?_
    refine y_ialdN ((((4 * ((((100 * m)) + k)))) + 1)) dX5_make_22 (k5_8 hR) rfl (by omega) (by omega) ((congrFun (hA 8 (by decide) (by decide)) (4 * (100 * m + k) + 1)).trans ea) ?_
    refine y_istore_n dX5_make_23 (by first | (simp; done) | (simp; decide)) (fun x2 e_x2 => ?_)
    subst e_x2
    refine y_aload_n dX5_make_24 rfl ?_
    refine y_getr 5 8 dX5_make_25 rfl rfl hR.1 (r5_8 hR) ?_
    refine y_iload_n dX5_make_28 rfl ?_
    refine y_iconst (v := 2) dX5_make_29 (by decide) ?_
    refine y_iaddv (nI (((4 * ((((100 * m)) + k)))) + 2)) dX5_make_30 (nI_add ((4 * ((((100 * m)) + k)))) (2)) ?_
    refine y_ialdN ((((4 * ((((100 * m)) + k)))) + 2)) dX5_make_31 (k5_8 hR) rfl (by omega) (by omega) (congrFun (hA 8 (by decide) (by decide)) ((((4 * ((((100 * m)) + k)))) + 2))) ?_
    refine y_istore_n dX5_make_32 (by first | (simp; done) | (simp; decide)) (fun z2 e_z2 => ?_)
    refine y_aload_n dX5_make_33 rfl ?_
    refine y_getr 5 8 dX5_make_34 rfl rfl hR.1 (r5_8 hR) ?_
    refine y_iload_n dX5_make_37 rfl ?_
    refine y_iconst (v := 3) dX5_make_38 (by decide) ?_
    refine y_iaddv (nI (((4 * ((((100 * m)) + k)))) + 3)) dX5_make_39 (nI_add ((4 * ((((100 * m)) + k)))) (3)) ?_
    refine y_ialdN ((((4 * ((((100 * m)) + k)))) + 3)) dX5_make_40 (k5_8 hR) rfl (by omega) (by omega) (congrFun (hA 8 (by decide) (by decide)) ((((4 * ((((100 * m)) + k)))) + 3))) ?_
    refine y_istore dX5_make_41 (by first | (simp; done) | (simp; decide)) (fun z3 e_z3 => ?_)
    refine y_aload_n dX5_make_43 rfl ?_
    refine y_dup dX5_make_44 rfl ?_
    refine y_getv 5 38 dX5_make_45 rfl rfl hR.1 h38 ?_
    refine y_iconst (v := 1) dX5_make_48 (by decide) ?_
    refine y_iaddv (nI (k + 1)) dX5_make_49 (nI_add (k) (1)) ?_
    refine y_puti 5 38 dX5_make_50 rfl rfl rfl hR.1 ?_
    refine y_aload_n dX5_make_53 rfl ?_
    refine y_getr 5 8 dX5_make_54 rfl rfl hR.1 (r5_8 hR) ?_
    refine y_iload_n dX5_make_57 rfl ?_
    refine y_ialdN ((4 * ((((100 * m)) + k)))) dX5_make_58 (k5_8 hR) rfl (by omega) (by omega) ((congrFun (hA1 8 (by decide) (by decide)) (4 * (100 * m + k))).trans eo) ?_
    refine y_tsw dX5_make_59 (fun q => absurd q (by decide)) (fun _ _ => ⟨69, 128, rfl, by decide, ?_⟩)
    refine y_aload_n dX5_make_128 rfl ?_
    refine y_getr 5 28 dX5_make_129 rfl rfl hR.1 (r5_28 hR) ?_
    refine y_iload_n dX5_make_132 rfl ?_
    refine y_iload_n dX5_make_133 rfl ?_
    refine y_iast (a1) dX5_make_134 (k5_28 hR) rfl (by omega) (by omega) ?_
    refine y_iconst (v := (-1)) dX5_make_135 (by decide) ?_
    subst e_z2
    exact y_ret dX5_make_136 rfl rfl (hp _ (by simp only [xRf_u, xRf_f]; first | done | rfl) ((xFrR.f).tr (xFrR.u (by decide))))
  · unfold rMkO at hp
    rw [eo] at hp
    rw [if_neg (by decide), if_pos rfl] at hp
    rw [ea, eb] at hp
    rw [rN_nI (show a1 < 2 ^ 31 by omega), rN_nI (show b1 < 2 ^ 31 by omega)] at hp
    refine y_iconst (v := 4) dX5_make_0 (by decide) ?_
    refine y_bipush (v := 100) dX5_make_1 (by decide) ?_
    refine y_aload_n dX5_make_3 rfl ?_
    refine y_getv 5 37 dX5_make_4 rfl rfl hR.1 h37 ?_
    refine y_imulv (nI (100 * m)) dX5_make_7 (pk_mul (100) (m)) ?_
    refine y_aload_n dX5_make_8 rfl ?_
    refine y_getv 5 38 dX5_make_9 rfl rfl hR.1 h38 ?_
    refine y_iaddv (nI (((100 * m)) + k)) dX5_make_12 (nI_add ((100 * m)) (k)) ?_
    refine y_imulv (nI (4 * ((((100 * m)) + k)))) dX5_make_13 (pk_mul (4) ((((100 * m)) + k))) ?_
    refine y_istore_n dX5_make_14 (by first | (simp; done) | (simp; decide)) (fun x1 e_x1 => ?_)
    subst e_x1
    refine y_aload_n dX5_make_15 rfl ?_
    refine y_getr 5 8 dX5_make_16 rfl rfl hR.1 (r5_8 hR) ?_
    refine y_iload_n dX5_make_19 rfl ?_
    refine y_iconst (v := 1) dX5_make_20 (by decide) ?_
    refine y_iaddv (nI (((4 * ((((100 * m)) + k)))) + 1)) dX5_make_21 (nI_add ((4 * ((((100 * m)) + k)))) (1)) ?_
    refine y_ialdN ((((4 * ((((100 * m)) + k)))) + 1)) dX5_make_22 (k5_8 hR) rfl (by omega) (by omega) ((congrFun (hA 8 (by decide) (by decide)) (4 * (100 * m + k) + 1)).trans ea) ?_
    refine y_istore_n dX5_make_23 (by first | (simp; done) | (simp; decide)) (fun x2 e_x2 => ?_)
    subst e_x2
    refine y_aload_n dX5_make_24 rfl ?_
    refine y_getr 5 8 dX5_make_25 rfl rfl hR.1 (r5_8 hR) ?_
    refine y_iload_n dX5_make_28 rfl ?_
    refine y_iconst (v := 2) dX5_make_29 (by decide) ?_
    refine y_iaddv (nI (((4 * ((((100 * m)) + k)))) + 2)) dX5_make_30 (nI_add ((4 * ((((100 * m)) + k)))) (2)) ?_
    refine y_ialdN ((((4 * ((((100 * m)) + k)))) + 2)) dX5_make_31 (k5_8 hR) rfl (by omega) (by omega) ((congrFun (hA 8 (by decide) (by decide)) (4 * (100 * m + k) + 2)).trans eb) ?_
    refine y_istore_n dX5_make_32 (by first | (simp; done) | (simp; decide)) (fun x3 e_x3 => ?_)
    subst e_x3
    refine y_aload_n dX5_make_33 rfl ?_
    refine y_getr 5 8 dX5_make_34 rfl rfl hR.1 (r5_8 hR) ?_
    refine y_iload_n dX5_make_37 rfl ?_
    refine y_iconst (v := 3) dX5_make_38 (by decide) ?_
    refine y_iaddv (nI (((4 * ((((100 * m)) + k)))) + 3)) dX5_make_39 (nI_add ((4 * ((((100 * m)) + k)))) (3)) ?_
    refine y_ialdN ((((4 * ((((100 * m)) + k)))) + 3)) dX5_make_40 (k5_8 hR) rfl (by omega) (by omega) (congrFun (hA 8 (by decide) (by decide)) ((((4 * ((((100 * m)) + k)))) + 3))) ?_
    refine y_istore dX5_make_41 (by first | (simp; done) | (simp; decide)) (fun z3 e_z3 => ?_)
    refine y_aload_n dX5_make_43 rfl ?_
    refine y_dup dX5_make_44 rfl ?_
    refine y_getv 5 38 dX5_make_45 rfl rfl hR.1 h38 ?_
    refine y_iconst (v := 1) dX5_make_48 (by decide) ?_
    refine y_iaddv (nI (k + 1)) dX5_make_49 (nI_add (k) (1)) ?_
    refine y_puti 5 38 dX5_make_50 rfl rfl rfl hR.1 ?_
    refine y_aload_n dX5_make_53 rfl ?_
    refine y_getr 5 8 dX5_make_54 rfl rfl hR.1 (r5_8 hR) ?_
    refine y_iload_n dX5_make_57 rfl ?_
    refine y_ialdN ((4 * ((((100 * m)) + k)))) dX5_make_58 (k5_8 hR) rfl (by omega) (by omega) ((congrFun (hA1 8 (by decide) (by decide)) (4 * (100 * m + k))).trans eo) ?_
    refine y_tsw dX5_make_59 (fun q => absurd q (by decide)) (fun _ _ => ⟨78, 137, rfl, by decide, ?_⟩)
    refine y_aload_n dX5_make_137 rfl ?_
    refine y_getr 5 28 dX5_make_138 rfl rfl hR.1 (r5_28 hR) ?_
    refine y_iload_n dX5_make_141 rfl ?_
    refine y_aload_n dX5_make_142 rfl ?_
    refine y_getr 5 28 dX5_make_143 rfl rfl hR.1 (r5_28 hR) ?_
    refine y_iload_n dX5_make_146 rfl ?_
    refine y_ialdN (b1) dX5_make_147 (k5_28 hR) rfl (by omega) (by omega) (trow 20 b1 (by decide)) ?_
    refine y_iast (a1) dX5_make_148 (k5_28 hR) rfl (by omega) (by omega) ?_
    refine y_iconst (v := (-1)) dX5_make_149 (by decide) ?_
    exact y_ret dX5_make_150 rfl rfl (hp _ (by simp only [xRf_u, xRf_f]; first | done | rfl) ((xFrR.f).tr (xFrR.u (by decide))))
  · unfold rMkO at hp
    rw [eo] at hp
    rw [if_neg (by decide), if_neg (by decide), if_pos rfl] at hp
    rw [ea, eb, ec] at hp
    simp only [rN_nI (show a1 < 2 ^ 31 by omega), rN_nI (show b1 < 2 ^ 31 by omega), rN_nI (show c1 < 2 ^ 31 by omega)] at hp
    refine y_iconst (v := 4) dX5_make_0 (by decide) ?_
    refine y_bipush (v := 100) dX5_make_1 (by decide) ?_
    refine y_aload_n dX5_make_3 rfl ?_
    refine y_getv 5 37 dX5_make_4 rfl rfl hR.1 h37 ?_
    refine y_imulv (nI (100 * m)) dX5_make_7 (pk_mul (100) (m)) ?_
    refine y_aload_n dX5_make_8 rfl ?_
    refine y_getv 5 38 dX5_make_9 rfl rfl hR.1 h38 ?_
    refine y_iaddv (nI (((100 * m)) + k)) dX5_make_12 (nI_add ((100 * m)) (k)) ?_
    refine y_imulv (nI (4 * ((((100 * m)) + k)))) dX5_make_13 (pk_mul (4) ((((100 * m)) + k))) ?_
    refine y_istore_n dX5_make_14 (by first | (simp; done) | (simp; decide)) (fun x1 e_x1 => ?_)
    subst e_x1
    refine y_aload_n dX5_make_15 rfl ?_
    refine y_getr 5 8 dX5_make_16 rfl rfl hR.1 (r5_8 hR) ?_
    refine y_iload_n dX5_make_19 rfl ?_
    refine y_iconst (v := 1) dX5_make_20 (by decide) ?_
    refine y_iaddv (nI (((4 * ((((100 * m)) + k)))) + 1)) dX5_make_21 (nI_add ((4 * ((((100 * m)) + k)))) (1)) ?_
    refine y_ialdN ((((4 * ((((100 * m)) + k)))) + 1)) dX5_make_22 (k5_8 hR) rfl (by omega) (by omega) ((congrFun (hA 8 (by decide) (by decide)) (4 * (100 * m + k) + 1)).trans ea) ?_
    refine y_istore_n dX5_make_23 (by first | (simp; done) | (simp; decide)) (fun x2 e_x2 => ?_)
    subst e_x2
    refine y_aload_n dX5_make_24 rfl ?_
    refine y_getr 5 8 dX5_make_25 rfl rfl hR.1 (r5_8 hR) ?_
    refine y_iload_n dX5_make_28 rfl ?_
    refine y_iconst (v := 2) dX5_make_29 (by decide) ?_
    refine y_iaddv (nI (((4 * ((((100 * m)) + k)))) + 2)) dX5_make_30 (nI_add ((4 * ((((100 * m)) + k)))) (2)) ?_
    refine y_ialdN ((((4 * ((((100 * m)) + k)))) + 2)) dX5_make_31 (k5_8 hR) rfl (by omega) (by omega) ((congrFun (hA 8 (by decide) (by decide)) (4 * (100 * m + k) + 2)).trans eb) ?_
    refine y_istore_n dX5_make_32 (by first | (simp; done) | (simp; decide)) (fun x3 e_x3 => ?_)
    subst e_x3
    refine y_aload_n dX5_make_33 rfl ?_
    refine y_getr 5 8 dX5_make_34 rfl rfl hR.1 (r5_8 hR) ?_
    refine y_iload_n dX5_make_37 rfl ?_
    refine y_iconst (v := 3) dX5_make_38 (by decide) ?_
    refine y_iaddv (nI (((4 * ((((100 * m)) + k)))) + 3)) dX5_make_39 (nI_add ((4 * ((((100 * m)) + k)))) (3)) ?_
    refine y_ialdN ((((4 * ((((100 * m)) + k)))) + 3)) dX5_make_40 (k5_8 hR) rfl (by omega) (by omega) ((congrFun (hA 8 (by decide) (by decide)) (4 * (100 * m + k) + 3)).trans ec) ?_
    refine y_istore dX5_make_41 (by first | (simp; done) | (simp; decide)) (fun x4 e_x4 => ?_)
    subst e_x4
    refine y_aload_n dX5_make_43 rfl ?_
    refine y_dup dX5_make_44 rfl ?_
    refine y_getv 5 38 dX5_make_45 rfl rfl hR.1 h38 ?_
    refine y_iconst (v := 1) dX5_make_48 (by decide) ?_
    refine y_iaddv (nI (k + 1)) dX5_make_49 (nI_add (k) (1)) ?_
    refine y_puti 5 38 dX5_make_50 rfl rfl rfl hR.1 ?_
    refine y_aload_n dX5_make_53 rfl ?_
    refine y_getr 5 8 dX5_make_54 rfl rfl hR.1 (r5_8 hR) ?_
    refine y_iload_n dX5_make_57 rfl ?_
    refine y_ialdN ((4 * ((((100 * m)) + k)))) dX5_make_58 (k5_8 hR) rfl (by omega) (by omega) ((congrFun (hA1 8 (by decide) (by decide)) (4 * (100 * m + k))).trans eo) ?_
    refine y_tsw dX5_make_59 (fun q => absurd q (by decide)) (fun _ _ => ⟨92, 151, rfl, by decide, ?_⟩)
    refine y_aload_n dX5_make_151 rfl ?_
    refine y_getr 5 28 dX5_make_152 rfl rfl hR.1 (r5_28 hR) ?_
    refine y_iload_n dX5_make_155 rfl ?_
    refine y_aload_n dX5_make_156 rfl ?_
    refine y_getr 5 28 dX5_make_157 rfl rfl hR.1 (r5_28 hR) ?_
    refine y_iload_n dX5_make_160 rfl ?_
    refine y_ialdN (b1) dX5_make_161 (k5_28 hR) rfl (by omega) (by omega) (trow 20 b1 (by decide)) ?_
    refine y_aload_n dX5_make_162 rfl ?_
    refine y_getr 5 28 dX5_make_163 rfl rfl hR.1 (r5_28 hR) ?_
    refine y_iload dX5_make_166 rfl ?_
    refine y_ialdN (c1) dX5_make_168 (k5_28 hR) rfl (by omega) (by omega) (trow 20 c1 (by decide)) ?_
    refine y_iadd dX5_make_169 ?_
    refine y_iast (a1) dX5_make_170 (k5_28 hR) rfl (by omega) (by omega) ?_
    refine y_iconst (v := (-1)) dX5_make_171 (by decide) ?_
    exact y_ret dX5_make_172 rfl rfl (hp _ (by simp only [xRf_u, xRf_f]; first | done | rfl) ((xFrR.f).tr (xFrR.u (by decide))))
  · unfold rMkO at hp
    rw [eo] at hp
    rw [if_neg (by decide), if_neg (by decide), if_neg (by decide), if_pos rfl] at hp
    rw [ea, eb, ec] at hp
    simp only [rN_nI (show a1 < 2 ^ 31 by omega), rN_nI (show b1 < 2 ^ 31 by omega), rN_nI (show c1 < 2 ^ 31 by omega)] at hp
    refine y_iconst (v := 4) dX5_make_0 (by decide) ?_
    refine y_bipush (v := 100) dX5_make_1 (by decide) ?_
    refine y_aload_n dX5_make_3 rfl ?_
    refine y_getv 5 37 dX5_make_4 rfl rfl hR.1 h37 ?_
    refine y_imulv (nI (100 * m)) dX5_make_7 (pk_mul (100) (m)) ?_
    refine y_aload_n dX5_make_8 rfl ?_
    refine y_getv 5 38 dX5_make_9 rfl rfl hR.1 h38 ?_
    refine y_iaddv (nI (((100 * m)) + k)) dX5_make_12 (nI_add ((100 * m)) (k)) ?_
    refine y_imulv (nI (4 * ((((100 * m)) + k)))) dX5_make_13 (pk_mul (4) ((((100 * m)) + k))) ?_
    refine y_istore_n dX5_make_14 (by first | (simp; done) | (simp; decide)) (fun x1 e_x1 => ?_)
    subst e_x1
    refine y_aload_n dX5_make_15 rfl ?_
    refine y_getr 5 8 dX5_make_16 rfl rfl hR.1 (r5_8 hR) ?_
    refine y_iload_n dX5_make_19 rfl ?_
    refine y_iconst (v := 1) dX5_make_20 (by decide) ?_
    refine y_iaddv (nI (((4 * ((((100 * m)) + k)))) + 1)) dX5_make_21 (nI_add ((4 * ((((100 * m)) + k)))) (1)) ?_
    refine y_ialdN ((((4 * ((((100 * m)) + k)))) + 1)) dX5_make_22 (k5_8 hR) rfl (by omega) (by omega) ((congrFun (hA 8 (by decide) (by decide)) (4 * (100 * m + k) + 1)).trans ea) ?_
    refine y_istore_n dX5_make_23 (by first | (simp; done) | (simp; decide)) (fun x2 e_x2 => ?_)
    subst e_x2
    refine y_aload_n dX5_make_24 rfl ?_
    refine y_getr 5 8 dX5_make_25 rfl rfl hR.1 (r5_8 hR) ?_
    refine y_iload_n dX5_make_28 rfl ?_
    refine y_iconst (v := 2) dX5_make_29 (by decide) ?_
    refine y_iaddv (nI (((4 * ((((100 * m)) + k)))) + 2)) dX5_make_30 (nI_add ((4 * ((((100 * m)) + k)))) (2)) ?_
    refine y_ialdN ((((4 * ((((100 * m)) + k)))) + 2)) dX5_make_31 (k5_8 hR) rfl (by omega) (by omega) ((congrFun (hA 8 (by decide) (by decide)) (4 * (100 * m + k) + 2)).trans eb) ?_
    refine y_istore_n dX5_make_32 (by first | (simp; done) | (simp; decide)) (fun x3 e_x3 => ?_)
    subst e_x3
    refine y_aload_n dX5_make_33 rfl ?_
    refine y_getr 5 8 dX5_make_34 rfl rfl hR.1 (r5_8 hR) ?_
    refine y_iload_n dX5_make_37 rfl ?_
    refine y_iconst (v := 3) dX5_make_38 (by decide) ?_
    refine y_iaddv (nI (((4 * ((((100 * m)) + k)))) + 3)) dX5_make_39 (nI_add ((4 * ((((100 * m)) + k)))) (3)) ?_
    refine y_ialdN ((((4 * ((((100 * m)) + k)))) + 3)) dX5_make_40 (k5_8 hR) rfl (by omega) (by omega) ((congrFun (hA 8 (by decide) (by decide)) (4 * (100 * m + k) + 3)).trans ec) ?_
    refine y_istore dX5_make_41 (by first | (simp; done) | (simp; decide)) (fun x4 e_x4 => ?_)
    subst e_x4
    refine y_aload_n dX5_make_43 rfl ?_
    refine y_dup dX5_make_44 rfl ?_
    refine y_getv 5 38 dX5_make_45 rfl rfl hR.1 h38 ?_
    refine y_iconst (v := 1) dX5_make_48 (by decide) ?_
    refine y_iaddv (nI (k + 1)) dX5_make_49 (nI_add (k) (1)) ?_
    refine y_puti 5 38 dX5_make_50 rfl rfl rfl hR.1 ?_
    refine y_aload_n dX5_make_53 rfl ?_
    refine y_getr 5 8 dX5_make_54 rfl rfl hR.1 (r5_8 hR) ?_
    refine y_iload_n dX5_make_57 rfl ?_
    refine y_ialdN ((4 * ((((100 * m)) + k)))) dX5_make_58 (k5_8 hR) rfl (by omega) (by omega) ((congrFun (hA1 8 (by decide) (by decide)) (4 * (100 * m + k))).trans eo) ?_
    refine y_tsw dX5_make_59 (fun q => absurd q (by decide)) (fun _ _ => ⟨114, 173, rfl, by decide, ?_⟩)
    refine y_aload_n dX5_make_173 rfl ?_
    refine y_getr 5 28 dX5_make_174 rfl rfl hR.1 (r5_28 hR) ?_
    refine y_iload_n dX5_make_177 rfl ?_
    refine y_aload_n dX5_make_178 rfl ?_
    refine y_getr 5 28 dX5_make_179 rfl rfl hR.1 (r5_28 hR) ?_
    refine y_iload_n dX5_make_182 rfl ?_
    refine y_ialdN (b1) dX5_make_183 (k5_28 hR) rfl (by omega) (by omega) (trow 20 b1 (by decide)) ?_
    refine y_aload_n dX5_make_184 rfl ?_
    refine y_getr 5 28 dX5_make_185 rfl rfl hR.1 (r5_28 hR) ?_
    refine y_iload dX5_make_188 rfl ?_
    refine y_ialdN (c1) dX5_make_190 (k5_28 hR) rfl (by omega) (by omega) (trow 20 c1 (by decide)) ?_
    refine y_isub dX5_make_191 ?_
    refine y_iast (a1) dX5_make_192 (k5_28 hR) rfl (by omega) (by omega) ?_
    refine y_iconst (v := (-1)) dX5_make_193 (by decide) ?_
    exact y_ret dX5_make_194 rfl rfl (hp _ (by simp only [xRf_u, xRf_f]; first | done | rfl) ((xFrR.f).tr (xFrR.u (by decide))))
  · unfold rMkO at hp
    rw [eo] at hp
    rw [if_neg (by decide), if_neg (by decide), if_neg (by decide), if_neg (by decide), if_pos rfl] at hp
    rw [ea, eb, ec] at hp
    simp only [rN_nI (show a1 < 2 ^ 31 by omega), rN_nI (show b1 < 2 ^ 31 by omega), rN_nI (show c1 < 2 ^ 31 by omega)] at hp
    refine y_iconst (v := 4) dX5_make_0 (by decide) ?_
    refine y_bipush (v := 100) dX5_make_1 (by decide) ?_
    refine y_aload_n dX5_make_3 rfl ?_
    refine y_getv 5 37 dX5_make_4 rfl rfl hR.1 h37 ?_
    refine y_imulv (nI (100 * m)) dX5_make_7 (pk_mul (100) (m)) ?_
    refine y_aload_n dX5_make_8 rfl ?_
    refine y_getv 5 38 dX5_make_9 rfl rfl hR.1 h38 ?_
    refine y_iaddv (nI (((100 * m)) + k)) dX5_make_12 (nI_add ((100 * m)) (k)) ?_
    refine y_imulv (nI (4 * ((((100 * m)) + k)))) dX5_make_13 (pk_mul (4) ((((100 * m)) + k))) ?_
    refine y_istore_n dX5_make_14 (by first | (simp; done) | (simp; decide)) (fun x1 e_x1 => ?_)
    subst e_x1
    refine y_aload_n dX5_make_15 rfl ?_
    refine y_getr 5 8 dX5_make_16 rfl rfl hR.1 (r5_8 hR) ?_
    refine y_iload_n dX5_make_19 rfl ?_
    refine y_iconst (v := 1) dX5_make_20 (by decide) ?_
    refine y_iaddv (nI (((4 * ((((100 * m)) + k)))) + 1)) dX5_make_21 (nI_add ((4 * ((((100 * m)) + k)))) (1)) ?_
    refine y_ialdN ((((4 * ((((100 * m)) + k)))) + 1)) dX5_make_22 (k5_8 hR) rfl (by omega) (by omega) ((congrFun (hA 8 (by decide) (by decide)) (4 * (100 * m + k) + 1)).trans ea) ?_
    refine y_istore_n dX5_make_23 (by first | (simp; done) | (simp; decide)) (fun x2 e_x2 => ?_)
    subst e_x2
    refine y_aload_n dX5_make_24 rfl ?_
    refine y_getr 5 8 dX5_make_25 rfl rfl hR.1 (r5_8 hR) ?_
    refine y_iload_n dX5_make_28 rfl ?_
    refine y_iconst (v := 2) dX5_make_29 (by decide) ?_
    refine y_iaddv (nI (((4 * ((((100 * m)) + k)))) + 2)) dX5_make_30 (nI_add ((4 * ((((100 * m)) + k)))) (2)) ?_
    refine y_ialdN ((((4 * ((((100 * m)) + k)))) + 2)) dX5_make_31 (k5_8 hR) rfl (by omega) (by omega) ((congrFun (hA 8 (by decide) (by decide)) (4 * (100 * m + k) + 2)).trans eb) ?_
    refine y_istore_n dX5_make_32 (by first | (simp; done) | (simp; decide)) (fun x3 e_x3 => ?_)
    subst e_x3
    refine y_aload_n dX5_make_33 rfl ?_
    refine y_getr 5 8 dX5_make_34 rfl rfl hR.1 (r5_8 hR) ?_
    refine y_iload_n dX5_make_37 rfl ?_
    refine y_iconst (v := 3) dX5_make_38 (by decide) ?_
    refine y_iaddv (nI (((4 * ((((100 * m)) + k)))) + 3)) dX5_make_39 (nI_add ((4 * ((((100 * m)) + k)))) (3)) ?_
    refine y_ialdN ((((4 * ((((100 * m)) + k)))) + 3)) dX5_make_40 (k5_8 hR) rfl (by omega) (by omega) ((congrFun (hA 8 (by decide) (by decide)) (4 * (100 * m + k) + 3)).trans ec) ?_
    refine y_istore dX5_make_41 (by first | (simp; done) | (simp; decide)) (fun x4 e_x4 => ?_)
    subst e_x4
    refine y_aload_n dX5_make_43 rfl ?_
    refine y_dup dX5_make_44 rfl ?_
    refine y_getv 5 38 dX5_make_45 rfl rfl hR.1 h38 ?_
    refine y_iconst (v := 1) dX5_make_48 (by decide) ?_
    refine y_iaddv (nI (k + 1)) dX5_make_49 (nI_add (k) (1)) ?_
    refine y_puti 5 38 dX5_make_50 rfl rfl rfl hR.1 ?_
    refine y_aload_n dX5_make_53 rfl ?_
    refine y_getr 5 8 dX5_make_54 rfl rfl hR.1 (r5_8 hR) ?_
    refine y_iload_n dX5_make_57 rfl ?_
    refine y_ialdN ((4 * ((((100 * m)) + k)))) dX5_make_58 (k5_8 hR) rfl (by omega) (by omega) ((congrFun (hA1 8 (by decide) (by decide)) (4 * (100 * m + k))).trans eo) ?_
    refine y_tsw dX5_make_59 (fun q => absurd q (by decide)) (fun _ _ => ⟨136, 195, rfl, by decide, ?_⟩)
    refine y_aload_n dX5_make_195 rfl ?_
    refine y_getr 5 28 dX5_make_196 rfl rfl hR.1 (r5_28 hR) ?_
    refine y_iload_n dX5_make_199 rfl ?_
    refine y_aload_n dX5_make_200 rfl ?_
    refine y_getr 5 28 dX5_make_201 rfl rfl hR.1 (r5_28 hR) ?_
    refine y_iload_n dX5_make_204 rfl ?_
    refine y_ialdN (b1) dX5_make_205 (k5_28 hR) rfl (by omega) (by omega) (trow 20 b1 (by decide)) ?_
    refine y_aload_n dX5_make_206 rfl ?_
    refine y_getr 5 28 dX5_make_207 rfl rfl hR.1 (r5_28 hR) ?_
    refine y_iload dX5_make_210 rfl ?_
    refine y_ialdN (c1) dX5_make_212 (k5_28 hR) rfl (by omega) (by omega) (trow 20 c1 (by decide)) ?_
    refine y_imul dX5_make_213 ?_
    refine y_iast (a1) dX5_make_214 (k5_28 hR) rfl (by omega) (by omega) ?_
    refine y_iconst (v := (-1)) dX5_make_215 (by decide) ?_
    exact y_ret dX5_make_216 rfl rfl (hp _ (by simp only [xRf_u, xRf_f]; first | done | rfl) ((xFrR.f).tr (xFrR.u (by decide))))
  · unfold rMkO at hp
    rw [eo] at hp
    rw [if_neg (by decide), if_neg (by decide), if_neg (by decide), if_neg (by decide), if_neg (by decide), if_pos rfl] at hp
    rw [ea, eb, ec] at hp
    simp only [rN_nI (show a1 < 2 ^ 31 by omega), rN_nI (show b1 < 2 ^ 31 by omega)] at hp
    refine y_iconst (v := 4) dX5_make_0 (by decide) ?_
    refine y_bipush (v := 100) dX5_make_1 (by decide) ?_
    refine y_aload_n dX5_make_3 rfl ?_
    refine y_getv 5 37 dX5_make_4 rfl rfl hR.1 h37 ?_
    refine y_imulv (nI (100 * m)) dX5_make_7 (pk_mul (100) (m)) ?_
    refine y_aload_n dX5_make_8 rfl ?_
    refine y_getv 5 38 dX5_make_9 rfl rfl hR.1 h38 ?_
    refine y_iaddv (nI (((100 * m)) + k)) dX5_make_12 (nI_add ((100 * m)) (k)) ?_
    refine y_imulv (nI (4 * ((((100 * m)) + k)))) dX5_make_13 (pk_mul (4) ((((100 * m)) + k))) ?_
    refine y_istore_n dX5_make_14 (by first | (simp; done) | (simp; decide)) (fun x1 e_x1 => ?_)
    subst e_x1
    refine y_aload_n dX5_make_15 rfl ?_
    refine y_getr 5 8 dX5_make_16 rfl rfl hR.1 (r5_8 hR) ?_
    refine y_iload_n dX5_make_19 rfl ?_
    refine y_iconst (v := 1) dX5_make_20 (by decide) ?_
    refine y_iaddv (nI (((4 * ((((100 * m)) + k)))) + 1)) dX5_make_21 (nI_add ((4 * ((((100 * m)) + k)))) (1)) ?_
    refine y_ialdN ((((4 * ((((100 * m)) + k)))) + 1)) dX5_make_22 (k5_8 hR) rfl (by omega) (by omega) ((congrFun (hA 8 (by decide) (by decide)) (4 * (100 * m + k) + 1)).trans ea) ?_
    refine y_istore_n dX5_make_23 (by first | (simp; done) | (simp; decide)) (fun x2 e_x2 => ?_)
    subst e_x2
    refine y_aload_n dX5_make_24 rfl ?_
    refine y_getr 5 8 dX5_make_25 rfl rfl hR.1 (r5_8 hR) ?_
    refine y_iload_n dX5_make_28 rfl ?_
    refine y_iconst (v := 2) dX5_make_29 (by decide) ?_
    refine y_iaddv (nI (((4 * ((((100 * m)) + k)))) + 2)) dX5_make_30 (nI_add ((4 * ((((100 * m)) + k)))) (2)) ?_
    refine y_ialdN ((((4 * ((((100 * m)) + k)))) + 2)) dX5_make_31 (k5_8 hR) rfl (by omega) (by omega) ((congrFun (hA 8 (by decide) (by decide)) (4 * (100 * m + k) + 2)).trans eb) ?_
    refine y_istore_n dX5_make_32 (by first | (simp; done) | (simp; decide)) (fun x3 e_x3 => ?_)
    subst e_x3
    refine y_aload_n dX5_make_33 rfl ?_
    refine y_getr 5 8 dX5_make_34 rfl rfl hR.1 (r5_8 hR) ?_
    refine y_iload_n dX5_make_37 rfl ?_
    refine y_iconst (v := 3) dX5_make_38 (by decide) ?_
    refine y_iaddv (nI (((4 * ((((100 * m)) + k)))) + 3)) dX5_make_39 (nI_add ((4 * ((((100 * m)) + k)))) (3)) ?_
    refine y_ialdN ((((4 * ((((100 * m)) + k)))) + 3)) dX5_make_40 (k5_8 hR) rfl (by omega) (by omega) ((congrFun (hA 8 (by decide) (by decide)) (4 * (100 * m + k) + 3)).trans ec) ?_
    refine y_istore dX5_make_41 (by first | (simp; done) | (simp; decide)) (fun x4 e_x4 => ?_)
    subst e_x4
    refine y_aload_n dX5_make_43 rfl ?_
    refine y_dup dX5_make_44 rfl ?_
    refine y_getv 5 38 dX5_make_45 rfl rfl hR.1 h38 ?_
    refine y_iconst (v := 1) dX5_make_48 (by decide) ?_
    refine y_iaddv (nI (k + 1)) dX5_make_49 (nI_add (k) (1)) ?_
    refine y_puti 5 38 dX5_make_50 rfl rfl rfl hR.1 ?_
    refine y_aload_n dX5_make_53 rfl ?_
    refine y_getr 5 8 dX5_make_54 rfl rfl hR.1 (r5_8 hR) ?_
    refine y_iload_n dX5_make_57 rfl ?_
    refine y_ialdN ((4 * ((((100 * m)) + k)))) dX5_make_58 (k5_8 hR) rfl (by omega) (by omega) ((congrFun (hA1 8 (by decide) (by decide)) (4 * (100 * m + k))).trans eo) ?_
    refine y_tsw dX5_make_59 (fun q => absurd q (by decide)) (fun _ _ => ⟨158, 217, rfl, by decide, ?_⟩)
    refine y_aload_n dX5_make_217 rfl ?_
    refine y_aload_n dX5_make_218 rfl ?_
    refine y_getr 5 28 dX5_make_219 rfl rfl hR.1 (r5_28 hR) ?_
    refine y_iload_n dX5_make_222 rfl ?_
    refine y_ialdN (a1) dX5_make_223 (k5_28 hR) rfl (by omega) (by omega) (trow 20 a1 (by decide)) ?_
    refine y_aload_n dX5_make_224 rfl ?_
    refine y_getr 5 28 dX5_make_225 rfl rfl hR.1 (r5_28 hR) ?_
    refine y_iload_n dX5_make_228 rfl ?_
    refine y_ialdN (b1) dX5_make_229 (k5_28 hR) rfl (by omega) (by omega) (trow 20 b1 (by decide)) ?_
    refine y_icmp_ge 238 dX5_make_230 (by decide) (fun c230 => ?_) (fun c230 => ?_)
    · refine y_aload_n dX5_make_238 rfl ?_
      refine y_getv 5 38 dX5_make_239 rfl rfl hR.1 xuI_s ?_
      refine y_puti 5 38 dX5_make_242 rfl rfl rfl hR.1 ?_
      refine y_iconst (v := (-1)) dX5_make_245 (by decide) ?_
      rw [if_pos (show xRf I R 20 a1 ≥ xRf I R 20 b1 from c230)] at hp
      exact y_ret dX5_make_246 rfl rfl (hp _ (by simp only [xRf_u, xRf_f]; first | done | rfl) ((xFrR.f).tr xFrR.f))
    · refine y_iload dX5_make_233 rfl ?_
      refine y_goto 242 dX5_make_235 (by decide) ?_
      refine y_puti 5 38 dX5_make_242 rfl rfl rfl hR.1 ?_
      refine y_iconst (v := (-1)) dX5_make_245 (by decide) ?_
      rw [if_neg (show ¬ xRf I R 20 a1 ≥ xRf I R 20 b1 from c230)] at hp
      exact y_ret dX5_make_246 rfl rfl (hp _ (by simp only [xRf_u, xRf_f]; first | done | rfl) ((xFrR.f).tr xFrR.f))
  · unfold rMkO at hp
    rw [eo] at hp
    rw [if_neg (by decide), if_neg (by decide), if_neg (by decide), if_neg (by decide), if_neg (by decide), if_neg (by decide), if_pos rfl] at hp
    rw [ea] at hp
    refine y_iconst (v := 4) dX5_make_0 (by decide) ?_
    refine y_bipush (v := 100) dX5_make_1 (by decide) ?_
    refine y_aload_n dX5_make_3 rfl ?_
    refine y_getv 5 37 dX5_make_4 rfl rfl hR.1 h37 ?_
    refine y_imulv (nI (100 * m)) dX5_make_7 (pk_mul (100) (m)) ?_
    refine y_aload_n dX5_make_8 rfl ?_
    refine y_getv 5 38 dX5_make_9 rfl rfl hR.1 h38 ?_
    refine y_iaddv (nI (((100 * m)) + k)) dX5_make_12 (nI_add ((100 * m)) (k)) ?_
    refine y_imulv (nI (4 * ((((100 * m)) + k)))) dX5_make_13 (pk_mul (4) ((((100 * m)) + k))) ?_
    refine y_istore_n dX5_make_14 (by first | (simp; done) | (simp; decide)) (fun x1 e_x1 => ?_)
    subst e_x1
    refine y_aload_n dX5_make_15 rfl ?_
    refine y_getr 5 8 dX5_make_16 rfl rfl hR.1 (r5_8 hR) ?_
    refine y_iload_n dX5_make_19 rfl ?_
    refine y_iconst (v := 1) dX5_make_20 (by decide) ?_
    refine y_iaddv (nI (((4 * ((((100 * m)) + k)))) + 1)) dX5_make_21 (nI_add ((4 * ((((100 * m)) + k)))) (1)) ?_
    refine y_ialdN ((((4 * ((((100 * m)) + k)))) + 1)) dX5_make_22 (k5_8 hR) rfl (by omega) (by omega) ((congrFun (hA 8 (by decide) (by decide)) (4 * (100 * m + k) + 1)).trans ea) ?_
    refine y_istore_n dX5_make_23 (by first | (simp; done) | (simp; decide)) (fun x2 e_x2 => ?_)
    subst e_x2
    refine y_aload_n dX5_make_24 rfl ?_
    refine y_getr 5 8 dX5_make_25 rfl rfl hR.1 (r5_8 hR) ?_
    refine y_iload_n dX5_make_28 rfl ?_
    refine y_iconst (v := 2) dX5_make_29 (by decide) ?_
    refine y_iaddv (nI (((4 * ((((100 * m)) + k)))) + 2)) dX5_make_30 (nI_add ((4 * ((((100 * m)) + k)))) (2)) ?_
    refine y_ialdN ((((4 * ((((100 * m)) + k)))) + 2)) dX5_make_31 (k5_8 hR) rfl (by omega) (by omega) (congrFun (hA 8 (by decide) (by decide)) ((((4 * ((((100 * m)) + k)))) + 2))) ?_
    refine y_istore_n dX5_make_32 (by first | (simp; done) | (simp; decide)) (fun z2 e_z2 => ?_)
    refine y_aload_n dX5_make_33 rfl ?_
    refine y_getr 5 8 dX5_make_34 rfl rfl hR.1 (r5_8 hR) ?_
    refine y_iload_n dX5_make_37 rfl ?_
    refine y_iconst (v := 3) dX5_make_38 (by decide) ?_
    refine y_iaddv (nI (((4 * ((((100 * m)) + k)))) + 3)) dX5_make_39 (nI_add ((4 * ((((100 * m)) + k)))) (3)) ?_
    refine y_ialdN ((((4 * ((((100 * m)) + k)))) + 3)) dX5_make_40 (k5_8 hR) rfl (by omega) (by omega) (congrFun (hA 8 (by decide) (by decide)) ((((4 * ((((100 * m)) + k)))) + 3))) ?_
    refine y_istore dX5_make_41 (by first | (simp; done) | (simp; decide)) (fun z3 e_z3 => ?_)
    refine y_aload_n dX5_make_43 rfl ?_
    refine y_dup dX5_make_44 rfl ?_
    refine y_getv 5 38 dX5_make_45 rfl rfl hR.1 h38 ?_
    refine y_iconst (v := 1) dX5_make_48 (by decide) ?_
    refine y_iaddv (nI (k + 1)) dX5_make_49 (nI_add (k) (1)) ?_
    refine y_puti 5 38 dX5_make_50 rfl rfl rfl hR.1 ?_
    refine y_aload_n dX5_make_53 rfl ?_
    refine y_getr 5 8 dX5_make_54 rfl rfl hR.1 (r5_8 hR) ?_
    refine y_iload_n dX5_make_57 rfl ?_
    refine y_ialdN ((4 * ((((100 * m)) + k)))) dX5_make_58 (k5_8 hR) rfl (by omega) (by omega) ((congrFun (hA1 8 (by decide) (by decide)) (4 * (100 * m + k))).trans eo) ?_
    refine y_tsw dX5_make_59 (fun q => absurd q (by decide)) (fun _ _ => ⟨188, 247, rfl, by decide, ?_⟩)
    refine y_aload_n dX5_make_247 rfl ?_
    refine y_iload_n dX5_make_248 rfl ?_
    refine y_puti 5 38 dX5_make_249 rfl rfl rfl hR.1 ?_
    refine y_iconst (v := (-1)) dX5_make_252 (by decide) ?_
    exact y_ret dX5_make_253 rfl rfl (hp _ (by simp only [xRf_u, xRf_f]; first | done | rfl) ((xFrR.f).tr xFrR.f))
  · unfold rMkO at hp
    rw [eo] at hp
    rw [if_neg (by decide), if_neg (by decide), if_neg (by decide), if_neg (by decide), if_neg (by decide), if_neg (by decide), if_neg (by decide), if_pos rfl] at hp
    rw [ea] at hp
    refine y_iconst (v := 4) dX5_make_0 (by decide) ?_
    refine y_bipush (v := 100) dX5_make_1 (by decide) ?_
    refine y_aload_n dX5_make_3 rfl ?_
    refine y_getv 5 37 dX5_make_4 rfl rfl hR.1 h37 ?_
    refine y_imulv (nI (100 * m)) dX5_make_7 (pk_mul (100) (m)) ?_
    refine y_aload_n dX5_make_8 rfl ?_
    refine y_getv 5 38 dX5_make_9 rfl rfl hR.1 h38 ?_
    refine y_iaddv (nI (((100 * m)) + k)) dX5_make_12 (nI_add ((100 * m)) (k)) ?_
    refine y_imulv (nI (4 * ((((100 * m)) + k)))) dX5_make_13 (pk_mul (4) ((((100 * m)) + k))) ?_
    refine y_istore_n dX5_make_14 (by first | (simp; done) | (simp; decide)) (fun x1 e_x1 => ?_)
    subst e_x1
    refine y_aload_n dX5_make_15 rfl ?_
    refine y_getr 5 8 dX5_make_16 rfl rfl hR.1 (r5_8 hR) ?_
    refine y_iload_n dX5_make_19 rfl ?_
    refine y_iconst (v := 1) dX5_make_20 (by decide) ?_
    refine y_iaddv (nI (((4 * ((((100 * m)) + k)))) + 1)) dX5_make_21 (nI_add ((4 * ((((100 * m)) + k)))) (1)) ?_
    refine y_ialdN ((((4 * ((((100 * m)) + k)))) + 1)) dX5_make_22 (k5_8 hR) rfl (by omega) (by omega) ((congrFun (hA 8 (by decide) (by decide)) (4 * (100 * m + k) + 1)).trans ea) ?_
    refine y_istore_n dX5_make_23 (by first | (simp; done) | (simp; decide)) (fun x2 e_x2 => ?_)
    subst e_x2
    refine y_aload_n dX5_make_24 rfl ?_
    refine y_getr 5 8 dX5_make_25 rfl rfl hR.1 (r5_8 hR) ?_
    refine y_iload_n dX5_make_28 rfl ?_
    refine y_iconst (v := 2) dX5_make_29 (by decide) ?_
    refine y_iaddv (nI (((4 * ((((100 * m)) + k)))) + 2)) dX5_make_30 (nI_add ((4 * ((((100 * m)) + k)))) (2)) ?_
    refine y_ialdN ((((4 * ((((100 * m)) + k)))) + 2)) dX5_make_31 (k5_8 hR) rfl (by omega) (by omega) (congrFun (hA 8 (by decide) (by decide)) ((((4 * ((((100 * m)) + k)))) + 2))) ?_
    refine y_istore_n dX5_make_32 (by first | (simp; done) | (simp; decide)) (fun z2 e_z2 => ?_)
    refine y_aload_n dX5_make_33 rfl ?_
    refine y_getr 5 8 dX5_make_34 rfl rfl hR.1 (r5_8 hR) ?_
    refine y_iload_n dX5_make_37 rfl ?_
    refine y_iconst (v := 3) dX5_make_38 (by decide) ?_
    refine y_iaddv (nI (((4 * ((((100 * m)) + k)))) + 3)) dX5_make_39 (nI_add ((4 * ((((100 * m)) + k)))) (3)) ?_
    refine y_ialdN ((((4 * ((((100 * m)) + k)))) + 3)) dX5_make_40 (k5_8 hR) rfl (by omega) (by omega) (congrFun (hA 8 (by decide) (by decide)) ((((4 * ((((100 * m)) + k)))) + 3))) ?_
    refine y_istore dX5_make_41 (by first | (simp; done) | (simp; decide)) (fun z3 e_z3 => ?_)
    refine y_aload_n dX5_make_43 rfl ?_
    refine y_dup dX5_make_44 rfl ?_
    refine y_getv 5 38 dX5_make_45 rfl rfl hR.1 h38 ?_
    refine y_iconst (v := 1) dX5_make_48 (by decide) ?_
    refine y_iaddv (nI (k + 1)) dX5_make_49 (nI_add (k) (1)) ?_
    refine y_puti 5 38 dX5_make_50 rfl rfl rfl hR.1 ?_
    refine y_aload_n dX5_make_53 rfl ?_
    refine y_getr 5 8 dX5_make_54 rfl rfl hR.1 (r5_8 hR) ?_
    refine y_iload_n dX5_make_57 rfl ?_
    refine y_ialdN ((4 * ((((100 * m)) + k)))) dX5_make_58 (k5_8 hR) rfl (by omega) (by omega) ((congrFun (hA1 8 (by decide) (by decide)) (4 * (100 * m + k))).trans eo) ?_
    refine y_tsw dX5_make_59 (fun q => absurd q (by decide)) (fun _ _ => ⟨195, 254, rfl, by decide, ?_⟩)
    refine y_aload_n dX5_make_254 rfl ?_
    refine y_iload_n dX5_make_255 rfl ?_
    refine y_callV1 mX5_callName dX5_make_256 rfl rfl hR.1 (Nat.le_of_ble_eq_true rfl) (krcallName (d := d) (G := G) (ord := ord) hR hA1 hw t12 t15 ho1 ho2 ho3 t36 hdp t32 hde t31 hbd t37 hm ha1 (fun I3 q1 q2 => ?_))
    rw [xRf_f] at q1
    refine y_ret dX5_make_259 rfl rfl ?_
    rw [xRf_f]
    exact hp I3 q1 (xFrR.f.tr q2)
  · unfold rMkO at hp
    rw [eo] at hp
    rw [if_neg (by decide), if_neg (by decide), if_neg (by decide), if_neg (by decide), if_neg (by decide), if_neg (by decide), if_neg (by decide), if_neg (by decide), if_pos rfl] at hp
    rw [ea, eb] at hp
    rw [rN_nI (show a1 < 2 ^ 31 by omega)] at hp
    refine y_iconst (v := 4) dX5_make_0 (by decide) ?_
    refine y_bipush (v := 100) dX5_make_1 (by decide) ?_
    refine y_aload_n dX5_make_3 rfl ?_
    refine y_getv 5 37 dX5_make_4 rfl rfl hR.1 h37 ?_
    refine y_imulv (nI (100 * m)) dX5_make_7 (pk_mul (100) (m)) ?_
    refine y_aload_n dX5_make_8 rfl ?_
    refine y_getv 5 38 dX5_make_9 rfl rfl hR.1 h38 ?_
    refine y_iaddv (nI (((100 * m)) + k)) dX5_make_12 (nI_add ((100 * m)) (k)) ?_
    refine y_imulv (nI (4 * ((((100 * m)) + k)))) dX5_make_13 (pk_mul (4) ((((100 * m)) + k))) ?_
    refine y_istore_n dX5_make_14 (by first | (simp; done) | (simp; decide)) (fun x1 e_x1 => ?_)
    subst e_x1
    refine y_aload_n dX5_make_15 rfl ?_
    refine y_getr 5 8 dX5_make_16 rfl rfl hR.1 (r5_8 hR) ?_
    refine y_iload_n dX5_make_19 rfl ?_
    refine y_iconst (v := 1) dX5_make_20 (by decide) ?_
    refine y_iaddv (nI (((4 * ((((100 * m)) + k)))) + 1)) dX5_make_21 (nI_add ((4 * ((((100 * m)) + k)))) (1)) ?_
    refine y_ialdN ((((4 * ((((100 * m)) + k)))) + 1)) dX5_make_22 (k5_8 hR) rfl (by omega) (by omega) ((congrFun (hA 8 (by decide) (by decide)) (4 * (100 * m + k) + 1)).trans ea) ?_
    refine y_istore_n dX5_make_23 (by first | (simp; done) | (simp; decide)) (fun x2 e_x2 => ?_)
    subst e_x2
    refine y_aload_n dX5_make_24 rfl ?_
    refine y_getr 5 8 dX5_make_25 rfl rfl hR.1 (r5_8 hR) ?_
    refine y_iload_n dX5_make_28 rfl ?_
    refine y_iconst (v := 2) dX5_make_29 (by decide) ?_
    refine y_iaddv (nI (((4 * ((((100 * m)) + k)))) + 2)) dX5_make_30 (nI_add ((4 * ((((100 * m)) + k)))) (2)) ?_
    refine y_ialdN ((((4 * ((((100 * m)) + k)))) + 2)) dX5_make_31 (k5_8 hR) rfl (by omega) (by omega) ((congrFun (hA 8 (by decide) (by decide)) (4 * (100 * m + k) + 2)).trans eb) ?_
    refine y_istore_n dX5_make_32 (by first | (simp; done) | (simp; decide)) (fun x3 e_x3 => ?_)
    subst e_x3
    refine y_aload_n dX5_make_33 rfl ?_
    refine y_getr 5 8 dX5_make_34 rfl rfl hR.1 (r5_8 hR) ?_
    refine y_iload_n dX5_make_37 rfl ?_
    refine y_iconst (v := 3) dX5_make_38 (by decide) ?_
    refine y_iaddv (nI (((4 * ((((100 * m)) + k)))) + 3)) dX5_make_39 (nI_add ((4 * ((((100 * m)) + k)))) (3)) ?_
    refine y_ialdN ((((4 * ((((100 * m)) + k)))) + 3)) dX5_make_40 (k5_8 hR) rfl (by omega) (by omega) (congrFun (hA 8 (by decide) (by decide)) ((((4 * ((((100 * m)) + k)))) + 3))) ?_
    refine y_istore dX5_make_41 (by first | (simp; done) | (simp; decide)) (fun z3 e_z3 => ?_)
    refine y_aload_n dX5_make_43 rfl ?_
    refine y_dup dX5_make_44 rfl ?_
    refine y_getv 5 38 dX5_make_45 rfl rfl hR.1 h38 ?_
    refine y_iconst (v := 1) dX5_make_48 (by decide) ?_
    refine y_iaddv (nI (k + 1)) dX5_make_49 (nI_add (k) (1)) ?_
    refine y_puti 5 38 dX5_make_50 rfl rfl rfl hR.1 ?_
    refine y_aload_n dX5_make_53 rfl ?_
    refine y_getr 5 8 dX5_make_54 rfl rfl hR.1 (r5_8 hR) ?_
    refine y_iload_n dX5_make_57 rfl ?_
    refine y_ialdN ((4 * ((((100 * m)) + k)))) dX5_make_58 (k5_8 hR) rfl (by omega) (by omega) ((congrFun (hA1 8 (by decide) (by decide)) (4 * (100 * m + k))).trans eo) ?_
    refine y_tsw dX5_make_59 (fun q => absurd q (by decide)) (fun _ _ => ⟨201, 260, rfl, by decide, ?_⟩)
    refine y_aload_n dX5_make_260 rfl ?_
    refine y_aload_n dX5_make_261 rfl ?_
    refine y_getr 5 16 dX5_make_262 rfl rfl hR.1 (r5_16 hR) ?_
    refine y_aload_n dX5_make_265 rfl ?_
    refine y_getv 5 15 dX5_make_266 rfl rfl hR.1 t15 ?_
    refine y_aload_n dX5_make_269 rfl ?_
    refine y_getv 5 37 dX5_make_270 rfl rfl hR.1 t37 ?_
    refine y_iload_n dX5_make_273 rfl ?_
    refine y_callV4 mX5_find dX5_make_274 rfl rfl hR.1 (Nat.le_of_ble_eq_true rfl) (kfind (d := d + 1) hR hA1 (k5_16 hR) ho1 ho2 ho3 hm hw (fun ef => ?_) (fun e ef he => ?_))
    · rw [ef] at hp
      refine y_istore dX5_make_277 (by first | (simp; done) | (simp; decide)) (fun x4 e_x4 => ?_)
      subst e_x4
      refine y_aload_n dX5_make_279 rfl ?_
      refine y_getr 5 28 dX5_make_280 rfl rfl hR.1 (r5_28 hR) ?_
      refine y_iload_n dX5_make_283 rfl ?_
      refine y_iload dX5_make_284 rfl ?_
      refine y_iconst (v := (-1)) dX5_make_286 (by decide) ?_
      refine y_icmp_ne 294 dX5_make_287 (by decide) (fun q => absurd q (by decide)) (fun _ => ?_)
      refine y_iconst (v := 0) dX5_make_290 (by decide) ?_
      refine y_goto 301 dX5_make_291 (by decide) ?_
      refine y_iast (a1) dX5_make_301 (k5_28 hR) rfl (by omega) (by omega) ?_
      refine y_iconst (v := (-1)) dX5_make_302 (by decide) ?_
      exact y_ret dX5_make_303 rfl rfl (hp _ (by simp only [xRf_u, xRf_f]; first | done | rfl) ((xFrR.f).tr (xFrR.u (by decide))))
    · rw [ef] at hp
      refine y_istore dX5_make_277 (by first | (simp; done) | (simp; decide)) (fun x5 e_x5 => ?_)
      subst e_x5
      refine y_aload_n dX5_make_279 rfl ?_
      refine y_getr 5 28 dX5_make_280 rfl rfl hR.1 (r5_28 hR) ?_
      refine y_iload_n dX5_make_283 rfl ?_
      refine y_iload dX5_make_284 rfl ?_
      refine y_iconst (v := (-1)) dX5_make_286 (by decide) ?_
      refine y_icmp_ne 294 dX5_make_287 (by decide) (fun _ => ?_) (fun c287 => absurd c287 (nI_m1 (by omega)))
      refine y_aload_n dX5_make_294 rfl ?_
      refine y_getr 5 19 dX5_make_295 rfl rfl hR.1 (r5_19 hR) ?_
      refine y_iload dX5_make_298 rfl ?_
      refine y_ialdN (e) dX5_make_300 (k5_19 hR) rfl (by omega) (by omega) (trow 15 e (by decide)) ?_
      refine y_iast (a1) dX5_make_301 (k5_28 hR) rfl (by omega) (by omega) ?_
      refine y_iconst (v := (-1)) dX5_make_302 (by decide) ?_
      exact y_ret dX5_make_303 rfl rfl (hp _ (by simp only [xRf_u, xRf_f]; first | done | rfl) ((xFrR.f).tr (xFrR.u (by decide))))
  · unfold rMkO at hp
    rw [eo] at hp
    rw [if_neg (by decide), if_neg (by decide), if_neg (by decide), if_neg (by decide), if_neg (by decide), if_neg (by decide), if_neg (by decide), if_neg (by decide), if_neg (by decide), if_pos rfl] at hp
    rw [ea, eb] at hp
    rw [rN_nI (show b1 < 2 ^ 31 by omega)] at hp
    refine y_iconst (v := 4) dX5_make_0 (by decide) ?_
    refine y_bipush (v := 100) dX5_make_1 (by decide) ?_
    refine y_aload_n dX5_make_3 rfl ?_
    refine y_getv 5 37 dX5_make_4 rfl rfl hR.1 h37 ?_
    refine y_imulv (nI (100 * m)) dX5_make_7 (pk_mul (100) (m)) ?_
    refine y_aload_n dX5_make_8 rfl ?_
    refine y_getv 5 38 dX5_make_9 rfl rfl hR.1 h38 ?_
    refine y_iaddv (nI (((100 * m)) + k)) dX5_make_12 (nI_add ((100 * m)) (k)) ?_
    refine y_imulv (nI (4 * ((((100 * m)) + k)))) dX5_make_13 (pk_mul (4) ((((100 * m)) + k))) ?_
    refine y_istore_n dX5_make_14 (by first | (simp; done) | (simp; decide)) (fun x1 e_x1 => ?_)
    subst e_x1
    refine y_aload_n dX5_make_15 rfl ?_
    refine y_getr 5 8 dX5_make_16 rfl rfl hR.1 (r5_8 hR) ?_
    refine y_iload_n dX5_make_19 rfl ?_
    refine y_iconst (v := 1) dX5_make_20 (by decide) ?_
    refine y_iaddv (nI (((4 * ((((100 * m)) + k)))) + 1)) dX5_make_21 (nI_add ((4 * ((((100 * m)) + k)))) (1)) ?_
    refine y_ialdN ((((4 * ((((100 * m)) + k)))) + 1)) dX5_make_22 (k5_8 hR) rfl (by omega) (by omega) ((congrFun (hA 8 (by decide) (by decide)) (4 * (100 * m + k) + 1)).trans ea) ?_
    refine y_istore_n dX5_make_23 (by first | (simp; done) | (simp; decide)) (fun x2 e_x2 => ?_)
    subst e_x2
    refine y_aload_n dX5_make_24 rfl ?_
    refine y_getr 5 8 dX5_make_25 rfl rfl hR.1 (r5_8 hR) ?_
    refine y_iload_n dX5_make_28 rfl ?_
    refine y_iconst (v := 2) dX5_make_29 (by decide) ?_
    refine y_iaddv (nI (((4 * ((((100 * m)) + k)))) + 2)) dX5_make_30 (nI_add ((4 * ((((100 * m)) + k)))) (2)) ?_
    refine y_ialdN ((((4 * ((((100 * m)) + k)))) + 2)) dX5_make_31 (k5_8 hR) rfl (by omega) (by omega) ((congrFun (hA 8 (by decide) (by decide)) (4 * (100 * m + k) + 2)).trans eb) ?_
    refine y_istore_n dX5_make_32 (by first | (simp; done) | (simp; decide)) (fun x3 e_x3 => ?_)
    subst e_x3
    refine y_aload_n dX5_make_33 rfl ?_
    refine y_getr 5 8 dX5_make_34 rfl rfl hR.1 (r5_8 hR) ?_
    refine y_iload_n dX5_make_37 rfl ?_
    refine y_iconst (v := 3) dX5_make_38 (by decide) ?_
    refine y_iaddv (nI (((4 * ((((100 * m)) + k)))) + 3)) dX5_make_39 (nI_add ((4 * ((((100 * m)) + k)))) (3)) ?_
    refine y_ialdN ((((4 * ((((100 * m)) + k)))) + 3)) dX5_make_40 (k5_8 hR) rfl (by omega) (by omega) (congrFun (hA 8 (by decide) (by decide)) ((((4 * ((((100 * m)) + k)))) + 3))) ?_
    refine y_istore dX5_make_41 (by first | (simp; done) | (simp; decide)) (fun z3 e_z3 => ?_)
    refine y_aload_n dX5_make_43 rfl ?_
    refine y_dup dX5_make_44 rfl ?_
    refine y_getv 5 38 dX5_make_45 rfl rfl hR.1 h38 ?_
    refine y_iconst (v := 1) dX5_make_48 (by decide) ?_
    refine y_iaddv (nI (k + 1)) dX5_make_49 (nI_add (k) (1)) ?_
    refine y_puti 5 38 dX5_make_50 rfl rfl rfl hR.1 ?_
    refine y_aload_n dX5_make_53 rfl ?_
    refine y_getr 5 8 dX5_make_54 rfl rfl hR.1 (r5_8 hR) ?_
    refine y_iload_n dX5_make_57 rfl ?_
    refine y_ialdN ((4 * ((((100 * m)) + k)))) dX5_make_58 (k5_8 hR) rfl (by omega) (by omega) ((congrFun (hA1 8 (by decide) (by decide)) (4 * (100 * m + k))).trans eo) ?_
    refine y_tsw dX5_make_59 (fun q => absurd q (by decide)) (fun _ _ => ⟨245, 304, rfl, by decide, ?_⟩)
    refine y_aload_n dX5_make_304 rfl ?_
    refine y_aload_n dX5_make_305 rfl ?_
    refine y_getr 5 16 dX5_make_306 rfl rfl hR.1 (r5_16 hR) ?_
    refine y_aload_n dX5_make_309 rfl ?_
    refine y_getv 5 15 dX5_make_310 rfl rfl hR.1 t15 ?_
    refine y_aload_n dX5_make_313 rfl ?_
    refine y_getv 5 37 dX5_make_314 rfl rfl hR.1 t37 ?_
    refine y_iload_n dX5_make_317 rfl ?_
    refine y_callV4 mX5_find dX5_make_318 rfl rfl hR.1 (Nat.le_of_ble_eq_true rfl) (kfind (d := d + 1) hR hA1 (k5_16 hR) ho1 ho2 ho3 hm hw (fun ef => ?_) (fun e ef he => ?_))
    · rw [ef] at hp
      refine y_istore dX5_make_321 (by first | (simp; done) | (simp; decide)) (fun x4 e_x4 => ?_)
      subst e_x4
      refine y_iload dX5_make_323 rfl ?_
      refine y_iconst (v := (-1)) dX5_make_325 (by decide) ?_
      refine y_icmp_eq 342 dX5_make_326 (by decide) (fun _ => ?_) (fun q => absurd q (by decide))
      refine y_iconst (v := (-1)) dX5_make_342 (by decide) ?_
      exact y_ret dX5_make_343 rfl rfl (hp _ (by simp only [xRf_u, xRf_f]; first | done | rfl) xFrR.f)
    · rw [ef] at hp
      refine y_istore dX5_make_321 (by first | (simp; done) | (simp; decide)) (fun x5 e_x5 => ?_)
      subst e_x5
      refine y_iload dX5_make_323 rfl ?_
      refine y_iconst (v := (-1)) dX5_make_325 (by decide) ?_
      refine y_icmp_eq 342 dX5_make_326 (by decide) (fun c326 => absurd c326 (nI_m1 (by omega))) (fun _ => ?_)
      refine y_aload_n dX5_make_329 rfl ?_
      refine y_getr 5 19 dX5_make_330 rfl rfl hR.1 (r5_19 hR) ?_
      refine y_iload dX5_make_333 rfl ?_
      refine y_aload_n dX5_make_335 rfl ?_
      refine y_getr 5 28 dX5_make_336 rfl rfl hR.1 (r5_28 hR) ?_
      refine y_iload_n dX5_make_339 rfl ?_
      refine y_ialdN (b1) dX5_make_340 (k5_28 hR) rfl (by omega) (by omega) (trow 20 b1 (by decide)) ?_
      refine y_iast (e) dX5_make_341 (k5_19 hR) rfl (by omega) (by omega) ?_
      refine y_iconst (v := (-1)) dX5_make_342 (by decide) ?_
      exact y_ret dX5_make_343 rfl rfl (hp _ (by simp only [xRf_u, xRf_f]; first | done | rfl) ((xFrR.f).tr (xFrR.u (by decide))))
  · unfold rMkO at hp
    rw [eo] at hp
    rw [if_neg (by decide), if_neg (by decide), if_neg (by decide), if_neg (by decide), if_neg (by decide), if_neg (by decide), if_neg (by decide), if_neg (by decide), if_neg (by decide), if_neg (by decide), if_pos rfl] at hp
    rw [ea, eb] at hp
    rw [rN_nI (show a1 < 2 ^ 31 by omega)] at hp
    refine y_iconst (v := 4) dX5_make_0 (by decide) ?_
    refine y_bipush (v := 100) dX5_make_1 (by decide) ?_
    refine y_aload_n dX5_make_3 rfl ?_
    refine y_getv 5 37 dX5_make_4 rfl rfl hR.1 h37 ?_
    refine y_imulv (nI (100 * m)) dX5_make_7 (pk_mul (100) (m)) ?_
    refine y_aload_n dX5_make_8 rfl ?_
    refine y_getv 5 38 dX5_make_9 rfl rfl hR.1 h38 ?_
    refine y_iaddv (nI (((100 * m)) + k)) dX5_make_12 (nI_add ((100 * m)) (k)) ?_
    refine y_imulv (nI (4 * ((((100 * m)) + k)))) dX5_make_13 (pk_mul (4) ((((100 * m)) + k))) ?_
    refine y_istore_n dX5_make_14 (by first | (simp; done) | (simp; decide)) (fun x1 e_x1 => ?_)
    subst e_x1
    refine y_aload_n dX5_make_15 rfl ?_
    refine y_getr 5 8 dX5_make_16 rfl rfl hR.1 (r5_8 hR) ?_
    refine y_iload_n dX5_make_19 rfl ?_
    refine y_iconst (v := 1) dX5_make_20 (by decide) ?_
    refine y_iaddv (nI (((4 * ((((100 * m)) + k)))) + 1)) dX5_make_21 (nI_add ((4 * ((((100 * m)) + k)))) (1)) ?_
    refine y_ialdN ((((4 * ((((100 * m)) + k)))) + 1)) dX5_make_22 (k5_8 hR) rfl (by omega) (by omega) ((congrFun (hA 8 (by decide) (by decide)) (4 * (100 * m + k) + 1)).trans ea) ?_
    refine y_istore_n dX5_make_23 (by first | (simp; done) | (simp; decide)) (fun x2 e_x2 => ?_)
    subst e_x2
    refine y_aload_n dX5_make_24 rfl ?_
    refine y_getr 5 8 dX5_make_25 rfl rfl hR.1 (r5_8 hR) ?_
    refine y_iload_n dX5_make_28 rfl ?_
    refine y_iconst (v := 2) dX5_make_29 (by decide) ?_
    refine y_iaddv (nI (((4 * ((((100 * m)) + k)))) + 2)) dX5_make_30 (nI_add ((4 * ((((100 * m)) + k)))) (2)) ?_
    refine y_ialdN ((((4 * ((((100 * m)) + k)))) + 2)) dX5_make_31 (k5_8 hR) rfl (by omega) (by omega) ((congrFun (hA 8 (by decide) (by decide)) (4 * (100 * m + k) + 2)).trans eb) ?_
    refine y_istore_n dX5_make_32 (by first | (simp; done) | (simp; decide)) (fun x3 e_x3 => ?_)
    subst e_x3
    refine y_aload_n dX5_make_33 rfl ?_
    refine y_getr 5 8 dX5_make_34 rfl rfl hR.1 (r5_8 hR) ?_
    refine y_iload_n dX5_make_37 rfl ?_
    refine y_iconst (v := 3) dX5_make_38 (by decide) ?_
    refine y_iaddv (nI (((4 * ((((100 * m)) + k)))) + 3)) dX5_make_39 (nI_add ((4 * ((((100 * m)) + k)))) (3)) ?_
    refine y_ialdN ((((4 * ((((100 * m)) + k)))) + 3)) dX5_make_40 (k5_8 hR) rfl (by omega) (by omega) (congrFun (hA 8 (by decide) (by decide)) ((((4 * ((((100 * m)) + k)))) + 3))) ?_
    refine y_istore dX5_make_41 (by first | (simp; done) | (simp; decide)) (fun z3 e_z3 => ?_)
    refine y_aload_n dX5_make_43 rfl ?_
    refine y_dup dX5_make_44 rfl ?_
    refine y_getv 5 38 dX5_make_45 rfl rfl hR.1 h38 ?_
    refine y_iconst (v := 1) dX5_make_48 (by decide) ?_
    refine y_iaddv (nI (k + 1)) dX5_make_49 (nI_add (k) (1)) ?_
    refine y_puti 5 38 dX5_make_50 rfl rfl rfl hR.1 ?_
    refine y_aload_n dX5_make_53 rfl ?_
    refine y_getr 5 8 dX5_make_54 rfl rfl hR.1 (r5_8 hR) ?_
    refine y_iload_n dX5_make_57 rfl ?_
    refine y_ialdN ((4 * ((((100 * m)) + k)))) dX5_make_58 (k5_8 hR) rfl (by omega) (by omega) ((congrFun (hA1 8 (by decide) (by decide)) (4 * (100 * m + k))).trans eo) ?_
    refine y_tsw dX5_make_59 (fun q => absurd q (by decide)) (fun _ _ => ⟨285, 344, rfl, by decide, ?_⟩)
    refine y_aload_n dX5_make_344 rfl ?_
    refine y_getr 5 28 dX5_make_345 rfl rfl hR.1 (r5_28 hR) ?_
    refine y_iload_n dX5_make_348 rfl ?_
    refine y_aload_n dX5_make_349 rfl ?_
    refine y_aload_n dX5_make_350 rfl ?_
    refine y_aload_n dX5_make_351 rfl ?_
    refine y_getr 5 16 dX5_make_352 rfl rfl hR.1 (r5_16 hR) ?_
    refine y_aload_n dX5_make_355 rfl ?_
    refine y_getv 5 15 dX5_make_356 rfl rfl hR.1 t15 ?_
    refine y_aload_n dX5_make_359 rfl ?_
    refine y_getv 5 37 dX5_make_360 rfl rfl hR.1 t37 ?_
    refine y_iload_n dX5_make_363 rfl ?_
    refine y_callV4 mX5_find dX5_make_364 rfl rfl hR.1 (Nat.le_of_ble_eq_true rfl) (kfind (d := d + 1) hR hA1 (k5_16 hR) ho1 ho2 ho3 hm hw (fun ef => ?_) (fun e ef he => ?_))
    · rw [ef] at hp
      refine y_callV1 mX5_addressOf dX5_make_367 rfl rfl hR.1 (Nat.le_of_ble_eq_true rfl) (kraddressOf (d := d + 1) (o := none) hR hA1 t12 t15 ho1 ho3 (fun _ h => by cases h) ?_)
      refine y_iast (a1) dX5_make_370 (k5_28 hR) rfl (by omega) (by omega) ?_
      refine y_iconst (v := (-1)) dX5_make_371 (by decide) ?_
      exact y_ret dX5_make_372 rfl rfl (hp _ (by simp only [xRf_u, xRf_f]; first | done | rfl) ((xFrR.f).tr (xFrR.u (by decide))))
    · rw [ef] at hp
      refine y_callV1 mX5_addressOf dX5_make_367 rfl rfl hR.1 (Nat.le_of_ble_eq_true rfl) (kraddressOf (d := d + 1) (o := some e) hR hA1 t12 t15 ho1 ho3 (fun _ h => by cases h; exact he) ?_)
      refine y_iast (a1) dX5_make_370 (k5_28 hR) rfl (by omega) (by omega) ?_
      refine y_iconst (v := (-1)) dX5_make_371 (by decide) ?_
      exact y_ret dX5_make_372 rfl rfl (hp _ (by simp only [xRf_u, xRf_f]; first | done | rfl) ((xFrR.f).tr (xFrR.u (by decide))))
  · unfold rMkO at hp
    rw [eo] at hp
    rw [if_neg (by decide), if_neg (by decide), if_neg (by decide), if_neg (by decide), if_neg (by decide), if_neg (by decide), if_neg (by decide), if_neg (by decide), if_neg (by decide), if_neg (by decide), if_neg (by decide), if_pos rfl] at hp
    rw [ea] at hp
    rw [rN_nI (show a1 < 2 ^ 31 by omega)] at hp
    refine y_iconst (v := 4) dX5_make_0 (by decide) ?_
    refine y_bipush (v := 100) dX5_make_1 (by decide) ?_
    refine y_aload_n dX5_make_3 rfl ?_
    refine y_getv 5 37 dX5_make_4 rfl rfl hR.1 h37 ?_
    refine y_imulv (nI (100 * m)) dX5_make_7 (pk_mul (100) (m)) ?_
    refine y_aload_n dX5_make_8 rfl ?_
    refine y_getv 5 38 dX5_make_9 rfl rfl hR.1 h38 ?_
    refine y_iaddv (nI (((100 * m)) + k)) dX5_make_12 (nI_add ((100 * m)) (k)) ?_
    refine y_imulv (nI (4 * ((((100 * m)) + k)))) dX5_make_13 (pk_mul (4) ((((100 * m)) + k))) ?_
    refine y_istore_n dX5_make_14 (by first | (simp; done) | (simp; decide)) (fun x1 e_x1 => ?_)
    subst e_x1
    refine y_aload_n dX5_make_15 rfl ?_
    refine y_getr 5 8 dX5_make_16 rfl rfl hR.1 (r5_8 hR) ?_
    refine y_iload_n dX5_make_19 rfl ?_
    refine y_iconst (v := 1) dX5_make_20 (by decide) ?_
    refine y_iaddv (nI (((4 * ((((100 * m)) + k)))) + 1)) dX5_make_21 (nI_add ((4 * ((((100 * m)) + k)))) (1)) ?_
    refine y_ialdN ((((4 * ((((100 * m)) + k)))) + 1)) dX5_make_22 (k5_8 hR) rfl (by omega) (by omega) ((congrFun (hA 8 (by decide) (by decide)) (4 * (100 * m + k) + 1)).trans ea) ?_
    refine y_istore_n dX5_make_23 (by first | (simp; done) | (simp; decide)) (fun x2 e_x2 => ?_)
    subst e_x2
    refine y_aload_n dX5_make_24 rfl ?_
    refine y_getr 5 8 dX5_make_25 rfl rfl hR.1 (r5_8 hR) ?_
    refine y_iload_n dX5_make_28 rfl ?_
    refine y_iconst (v := 2) dX5_make_29 (by decide) ?_
    refine y_iaddv (nI (((4 * ((((100 * m)) + k)))) + 2)) dX5_make_30 (nI_add ((4 * ((((100 * m)) + k)))) (2)) ?_
    refine y_ialdN ((((4 * ((((100 * m)) + k)))) + 2)) dX5_make_31 (k5_8 hR) rfl (by omega) (by omega) (congrFun (hA 8 (by decide) (by decide)) ((((4 * ((((100 * m)) + k)))) + 2))) ?_
    refine y_istore_n dX5_make_32 (by first | (simp; done) | (simp; decide)) (fun z2 e_z2 => ?_)
    refine y_aload_n dX5_make_33 rfl ?_
    refine y_getr 5 8 dX5_make_34 rfl rfl hR.1 (r5_8 hR) ?_
    refine y_iload_n dX5_make_37 rfl ?_
    refine y_iconst (v := 3) dX5_make_38 (by decide) ?_
    refine y_iaddv (nI (((4 * ((((100 * m)) + k)))) + 3)) dX5_make_39 (nI_add ((4 * ((((100 * m)) + k)))) (3)) ?_
    refine y_ialdN ((((4 * ((((100 * m)) + k)))) + 3)) dX5_make_40 (k5_8 hR) rfl (by omega) (by omega) (congrFun (hA 8 (by decide) (by decide)) ((((4 * ((((100 * m)) + k)))) + 3))) ?_
    refine y_istore dX5_make_41 (by first | (simp; done) | (simp; decide)) (fun z3 e_z3 => ?_)
    refine y_aload_n dX5_make_43 rfl ?_
    refine y_dup dX5_make_44 rfl ?_
    refine y_getv 5 38 dX5_make_45 rfl rfl hR.1 h38 ?_
    refine y_iconst (v := 1) dX5_make_48 (by decide) ?_
    refine y_iaddv (nI (k + 1)) dX5_make_49 (nI_add (k) (1)) ?_
    refine y_puti 5 38 dX5_make_50 rfl rfl rfl hR.1 ?_
    refine y_aload_n dX5_make_53 rfl ?_
    refine y_getr 5 8 dX5_make_54 rfl rfl hR.1 (r5_8 hR) ?_
    refine y_iload_n dX5_make_57 rfl ?_
    refine y_ialdN ((4 * ((((100 * m)) + k)))) dX5_make_58 (k5_8 hR) rfl (by omega) (by omega) ((congrFun (hA1 8 (by decide) (by decide)) (4 * (100 * m + k))).trans eo) ?_
    refine y_tsw dX5_make_59 (fun q => absurd q (by decide)) (fun _ _ => ⟨314, 373, rfl, by decide, ?_⟩)
    refine y_aload_n dX5_make_373 rfl ?_
    refine y_aload_n dX5_make_374 rfl ?_
    refine y_aload_n dX5_make_375 rfl ?_
    refine y_getr 5 28 dX5_make_376 rfl rfl hR.1 (r5_28 hR) ?_
    refine y_iload_n dX5_make_379 rfl ?_
    refine y_ialdN (a1) dX5_make_380 (k5_28 hR) rfl (by omega) (by omega) (trow 20 a1 (by decide)) ?_
    refine y_callV1 mX5_atAddress dX5_make_381 rfl rfl hR.1 (Nat.le_of_ble_eq_true rfl) (katAddress (d := d + 2) hR hA1 hw t15 ho1 ho2 ho3 (fun ef => ?_) (fun e ef => ?_))
    · rw [show rAt G ord (xRf I R 20 a1) = none from ef] at hp
      refine y_callV1 mX5_call dX5_make_384 rfl rfl hR.1 (Nat.le_of_ble_eq_true rfl) (krcall (d := d + 2) (G := G) (o := none) hR hA1 t36 hdp t32 hde (fun _ h => by cases h) (fun I3 q1 q2 => ?_))
      rw [xRf_f] at q1
      refine y_ret dX5_make_387 rfl rfl ?_
      rw [xRf_f]
      exact hp I3 q1 (xFrR.f.tr q2)
    · rw [show rAt G ord (xRf I R 20 a1) = some e from ef] at hp
      have he := rAt_lt hw ho2 ef
      refine y_callV1 mX5_call dX5_make_384 rfl rfl hR.1 (Nat.le_of_ble_eq_true rfl) (krcall (d := d + 2) (G := G) (o := some e) hR hA1 t36 hdp t32 hde (fun _ h => by cases h; exact he) (fun I3 q1 q2 => ?_))
      rw [xRf_f] at q1
      refine y_ret dX5_make_387 rfl rfl ?_
      rw [xRf_f]
      exact hp I3 q1 (xFrR.f.tr q2)
  · unfold rMkO at hp
    rw [eo] at hp
    rw [if_neg (by decide), if_neg (by decide), if_neg (by decide), if_neg (by decide), if_neg (by decide), if_neg (by decide), if_neg (by decide), if_neg (by decide), if_neg (by decide), if_neg (by decide), if_neg (by decide), if_neg (by decide), if_pos rfl] at hp
    simp only [u36] at hp
    refine y_iconst (v := 4) dX5_make_0 (by decide) ?_
    refine y_bipush (v := 100) dX5_make_1 (by decide) ?_
    refine y_aload_n dX5_make_3 rfl ?_
    refine y_getv 5 37 dX5_make_4 rfl rfl hR.1 h37 ?_
    refine y_imulv (nI (100 * m)) dX5_make_7 (pk_mul (100) (m)) ?_
    refine y_aload_n dX5_make_8 rfl ?_
    refine y_getv 5 38 dX5_make_9 rfl rfl hR.1 h38 ?_
    refine y_iaddv (nI (((100 * m)) + k)) dX5_make_12 (nI_add ((100 * m)) (k)) ?_
    refine y_imulv (nI (4 * ((((100 * m)) + k)))) dX5_make_13 (pk_mul (4) ((((100 * m)) + k))) ?_
    refine y_istore_n dX5_make_14 (by first | (simp; done) | (simp; decide)) (fun x1 e_x1 => ?_)
    subst e_x1
    refine y_aload_n dX5_make_15 rfl ?_
    refine y_getr 5 8 dX5_make_16 rfl rfl hR.1 (r5_8 hR) ?_
    refine y_iload_n dX5_make_19 rfl ?_
    refine y_iconst (v := 1) dX5_make_20 (by decide) ?_
    refine y_iaddv (nI (((4 * ((((100 * m)) + k)))) + 1)) dX5_make_21 (nI_add ((4 * ((((100 * m)) + k)))) (1)) ?_
    refine y_ialdN ((((4 * ((((100 * m)) + k)))) + 1)) dX5_make_22 (k5_8 hR) rfl (by omega) (by omega) (congrFun (hA 8 (by decide) (by decide)) ((((4 * ((((100 * m)) + k)))) + 1))) ?_
    refine y_istore_n dX5_make_23 (by first | (simp; done) | (simp; decide)) (fun z1 e_z1 => ?_)
    refine y_aload_n dX5_make_24 rfl ?_
    refine y_getr 5 8 dX5_make_25 rfl rfl hR.1 (r5_8 hR) ?_
    refine y_iload_n dX5_make_28 rfl ?_
    refine y_iconst (v := 2) dX5_make_29 (by decide) ?_
    refine y_iaddv (nI (((4 * ((((100 * m)) + k)))) + 2)) dX5_make_30 (nI_add ((4 * ((((100 * m)) + k)))) (2)) ?_
    refine y_ialdN ((((4 * ((((100 * m)) + k)))) + 2)) dX5_make_31 (k5_8 hR) rfl (by omega) (by omega) (congrFun (hA 8 (by decide) (by decide)) ((((4 * ((((100 * m)) + k)))) + 2))) ?_
    refine y_istore_n dX5_make_32 (by first | (simp; done) | (simp; decide)) (fun z2 e_z2 => ?_)
    refine y_aload_n dX5_make_33 rfl ?_
    refine y_getr 5 8 dX5_make_34 rfl rfl hR.1 (r5_8 hR) ?_
    refine y_iload_n dX5_make_37 rfl ?_
    refine y_iconst (v := 3) dX5_make_38 (by decide) ?_
    refine y_iaddv (nI (((4 * ((((100 * m)) + k)))) + 3)) dX5_make_39 (nI_add ((4 * ((((100 * m)) + k)))) (3)) ?_
    refine y_ialdN ((((4 * ((((100 * m)) + k)))) + 3)) dX5_make_40 (k5_8 hR) rfl (by omega) (by omega) (congrFun (hA 8 (by decide) (by decide)) ((((4 * ((((100 * m)) + k)))) + 3))) ?_
    refine y_istore dX5_make_41 (by first | (simp; done) | (simp; decide)) (fun z3 e_z3 => ?_)
    refine y_aload_n dX5_make_43 rfl ?_
    refine y_dup dX5_make_44 rfl ?_
    refine y_getv 5 38 dX5_make_45 rfl rfl hR.1 h38 ?_
    refine y_iconst (v := 1) dX5_make_48 (by decide) ?_
    refine y_iaddv (nI (k + 1)) dX5_make_49 (nI_add (k) (1)) ?_
    refine y_puti 5 38 dX5_make_50 rfl rfl rfl hR.1 ?_
    refine y_aload_n dX5_make_53 rfl ?_
    refine y_getr 5 8 dX5_make_54 rfl rfl hR.1 (r5_8 hR) ?_
    refine y_iload_n dX5_make_57 rfl ?_
    refine y_ialdN ((4 * ((((100 * m)) + k)))) dX5_make_58 (k5_8 hR) rfl (by omega) (by omega) ((congrFun (hA1 8 (by decide) (by decide)) (4 * (100 * m + k))).trans eo) ?_
    refine y_tsw dX5_make_59 (fun q => absurd q (by decide)) (fun _ _ => ⟨329, 388, rfl, by decide, ?_⟩)
    refine y_aload_n dX5_make_388 rfl ?_
    refine y_dup dX5_make_389 rfl ?_
    refine y_getv 5 36 dX5_make_390 rfl rfl hR.1 t36 ?_
    refine y_iconst (v := 1) dX5_make_393 (by decide) ?_
    refine y_isubv ((nI (dp - 1))) dX5_make_394 (pk_sub (b := 1) (by omega)) ?_
    refine y_puti 5 36 dX5_make_395 rfl rfl rfl hR.1 ?_
    refine y_aload_n dX5_make_398 rfl ?_
    refine y_aload_n dX5_make_399 rfl ?_
    refine y_getr 5 34 dX5_make_400 rfl rfl hR.1 (r5_34 hR) ?_
    refine y_aload_n dX5_make_403 rfl ?_
    refine y_getv 5 36 dX5_make_404 rfl rfl hR.1 xuI_s ?_
    refine y_ialdN ((dp - 1)) dX5_make_407 (k5_34 hR) rfl (by omega) (by omega) (show (xuI (xuI I R 38 (nI (k + 1))) R 36 (nI (dp - 1))) (R + 22) (dp - 1) = I (R + 22) (dp - 1) by rw [xuI_o (Or.inl (by omega)), xuI_o (Or.inl (by omega))]) ?_
    refine y_puti 5 37 dX5_make_408 rfl rfl rfl hR.1 ?_
    refine y_aload_n dX5_make_411 rfl ?_
    refine y_aload_n dX5_make_412 rfl ?_
    refine y_getr 5 35 dX5_make_413 rfl rfl hR.1 (r5_35 hR) ?_
    refine y_aload_n dX5_make_416 rfl ?_
    refine y_getv 5 36 dX5_make_417 rfl rfl hR.1 (show xuI (xuI (xuI I R 38 (nI (k + 1))) R 36 (nI (dp - 1))) R 37 (I (R + 22) (dp - 1)) R 36 = nI (dp - 1) by rw [xuI_o (Or.inr (by decide)), xuI_s]) ?_
    refine y_ialdN ((dp - 1)) dX5_make_420 (k5_35 hR) rfl (by omega) (by omega) (show xuI (xuI (xuI I R 38 (nI (k + 1))) R 36 (nI (dp - 1))) R 37 (I (R + 22) (dp - 1)) (R + 23) (dp - 1) = I (R + 23) (dp - 1) by rw [xuI_o (Or.inl (by omega)), xuI_o (Or.inl (by omega)), xuI_o (Or.inl (by omega))]) ?_
    refine y_puti 5 38 dX5_make_421 rfl rfl rfl hR.1 ?_
    refine y_iconst (v := (-1)) dX5_make_424 (by decide) ?_
    exact y_ret dX5_make_425 rfl rfl (hp _ (by simp only [xRf_u, xRf_f]; first | done | rfl) ((((xFrR.f).tr xFrR.f).tr xFrR.f).tr xFrR.f))
  · unfold rMkO at hp
    rw [eo] at hp
    rw [if_neg (by decide), if_neg (by decide), if_neg (by decide), if_neg (by decide), if_neg (by decide), if_neg (by decide), if_neg (by decide), if_neg (by decide), if_neg (by decide), if_neg (by decide), if_neg (by decide), if_neg (by decide), if_neg (by decide), if_pos rfl] at hp
    rw [ea] at hp
    rw [rN_nI (show a1 < 2 ^ 31 by omega)] at hp
    rw [u30] at hp
    refine y_iconst (v := 4) dX5_make_0 (by decide) ?_
    refine y_bipush (v := 100) dX5_make_1 (by decide) ?_
    refine y_aload_n dX5_make_3 rfl ?_
    refine y_getv 5 37 dX5_make_4 rfl rfl hR.1 h37 ?_
    refine y_imulv (nI (100 * m)) dX5_make_7 (pk_mul (100) (m)) ?_
    refine y_aload_n dX5_make_8 rfl ?_
    refine y_getv 5 38 dX5_make_9 rfl rfl hR.1 h38 ?_
    refine y_iaddv (nI (((100 * m)) + k)) dX5_make_12 (nI_add ((100 * m)) (k)) ?_
    refine y_imulv (nI (4 * ((((100 * m)) + k)))) dX5_make_13 (pk_mul (4) ((((100 * m)) + k))) ?_
    refine y_istore_n dX5_make_14 (by first | (simp; done) | (simp; decide)) (fun x1 e_x1 => ?_)
    subst e_x1
    refine y_aload_n dX5_make_15 rfl ?_
    refine y_getr 5 8 dX5_make_16 rfl rfl hR.1 (r5_8 hR) ?_
    refine y_iload_n dX5_make_19 rfl ?_
    refine y_iconst (v := 1) dX5_make_20 (by decide) ?_
    refine y_iaddv (nI (((4 * ((((100 * m)) + k)))) + 1)) dX5_make_21 (nI_add ((4 * ((((100 * m)) + k)))) (1)) ?_
    refine y_ialdN ((((4 * ((((100 * m)) + k)))) + 1)) dX5_make_22 (k5_8 hR) rfl (by omega) (by omega) ((congrFun (hA 8 (by decide) (by decide)) (4 * (100 * m + k) + 1)).trans ea) ?_
    refine y_istore_n dX5_make_23 (by first | (simp; done) | (simp; decide)) (fun x2 e_x2 => ?_)
    subst e_x2
    refine y_aload_n dX5_make_24 rfl ?_
    refine y_getr 5 8 dX5_make_25 rfl rfl hR.1 (r5_8 hR) ?_
    refine y_iload_n dX5_make_28 rfl ?_
    refine y_iconst (v := 2) dX5_make_29 (by decide) ?_
    refine y_iaddv (nI (((4 * ((((100 * m)) + k)))) + 2)) dX5_make_30 (nI_add ((4 * ((((100 * m)) + k)))) (2)) ?_
    refine y_ialdN ((((4 * ((((100 * m)) + k)))) + 2)) dX5_make_31 (k5_8 hR) rfl (by omega) (by omega) (congrFun (hA 8 (by decide) (by decide)) ((((4 * ((((100 * m)) + k)))) + 2))) ?_
    refine y_istore_n dX5_make_32 (by first | (simp; done) | (simp; decide)) (fun z2 e_z2 => ?_)
    refine y_aload_n dX5_make_33 rfl ?_
    refine y_getr 5 8 dX5_make_34 rfl rfl hR.1 (r5_8 hR) ?_
    refine y_iload_n dX5_make_37 rfl ?_
    refine y_iconst (v := 3) dX5_make_38 (by decide) ?_
    refine y_iaddv (nI (((4 * ((((100 * m)) + k)))) + 3)) dX5_make_39 (nI_add ((4 * ((((100 * m)) + k)))) (3)) ?_
    refine y_ialdN ((((4 * ((((100 * m)) + k)))) + 3)) dX5_make_40 (k5_8 hR) rfl (by omega) (by omega) (congrFun (hA 8 (by decide) (by decide)) ((((4 * ((((100 * m)) + k)))) + 3))) ?_
    refine y_istore dX5_make_41 (by first | (simp; done) | (simp; decide)) (fun z3 e_z3 => ?_)
    refine y_aload_n dX5_make_43 rfl ?_
    refine y_dup dX5_make_44 rfl ?_
    refine y_getv 5 38 dX5_make_45 rfl rfl hR.1 h38 ?_
    refine y_iconst (v := 1) dX5_make_48 (by decide) ?_
    refine y_iaddv (nI (k + 1)) dX5_make_49 (nI_add (k) (1)) ?_
    refine y_puti 5 38 dX5_make_50 rfl rfl rfl hR.1 ?_
    refine y_aload_n dX5_make_53 rfl ?_
    refine y_getr 5 8 dX5_make_54 rfl rfl hR.1 (r5_8 hR) ?_
    refine y_iload_n dX5_make_57 rfl ?_
    refine y_ialdN ((4 * ((((100 * m)) + k)))) dX5_make_58 (k5_8 hR) rfl (by omega) (by omega) ((congrFun (hA1 8 (by decide) (by decide)) (4 * (100 * m + k))).trans eo) ?_
    refine y_tsw dX5_make_59 (fun q => absurd q (by decide)) (fun _ _ => ⟨367, 426, rfl, by decide, ?_⟩)
    refine y_aload_n dX5_make_426 rfl ?_
    refine y_getv 5 30 dX5_make_427 rfl rfl hR.1 t30 ?_
    refine y_bipush (v := 60) dX5_make_430 (by decide) ?_
    refine y_icmpN_ge 450 (sd) (60) dX5_make_432 (by decide) rfl rfl (by omega) (by omega) (fun c432 => ?_) (fun c432 => ?_)
    · refine y_aload_n dX5_make_450 rfl ?_
      refine y_dup dX5_make_451 rfl ?_
      refine y_getv 5 30 dX5_make_452 rfl rfl hR.1 t30 ?_
      refine y_iconst (v := 1) dX5_make_455 (by decide) ?_
      refine y_iaddv (nI (sd + 1)) dX5_make_456 (nI_add (sd) (1)) ?_
      refine y_puti 5 30 dX5_make_457 rfl rfl rfl hR.1 ?_
      refine y_iconst (v := (-1)) dX5_make_460 (by decide) ?_
      rw [if_neg (by omega)] at hp
      exact y_ret dX5_make_461 rfl rfl (hp _ (by simp only [xRf_u, xRf_f]; first | done | rfl) ((xFrR.f).tr xFrR.f))
    · refine y_aload_n dX5_make_435 rfl ?_
      refine y_getr 5 33 dX5_make_436 rfl rfl hR.1 (r5_33 hR) ?_
      refine y_aload_n dX5_make_439 rfl ?_
      refine y_getv 5 30 dX5_make_440 rfl rfl hR.1 t30 ?_
      refine y_aload_n dX5_make_443 rfl ?_
      refine y_getr 5 28 dX5_make_444 rfl rfl hR.1 (r5_28 hR) ?_
      refine y_iload_n dX5_make_447 rfl ?_
      refine y_ialdN (a1) dX5_make_448 (k5_28 hR) rfl (by omega) (by omega) (trow 20 a1 (by decide)) ?_
      refine y_iast (sd) dX5_make_449 (k5_33 hR) rfl (by omega) (by omega) ?_
      refine y_aload_n dX5_make_450 rfl ?_
      refine y_dup dX5_make_451 rfl ?_
      refine y_getv 5 30 dX5_make_452 rfl rfl hR.1 (show xuI (xuI I R 38 (nI (k + 1))) (R + 21) sd (I (R + 20) a1) R 30 = nI sd by rw [xuI_o (Or.inl (by omega))]; exact t30) ?_
      refine y_iconst (v := 1) dX5_make_455 (by decide) ?_
      refine y_iaddv (nI (sd + 1)) dX5_make_456 (nI_add (sd) (1)) ?_
      refine y_puti 5 30 dX5_make_457 rfl rfl rfl hR.1 ?_
      refine y_iconst (v := (-1)) dX5_make_460 (by decide) ?_
      rw [if_pos (by omega)] at hp
      exact y_ret dX5_make_461 rfl rfl (hp _ (by simp only [xRf_u, xRf_f]; first | done | rfl) (((xFrR.f).tr (xFrR.u (by decide))).tr xFrR.f))
  · unfold rMkO at hp
    rw [eo] at hp
    rw [if_neg (by decide), if_neg (by decide), if_neg (by decide), if_neg (by decide), if_neg (by decide), if_neg (by decide), if_neg (by decide), if_neg (by decide), if_neg (by decide), if_neg (by decide), if_neg (by decide), if_neg (by decide), if_neg (by decide), if_neg (by decide)] at hp
    refine y_iconst (v := 4) dX5_make_0 (by decide) ?_
    refine y_bipush (v := 100) dX5_make_1 (by decide) ?_
    refine y_aload_n dX5_make_3 rfl ?_
    refine y_getv 5 37 dX5_make_4 rfl rfl hR.1 h37 ?_
    refine y_imulv (nI (100 * m)) dX5_make_7 (pk_mul (100) (m)) ?_
    refine y_aload_n dX5_make_8 rfl ?_
    refine y_getv 5 38 dX5_make_9 rfl rfl hR.1 h38 ?_
    refine y_iaddv (nI (((100 * m)) + k)) dX5_make_12 (nI_add ((100 * m)) (k)) ?_
    refine y_imulv (nI (4 * ((((100 * m)) + k)))) dX5_make_13 (pk_mul (4) ((((100 * m)) + k))) ?_
    refine y_istore_n dX5_make_14 (by first | (simp; done) | (simp; decide)) (fun x1 e_x1 => ?_)
    subst e_x1
    refine y_aload_n dX5_make_15 rfl ?_
    refine y_getr 5 8 dX5_make_16 rfl rfl hR.1 (r5_8 hR) ?_
    refine y_iload_n dX5_make_19 rfl ?_
    refine y_iconst (v := 1) dX5_make_20 (by decide) ?_
    refine y_iaddv (nI (((4 * ((((100 * m)) + k)))) + 1)) dX5_make_21 (nI_add ((4 * ((((100 * m)) + k)))) (1)) ?_
    refine y_ialdN ((((4 * ((((100 * m)) + k)))) + 1)) dX5_make_22 (k5_8 hR) rfl (by omega) (by omega) (congrFun (hA 8 (by decide) (by decide)) ((((4 * ((((100 * m)) + k)))) + 1))) ?_
    refine y_istore_n dX5_make_23 (by first | (simp; done) | (simp; decide)) (fun z1 e_z1 => ?_)
    refine y_aload_n dX5_make_24 rfl ?_
    refine y_getr 5 8 dX5_make_25 rfl rfl hR.1 (r5_8 hR) ?_
    refine y_iload_n dX5_make_28 rfl ?_
    refine y_iconst (v := 2) dX5_make_29 (by decide) ?_
    refine y_iaddv (nI (((4 * ((((100 * m)) + k)))) + 2)) dX5_make_30 (nI_add ((4 * ((((100 * m)) + k)))) (2)) ?_
    refine y_ialdN ((((4 * ((((100 * m)) + k)))) + 2)) dX5_make_31 (k5_8 hR) rfl (by omega) (by omega) (congrFun (hA 8 (by decide) (by decide)) ((((4 * ((((100 * m)) + k)))) + 2))) ?_
    refine y_istore_n dX5_make_32 (by first | (simp; done) | (simp; decide)) (fun z2 e_z2 => ?_)
    refine y_aload_n dX5_make_33 rfl ?_
    refine y_getr 5 8 dX5_make_34 rfl rfl hR.1 (r5_8 hR) ?_
    refine y_iload_n dX5_make_37 rfl ?_
    refine y_iconst (v := 3) dX5_make_38 (by decide) ?_
    refine y_iaddv (nI (((4 * ((((100 * m)) + k)))) + 3)) dX5_make_39 (nI_add ((4 * ((((100 * m)) + k)))) (3)) ?_
    refine y_ialdN ((((4 * ((((100 * m)) + k)))) + 3)) dX5_make_40 (k5_8 hR) rfl (by omega) (by omega) (congrFun (hA 8 (by decide) (by decide)) ((((4 * ((((100 * m)) + k)))) + 3))) ?_
    refine y_istore dX5_make_41 (by first | (simp; done) | (simp; decide)) (fun z3 e_z3 => ?_)
    refine y_aload_n dX5_make_43 rfl ?_
    refine y_dup dX5_make_44 rfl ?_
    refine y_getv 5 38 dX5_make_45 rfl rfl hR.1 h38 ?_
    refine y_iconst (v := 1) dX5_make_48 (by decide) ?_
    refine y_iaddv (nI (k + 1)) dX5_make_49 (nI_add (k) (1)) ?_
    refine y_puti 5 38 dX5_make_50 rfl rfl rfl hR.1 ?_
    refine y_aload_n dX5_make_53 rfl ?_
    refine y_getr 5 8 dX5_make_54 rfl rfl hR.1 (r5_8 hR) ?_
    refine y_iload_n dX5_make_57 rfl ?_
    refine y_ialdN ((4 * ((((100 * m)) + k)))) dX5_make_58 (k5_8 hR) rfl (by omega) (by omega) ((congrFun (hA1 8 (by decide) (by decide)) (4 * (100 * m + k))).trans eo) ?_
    refine y_tsw dX5_make_59 (fun _ => ⟨462, by decide, ?_⟩) (fun q1 q2 => absurd (show ¬ (¬ (14 : Int32).toInt < 0 ∧ ¬ 13 < (14 : Int32).toInt) by decide) (fun w => w ⟨q1, q2⟩))
    refine y_iconst (v := 0) dX5_make_462 (by decide) ?_
    exact y_ret dX5_make_463 rfl rfl (hp _ (by simp only [xRf_u, xRf_f]; first | done | rfl) xFrR.f)
