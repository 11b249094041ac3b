def xuF (I : Nat → Nat → Int32) (f : Nat) (e m s v : Int32) : Nat → Nat → Int32 := xuI (xuI (xuI (xuI I f 0 e) f 1 m) f 2 s) f 3 v
theorem xuF_ne {I : Nat → Nat → Int32} {f a : Nat} {e m s v : Int32} (h : a ≠ f) : xuF I f e m s v a = I a := by unfold xuF; rw [xuI_ne h, xuI_ne h, xuI_ne h, xuI_ne h]
theorem xuF_0 {I : Nat → Nat → Int32} {f : Nat} {e m s v : Int32} : xuF I f e m s v f 0 = e := by simp [xuF, xuI]
theorem sFi_4 {G : xX} {ord : List Nat} {m e : Nat} {x : Int32} (hw : ∀ m, m < 12 → wfM G m) (ho : ∀ q ∈ ord, q < 12) (hm : m ∈ ord) (h : sFi G ord m x = some e) : ∃ q, q ∈ ord ∧ sOf G q x = some e ∧ oM (some e) = nI q := by
  obtain ⟨q, hq, hs⟩ := sFi_mem hm h
  exact ⟨q, hq, hs, oM_some (hw q (ho q hq)) (ho q hq) hs⟩
theorem klookAtUse {d : Nat} {Pp : Option Value → xH → Prop} {K : Nat → Nat × Nat} {I : Nat → Nat → Int32} {P : Nat → Nat → Option Nat} {n s : Nat} {o L m v : Nat} {G : xX} {ord : List Nat} {x2 : Int32} {fn : Bool} (hS : xSL K P o L (gC G)) (hF : xAt K P (o + 1) 0) (hM : xMos I G o) (hw : ∀ m, m < 12 → wfM G m) (ho : xLo I G L ord) (hG : xLg I G L ord) (hm : m ∈ ord) (hv : v < 64) (h0 : sUse G ord m (nI v) fn = 0 → Pp none (K, I, P, n, s)) (h1 : ∀ e, sUse G ord m (nI v) fn = e → e = 1 ∨ e = 2 → Pp none (K, xuF I (o + 1) e (nI m) x2 (nI v), P, n, s)) : xC (d + 2) mX1_lookAtUse [(.ref L), (.int (nI m)), (.int x2), (.int (nI v)), (.int (bI (!fn))), (.ref (o + 1))] (K, I, P, n, s) Pp := by
  refine y_met 0 0 ?_
  show xB (d + 2) 1 cX1_lookAtUse none false (xE n s 0 0 Pp) 0 [some (.ref L), some (.int (nI m)), some (.int x2), some (.int (nI v)), some (.int (bI (!fn))), some (.ref (o + 1)), none] [] (K, I, P, n, s)
  have hc := hS.2.2.2.1
  have ho12 : ∀ q ∈ ord, q < 12 := fun q hq => by have := ho.2.2.2.2.2 q hq; omega
  have hmc := ho.2.2.2.2.2 m hm
  have hm12 := ho12 m hm
  have hu : sUse G ord m (nI v) fn = match sFi G ord m (nI v) with
    | none => if G 10 (64 * m + v) = 0 then 1 else 0
    | some d => if decide (G 4 d = 0) = fn then 0 else 2 := by
    unfold sUse
    rw [nI_clamp (by omega)]
    all_goals (cases sFi G ord m (nI v) <;> rfl)
  refine y_iload_n dX1_lookAtUse_0 rfl ?_
  refine y_iconst (v := (-1)) dX1_lookAtUse_1 (by decide) ?_
  refine y_icmp_ne 6 dX1_lookAtUse_2 (by decide) (fun _ => ?_) (fun c2 => absurd c2 (nI_m1 (by omega)))
  refine y_aload_n dX1_lookAtUse_6 rfl ?_
  refine y_iload_n dX1_lookAtUse_7 rfl ?_
  refine y_iload_n dX1_lookAtUse_8 rfl ?_
  refine y_callV2 mX1_giverOf dX1_lookAtUse_9 rfl rfl hS.1.1 (Nat.le_of_ble_eq_true rfl) (kgiverOf (d := d) hS hM hG hw hmc hv ?_)
  refine y_istore dX1_lookAtUse_12 (by first | (simp; done) | (simp; decide)) (fun x6 e_x6 => ?_)
  cases hf : sFi G ord m (nI v) with
  | none =>
    rw [hf] at hu e_x6
    simp only at hu
    obtain rfl : x6 = 20 := e_x6
    refine y_aload_n dX1_lookAtUse_14 rfl ?_
    refine y_iload dX1_lookAtUse_15 rfl ?_
    refine y_callV1 mX1_holds dX1_lookAtUse_17 rfl rfl hS.1.1 (Nat.le_of_ble_eq_true rfl) (kholds (d := d + 1) hS.1 ho hc (fun q hq e => absurd e (fun e => by have := ho12 q hq; have := nI_inj (by decide) (by omega) (show nI 20 = nI q from e); omega)) (fun _ => ?_))
    refine y_if_ne 49 dX1_lookAtUse_20 (by decide) (fun q => absurd q (by decide)) (fun _ => ?_)
    refine y_aload_n dX1_lookAtUse_23 rfl ?_
    refine y_getr 1 0 dX1_lookAtUse_24 rfl rfl hS.1.1 hS.2.1 ?_
    refine y_iload_n dX1_lookAtUse_27 rfl ?_
    refine y_aald (m) dX1_lookAtUse_28 hS.2.2.1 rfl (by omega) (by omega) (hS.2.2.2.2.1 (m) hmc).1 ?_
    refine y_getr 2 7 dX1_lookAtUse_29 rfl rfl (hS.2.2.2.2.1 (m) hmc).2.1 (r2_7 (hS.2.2.2.2.1 (m) hmc).2) ?_
    refine y_iload_n dX1_lookAtUse_32 rfl ?_
    refine y_baldN (v) dX1_lookAtUse_33 (k2_7 (hS.2.2.2.2.1 (m) hmc).2) rfl (by omega) (by omega) ((hM m hmc).op v hv) ?_
    refine y_if_ne 75 dX1_lookAtUse_34 (by decide) (fun c34 => ?_) (fun c34 => ?_)
    · exact y_retv dX1_lookAtUse_75 rfl rfl (h0 (hu.trans (if_neg c34)))
    · refine y_aload dX1_lookAtUse_37 rfl ?_
      refine y_iconst (v := 1) dX1_lookAtUse_39 (by decide) ?_
      refine y_iload_n dX1_lookAtUse_40 rfl ?_
      refine y_iload_n dX1_lookAtUse_41 rfl ?_
      refine y_iload_n dX1_lookAtUse_42 rfl ?_
      refine y_callV4 mX0_become dX1_lookAtUse_43 rfl rfl hF.1 (Nat.le_of_ble_eq_true rfl) (kX0_become hF.1 ?_)
      refine y_goto 75 dX1_lookAtUse_46 (by decide) ?_
      exact y_retv dX1_lookAtUse_75 rfl rfl (h1 1 (hu.trans (if_pos c34)) (Or.inl rfl))
  | some e =>
    rw [hf] at hu e_x6
    simp only at hu
    obtain ⟨q, hq, hs, hqe⟩ := sFi_4 hw ho12 hm hf
    rw [hqe] at e_x6
    subst e_x6
    have hqc := ho.2.2.2.2.2 q hq
    refine y_aload_n dX1_lookAtUse_14 rfl ?_
    refine y_iload dX1_lookAtUse_15 rfl ?_
    refine y_callV1 mX1_holds dX1_lookAtUse_17 rfl rfl hS.1.1 (Nat.le_of_ble_eq_true rfl) (kholds (d := d + 1) hS.1 ho hc (fun _ _ _ => ?_) (fun hn => absurd rfl (hn q hq)))
    refine y_if_ne 49 dX1_lookAtUse_20 (by decide) (fun _ => ?_) (fun q => absurd q (by decide))
    refine y_aload_n dX1_lookAtUse_49 rfl ?_
    refine y_getr 1 0 dX1_lookAtUse_50 rfl rfl hS.1.1 hS.2.1 ?_
    refine y_iload dX1_lookAtUse_53 rfl ?_
    refine y_aald (q) dX1_lookAtUse_55 hS.2.2.1 rfl (by omega) (by omega) (hS.2.2.2.2.1 (q) hqc).1 ?_
    refine y_getr 2 2 dX1_lookAtUse_56 rfl rfl (hS.2.2.2.2.1 (q) hqc).2.1 (r2_2 (hS.2.2.2.2.1 (q) hqc).2) ?_
    refine y_iload_n dX1_lookAtUse_59 rfl ?_
    refine y_ialdN (v) dX1_lookAtUse_60 (k2_2 (hS.2.2.2.2.1 (q) hqc).2) rfl (by omega) (by omega) ((hM q hqc).k1 v e hv hs).1 ?_
    refine y_iload dX1_lookAtUse_61 rfl ?_
    refine y_icmp_eq 75 dX1_lookAtUse_63 (by decide) (fun c63 => ?_) (fun c63 => ?_)
    · exact y_retv dX1_lookAtUse_75 rfl rfl (h0 (hu.trans (if_pos (by rcases sOf_4 (hw q (ho12 q hq)) hs with z | z <;> rw [z] at c63 ⊢ <;> cases fn <;> first | rfl | decide | exact absurd c63 (by decide) | exact absurd rfl c63))))
    · refine y_aload dX1_lookAtUse_66 rfl ?_
      refine y_iconst (v := 2) dX1_lookAtUse_68 (by decide) ?_
      refine y_iload_n dX1_lookAtUse_69 rfl ?_
      refine y_iload_n dX1_lookAtUse_70 rfl ?_
      refine y_iload_n dX1_lookAtUse_71 rfl ?_
      refine y_callV4 mX0_become dX1_lookAtUse_72 rfl rfl hF.1 (Nat.le_of_ble_eq_true rfl) (kX0_become hF.1 ?_)
      exact y_retv dX1_lookAtUse_75 rfl rfl (h1 2 (hu.trans (if_neg (by rcases sOf_4 (hw q (ho12 q hq)) hs with z | z <;> rw [z] at c63 ⊢ <;> cases fn <;> first | rfl | decide | exact absurd c63 (by decide) | exact absurd rfl c63))) (Or.inr rfl))
theorem klookAtUse0 {d : Nat} {Pp : Option Value → xH → Prop} {K : Nat → Nat × Nat} {I : Nat → Nat → Int32} {P : Nat → Nat → Option Nat} {n s : Nat} {o L m : Nat} {x2 x4 : Int32} (h0 : Pp none (K, I, P, n, s)) : xC d mX1_lookAtUse [(.ref L), (.int (nI m)), (.int x2), (.int (-1)), (.int x4), (.ref (o + 1))] (K, I, P, n, s) Pp := by
  refine y_met 0 0 ?_
  show xB d 1 cX1_lookAtUse none false (xE n s 0 0 Pp) 0 [some (.ref L), some (.int (nI m)), some (.int x2), some (.int (-1)), some (.int x4), some (.ref (o + 1)), none] [] (K, I, P, n, s)
  refine y_iload_n dX1_lookAtUse_0 rfl ?_
  refine y_iconst (v := (-1)) dX1_lookAtUse_1 (by decide) ?_
  refine y_icmp_ne 6 dX1_lookAtUse_2 (by decide) (fun q => absurd q (by decide)) (fun _ => ?_)
  exact y_retv dX1_lookAtUse_5 rfl rfl h0
theorem kff_out {d o L m : Nat} {G : xX} {Q : Option Value → xH → Prop} {K : Nat → Nat × Nat} {I : Nat → Nat → Int32} {P : Nat → Nat → Option Nat} {n s : Nat}  (hS : xSL K P o L (gC G)) (hF : xAt K P (o + 1) 0) (hM : xMos I G o) (hw : wfM G m) (hmc : m < gC G) (hk : I (o + 1) 0 ≠ 0) {k : Nat} (hk2 : k ≤ gS G m) (k1 : ∀ ls, xB d 1 cX1_findFaultIn none false Q 64 ls [] (K, I, P, n, s)) : xB d 1 cX1_findFaultIn none false Q 22 [some (.ref L), some (.int (nI m)), some (.ref (o + 1)), some (.ref (o + 59 + 13 * m)), some (.int (nI k))] [] (K, I, P, n, s) := by
  obtain ⟨w1, w2⟩ := hw.2.2.2.2.2.1
  refine y_iload dX1_findFaultIn_22 rfl ?_
  refine y_aload_n dX1_findFaultIn_24 rfl ?_
  refine y_getv 2 13 dX1_findFaultIn_25 rfl rfl (hS.2.2.2.2.1 m hmc).2.1 ((hM m hmc).s.trans w1) ?_
  refine y_icmpN_ge 64 (k) ((gS G m)) dX1_findFaultIn_28 (by decide) rfl rfl (by omega) (by omega) (fun c28 => ?_) (fun c28 => ?_)
  · exact k1 _
  · refine y_aload_n dX1_findFaultIn_31 rfl ?_
    refine y_geti 0 0 dX1_findFaultIn_32 rfl rfl hF.1 ?_
    refine y_if_ne 64 dX1_findFaultIn_35 (by decide) (fun _ => ?_) (fun c35 => absurd c35 hk)
    exact k1 _
set_option maxHeartbeats 1000000 in
theorem kff_loop {d o L m : Nat} {G : xX} {ord : List Nat} {Q : Option Value → xH → Prop} {K : Nat → Nat × Nat} {I : Nat → Nat → Int32} {P : Nat → Nat → Option Nat} {n s : Nat}  (hS : xSL K P o L (gC G)) (hF : xAt K P (o + 1) 0) (hM : xMos I G o) (hw : ∀ m, m < 12 → wfM G m) (ho : xLo I G L ord) (hG : xLg I G L ord) (hm : m ∈ ord) (hk0 : I (o + 1) 0 = 0) (hmc : m < gC G) : ∀ (t k : Nat), k + t = gS G m → ((sLkS G ord m t k).1 = 0 → ∀ ls, xB (d + 3) 1 cX1_findFaultIn none false Q 64 ls [] (K, I, P, n, s)) → ((sLkS G ord m t k).1 ≠ 0 → ∀ ls, xB (d + 3) 1 cX1_findFaultIn none false Q 64 ls [] (K, xuF I (o + 1) (sLkS G ord m t k).1 (nI m) (sLkS G ord m t k).2.1 (sLkS G ord m t k).2.2, P, n, s)) → xB (d + 3) 1 cX1_findFaultIn none false Q 22 [some (.ref L), some (.int (nI m)), some (.ref (o + 1)), some (.ref (o + 59 + 13 * m)), some (.int (nI k))] [] (K, I, P, n, s) := by
  have hc := hS.2.2.2.1
  have hwm := hw m (by omega)
  obtain ⟨w1, w2⟩ := hwm.2.2.2.2.2.1
  intro t
  induction t with
  | zero =>
    intro k hk k0 k1
    refine y_iload dX1_findFaultIn_22 rfl ?_
    refine y_aload_n dX1_findFaultIn_24 rfl ?_
    refine y_getv 2 13 dX1_findFaultIn_25 rfl rfl (hS.2.2.2.2.1 m hmc).2.1 ((hM m hmc).s.trans w1) ?_
    refine y_icmpN_ge 64 (k) ((gS G m)) dX1_findFaultIn_28 (by decide) rfl rfl (by omega) (by omega) (fun _ => ?_) (fun c28 => absurd c28 (by omega))
    exact k0 rfl _
  | succ t ih =>
    intro k hk k0 k1
    have hkl : k < gS G m := by omega
    have hst := hwm.2.2.2.2.2.2.1 k hkl
    unfold sLkS at k0 k1
    refine y_iload dX1_findFaultIn_22 rfl ?_
    refine y_aload_n dX1_findFaultIn_24 rfl ?_
    refine y_getv 2 13 dX1_findFaultIn_25 rfl rfl (hS.2.2.2.2.1 m hmc).2.1 ((hM m hmc).s.trans w1) ?_
    refine y_icmpN_ge 64 (k) ((gS G m)) dX1_findFaultIn_28 (by decide) rfl rfl (by omega) (by omega) (fun c28 => absurd c28 (by omega)) (fun _ => ?_)
    refine y_aload_n dX1_findFaultIn_31 rfl ?_
    refine y_getv 0 0 dX1_findFaultIn_32 rfl rfl hF.1 hk0 ?_
    refine y_if_ne 64 dX1_findFaultIn_35 (by decide) (fun q => absurd q (by decide)) (fun _ => ?_)
    refine y_aload_n dX1_findFaultIn_38 rfl ?_
    refine y_iload_n dX1_findFaultIn_39 rfl ?_
    refine y_iload dX1_findFaultIn_40 rfl ?_
    refine y_aload_n dX1_findFaultIn_42 rfl ?_
    refine y_iload dX1_findFaultIn_43 rfl ?_
    refine y_callV1 mX2_nameUsedAt dX1_findFaultIn_45 rfl rfl (hS.2.2.2.2.1 m hmc).2.1 (Nat.le_of_ble_eq_true rfl) (knameUsedAt (d := d + 2) (hS.2.2.2.2.1 m hmc).2 (hM m hmc) hkl w2 (fun c45a c45b => ?_) (fun c45 => ?_))
    · rw [if_pos (show 6 < (sOp G m k).toInt ∧ (sOp G m k).toInt < 11 from ⟨c45a, c45b⟩)] at k0 k1
      refine y_aload_n dX1_findFaultIn_48 rfl ?_
      refine y_iload dX1_findFaultIn_49 rfl ?_
      refine y_callV1 mX2_kindWantedAt dX1_findFaultIn_51 rfl rfl (hS.2.2.2.2.1 m hmc).2.1 (Nat.le_of_ble_eq_true rfl) (kkindWantedAt (d := d + 2) (hS.2.2.2.2.1 m hmc).2 (hM m hmc) hkl w2 (fun c51 => ?_) (fun c51 => ?_))
      · refine y_aload_n dX1_findFaultIn_54 rfl ?_
        have hfn : decide (sOp G m k = 7 ∨ sOp G m k = 10) = false := by
          rcases xStep_use hst c45a c45b with z | z | z | z <;> rw [z.1] at c51 ⊢ <;> first | rfl | decide | exact absurd c51 (by decide)
        rw [hfn] at k0 k1
        obtain ⟨v, hv, hnv⟩ : ∃ v : Nat, v < 64 ∧ sNm G m k = nI v := by
          unfold sNm
          rcases xStep_use hst c45a c45b with ⟨z, v, hv, e⟩ | ⟨z, v, hv, e⟩ | ⟨z, v, hv, e⟩ | ⟨z, v, hv, e⟩
          · exact ⟨v, hv, by rw [if_pos (Or.inl z)]; exact e⟩
          · exact ⟨v, hv, by rw [if_neg (by rw [z]; decide)]; exact e⟩
          · exact ⟨v, hv, by rw [if_pos (Or.inr z)]; exact e⟩
          · exact ⟨v, hv, by rw [if_neg (by rw [z]; decide)]; exact e⟩
        rw [hnv] at k0 k1 ⊢
        refine y_callV5 mX1_lookAtUse dX1_findFaultIn_55 rfl rfl hS.1.1 (Nat.le_of_ble_eq_true rfl) (klookAtUse (d := d) (ord := ord) (fn := false) hS hF hM hw ho hG hm hv (fun hz => ?_) (fun e hz he => ?_))
        · refine y_iinc dX1_findFaultIn_58 rfl (fun x1 e_x1 => ?_)
          obtain rfl : x1 = nI (k + 1) := by rw [e_x1]; exact nI_1 (k)
          refine y_goto 22 dX1_findFaultIn_61 (by decide) ?_
          exact ih (k + 1) (by omega) (fun q => k0 (by rw [if_pos hz]; exact q)) (fun q => by rw [if_pos hz] at k1; exact k1 q)
        · refine y_iinc dX1_findFaultIn_58 rfl (fun x2 e_x2 => ?_)
          obtain rfl : x2 = nI (k + 1) := by rw [e_x2]; exact nI_1 (k)
          refine y_goto 22 dX1_findFaultIn_61 (by decide) ?_
          have hez : e ≠ 0 := e12 he
          rw [if_neg (by rw [hz]; exact hez)] at k1
          rw [hz] at k1
          refine kff_out hS hF (hM.fr (fun m i _ _ => xuF_ne (by omega))) hwm hmc (by rw [xuF_0]; exact hez) (by omega) (fun ls => ?_)
          exact k1 hez ls
      · refine y_aload_n dX1_findFaultIn_54 rfl ?_
        have hfn : decide (sOp G m k = 7 ∨ sOp G m k = 10) = true := by
          rcases xStep_use hst c45a c45b with z | z | z | z <;> rw [z.1] at c51 ⊢ <;> first | rfl | decide | exact absurd c51 (by decide)
        rw [hfn] at k0 k1
        obtain ⟨v, hv, hnv⟩ : ∃ v : Nat, v < 64 ∧ sNm G m k = nI v := by
          unfold sNm
          rcases xStep_use hst c45a c45b with ⟨z, v, hv, e⟩ | ⟨z, v, hv, e⟩ | ⟨z, v, hv, e⟩ | ⟨z, v, hv, e⟩
          · exact ⟨v, hv, by rw [if_pos (Or.inl z)]; exact e⟩
          · exact ⟨v, hv, by rw [if_neg (by rw [z]; decide)]; exact e⟩
          · exact ⟨v, hv, by rw [if_pos (Or.inr z)]; exact e⟩
          · exact ⟨v, hv, by rw [if_neg (by rw [z]; decide)]; exact e⟩
        rw [hnv] at k0 k1 ⊢
        refine y_callV5 mX1_lookAtUse dX1_findFaultIn_55 rfl rfl hS.1.1 (Nat.le_of_ble_eq_true rfl) (klookAtUse (d := d) (ord := ord) (fn := true) hS hF hM hw ho hG hm hv (fun hz => ?_) (fun e hz he => ?_))
        · refine y_iinc dX1_findFaultIn_58 rfl (fun x3 e_x3 => ?_)
          obtain rfl : x3 = nI (k + 1) := by rw [e_x3]; exact nI_1 (k)
          refine y_goto 22 dX1_findFaultIn_61 (by decide) ?_
          exact ih (k + 1) (by omega) (fun q => k0 (by rw [if_pos hz]; exact q)) (fun q => by rw [if_pos hz] at k1; exact k1 q)
        · refine y_iinc dX1_findFaultIn_58 rfl (fun x4 e_x4 => ?_)
          obtain rfl : x4 = nI (k + 1) := by rw [e_x4]; exact nI_1 (k)
          refine y_goto 22 dX1_findFaultIn_61 (by decide) ?_
          have hez : e ≠ 0 := e12 he
          rw [if_neg (by rw [hz]; exact hez)] at k1
          rw [hz] at k1
          refine kff_out hS hF (hM.fr (fun m i _ _ => xuF_ne (by omega))) hwm hmc (by rw [xuF_0]; exact hez) (by omega) (fun ls => ?_)
          exact k1 hez ls
    · rw [if_neg c45] at k0 k1
      refine y_aload_n dX1_findFaultIn_48 rfl ?_
      refine y_iload dX1_findFaultIn_49 rfl ?_
      refine y_callV1 mX2_kindWantedAt dX1_findFaultIn_51 rfl rfl (hS.2.2.2.2.1 m hmc).2.1 (Nat.le_of_ble_eq_true rfl) (kkindWantedAt (d := d + 2) (hS.2.2.2.2.1 m hmc).2 (hM m hmc) hkl w2 (fun c51 => ?_) (fun c51 => ?_))
      · refine y_aload_n dX1_findFaultIn_54 rfl ?_
        refine y_callV5 mX1_lookAtUse dX1_findFaultIn_55 rfl rfl hS.1.1 (Nat.le_of_ble_eq_true rfl) (klookAtUse0 ?_)
        refine y_iinc dX1_findFaultIn_58 rfl (fun x5 e_x5 => ?_)
        obtain rfl : x5 = nI (k + 1) := by rw [e_x5]; exact nI_1 (k)
        refine y_goto 22 dX1_findFaultIn_61 (by decide) ?_
        exact ih (k + 1) (by omega) k0 k1
      · refine y_aload_n dX1_findFaultIn_54 rfl ?_
        refine y_callV5 mX1_lookAtUse dX1_findFaultIn_55 rfl rfl hS.1.1 (Nat.le_of_ble_eq_true rfl) (klookAtUse0 ?_)
        refine y_iinc dX1_findFaultIn_58 rfl (fun x6 e_x6 => ?_)
        obtain rfl : x6 = nI (k + 1) := by rw [e_x6]; exact nI_1 (k)
        refine y_goto 22 dX1_findFaultIn_61 (by decide) ?_
        exact ih (k + 1) (by omega) k0 k1
theorem kfindFaultIn {d : Nat} {Pp : Option Value → xH → Prop} {K : Nat → Nat × Nat} {I : Nat → Nat → Int32} {P : Nat → Nat → Option Nat} {n s : Nat} {o L m : Nat} {G : xX} {ord : List Nat} (hS : xSL K P o L (gC G)) (hF : xAt K P (o + 1) 0) (hM : xMos I G o) (hw : ∀ m, m < 12 → wfM G m) (ho : xLo I G L ord) (hG : xLg I G L ord) (hm : m ∈ ord) (hk0 : I (o + 1) 0 = 0) (h0 : (sLk G ord m).1 = 0 → Pp none (K, I, P, n, s)) (h1 : (sLk G ord m).1 ≠ 0 → Pp none (K, xuF I (o + 1) (sLk G ord m).1 (nI m) (sLk G ord m).2.1 (sLk G ord m).2.2, P, n, s)) : xC (d + 3) mX1_findFaultIn [(.ref L), (.int (nI m)), (.ref (o + 1))] (K, I, P, n, s) Pp := by
  refine y_met 0 0 ?_
  show xB (d + 3) 1 cX1_findFaultIn none false (xE n s 0 0 Pp) 0 [some (.ref L), some (.int (nI m)), some (.ref (o + 1)), none, none] [] (K, I, P, n, s)
  have hc := hS.2.2.2.1
  have hmc := ho.2.2.2.2.2 m hm
  have hwm := hw m (by omega)
  unfold sLk at h0 h1
  rcases hwm.2.2.2.2.2.2.2.1 with hb | ⟨v, hv, hb⟩
  · rw [if_pos hb] at h0 h1
    refine y_aload_n dX1_findFaultIn_0 rfl ?_
    refine y_getr 1 0 dX1_findFaultIn_1 rfl rfl hS.1.1 hS.2.1 ?_
    refine y_iload_n dX1_findFaultIn_4 rfl ?_
    refine y_aald (m) dX1_findFaultIn_5 hS.2.2.1 rfl (by omega) (by omega) (hS.2.2.2.2.1 (m) hmc).1 ?_
    refine y_astore_n dX1_findFaultIn_6 (by first | (simp; done) | (simp; decide)) ?_
    refine y_aload_n dX1_findFaultIn_7 rfl ?_
    refine y_iload_n dX1_findFaultIn_8 rfl ?_
    refine y_iconst (v := (-1)) dX1_findFaultIn_9 (by decide) ?_
    refine y_aload_n dX1_findFaultIn_10 rfl ?_
    refine y_getv 2 8 dX1_findFaultIn_11 rfl rfl (hS.2.2.2.2.1 (m) hmc).2.1 ((hM m hmc).b.trans hb) ?_
    refine y_iconst (v := 0) dX1_findFaultIn_14 (by decide) ?_
    refine y_aload_n dX1_findFaultIn_15 rfl ?_
    refine y_callV5 mX1_lookAtUse dX1_findFaultIn_16 rfl rfl hS.1.1 (Nat.le_of_ble_eq_true rfl) (klookAtUse0 ?_)
    refine y_iconst (v := 0) dX1_findFaultIn_19 (by decide) ?_
    refine y_istore dX1_findFaultIn_20 (by first | (simp; done) | (simp; decide)) (fun x1 e_x1 => ?_)
    subst e_x1
    exact kff_loop (d := d) hS hF hM hw ho hG hm hk0 hmc (gS G m) 0 (by omega) (fun q ls => y_retv dX1_findFaultIn_64 rfl rfl (h0 q)) (fun q ls => y_retv dX1_findFaultIn_64 rfl rfl (h1 q))
  · rw [if_neg (by rw [hb]; exact nI_m1 (by omega))] at h0 h1
    rw [hb] at h0 h1
    refine y_aload_n dX1_findFaultIn_0 rfl ?_
    refine y_getr 1 0 dX1_findFaultIn_1 rfl rfl hS.1.1 hS.2.1 ?_
    refine y_iload_n dX1_findFaultIn_4 rfl ?_
    refine y_aald (m) dX1_findFaultIn_5 hS.2.2.1 rfl (by omega) (by omega) (hS.2.2.2.2.1 (m) hmc).1 ?_
    refine y_astore_n dX1_findFaultIn_6 (by first | (simp; done) | (simp; decide)) ?_
    refine y_aload_n dX1_findFaultIn_7 rfl ?_
    refine y_iload_n dX1_findFaultIn_8 rfl ?_
    refine y_iconst (v := (-1)) dX1_findFaultIn_9 (by decide) ?_
    refine y_aload_n dX1_findFaultIn_10 rfl ?_
    refine y_getv 2 8 dX1_findFaultIn_11 rfl rfl (hS.2.2.2.2.1 (m) hmc).2.1 ((hM m hmc).b.trans hb) ?_
    refine y_iconst (v := 0) dX1_findFaultIn_14 (by decide) ?_
    refine y_aload_n dX1_findFaultIn_15 rfl ?_
    refine y_callV5 mX1_lookAtUse dX1_findFaultIn_16 rfl rfl hS.1.1 (Nat.le_of_ble_eq_true rfl) (klookAtUse (d := d) (ord := ord) (fn := true) hS hF hM hw ho hG hm hv (fun hz => ?_) (fun e hz he => ?_))
    · refine y_iconst (v := 0) dX1_findFaultIn_19 (by decide) ?_
      refine y_istore dX1_findFaultIn_20 (by first | (simp; done) | (simp; decide)) (fun x1 e_x1 => ?_)
      subst e_x1
      rw [if_pos hz] at h0 h1
      exact kff_loop (d := d) hS hF hM hw ho hG hm hk0 hmc (gS G m) 0 (by omega) (fun q ls => y_retv dX1_findFaultIn_64 rfl rfl (h0 q)) (fun q ls => y_retv dX1_findFaultIn_64 rfl rfl (h1 q))
    · refine y_iconst (v := 0) dX1_findFaultIn_19 (by decide) ?_
      refine y_istore dX1_findFaultIn_20 (by first | (simp; done) | (simp; decide)) (fun x2 e_x2 => ?_)
      subst e_x2
      have hez : e ≠ 0 := e12 he
      rw [if_neg (by rw [hz]; exact hez)] at h1
      rw [hz] at h1
      exact kff_out hS hF (hM.fr (fun m i _ _ => xuF_ne (by omega))) hwm hmc (by rw [xuF_0]; exact hez) (Nat.zero_le _) (fun ls => y_retv dX1_findFaultIn_64 rfl rfl (h1 hez))
def xFf (o : Nat) (I I' : Nat → Nat → Int32) (y : Int32 × Int32 × Int32 × Int32) : Prop := (∀ a, a ≠ o + 1 → I' a = I a) ∧ I' (o + 1) 0 = y.1 ∧ I' (o + 1) 1 = y.2.1 ∧ I' (o + 1) 2 = y.2.2.1 ∧ I' (o + 1) 3 = y.2.2.2
theorem kft_loop {d o L : Nat} {G : xX} {ord : List Nat} {Q : Option Value → xH → Prop} {K : Nat → Nat × Nat} {I : Nat → Nat → Int32} {P : Nat → Nat → Option Nat} {n s : Nat} (hS : xSL K P o L (gC G)) (hF : xAt K P (o + 1) 0) (hM : xMos I G o) (hw : ∀ m, m < 12 → wfM G m) (ho : xLo I G L ord) (hG : xLg I G L ord) (hf : xFf o I I (0, -1, -1, -1)) : ∀ (l : List Nat) (p : Nat), p ≤ ord.length → ord.drop p = l → (∀ I' ls, xFf o I I' (sFt G ord l) → xB (d + 4) 1 cX1_findFault none false Q 42 ls [] (K, I', P, n, s)) → xB (d + 4) 1 cX1_findFault none false Q 10 [some (.ref L), some (.ref (o + 1)), some (.int (nI p))] [] (K, I, P, n, s) := by
  have hc := hS.2.2.2.1
  have hol := okl_len ho.2.2.2.2
  intro l
  induction l with
  | nil =>
    intro p hp hd k1
    have h1 := drop_nil hd
    refine y_iload_n dX1_findFault_10 rfl ?_
    refine y_aload_n dX1_findFault_11 rfl ?_
    refine y_getv 1 3 dX1_findFault_12 rfl rfl hS.1.1 ho.1 ?_
    refine y_icmpN_ge 42 (p) (ord.length) dX1_findFault_15 (by decide) rfl rfl (by omega) (by omega) (fun _ => ?_) (fun c15 => absurd c15 (by omega))
    exact k1 I _ hf
  | cons q r ih =>
    intro p hp hd k1
    obtain ⟨g1, g2, g3⟩ := drop_get hd
    have hqm := List.mem_of_getElem? g2
    have hqc := ho.2.2.2.2.2 q hqm
    unfold sFt at k1
    refine y_iload_n dX1_findFault_10 rfl ?_
    refine y_aload_n dX1_findFault_11 rfl ?_
    refine y_getv 1 3 dX1_findFault_12 rfl rfl hS.1.1 ho.1 ?_
    refine y_icmpN_ge 42 (p) (ord.length) dX1_findFault_15 (by decide) rfl rfl (by omega) (by omega) (fun c15 => absurd c15 (by omega)) (fun _ => ?_)
    refine y_aload_n dX1_findFault_18 rfl ?_
    refine y_getv 0 0 dX1_findFault_19 rfl rfl hF.1 hf.2.1 ?_
    refine y_if_ne 42 dX1_findFault_22 (by decide) (fun q => absurd q (by decide)) (fun _ => ?_)
    refine y_aload_n dX1_findFault_25 rfl ?_
    refine y_aload_n dX1_findFault_26 rfl ?_
    refine y_getr 1 1 dX1_findFault_27 rfl rfl hS.1.1 (r1_1 hS.1) ?_
    refine y_iload_n dX1_findFault_30 rfl ?_
    refine y_ialdN (p) dX1_findFault_31 (k1_1 hS.1) rfl (by omega) (by omega) (ho.2.1 p q g2) ?_
    refine y_aload_n dX1_findFault_32 rfl ?_
    refine y_callV2 mX1_findFaultIn dX1_findFault_33 rfl rfl hS.1.1 (Nat.le_of_ble_eq_true rfl) (kfindFaultIn (d := d) (ord := ord) hS hF hM hw ho hG hqm hf.2.1 (fun hz => ?_) (fun hz => ?_))
    · refine y_iinc dX1_findFault_36 rfl (fun x1 e_x1 => ?_)
      obtain rfl : x1 = nI (p + 1) := by rw [e_x1]; exact nI_1 (p)
      refine y_goto 10 dX1_findFault_39 (by decide) ?_
      rw [if_pos hz] at k1
      exact ih (p + 1) g1 g3 k1
    · refine y_iinc dX1_findFault_36 rfl (fun x2 e_x2 => ?_)
      obtain rfl : x2 = nI (p + 1) := by rw [e_x2]; exact nI_1 (p)
      refine y_goto 10 dX1_findFault_39 (by decide) ?_
      rw [if_neg hz] at k1
      refine y_iload_n dX1_findFault_10 rfl ?_
      refine y_aload_n dX1_findFault_11 rfl ?_
      refine y_getv 1 3 dX1_findFault_12 rfl rfl hS.1.1 (show (xuF I (o + 1) (sLk G ord q).1 (nI q) (sLk G ord q).2.1 (sLk G ord q).2.2) L 3 = nI ord.length from (congrFun (xuF_ne (by have := hS.2.2.2.2.2; omega)) 3).trans ho.1) ?_
      refine y_icmpN_ge 42 ((p + 1)) (ord.length) dX1_findFault_15 (by decide) rfl rfl (by omega) (by omega) (fun c15 => ?_) (fun c15 => ?_)
      · exact k1 _ _ ⟨fun a h => xuF_ne h, xuF_0, by simp [xuF, xuI], by simp [xuF, xuI], by simp [xuF, xuI]⟩
      · refine y_aload_n dX1_findFault_18 rfl ?_
        refine y_getv 0 0 dX1_findFault_19 rfl rfl hF.1 xuF_0 ?_
        refine y_if_ne 42 dX1_findFault_22 (by decide) (fun _ => ?_) (fun c22 => absurd c22 hz)
        exact k1 _ _ ⟨fun a h => xuF_ne h, xuF_0, by simp [xuF, xuI], by simp [xuF, xuI], by simp [xuF, xuI]⟩
theorem kfindFault {d : Nat} {Pp : Option Value → xH → Prop} {K : Nat → Nat × Nat} {I : Nat → Nat → Int32} {P : Nat → Nat → Option Nat} {n s : Nat} {o L : Nat} {G : xX} {ord : List Nat} (hS : xSL K P o L (gC G)) (hF : xAt K P (o + 1) 0) (hM : xMos I G o) (hw : ∀ m, m < 12 → wfM G m) (ho : xLo I G L ord) (hG : xLg I G L ord) (hp : ∀ I', xFf o I I' (sFt G ord ord) → Pp none (K, I', P, n, s)) : xC (d + 4) mX1_findFault [(.ref L), (.ref (o + 1))] (K, I, P, n, s) Pp := by
  refine y_met 0 0 ?_
  show xB (d + 4) 1 cX1_findFault none false (xE n s 0 0 Pp) 0 [some (.ref L), some (.ref (o + 1)), none] [] (K, I, P, n, s)
  have hL := hS.2.2.2.2.2
  refine y_aload_n dX1_findFault_0 rfl ?_
  refine y_iconst (v := 0) dX1_findFault_1 (by decide) ?_
  refine y_iconst (v := (-1)) dX1_findFault_2 (by decide) ?_
  refine y_iconst (v := (-1)) dX1_findFault_3 (by decide) ?_
  refine y_iconst (v := (-1)) dX1_findFault_4 (by decide) ?_
  refine y_callV4 mX0_become dX1_findFault_5 rfl rfl hF.1 (Nat.le_of_ble_eq_true rfl) (kX0_become hF.1 ?_)
  change xB _ _ _ _ _ _ _ _ _ (K, (xuF I (o + 1) 0 (-1) (-1) (-1)), P, n, s)
  have hf : xFf o I (xuF I (o + 1) 0 (-1) (-1) (-1)) (0, -1, -1, -1) := ⟨fun a h => xuF_ne h, xuF_0, by simp [xuF, xuI], by simp [xuF, xuI], by simp [xuF, xuI]⟩
  generalize (xuF I (o + 1) 0 (-1) (-1) (-1)) = I2 at hf ⊢
  refine y_iconst (v := 0) dX1_findFault_8 (by decide) ?_
  refine y_istore_n dX1_findFault_9 (by first | (simp; done) | (simp; decide)) (fun x1 e_x1 => ?_)
  subst e_x1
  exact kft_loop (d := d) (ord := ord) hS hF (hM.fr (fun m i _ _ => hf.1 _ (by omega))) hw (ho.fr (congrFun (hf.1 _ (by omega)) 3) (hf.1 _ (by omega)) (hf.1 _ (by omega))) (fun v hv => (congrFun (hf.1 _ (by omega)) v).trans (hG v hv)) ⟨fun _ _ => rfl, hf.2⟩ ord 0 (Nat.zero_le _) rfl (fun I' ls f => y_retv dX1_findFault_42 rfl rfl (hp I' ⟨fun a h => (f.1 a h).trans (hf.1 a h), f.2⟩))
