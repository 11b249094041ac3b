/-! the reference: a run, step by step, as functions of its memory -/
def xFrR (R : Nat) (I I' : Nat → Nat → Int32) : Prop := ∀ a, (a < R ∨ R + 23 < a) → I' a = I a
theorem xFrR.rf {R : Nat} {I : Nat → Nat → Int32} : xFrR R I I := fun _ _ => rfl
theorem xFrR.tr {R : Nat} {I I' I2 : Nat → Nat → Int32} (h : xFrR R I I') (h2 : xFrR R I' I2) : xFrR R I I2 := fun a p => (h2 a p).trans (h a p)
theorem xFrR.u {R i j : Nat} {I : Nat → Nat → Int32} {x : Int32} (h : i ≤ 23) : xFrR R I (xuI I (R + i) j x) := fun a p => xuI_ne (by omega)
theorem xFrR.f {R k : Nat} {I : Nat → Nat → Int32} {x : Int32} : xFrR R I (xuI I R k x) := fun a p => xuI_ne (by omega)
theorem xF.R {R : Nat} {rows flds : List Nat} {I I' : Nat → Nat → Int32} (h : xF R rows flds I I') (hr : ∀ i ∈ rows, i ≤ 23) : xFrR R I I' := fun a p => by
  funext j
  exact h a j (fun i hi e => by have := hr i hi; omega) (fun e => by omega)
theorem xRf_u {R i j : Nat} {I : Nat → Nat → Int32} {x : Int32} : xRf (xuI I (R + i) j x) R = xuI (xRf I R) i j x := by
  funext a b
  simp only [xRf, xuI]
  by_cases e : a = i
  · subst e; simp
  · have : ¬ R + a = R + i := by omega
    simp [e, this]
theorem xRf_f {R k : Nat} {I : Nat → Nat → Int32} {x : Int32} : xRf (xuI I R k x) R = xuI (xRf I R) 0 k x := xRf_u (i := 0)
def rN (x : Int32) : Nat := x.toNatClampNeg
def rCall (G X : xX) (o : Option Nat) : Int32 × xX := match o with
  | none => (3, X)
  | some e => if rN (X 0 36) = 101 then (2, X) else
    (-1, xuI (xuI (xuI (xuI (xuI (xuI X 22 (rN (X 0 36)) (X 0 37)) 23 (rN (X 0 36)) (X 0 38)) 0 36 (nI (rN (X 0 36) + 1))) 0 32 (nI (if rN (X 0 32) < rN (X 0 36) then rN (X 0 36) else rN (X 0 32)))) 0 37 (nI (e / 20))) 0 38 (G 5 e))
def rAtF (X : xX) (m : Nat) (y : Int32) : Nat → Nat → Option Nat
  | 0, _ => none
  | t + 1, k => if X 4 (20 * m + k) = 0 ∧ X 5 (20 * m + k) = y then some (20 * m + k) else rAtF X m y t (k + 1)
def rAt (X : xX) (ord : List Nat) (x : Int32) : Option Nat := if x.toInt < 1000 then none else match ord[rN (x / 1000 - 1)]? with
  | none => none
  | some m => rAtF X m (x - x / 1000 * 1000) (gF X m) 0
def rAd (X : xX) (ord : List Nat) (o : Option Nat) : Int32 := match o with
  | none => 0
  | some e => 1000 * (oI (sPlc (nI (e / 20)) ord 0) + 1) + X 5 e
def rCn (G : xX) (ord : List Nat) (X : xX) (m : Nat) (a : Int32) : Int32 × xX :=
  rCall G (if X 14 (64 * m + rN a) = 21 then xuI (xuI X 14 (64 * m + rN a) (oM (sFi G ord m a))) 0 31 (nI (rN (X 0 31) + 1)) else X) (sFi G ord m a)
def rMkO (G : xX) (ord : List Nat) (X : xX) (m k : Nat) (op a b c : Int32) : Int32 × xX :=
  if op = 0 then (-1, xuI (xuI X 0 38 (nI (k + 1))) 20 (rN a) b)
  else if op = 1 then (-1, xuI (xuI X 0 38 (nI (k + 1))) 20 (rN a) (X 20 (rN b)))
  else if op = 2 then (-1, xuI (xuI X 0 38 (nI (k + 1))) 20 (rN a) (X 20 (rN b) + X 20 (rN c)))
  else if op = 3 then (-1, xuI (xuI X 0 38 (nI (k + 1))) 20 (rN a) (X 20 (rN b) - X 20 (rN c)))
  else if op = 4 then (-1, xuI (xuI X 0 38 (nI (k + 1))) 20 (rN a) (X 20 (rN b) * X 20 (rN c)))
  else if op = 5 then (-1, xuI (xuI X 0 38 (nI (k + 1))) 0 38 (if X 20 (rN a) ≥ X 20 (rN b) then nI (k + 1) else c))
  else if op = 6 then (-1, xuI (xuI X 0 38 (nI (k + 1))) 0 38 a)
  else if op = 7 then rCn G ord (xuI X 0 38 (nI (k + 1))) m a
  else if op = 8 then (-1, xuI (xuI X 0 38 (nI (k + 1))) 20 (rN a) (match sFi G ord m b with
    | none => 0
    | some e => X 15 e))
  else if op = 9 then (-1, match sFi G ord m a with
    | none => xuI X 0 38 (nI (k + 1))
    | some e => xuI (xuI X 0 38 (nI (k + 1))) 15 e (X 20 (rN b)))
  else if op = 10 then (-1, xuI (xuI X 0 38 (nI (k + 1))) 20 (rN a) (rAd G ord (sFi G ord m b)))
  else if op = 11 then rCall G (xuI X 0 38 (nI (k + 1))) (rAt G ord (X 20 (rN a)))
  else if op = 12 then (-1, xuI (xuI (xuI (xuI X 0 38 (nI (k + 1))) 0 36 (nI (rN (X 0 36) - 1))) 0 37 (X 22 (rN (X 0 36) - 1))) 0 38 (X 23 (rN (X 0 36) - 1)))
  else if op = 13 then (-1, xuI (if rN (X 0 30) < 60 then xuI (xuI X 0 38 (nI (k + 1))) 21 (rN (X 0 30)) (X 20 (rN a)) else xuI X 0 38 (nI (k + 1))) 0 30 (nI (rN (X 0 30) + 1)))
  else (0, xuI X 0 38 (nI (k + 1)))
/-- one step -/
def rMk (G : xX) (ord : List Nat) (X : xX) : Int32 × xX := rMkO G ord X (rN (X 0 37)) (rN (X 0 38)) (sOp G (rN (X 0 37)) (rN (X 0 38))) (sAr G (rN (X 0 37)) (rN (X 0 38)) 1) (sAr G (rN (X 0 37)) (rN (X 0 38)) 2) (sAr G (rN (X 0 37)) (rN (X 0 38)) 3)
theorem rN_nI {k : Nat} (h : k < 2 ^ 31) : rN (nI k) = k := nI_clamp h
theorem krcall {d : Nat} {Pp : Option Value → xH → Prop} {K : Nat → Nat × Nat} {I : Nat → Nat → Int32} {P : Nat → Nat → Option Nat} {n s : Nat} {R dp de : Nat} {G : xX} {o : Option Nat} (hR : xAt K P R 5) (hA : xPg I R G) (h36 : I R 36 = nI dp) (hdp : dp ≤ 101) (h32 : I R 32 = nI de) (hde : de ≤ 200) (ho : ∀ e, o = some e → e < 240) (hp : ∀ I', xRf I' R = (rCall G (xRf I R) o).2 → xFrR R I I' → Pp (some (.int (rCall G (xRf I R) o).1)) (K, I', P, n, s)) : xC d mX5_call [(.ref R), (.int (oI o))] (K, I, P, n, s) Pp := by
  refine y_met 0 0 ?_
  show xB d 5 cX5_call (some .int) false (xE n s 0 0 Pp) 0 [some (.ref R), some (.int (oI o))] [] (K, I, P, n, s)
  have g36 : rN (xRf I R 0 36) = dp := by show rN (I R 36) = dp; rw [h36, rN_nI (by omega)]
  have g32 : rN (xRf I R 0 32) = de := by show rN (I R 32) = de; rw [h32, rN_nI (by omega)]
  unfold rCall at hp
  cases o with
  | none =>
    refine y_iload_n dX5_call_0 rfl ?_
    refine y_iconst (v := (-1)) dX5_call_1 (by decide) ?_
    refine y_icmp_ne 7 dX5_call_2 (by decide) (fun q => absurd q (by decide)) (fun _ => ?_)
    refine y_iconst (v := 3) dX5_call_5 (by decide) ?_
    exact y_ret dX5_call_6 rfl rfl (hp I rfl xFrR.rf)
  | some e =>
    have he := ho e rfl
    simp only [g36, g32] at hp
    refine y_iload_n dX5_call_0 rfl ?_
    refine y_iconst (v := (-1)) dX5_call_1 (by decide) ?_
    refine y_icmp_ne 7 dX5_call_2 (by decide) (fun _ => ?_) (fun c2 => absurd c2 (nI_m1 (by omega)))
    refine y_aload_n dX5_call_7 rfl ?_
    refine y_getv 5 36 dX5_call_8 rfl rfl hR.1 h36 ?_
    refine y_bipush (v := 101) dX5_call_11 (by decide) ?_
    refine y_icmpN_ne 18 (dp) (101) dX5_call_13 (by decide) rfl rfl (by omega) (by omega) (fun c13 => ?_) (fun c13 => ?_)
    · refine y_aload_n dX5_call_18 rfl ?_
      refine y_getr 5 34 dX5_call_19 rfl rfl hR.1 (r5_34 hR) ?_
      refine y_aload_n dX5_call_22 rfl ?_
      refine y_getv 5 36 dX5_call_23 rfl rfl hR.1 h36 ?_
      refine y_aload_n dX5_call_26 rfl ?_
      refine y_getv 5 37 dX5_call_27 rfl rfl hR.1 rfl ?_
      refine y_iast (dp) dX5_call_30 (k5_34 hR) rfl (by omega) (by omega) ?_
      refine y_aload_n dX5_call_31 rfl ?_
      refine y_getr 5 35 dX5_call_32 rfl rfl hR.1 (r5_35 hR) ?_
      refine y_aload_n dX5_call_35 rfl ?_
      refine y_getv 5 36 dX5_call_36 rfl rfl hR.1 (show (xuI I (R + 22) dp (I R 37)) R 36 = nI dp by rw [xuI_o (Or.inl (by omega))]; exact h36) ?_
      refine y_aload_n dX5_call_39 rfl ?_
      refine y_getv 5 38 dX5_call_40 rfl rfl hR.1 (show (xuI I (R + 22) dp (I R 37)) R 38 = I R 38 by rw [xuI_o (Or.inl (by omega))]) ?_
      refine y_iast (dp) dX5_call_43 (k5_35 hR) rfl (by omega) (by omega) ?_
      refine y_aload_n dX5_call_44 rfl ?_
      refine y_dup dX5_call_45 rfl ?_
      refine y_getv 5 36 dX5_call_46 rfl rfl hR.1 (show (xuI (xuI I (R + 22) dp (I R 37)) (R + 23) dp (I R 38)) R 36 = nI dp by rw [xuI_o (Or.inl (by omega)), xuI_o (Or.inl (by omega))]; exact h36) ?_
      refine y_iconst (v := 1) dX5_call_49 (by decide) ?_
      refine y_iaddv (nI (dp + 1)) dX5_call_50 (nI_add (dp) (1)) ?_
      refine y_puti 5 36 dX5_call_51 rfl rfl rfl hR.1 ?_
      refine y_aload_n dX5_call_54 rfl ?_
      refine y_aload_n dX5_call_55 rfl ?_
      refine y_getv 5 36 dX5_call_56 rfl rfl hR.1 xuI_s ?_
      refine y_iconst (v := 1) dX5_call_59 (by decide) ?_
      refine y_isubv ((nI dp)) dX5_call_60 (nI_pred _) ?_
      refine y_aload_n dX5_call_61 rfl ?_
      refine y_getv 5 32 dX5_call_62 rfl rfl hR.1 (show (xuI (xuI (xuI I (R + 22) dp (I R 37)) (R + 23) dp (I R 38)) R 36 (nI (dp + 1))) R 32 = nI de by rw [xuI_o (Or.inr (by decide)), xuI_o (Or.inl (by omega)), xuI_o (Or.inl (by omega))]; exact h32) ?_
      refine y_icmpN_le 77 (dp) (de) dX5_call_65 (by decide) rfl rfl (by omega) (by omega) (fun c65 => ?_) (fun c65 => ?_)
      · refine y_aload_n dX5_call_77 rfl ?_
        refine y_getv 5 32 dX5_call_78 rfl rfl hR.1 (show (xuI (xuI (xuI I (R + 22) dp (I R 37)) (R + 23) dp (I R 38)) R 36 (nI (dp + 1))) R 32 = nI de by rw [xuI_o (Or.inr (by decide)), xuI_o (Or.inl (by omega)), xuI_o (Or.inl (by omega))]; exact h32) ?_
        refine y_puti 5 32 dX5_call_81 rfl rfl rfl hR.1 ?_
        refine y_aload_n dX5_call_84 rfl ?_
        refine y_iload_n dX5_call_85 rfl ?_
        refine y_bipush (v := 20) dX5_call_86 (by decide) ?_
        refine y_idivv (nI (e / 20)) dX5_call_88 (by decide) (pk_div (by omega) (by decide) (by decide)) ?_
        refine y_puti 5 37 dX5_call_89 rfl rfl rfl hR.1 ?_
        refine y_aload_n dX5_call_92 rfl ?_
        refine y_aload_n dX5_call_93 rfl ?_
        refine y_getr 5 5 dX5_call_94 rfl rfl hR.1 (r5_5 hR) ?_
        refine y_iload_n dX5_call_97 rfl ?_
        refine y_ialdN (e) dX5_call_98 (k5_5 hR) rfl (by omega) (by omega) (show xuI (xuI (xuI (xuI (xuI I (R + 22) dp (I R 37)) (R + 23) dp (I R 38)) R 36 (nI (dp + 1))) R 32 (nI de)) R 37 (nI (e / 20)) (R + 5) e = G 5 e by rw [xuI_o (Or.inl (by omega)), xuI_o (Or.inl (by omega)), xuI_o (Or.inl (by omega)), xuI_o (Or.inl (by omega)), xuI_o (Or.inl (by omega))]; exact congrFun (hA 5 (by decide) (by decide)) e) ?_
        refine y_puti 5 38 dX5_call_99 rfl rfl rfl hR.1 ?_
        refine y_iconst (v := (-1)) dX5_call_102 (by decide) ?_
        rw [if_neg c13] at hp
        rw [if_neg (by omega)] at hp
        refine y_ret dX5_call_103 rfl rfl (hp (xuI (xuI (xuI (xuI (xuI (xuI I (R + 22) dp (I R 37)) (R + 23) dp (I R 38)) R 36 (nI (dp + 1))) R 32 (nI de)) R 37 (nI (e / 20))) R 38 (G 5 e)) (by simp only [xRf_u, xRf_f]; rfl) (((xFrR.u (by decide)).tr (xFrR.u (by decide))).tr (xFrR.f.tr (xFrR.f.tr (xFrR.f.tr xFrR.f)))))
      · refine y_aload_n dX5_call_68 rfl ?_
        refine y_getv 5 36 dX5_call_69 rfl rfl hR.1 xuI_s ?_
        refine y_iconst (v := 1) dX5_call_72 (by decide) ?_
        refine y_isubv ((nI dp)) dX5_call_73 (nI_pred _) ?_
        refine y_goto 81 dX5_call_74 (by decide) ?_
        refine y_puti 5 32 dX5_call_81 rfl rfl rfl hR.1 ?_
        refine y_aload_n dX5_call_84 rfl ?_
        refine y_iload_n dX5_call_85 rfl ?_
        refine y_bipush (v := 20) dX5_call_86 (by decide) ?_
        refine y_idivv (nI (e / 20)) dX5_call_88 (by decide) (pk_div (by omega) (by decide) (by decide)) ?_
        refine y_puti 5 37 dX5_call_89 rfl rfl rfl hR.1 ?_
        refine y_aload_n dX5_call_92 rfl ?_
        refine y_aload_n dX5_call_93 rfl ?_
        refine y_getr 5 5 dX5_call_94 rfl rfl hR.1 (r5_5 hR) ?_
        refine y_iload_n dX5_call_97 rfl ?_
        refine y_ialdN (e) dX5_call_98 (k5_5 hR) rfl (by omega) (by omega) (show xuI (xuI (xuI (xuI (xuI I (R + 22) dp (I R 37)) (R + 23) dp (I R 38)) R 36 (nI (dp + 1))) R 32 (nI dp)) R 37 (nI (e / 20)) (R + 5) e = G 5 e by rw [xuI_o (Or.inl (by omega)), xuI_o (Or.inl (by omega)), xuI_o (Or.inl (by omega)), xuI_o (Or.inl (by omega)), xuI_o (Or.inl (by omega))]; exact congrFun (hA 5 (by decide) (by decide)) e) ?_
        refine y_puti 5 38 dX5_call_99 rfl rfl rfl hR.1 ?_
        refine y_iconst (v := (-1)) dX5_call_102 (by decide) ?_
        rw [if_neg c13] at hp
        rw [if_pos (by omega)] at hp
        refine y_ret dX5_call_103 rfl rfl (hp (xuI (xuI (xuI (xuI (xuI (xuI I (R + 22) dp (I R 37)) (R + 23) dp (I R 38)) R 36 (nI (dp + 1))) R 32 (nI dp)) R 37 (nI (e / 20))) R 38 (G 5 e)) (by simp only [xRf_u, xRf_f]; rfl) (((xFrR.u (by decide)).tr (xFrR.u (by decide))).tr (xFrR.f.tr (xFrR.f.tr (xFrR.f.tr xFrR.f)))))
    · refine y_iconst (v := 2) dX5_call_16 (by decide) ?_
      rw [if_pos c13] at hp
      exact y_ret dX5_call_17 rfl rfl (hp I rfl xFrR.rf)
theorem kata_loop {d R : Nat} {X : xX} {Q : Option Value → xH → Prop} {K : Nat → Nat × Nat} {I : Nat → Nat → Int32} {P : Nat → Nat → Option Nat} {n s : Nat} (hR : xAt K P R 5) (hA : xPg I R X) {m : Nat} {x : Int32} (hm : m < 12) (hw : wfM X m) {v2 : Option Value} : ∀ (t k : Nat) (v5 : Option Value), k + t = gF X m → (rAtF X m (x - x / 1000 * 1000) t k = none → ∀ ls, xB d 5 cX5_atAddress (some .int) false Q 90 ls [.int (-1)] (K, I, P, n, s)) → (∀ e ls, rAtF X m (x - x / 1000 * 1000) t k = some e → xB d 5 cX5_atAddress (some .int) false Q 82 ls [.int (nI e)] (K, I, P, n, s)) → xB d 5 cX5_atAddress (some .int) false Q 35 [some (.ref R), some (.int x), v2, some (.int (nI m)), some (.int (nI k)), v5] [] (K, I, P, n, s) := by
  obtain ⟨-, -, ⟨w1, w2⟩, -⟩ := hw
  intro t
  induction t with
  | zero =>
    intro k v5 hk h1 h2
    refine y_iload dX5_atAddress_35 rfl ?_
    refine y_aload_n dX5_atAddress_37 rfl ?_
    refine y_getr 5 7 dX5_atAddress_38 rfl rfl hR.1 (r5_7 hR) ?_
    refine y_iload_n dX5_atAddress_41 rfl ?_
    refine y_ialdN (m) dX5_atAddress_42 (k5_7 hR) rfl (by omega) (by omega) ((congrFun (hA 7 (by decide) (by decide)) m).trans w1) ?_
    refine y_icmpN_ge 89 (k) ((gF X m)) dX5_atAddress_43 (by decide) rfl rfl (by omega) (by omega) (fun _ => ?_) (fun c43 => absurd c43 (by omega))
    refine y_iconst (v := (-1)) dX5_atAddress_89 (by decide) ?_
    exact h1 rfl _
  | succ t ih =>
    intro k v5 hk h1 h2
    unfold rAtF at h1 h2
    refine y_iload dX5_atAddress_35 rfl ?_
    refine y_aload_n dX5_atAddress_37 rfl ?_
    refine y_getr 5 7 dX5_atAddress_38 rfl rfl hR.1 (r5_7 hR) ?_
    refine y_iload_n dX5_atAddress_41 rfl ?_
    refine y_ialdN (m) dX5_atAddress_42 (k5_7 hR) rfl (by omega) (by omega) ((congrFun (hA 7 (by decide) (by decide)) m).trans w1) ?_
    refine y_icmpN_ge 89 (k) ((gF X m)) dX5_atAddress_43 (by decide) rfl rfl (by omega) (by omega) (fun c43 => absurd c43 (by omega)) (fun _ => ?_)
    refine y_bipush (v := 20) dX5_atAddress_46 (by decide) ?_
    refine y_iload_n dX5_atAddress_48 rfl ?_
    refine y_imulv (nI (20 * m)) dX5_atAddress_49 (pk_mul (20) (m)) ?_
    refine y_iload dX5_atAddress_50 rfl ?_
    refine y_iaddv (nI (((20 * m)) + k)) dX5_atAddress_52 (nI_add ((20 * m)) (k)) ?_
    refine y_istore dX5_atAddress_53 (by first | (simp; done) | (simp; decide)) (fun x1 e_x1 => ?_)
    subst e_x1
    refine y_aload_n dX5_atAddress_55 rfl ?_
    refine y_getr 5 4 dX5_atAddress_56 rfl rfl hR.1 (r5_4 hR) ?_
    refine y_iload dX5_atAddress_59 rfl ?_
    refine y_ialdN ((((20 * m)) + k)) dX5_atAddress_61 (k5_4 hR) rfl (by omega) (by omega) (congrFun (hA 4 (by decide) (by decide)) ((((20 * m)) + k))) ?_
    refine y_if_ne 83 dX5_atAddress_62 (by decide) (fun c62 => ?_) (fun c62 => ?_)
    · rw [if_neg (fun q => c62 q.1)] at h1 h2
      refine y_iinc dX5_atAddress_83 rfl (fun x2 e_x2 => ?_)
      obtain rfl : x2 = nI (k + 1) := by rw [e_x2]; exact nI_1 (k)
      refine y_goto 35 dX5_atAddress_86 (by decide) ?_
      exact ih (k + 1) _ (by omega) h1 h2
    · refine y_aload_n dX5_atAddress_65 rfl ?_
      refine y_getr 5 5 dX5_atAddress_66 rfl rfl hR.1 (r5_5 hR) ?_
      refine y_iload dX5_atAddress_69 rfl ?_
      refine y_ialdN ((((20 * m)) + k)) dX5_atAddress_71 (k5_5 hR) rfl (by omega) (by omega) (congrFun (hA 5 (by decide) (by decide)) ((((20 * m)) + k))) ?_
      refine y_iload_n dX5_atAddress_72 rfl ?_
      refine y_sipush (v := 1000) dX5_atAddress_73 (by decide) ?_
      refine y_irem dX5_atAddress_76 (by decide) ?_
      refine y_icmp_ne 83 dX5_atAddress_77 (by decide) (fun c77 => ?_) (fun c77 => ?_)
      · rw [if_neg (fun q => c77 q.2)] at h1 h2
        refine y_iinc dX5_atAddress_83 rfl (fun x3 e_x3 => ?_)
        obtain rfl : x3 = nI (k + 1) := by rw [e_x3]; exact nI_1 (k)
        refine y_goto 35 dX5_atAddress_86 (by decide) ?_
        exact ih (k + 1) _ (by omega) h1 h2
      · rw [if_pos ⟨c62, c77⟩] at h1 h2
        refine y_iload dX5_atAddress_80 rfl ?_
        exact h2 _ _ rfl
theorem katAddress {d : Nat} {Pp : Option Value → xH → Prop} {K : Nat → Nat × Nat} {I : Nat → Nat → Int32} {P : Nat → Nat → Option Nat} {n s : Nat} {R : Nat} {X : xX} {ord : List Nat} {x : Int32} (hR : xAt K P R 5) (hA : xPg I R X) (hw : ∀ m, m < 12 → wfM X m) (hc : I R 15 = nI ord.length) (ho : xHl I (R + 12) ord) (ho2 : ∀ q ∈ ord, q < 12) (ho3 : ord.length ≤ 12) (hn : rAt X ord x = none → Pp (some (.int (-1))) (K, I, P, n, s)) (hs : ∀ e, rAt X ord x = some e → Pp (some (.int (nI e))) (K, I, P, n, s)) : xC d mX5_atAddress [(.ref R), (.int x)] (K, I, P, n, s) Pp := by
  refine y_met 0 0 ?_
  show xB d 5 cX5_atAddress (some .int) false (xE n s 0 0 Pp) 0 [some (.ref R), some (.int x), none, none, none, none] [] (K, I, P, n, s)
  have hge : ¬ x.toInt < 1000 → ∃ p : Nat, p < 2 ^ 31 - 1 ∧ x / 1000 - 1 = nI p := fun h => by
    have e1 : x = nI x.toInt.toNat := zN (by omega)
    have h2 := Int32.toInt_lt x
    refine ⟨x.toInt.toNat / 1000 - 1, by omega, ?_⟩
    have e2 : x / 1000 = nI (x.toInt.toNat / 1000) := by
      conv => lhs; rw [e1]
      exact pk_div (by omega) (by decide) (by decide)
    rw [e2]
    exact pk_sub (b := 1) (by omega)
  unfold rAt at hn hs
  refine y_iload_n dX5_atAddress_0 rfl ?_
  refine y_sipush (v := 1000) dX5_atAddress_1 (by decide) ?_
  refine y_idiv dX5_atAddress_4 (by decide) ?_
  refine y_iconst (v := 1) dX5_atAddress_5 (by decide) ?_
  refine y_isub dX5_atAddress_6 ?_
  refine y_istore_n dX5_atAddress_7 (by first | (simp; done) | (simp; decide)) (fun z e_z => ?_)
  refine y_iload_n dX5_atAddress_8 rfl ?_
  refine y_sipush (v := 1000) dX5_atAddress_9 (by decide) ?_
  refine y_icmpZ_lt 23 (x.toInt) (1000) dX5_atAddress_12 (by decide) rfl rfl (fun c12 => ?_) (fun c12 => ?_)
  · refine y_iconst (v := (-1)) dX5_atAddress_23 (by decide) ?_
    rw [if_pos c12] at hn
    exact y_ret dX5_atAddress_24 rfl rfl (hn rfl)
  · rw [if_neg c12] at hn hs
    obtain ⟨p, hp1, ep⟩ := hge c12
    have e_z := e_z.trans ep
    subst e_z
    refine y_iload_n dX5_atAddress_15 rfl ?_
    refine y_aload_n dX5_atAddress_16 rfl ?_
    refine y_getv 5 15 dX5_atAddress_17 rfl rfl hR.1 hc ?_
    refine y_icmpN_lt 25 (p) (ord.length) dX5_atAddress_20 (by decide) rfl rfl (by omega) (by omega) (fun c20 => ?_) (fun c20 => ?_)
    · obtain ⟨q, hq⟩ : ∃ q, ord[p]? = some q := ⟨_, List.getElem?_eq_getElem (by omega)⟩
      have hq2 := ho2 q (List.mem_of_getElem? hq)
      rw [ep, rN_nI (by omega), hq] at hn hs
      simp only at hn hs
      refine y_aload_n dX5_atAddress_25 rfl ?_
      refine y_getr 5 16 dX5_atAddress_26 rfl rfl hR.1 (r5_16 hR) ?_
      refine y_iload_n dX5_atAddress_29 rfl ?_
      refine y_ialdN (p) dX5_atAddress_30 (k5_16 hR) rfl (by omega) (by omega) (ho p q hq) ?_
      refine y_istore_n dX5_atAddress_31 (by first | (simp; done) | (simp; decide)) (fun x1 e_x1 => ?_)
      subst e_x1
      refine y_iconst (v := nI 0) dX5_atAddress_32 (by decide) ?_
      refine y_istore dX5_atAddress_33 (by first | (simp; done) | (simp; decide)) (fun x2 e_x2 => ?_)
      subst e_x2
      refine kata_loop hR hA hq2 (hw q hq2) _ 0 _ (Nat.zero_add _) (fun z ls => y_ret dX5_atAddress_90 rfl rfl (hn z)) (fun e ls z => y_ret dX5_atAddress_82 rfl rfl (hs e z))
    · refine y_iconst (v := (-1)) dX5_atAddress_23 (by decide) ?_
      rw [ep, rN_nI (by omega), List.getElem?_eq_none (by omega)] at hn
      exact y_ret dX5_atAddress_24 rfl rfl (hn rfl)
theorem kraddressOf {d : Nat} {Pp : Option Value → xH → Prop} {K : Nat → Nat × Nat} {I : Nat → Nat → Int32} {P : Nat → Nat → Option Nat} {n s : Nat} {R : Nat} {X : xX} {ord : List Nat} {o : Option Nat} (hR : xAt K P R 5) (hA : xPg I R X) (hl : I R 12 = 1) (hc : I R 15 = nI ord.length) (ho : xHl I (R + 12) ord) (ho3 : ord.length ≤ 12) (he : ∀ e, o = some e → e < 240) (hp : Pp (some (.int (rAd X ord o))) (K, I, P, n, s)) : xC (d + 1) mX5_addressOf [(.ref R), (.int (oI o))] (K, I, P, n, s) Pp := by
  refine y_met 0 0 ?_
  show xB (d + 1) 5 cX5_addressOf (some .int) false (xE n s 0 0 Pp) 0 [some (.ref R), some (.int (oI o))] [] (K, I, P, n, s)
  cases o with
  | none =>
    refine y_iload_n dX5_addressOf_0 rfl ?_
    refine y_iconst (v := (-1)) dX5_addressOf_1 (by decide) ?_
    refine y_icmp_ne 9 dX5_addressOf_2 (by decide) (fun q => absurd q (by decide)) (fun _ => ?_)
    refine y_iconst (v := 0) dX5_addressOf_5 (by decide) ?_
    refine y_goto 30 dX5_addressOf_6 (by decide) ?_
    exact y_ret dX5_addressOf_30 rfl rfl hp
  | some e =>
    have he := he e rfl
    unfold rAd at hp
    simp only at hp
    refine y_iload_n dX5_addressOf_0 rfl ?_
    refine y_iconst (v := (-1)) dX5_addressOf_1 (by decide) ?_
    refine y_icmp_ne 9 dX5_addressOf_2 (by decide) (fun _ => ?_) (fun c2 => absurd c2 (nI_m1 (by omega)))
    refine y_sipush (v := 1000) dX5_addressOf_9 (by decide) ?_
    refine y_aload_n dX5_addressOf_12 rfl ?_
    refine y_iload_n dX5_addressOf_13 rfl ?_
    refine y_bipush (v := 20) dX5_addressOf_14 (by decide) ?_
    refine y_idivv ((nI (e / 20))) dX5_addressOf_16 (by decide) (pk_div (by omega) (by decide) (by decide)) ?_
    refine y_callV1 mX5_placeOf dX5_addressOf_17 rfl rfl hR.1 (Nat.le_of_ble_eq_true rfl) (kplaceOf1 hR hl hc ho ho3 (fun en => ?_) (fun e2 es => ?_))
    · rw [en] at hp
      refine y_iconst (v := 1) dX5_addressOf_20 (by decide) ?_
      refine y_iadd dX5_addressOf_21 ?_
      refine y_imul dX5_addressOf_22 ?_
      refine y_aload_n dX5_addressOf_23 rfl ?_
      refine y_getr 5 5 dX5_addressOf_24 rfl rfl hR.1 (r5_5 hR) ?_
      refine y_iload_n dX5_addressOf_27 rfl ?_
      refine y_ialdN (e) dX5_addressOf_28 (k5_5 hR) rfl (by omega) (by omega) (congrFun (hA 5 (by decide) (by decide)) (e)) ?_
      refine y_iadd dX5_addressOf_29 ?_
      exact y_ret dX5_addressOf_30 rfl rfl hp
    · rw [es] at hp
      refine y_iconst (v := 1) dX5_addressOf_20 (by decide) ?_
      refine y_iadd dX5_addressOf_21 ?_
      refine y_imul dX5_addressOf_22 ?_
      refine y_aload_n dX5_addressOf_23 rfl ?_
      refine y_getr 5 5 dX5_addressOf_24 rfl rfl hR.1 (r5_5 hR) ?_
      refine y_iload_n dX5_addressOf_27 rfl ?_
      refine y_ialdN (e) dX5_addressOf_28 (k5_5 hR) rfl (by omega) (by omega) (congrFun (hA 5 (by decide) (by decide)) (e)) ?_
      refine y_iadd dX5_addressOf_29 ?_
      exact y_ret dX5_addressOf_30 rfl rfl hp
