/-! the reference: names, orders, uses -/
/-- the program in the reference's memory is X's -/
def xPg (I : Nat → Nat → Int32) (R : Nat) (X : xX) : Prop := ∀ i, 1 ≤ i → i ≤ 11 → I (R + i) = X i
/-- an array holds a list of modules -/
def xHl (I : Nat → Nat → Int32) (a : Nat) (ord : List Nat) : Prop := ∀ p m, ord[p]? = some m → I a p = nI m
def bI (b : Bool) : Int32 := if b then 1 else 0
def sPlc (x : Int32) : List Nat → Nat → Option Nat
  | [], _ => none
  | q :: r, p => if nI q = x then some p else sPlc x r (p + 1)
def sUC (X : xX) (m : Nat) (x : Int32) : Nat → Nat → Bool
  | 0, _ => false
  | t + 1, k => (decide (sOp X m k = 7) && decide (sAr X m k 1 = x)) || sUC X m x t (k + 1)
theorem drop_get {l : List Nat} {p q : Nat} {r : List Nat} (h : l.drop p = q :: r) : p < l.length ∧ l[p]? = some q ∧ l.drop (p + 1) = r := by
  have h1 : p < l.length := by
    rcases Nat.lt_or_ge p l.length with z | z
    · exact z
    · rw [List.drop_eq_nil_of_le z] at h; cases h
  rw [List.drop_eq_getElem_cons h1] at h
  cases h
  exact ⟨h1, List.getElem?_eq_getElem h1, rfl⟩
theorem drop_nil {l : List Nat} {p : Nat} (h : l.drop p = []) : l.length ≤ p := List.drop_eq_nil_iff.mp h
theorem kofName_loop {d R : Nat} {X : xX} {Q : Option Value → xH → Prop} {K : Nat → Nat × Nat} {I : Nat → Nat → Int32} {P : Nat → Nat → Option Nat} {n s : Nat} (hR : xAt K P R 5) (hA : xPg I R X) {m : Nat} {x : Int32} (hm : m < 12) (hw : wfM X m) : ∀ (t k : Nat), k + t = gF X m → (sOfF X m x t k = none → ∀ y, xB d 5 cX5_ofName (some .int) false Q 40 [some (.ref R), some (.int (nI m)), some (.int x), some (.int y)] [] (K, I, P, n, s)) → (∀ e y, sOfF X m x t k = some e → xB d 5 cX5_ofName (some .int) false Q 33 [some (.ref R), some (.int (nI m)), some (.int x), some (.int y)] [.int (nI e)] (K, I, P, n, s)) → xB d 5 cX5_ofName (some .int) false Q 2 [some (.ref R), some (.int (nI m)), some (.int x), some (.int (nI k))] [] (K, I, P, n, s) := by
  obtain ⟨-, -, ⟨w1, w2⟩, -⟩ := hw
  intro t
  induction t with
  | zero =>
    intro k hk h1 h2
    refine y_iload_n dX5_ofName_2 rfl ?_
    refine y_aload_n dX5_ofName_3 rfl ?_
    refine y_getr 5 7 dX5_ofName_4 rfl rfl hR.1 (r5_7 hR) ?_
    refine y_iload_n dX5_ofName_7 rfl ?_
    refine y_ialdN (m) dX5_ofName_8 (k5_7 hR) rfl (by omega) (by omega) ((congrFun (hA 7 (by decide) (by decide)) m).trans w1) ?_
    refine y_icmpN_ge 40 (k) ((gF X m)) dX5_ofName_9 (by decide) rfl rfl (by omega) (by omega) (fun _ => ?_) (fun c9 => absurd c9 (by omega))
    exact h1 rfl _
  | succ t ih =>
    intro k hk h1 h2
    refine y_iload_n dX5_ofName_2 rfl ?_
    refine y_aload_n dX5_ofName_3 rfl ?_
    refine y_getr 5 7 dX5_ofName_4 rfl rfl hR.1 (r5_7 hR) ?_
    refine y_iload_n dX5_ofName_7 rfl ?_
    refine y_ialdN (m) dX5_ofName_8 (k5_7 hR) rfl (by omega) (by omega) ((congrFun (hA 7 (by decide) (by decide)) m).trans w1) ?_
    refine y_icmpN_ge 40 (k) ((gF X m)) dX5_ofName_9 (by decide) rfl rfl (by omega) (by omega) (fun c9 => absurd c9 (by omega)) (fun _ => ?_)
    refine y_aload_n dX5_ofName_12 rfl ?_
    refine y_getr 5 3 dX5_ofName_13 rfl rfl hR.1 (r5_3 hR) ?_
    refine y_bipush (v := 20) dX5_ofName_16 (by decide) ?_
    refine y_iload_n dX5_ofName_18 rfl ?_
    refine y_imulv (nI (20 * m)) dX5_ofName_19 (pk_mul (20) (m)) ?_
    refine y_iload_n dX5_ofName_20 rfl ?_
    refine y_iaddv (nI (((20 * m)) + k)) dX5_ofName_21 (nI_add ((20 * m)) (k)) ?_
    refine y_ialdN ((((20 * m)) + k)) dX5_ofName_22 (k5_3 hR) rfl (by omega) (by omega) (congrFun (hA 3 (by decide) (by decide)) ((((20 * m)) + k))) ?_
    refine y_iload_n dX5_ofName_23 rfl ?_
    refine y_icmp_ne 34 dX5_ofName_24 (by decide) (fun c24 => ?_) (fun c24 => ?_)
    · unfold sOfF at h1 h2
      rw [if_neg c24] at h1 h2
      refine y_iinc dX5_ofName_34 rfl (fun x1 e_x1 => ?_)
      obtain rfl : x1 = nI (k + 1) := by rw [e_x1]; exact nI_1 (k)
      refine y_goto 2 dX5_ofName_37 (by decide) ?_
      exact ih (k + 1) (by omega) h1 h2
    · unfold sOfF at h1 h2
      rw [if_pos c24] at h1 h2
      refine y_bipush (v := 20) dX5_ofName_27 (by decide) ?_
      refine y_iload_n dX5_ofName_29 rfl ?_
      refine y_imulv (nI (20 * m)) dX5_ofName_30 (pk_mul (20) (m)) ?_
      refine y_iload_n dX5_ofName_31 rfl ?_
      refine y_iaddv (nI (((20 * m)) + k)) dX5_ofName_32 (nI_add ((20 * m)) (k)) ?_
      exact h2 _ _ rfl
theorem kofName {d : Nat} {Pp : Option Value → xH → Prop} {K : Nat → Nat × Nat} {I : Nat → Nat → Int32} {P : Nat → Nat → Option Nat} {n s : Nat} {R m : Nat} {X : xX} {x : Int32} (hR : xAt K P R 5) (hA : xPg I R X) (hm : m < 12) (hw : wfM X m) (hn : sOf X m x = none → Pp (some (.int (-1))) (K, I, P, n, s)) (hs : ∀ e, sOf X m x = some e → Pp (some (.int (nI e))) (K, I, P, n, s)) : xC d mX5_ofName [(.ref R), (.int (nI m)), (.int x)] (K, I, P, n, s) Pp := by
  refine y_met 0 0 ?_
  show xB d 5 cX5_ofName (some .int) false (xE n s 0 0 Pp) 0 [some (.ref R), some (.int (nI m)), some (.int x), none] [] (K, I, P, n, s)
  refine y_iconst (v := nI 0) dX5_ofName_0 (by decide) ?_
  refine y_istore_n dX5_ofName_1 (by simp) (fun x1 e_x1 => ?_)
  subst e_x1
  refine kofName_loop hR hA hm hw _ 0 (Nat.zero_add _) (fun q y => ?_) (fun e y q => ?_)
  · refine y_iconst (v := (-1)) dX5_ofName_40 (by decide) ?_
    exact y_ret dX5_ofName_41 rfl rfl (hn q)
  · exact y_ret dX5_ofName_33 rfl rfl (hs e q)
theorem kmoduleOf {d : Nat} {Pp : Option Value → xH → Prop} {K : Nat → Nat × Nat} {I : Nat → Nat → Int32} {P : Nat → Nat → Option Nat} {n s : Nat} {R : Nat} {o : Option Nat} (ho : ∀ e, o = some e → e < 240) (hp : Pp (some (.int (oM o))) (K, I, P, n, s)) : xC d mX5_moduleOf [(.ref R), (.int (oI o))] (K, I, P, n, s) Pp := by
  refine y_met 0 0 ?_
  show xB d 5 cX5_moduleOf (some .int) false (xE n s 0 0 Pp) 0 [some (.ref R), some (.int (oI o))] [] (K, I, P, n, s)
  cases o with
  | none =>
    show xB d 5 cX5_moduleOf (some .int) false (xE n s 0 0 Pp) 0 [some (.ref R), some (.int (-1))] [] (K, I, P, n, s)
    refine y_iload_n dX5_moduleOf_0 rfl ?_
    refine y_iconst (v := (-1)) dX5_moduleOf_1 (by decide) ?_
    refine y_icmp_ne 10 dX5_moduleOf_2 (by decide) (fun q => absurd q (by decide)) (fun _ => ?_)
    refine y_bipush (v := 20) dX5_moduleOf_5 (by decide) ?_
    refine y_goto 14 dX5_moduleOf_7 (by decide) ?_
    exact y_ret dX5_moduleOf_14 rfl rfl hp
  | some e =>
    have he := ho e rfl
    show xB d 5 cX5_moduleOf (some .int) false (xE n s 0 0 Pp) 0 [some (.ref R), some (.int (nI e))] [] (K, I, P, n, s)
    refine y_iload_n dX5_moduleOf_0 rfl ?_
    refine y_iconst (v := (-1)) dX5_moduleOf_1 (by decide) ?_
    refine y_icmp_ne 10 dX5_moduleOf_2 (by decide) (fun _ => ?_) (fun c2 => absurd c2 (nI_m1 (by omega)))
    refine y_iload_n dX5_moduleOf_10 rfl ?_
    refine y_bipush (v := 20) dX5_moduleOf_11 (by decide) ?_
    refine y_idivv (nI (e / 20)) dX5_moduleOf_13 (by decide) (pk_div (by omega) (by decide) (by decide)) ?_
    exact y_ret dX5_moduleOf_14 rfl rfl hp
theorem sAm_lt {X : xX} {x : Int32} (hw : ∀ m, m < 12 → wfM X m) : ∀ {ord : List Nat} {w : Option Nat}, (∀ m ∈ ord, m < 12) → (∀ e, w = some e → e < 240) → ∀ e, sAm X x ord w = some e → e < 240
  | [], w, _, hw2, e, h => hw2 e h
  | p :: r, w, ho, hw2, e, h => by
    unfold sAm at h
    have hp := ho p List.mem_cons_self
    have hr := fun m hm => ho m (List.mem_cons_of_mem _ hm)
    cases hq : sOf X p x with
    | none => rw [hq] at h; exact sAm_lt hw hr hw2 e h
    | some z =>
      have hz := (sOf_lt (hw p hp).2.2.1.2 hp hq).1
      rw [hq] at h
      simp only at h
      split at h
      · split at h
        · cases h; exact hz
        · refine sAm_lt hw hr (fun e2 h2 => ?_) e h
          cases w with
          | none => cases h2; exact hz
          | some z2 => cases h2; exact hw2 _ rfl
      · exact sAm_lt hw hr hw2 e h
theorem sFi_lt {X : xX} {x : Int32} {ord : List Nat} {m : Nat} (hw : ∀ m, m < 12 → wfM X m) (hm : m < 12) (ho : ∀ m ∈ ord, m < 12) : ∀ e, sFi X ord m x = some e → e < 240 := by
  intro e h
  unfold sFi at h
  cases hq : sOf X m x with
  | none => rw [hq] at h; exact sAm_lt hw ho (fun e h => by cases h) e h
  | some z =>
    rw [hq] at h
    simp only at h
    split at h
    · exact sAm_lt hw ho (fun e h => by cases h) e h
    · cases h; exact (sOf_lt (hw m hm).2.2.1.2 hm hq).1
set_option maxHeartbeats 1000000 in
theorem kfind_loop {d R : Nat} {X : xX} {Q : Option Value → xH → Prop} {K : Nat → Nat × Nat} {I : Nat → Nat → Int32} {P : Nat → Nat → Option Nat} {n s : Nat} (hR : xAt K P R 5) (hA : xPg I R X) {a m : Nat} {x : Int32} {ord : List Nat} (ha : K a = (100, 12)) (ho : xHl I a ord) (ho2 : ∀ q ∈ ord, q < 12) (ho3 : ord.length ≤ 12) (hm : m < 12) (hw : ∀ m, m < 12 → wfM X m) {v5 : Option Value} : ∀ (l : List Nat) (p : Nat) (w : Option Nat) (v8 : Option Value), p ≤ ord.length → ord.drop p = l → (∀ e, w = some e → e < 240) → (∀ ls r, oI (sAm X x l w) = r → xB (d + 1) 5 cX5_find (some .int) false Q 111 ls [.int r] (K, I, P, n, s) ∧ xB (d + 1) 5 cX5_find (some .int) false Q 87 ls [.int r] (K, I, P, n, s)) → xB (d + 1) 5 cX5_find (some .int) false Q 37 [some (.ref R), some (.ref a), some (.int (nI ord.length)), some (.int (nI m)), some (.int x), v5, some (.int (oI w)), some (.int (nI p)), v8] [] (K, I, P, n, s) := by
  intro l
  induction l with
  | nil =>
    intro p w v8 hp hl hw2 k
    have h1 := drop_nil hl
    refine y_iload dX5_find_37 rfl ?_
    refine y_iload_n dX5_find_39 rfl ?_
    refine y_icmpN_ge 109 (p) (ord.length) dX5_find_40 (by decide) rfl rfl (by omega) (by omega) (fun _ => ?_) (fun c40 => absurd c40 (by omega))
    refine y_iload dX5_find_109 rfl ?_
    exact (k _ _ rfl).1
  | cons q r ih =>
    intro p w v8 hp hl hw2 k
    obtain ⟨h1, h2, h3⟩ := drop_get hl
    have hq : q < 12 := ho2 q (List.mem_of_getElem? h2)
    unfold sAm at k
    refine y_iload dX5_find_37 rfl ?_
    refine y_iload_n dX5_find_39 rfl ?_
    refine y_icmpN_ge 109 (p) (ord.length) dX5_find_40 (by decide) rfl rfl (by omega) (by omega) (fun c40 => absurd c40 (by omega)) (fun _ => ?_)
    refine y_aload_n dX5_find_43 rfl ?_
    refine y_aload_n dX5_find_44 rfl ?_
    refine y_iload dX5_find_45 rfl ?_
    refine y_ialdN (p) dX5_find_47 ha rfl (by omega) (by omega) (ho p q h2) ?_
    refine y_iload dX5_find_48 rfl ?_
    refine y_callV2 mX5_ofName dX5_find_50 rfl rfl hR.1 (Nat.le_of_ble_eq_true rfl) (kofName hR hA hq (hw q hq) (fun eq => ?_) (fun e eq => ?_))
    · rw [eq] at k
      refine y_istore dX5_find_53 (by simp) (fun x1 e_x1 => ?_)
      subst e_x1
      refine y_iload dX5_find_55 rfl ?_
      refine y_iconst (v := (-1)) dX5_find_57 (by decide) ?_
      refine y_icmp_eq 103 dX5_find_58 (by decide) (fun _ => ?_) (fun q => absurd q (by decide))
      refine y_iinc dX5_find_103 rfl (fun x2 e_x2 => ?_)
      obtain rfl : x2 = nI (p + 1) := by rw [e_x2]; exact nI_1 (p)
      refine y_goto 37 dX5_find_106 (by decide) ?_
      exact ih (p + 1) w _ h1 h3 hw2 k
    · rw [eq] at k
      simp only at k
      have he := (sOf_lt (hw q hq).2.2.1.2 hq eq).1
      refine y_istore dX5_find_53 (by simp) (fun x3 e_x3 => ?_)
      subst e_x3
      refine y_iload dX5_find_55 rfl ?_
      refine y_iconst (v := (-1)) dX5_find_57 (by decide) ?_
      refine y_icmp_eq 103 dX5_find_58 (by decide) (fun c58 => absurd c58 (nI_m1 (by omega))) (fun _ => ?_)
      refine y_aload_n dX5_find_61 rfl ?_
      refine y_getr 5 6 dX5_find_62 rfl rfl hR.1 (r5_6 hR) ?_
      refine y_iload dX5_find_65 rfl ?_
      refine y_ialdN (e) dX5_find_67 (k5_6 hR) rfl (by omega) (by omega) (congrFun (hA 6 (by decide) (by decide)) (e)) ?_
      refine y_iconst (v := 4) dX5_find_68 (by decide) ?_
      refine y_iand dX5_find_69 ?_
      refine y_if_ne 103 dX5_find_70 (by decide) (fun c70 => ?_) (fun c70 => ?_)
      · rw [if_neg c70] at k
        refine y_iinc dX5_find_103 rfl (fun x4 e_x4 => ?_)
        obtain rfl : x4 = nI (p + 1) := by rw [e_x4]; exact nI_1 (p)
        refine y_goto 37 dX5_find_106 (by decide) ?_
        exact ih (p + 1) w _ h1 h3 hw2 k
      · rw [if_pos c70] at k
        refine y_aload_n dX5_find_73 rfl ?_
        refine y_getr 5 6 dX5_find_74 rfl rfl hR.1 (r5_6 hR) ?_
        refine y_iload dX5_find_77 rfl ?_
        refine y_ialdN (e) dX5_find_79 (k5_6 hR) rfl (by omega) (by omega) (congrFun (hA 6 (by decide) (by decide)) (e)) ?_
        refine y_iconst (v := 1) dX5_find_80 (by decide) ?_
        refine y_iand dX5_find_81 ?_
        refine y_if_ne 88 dX5_find_82 (by decide) (fun c82 => ?_) (fun c82 => ?_)
        · rw [if_neg c82] at k
          cases w with
          | none =>
            refine y_iload dX5_find_88 rfl ?_
            refine y_iconst (v := (-1)) dX5_find_90 (by decide) ?_
            refine y_icmp_ne 99 dX5_find_91 (by decide) (fun q => absurd q (by decide)) (fun _ => ?_)
            refine y_iload dX5_find_94 rfl ?_
            refine y_goto 101 dX5_find_96 (by decide) ?_
            refine y_istore dX5_find_101 (by simp) (fun x5 e_x5 => ?_)
            subst e_x5
            refine y_iinc dX5_find_103 rfl (fun x6 e_x6 => ?_)
            obtain rfl : x6 = nI (p + 1) := by rw [e_x6]; exact nI_1 (p)
            refine y_goto 37 dX5_find_106 (by decide) ?_
            exact ih (p + 1) (some e) _ h1 h3 (fun _ h => by cases h; exact he) k
          | some z =>
            refine y_iload dX5_find_88 rfl ?_
            refine y_iconst (v := (-1)) dX5_find_90 (by decide) ?_
            refine y_icmp_ne 99 dX5_find_91 (by decide) (fun _ => ?_) (fun c91 => absurd c91 (nI_m1 (by have := hw2 z rfl; omega)))
            refine y_iload dX5_find_99 rfl ?_
            refine y_istore dX5_find_101 (by simp) (fun x7 e_x7 => ?_)
            subst e_x7
            refine y_iinc dX5_find_103 rfl (fun x8 e_x8 => ?_)
            obtain rfl : x8 = nI (p + 1) := by rw [e_x8]; exact nI_1 (p)
            refine y_goto 37 dX5_find_106 (by decide) ?_
            exact ih (p + 1) (some z) _ h1 h3 hw2 k
        · rw [if_pos c82] at k
          refine y_iload dX5_find_85 rfl ?_
          exact (k _ _ rfl).2
theorem kfind {d : Nat} {Pp : Option Value → xH → Prop} {K : Nat → Nat × Nat} {I : Nat → Nat → Int32} {P : Nat → Nat → Option Nat} {n s : Nat} {R : Nat} {X : xX} {a m : Nat} {x : Int32} {ord : List Nat}  (hR : xAt K P R 5) (hA : xPg I R X) (ha : K a = (100, 12)) (ho : xHl I a ord) (ho2 : ∀ q ∈ ord, q < 12) (ho3 : ord.length ≤ 12) (hm : m < 12) (hw : ∀ m, m < 12 → wfM X m) (hn : sFi X ord m x = none → Pp (some (.int (-1))) (K, I, P, n, s)) (hs : ∀ e, sFi X ord m x = some e → e < 240 → Pp (some (.int (nI e))) (K, I, P, n, s)) : xC (d + 1) mX5_find [(.ref R), (.ref a), (.int (nI ord.length)), (.int (nI m)), (.int x)] (K, I, P, n, s) Pp := by
  refine y_met 0 0 ?_
  show xB (d + 1) 5 cX5_find (some .int) false (xE n s 0 0 Pp) 0 [some (.ref R), some (.ref a), some (.int (nI ord.length)), some (.int (nI m)), some (.int x), none, none, none, none] [] (K, I, P, n, s)
  have hlt := sFi_lt (x := x) hw hm ho2
  unfold sFi at hn hs hlt
  refine y_aload_n dX5_find_0 rfl ?_
  refine y_iload_n dX5_find_1 rfl ?_
  refine y_iload dX5_find_2 rfl ?_
  refine y_callV2 mX5_ofName dX5_find_4 rfl rfl hR.1 (Nat.le_of_ble_eq_true rfl) (kofName hR hA hm (hw m hm) (fun eq => ?_) (fun e eq => ?_))
  · rw [eq] at hn hs hlt
    simp only at hn hs hlt
    refine y_istore dX5_find_7 (by simp) (fun x1 e_x1 => ?_)
    subst e_x1
    refine y_iload dX5_find_9 rfl ?_
    refine y_iconst (v := (-1)) dX5_find_11 (by decide) ?_
    refine y_icmp_eq 31 dX5_find_12 (by decide) (fun _ => ?_) (fun q => absurd q (by decide))
    refine y_iconst (v := (-1)) dX5_find_31 (by decide) ?_
    refine y_istore dX5_find_32 (by simp) (fun x2 e_x2 => ?_)
    subst e_x2
    refine y_iconst (v := nI 0) dX5_find_34 (by decide) ?_
    refine y_istore dX5_find_35 (by simp) (fun x3 e_x3 => ?_)
    subst e_x3
    refine kfind_loop hR hA ha ho ho2 ho3 hm hw ord 0 none _ (Nat.zero_le _) rfl (fun _ h => by cases h) (fun ls r er => ?_)
    subst er
    cases hz : sAm X x ord none with
    | none => exact ⟨y_ret dX5_find_111 rfl rfl (hn hz), y_ret dX5_find_87 rfl rfl (hn hz)⟩
    | some z => exact ⟨y_ret dX5_find_111 rfl rfl (hs z hz (hlt z hz)), y_ret dX5_find_87 rfl rfl (hs z hz (hlt z hz))⟩
  · rw [eq] at hn hs hlt
    simp only at hn hs hlt
    have he := (sOf_lt (hw m hm).2.2.1.2 hm eq).1
    refine y_istore dX5_find_7 (by simp) (fun x4 e_x4 => ?_)
    subst e_x4
    refine y_iload dX5_find_9 rfl ?_
    refine y_iconst (v := (-1)) dX5_find_11 (by decide) ?_
    refine y_icmp_eq 31 dX5_find_12 (by decide) (fun c12 => absurd c12 (nI_m1 (by omega))) (fun _ => ?_)
    refine y_aload_n dX5_find_15 rfl ?_
    refine y_getr 5 6 dX5_find_16 rfl rfl hR.1 (r5_6 hR) ?_
    refine y_iload dX5_find_19 rfl ?_
    refine y_ialdN (e) dX5_find_21 (k5_6 hR) rfl (by omega) (by omega) (congrFun (hA 6 (by decide) (by decide)) (e)) ?_
    refine y_bipush (v := 6) dX5_find_22 (by decide) ?_
    refine y_iand dX5_find_24 ?_
    refine y_if_eq 31 dX5_find_25 (by decide) (fun c25 => ?_) (fun c25 => ?_)
    · rw [if_pos c25] at hn hs hlt
      refine y_iconst (v := (-1)) dX5_find_31 (by decide) ?_
      refine y_istore dX5_find_32 (by simp) (fun x5 e_x5 => ?_)
      subst e_x5
      refine y_iconst (v := nI 0) dX5_find_34 (by decide) ?_
      refine y_istore dX5_find_35 (by simp) (fun x6 e_x6 => ?_)
      subst e_x6
      refine kfind_loop hR hA ha ho ho2 ho3 hm hw ord 0 none _ (Nat.zero_le _) rfl (fun _ h => by cases h) (fun ls r er => ?_)
      subst er
      cases hz : sAm X x ord none with
      | none => exact ⟨y_ret dX5_find_111 rfl rfl (hn hz), y_ret dX5_find_87 rfl rfl (hn hz)⟩
      | some z => exact ⟨y_ret dX5_find_111 rfl rfl (hs z hz (hlt z hz)), y_ret dX5_find_87 rfl rfl (hs z hz (hlt z hz))⟩
    · rw [if_neg c25] at hs
      refine y_iload dX5_find_28 rfl ?_
      exact y_ret dX5_find_30 rfl rfl (hs e rfl he)
