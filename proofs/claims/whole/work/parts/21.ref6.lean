/-- rows 14 and 15 change, within their bounds -/
def xF2 (R : Nat) (I I' : Nat → Nat → Int32) : Prop := xF R [14, 15] [] I I' ∧ ∀ j, (768 ≤ j → I' (R + 14) j = I (R + 14) j) ∧ (240 ≤ j → I' (R + 15) j = I (R + 15) j)
theorem xF2.rf {R : Nat} {I : Nat → Nat → Int32} : xF2 R I I := ⟨xF.rf, fun _ => ⟨fun _ => rfl, fun _ => rfl⟩⟩
theorem xF2.tr {R : Nat} {I I' I2 : Nat → Nat → Int32} (h : xF2 R I I') (h2 : xF2 R I' I2) : xF2 R I I2 := ⟨h.1.tr h2.1, fun j => ⟨fun q => ((h2.2 j).1 q).trans ((h.2 j).1 q), fun q => ((h2.2 j).2 q).trans ((h.2 j).2 q)⟩⟩
theorem xF2.u14 {R i : Nat} {I : Nat → Nat → Int32} {x : Int32} (h : i < 768) : xF2 R I (xuI I (R + 14) i x) := ⟨xF.u 14 (by decide), fun j => ⟨fun q => xuI_o (Or.inr (by omega)), fun _ => xuI_o (Or.inl (by omega))⟩⟩
theorem xF2.u15 {R i : Nat} {I : Nat → Nat → Int32} {x : Int32} (h : i < 240) : xF2 R I (xuI I (R + 15) i x) := ⟨xF.u 15 (by decide), fun j => ⟨fun _ => xuI_o (Or.inl (by omega)), fun q => xuI_o (Or.inr (by omega))⟩⟩
/-- a slot as loaded -/
def sSl (X : xX) (ord : List Nat) (lz : Bool) (m v : Nat) : Int32 := if sUC X m (nI v) (gS X m) 0 = true then (if lz = true then 21 else oM (sFi X ord m (nI v))) else -1
theorem sUse_val {X : xX} {ord : List Nat} {m : Nat} {x : Int32} {fn : Bool} : sUse X ord m x fn = 0 ∨ sUse X ord m x fn = 1 ∨ sUse X ord m x fn = 2 := by
  unfold sUse
  split
  · split
    · exact Or.inr (Or.inl rfl)
    · exact Or.inl rfl
  · split
    · exact Or.inl rfl
    · exact Or.inr (Or.inr rfl)
theorem sLkS_val {X : xX} {ord : List Nat} {m : Nat} : ∀ (t k : Nat), (sLkS X ord m t k).1 = 0 ∨ (sLkS X ord m t k).1 = 1 ∨ (sLkS X ord m t k).1 = 2
  | 0, _ => Or.inl rfl
  | t + 1, k => by
    unfold sLkS
    split
    · split
      · exact sLkS_val t (k + 1)
      · exact sUse_val
    · exact sLkS_val t (k + 1)
theorem sLk_val {X : xX} {ord : List Nat} {m : Nat} : (sLk X ord m).1 = 0 ∨ (sLk X ord m).1 = 1 ∨ (sLk X ord m).1 = 2 := by
  unfold sLk
  split
  · exact sLkS_val _ _
  · split
    · exact sLkS_val _ _
    · exact sUse_val
theorem take_mem {l : List Nat} {p q : Nat} (h : l[p]? = some q) (m : Nat) : m ∈ l.take (p + 1) ↔ m ∈ l.take p ∨ m = q := by
  rw [List.take_add_one, h]
  simp
theorem ksa_1 {d R : Nat} {Q : Option Value → xH → Prop} {K : Nat → Nat × Nat} {P : Nat → Nat → Option Nat} {n s : Nat} (hR : xAt K P R 5) : ∀ (t i : Nat) (I : Nat → Nat → Int32), i + t = 768 → (∀ q, q < i → I (R + 14) q = -1) → (∀ I' y, xF2 R I I' → (∀ q, q < 768 → I' (R + 14) q = -1) → xB d 5 cX5_setAll none false Q 22 [some (.ref R), some (.int y), none, none] [] (K, I', P, n, s)) → xB d 5 cX5_setAll none false Q 2 [some (.ref R), some (.int (nI i)), none, none] [] (K, I, P, n, s) := by
  intro t
  induction t with
  | zero =>
    intro i I hi hq k1
    refine y_iload_n dX5_setAll_2 rfl ?_
    refine y_sipush (v := 768) dX5_setAll_3 (by decide) ?_
    refine y_icmpN_ge 22 (i) (768) dX5_setAll_6 (by decide) rfl rfl (by omega) (by omega) (fun _ => ?_) (fun c6 => absurd c6 (by omega))
    exact k1 I _ xF2.rf (fun q h => hq q (by omega))
  | succ t ih =>
    intro i I hi hq k1
    refine y_iload_n dX5_setAll_2 rfl ?_
    refine y_sipush (v := 768) dX5_setAll_3 (by decide) ?_
    refine y_icmpN_ge 22 (i) (768) dX5_setAll_6 (by decide) rfl rfl (by omega) (by omega) (fun c6 => absurd c6 (by omega)) (fun _ => ?_)
    refine y_aload_n dX5_setAll_9 rfl ?_
    refine y_getr 5 18 dX5_setAll_10 rfl rfl hR.1 (r5_18 hR) ?_
    refine y_iload_n dX5_setAll_13 rfl ?_
    refine y_iconst (v := (-1)) dX5_setAll_14 (by decide) ?_
    refine y_iast (i) dX5_setAll_15 (k5_18 hR) rfl (by omega) (by omega) ?_
    refine y_iinc dX5_setAll_16 rfl (fun x1 e_x1 => ?_)
    obtain rfl : x1 = nI (i + 1) := by rw [e_x1]; exact nI_1 (i)
    refine y_goto 2 dX5_setAll_19 (by decide) ?_
    refine ih (i + 1) _ (by omega) (fun q h => ?_) (fun I2 y q1 q2 => k1 I2 y ((xF2.u14 (by omega)).tr q1) q2)
    by_cases e : q = i
    · subst e; exact xuI_s
    · rw [xuI_o (Or.inr e)]; exact hq q (by omega)
set_option maxHeartbeats 1000000 in
theorem ksa_2 {d R : Nat} {X : xX} {Q : Option Value → xH → Prop} {K : Nat → Nat × Nat} {P : Nat → Nat → Option Nat} {n s : Nat} (hR : xAt K P R 5) {ord : List Nat} {lz : Bool} (ho2 : ∀ q ∈ ord, q < 12) (ho3 : ord.length ≤ 12) (hw : ∀ m, m < 12 → wfM X m) {p q : Nat} (hq : q < 12) (T : List Nat) : ∀ (t v : Nat) (I : Nat → Nat → Int32), v + t = 64 → xPg I R X → I R 15 = nI ord.length → I R 13 = bI lz → xHl I (R + 12) ord → (∀ a b, a < 12 → b < 64 → I (R + 14) (64 * a + b) = if a ∈ T ∨ (a = q ∧ b < v) then sSl X ord lz a b else -1) → (∀ I' y, xF2 R I I' → (∀ a b, a < 12 → b < 64 → I' (R + 14) (64 * a + b) = if a ∈ T ∨ a = q then sSl X ord lz a b else -1) → xB (d + 2) 5 cX5_setAll none false Q 103 [some (.ref R), some (.int (nI p)), some (.int (nI q)), some (.int y)] [] (K, I', P, n, s)) → xB (d + 2) 5 cX5_setAll none false Q 41 [some (.ref R), some (.int (nI p)), some (.int (nI q)), some (.int (nI v))] [] (K, I, P, n, s) := by
  intro t
  induction t with
  | zero =>
    intro v I hv hA h15 h13 ho hi k1
    refine y_iload_n dX5_setAll_41 rfl ?_
    refine y_bipush (v := 64) dX5_setAll_42 (by decide) ?_
    refine y_icmpN_ge 103 (v) (64) dX5_setAll_44 (by decide) rfl rfl (by omega) (by omega) (fun _ => ?_) (fun c44 => absurd c44 (by omega))
    refine k1 I _ xF2.rf (fun a b h1 h2 => ?_)
    rw [hi a b h1 h2]
    by_cases e : a ∈ T ∨ a = q
    · rw [if_pos e, if_pos (e.imp id (fun z => ⟨z, by omega⟩))]
    · rw [if_neg e, if_neg (fun z => e (z.imp id (fun y => y.1)))]
  | succ t ih =>
    intro v I hv hA h15 h13 ho hi k1
    have key : ∀ x : Int32, x = sSl X ord lz q v → ∀ a b, a < 12 → b < 64 → xuI I (R + 14) (64 * q + v) x (R + 14) (64 * a + b) = if a ∈ T ∨ (a = q ∧ b < v + 1) then sSl X ord lz a b else -1 := by
      intro x ex a b h1 h2
      by_cases e : a = q ∧ b = v
      · obtain ⟨rfl, rfl⟩ := e
        rw [xuI_s, if_pos (Or.inr ⟨rfl, Nat.lt_succ_self _⟩), ex]
      · rw [xuI_o (Or.inr (by omega)), hi a b h1 h2]
        by_cases e2 : a ∈ T ∨ (a = q ∧ b < v)
        · rw [if_pos e2, if_pos (e2.imp id (fun z => ⟨z.1, by omega⟩))]
        · rw [if_neg e2, if_neg (fun z => e2 (z.imp id (fun y => ⟨y.1, by omega⟩)))]
    refine y_iload_n dX5_setAll_41 rfl ?_
    refine y_bipush (v := 64) dX5_setAll_42 (by decide) ?_
    refine y_icmpN_ge 103 (v) (64) dX5_setAll_44 (by decide) rfl rfl (by omega) (by omega) (fun c44 => absurd c44 (by omega)) (fun _ => ?_)
    refine y_aload_n dX5_setAll_47 rfl ?_
    refine y_iload_n dX5_setAll_48 rfl ?_
    refine y_iload_n dX5_setAll_49 rfl ?_
    refine y_callV2 mX5_usesCall dX5_setAll_50 rfl rfl hR.1 (Nat.le_of_ble_eq_true rfl) (kusesCall hR hA hq (hw q hq) (fun eu => ?_) (fun eu => ?_))
    · refine y_if_eq 97 dX5_setAll_53 (by decide) (fun q => absurd q (by decide)) (fun _ => ?_)
      refine y_aload_n dX5_setAll_56 rfl ?_
      refine y_getr 5 18 dX5_setAll_57 rfl rfl hR.1 (r5_18 hR) ?_
      refine y_bipush (v := 64) dX5_setAll_60 (by decide) ?_
      refine y_iload_n dX5_setAll_62 rfl ?_
      refine y_imulv (nI (64 * q)) dX5_setAll_63 (pk_mul (64) (q)) ?_
      refine y_iload_n dX5_setAll_64 rfl ?_
      refine y_iaddv (nI (((64 * q)) + v)) dX5_setAll_65 (nI_add ((64 * q)) (v)) ?_
      cases lz with
      | true =>
        refine y_aload_n dX5_setAll_66 rfl ?_
        refine y_getv 5 13 dX5_setAll_67 rfl rfl hR.1 h13 ?_
        refine y_if_eq 78 dX5_setAll_70 (by decide) (fun q => absurd q (by decide)) (fun _ => ?_)
        refine y_bipush (v := 21) dX5_setAll_73 (by decide) ?_
        refine y_goto 96 dX5_setAll_75 (by decide) ?_
        refine y_iast ((((64 * q)) + v)) dX5_setAll_96 (k5_18 hR) rfl (by omega) (by omega) ?_
        refine y_iinc dX5_setAll_97 rfl (fun x1 e_x1 => ?_)
        obtain rfl : x1 = nI (v + 1) := by rw [e_x1]; exact nI_1 (v)
        refine y_goto 41 dX5_setAll_100 (by decide) ?_
        exact ih (v + 1) _ (by omega) ((xF.u (flds := []) (rows := [14, 15]) 14 (by decide)).pg hA (by decide)) (by rw [xuI_o (Or.inl (by omega))]; exact h15) (by rw [xuI_o (Or.inl (by omega))]; exact h13) (xHl_put ho (Or.inl (by omega))) (key _ (by unfold sSl; rw [if_pos eu, if_pos rfl])) (fun I2 y q1 q2 => k1 I2 y ((xF2.u14 (by omega)).tr q1) q2)
      | false =>
        refine y_aload_n dX5_setAll_66 rfl ?_
        refine y_getv 5 13 dX5_setAll_67 rfl rfl hR.1 h13 ?_
        refine y_if_eq 78 dX5_setAll_70 (by decide) (fun _ => ?_) (fun q => absurd q (by decide))
        refine y_aload_n dX5_setAll_78 rfl ?_
        refine y_aload_n dX5_setAll_79 rfl ?_
        refine y_aload_n dX5_setAll_80 rfl ?_
        refine y_getr 5 16 dX5_setAll_81 rfl rfl hR.1 (r5_16 hR) ?_
        refine y_aload_n dX5_setAll_84 rfl ?_
        refine y_getv 5 15 dX5_setAll_85 rfl rfl hR.1 h15 ?_
        refine y_iload_n dX5_setAll_88 rfl ?_
        refine y_iload_n dX5_setAll_89 rfl ?_
        refine y_callV4 mX5_find dX5_setAll_90 rfl rfl hR.1 (Nat.le_of_ble_eq_true rfl) (kfind (d := d) hR hA (k5_16 hR) ho ho2 ho3 hq hw (fun ef => ?_) (fun e ef he => ?_))
        · refine y_callV1 mX5_moduleOf dX5_setAll_93 rfl rfl hR.1 (Nat.le_of_ble_eq_true rfl) (kmoduleOf (o := none) (fun _ h => by cases h) ?_)
          refine y_iast ((((64 * q)) + v)) dX5_setAll_96 (k5_18 hR) rfl (by omega) (by omega) ?_
          refine y_iinc dX5_setAll_97 rfl (fun x2 e_x2 => ?_)
          obtain rfl : x2 = nI (v + 1) := by rw [e_x2]; exact nI_1 (v)
          refine y_goto 41 dX5_setAll_100 (by decide) ?_
          exact ih (v + 1) _ (by omega) ((xF.u (flds := []) (rows := [14, 15]) 14 (by decide)).pg hA (by decide)) (by rw [xuI_o (Or.inl (by omega))]; exact h15) (by rw [xuI_o (Or.inl (by omega))]; exact h13) (xHl_put ho (Or.inl (by omega))) (key _ (by unfold sSl; rw [if_pos eu, if_neg (by decide), ef])) (fun I2 y q1 q2 => k1 I2 y ((xF2.u14 (by omega)).tr q1) q2)
        · refine y_callV1 mX5_moduleOf dX5_setAll_93 rfl rfl hR.1 (Nat.le_of_ble_eq_true rfl) (kmoduleOf (o := some e) (fun _ h => by cases h; exact he) ?_)
          refine y_iast ((((64 * q)) + v)) dX5_setAll_96 (k5_18 hR) rfl (by omega) (by omega) ?_
          refine y_iinc dX5_setAll_97 rfl (fun x3 e_x3 => ?_)
          obtain rfl : x3 = nI (v + 1) := by rw [e_x3]; exact nI_1 (v)
          refine y_goto 41 dX5_setAll_100 (by decide) ?_
          exact ih (v + 1) _ (by omega) ((xF.u (flds := []) (rows := [14, 15]) 14 (by decide)).pg hA (by decide)) (by rw [xuI_o (Or.inl (by omega))]; exact h15) (by rw [xuI_o (Or.inl (by omega))]; exact h13) (xHl_put ho (Or.inl (by omega))) (key _ (by unfold sSl; rw [if_pos eu, if_neg (by decide), ef])) (fun I2 y q1 q2 => k1 I2 y ((xF2.u14 (by omega)).tr q1) q2)
    · refine y_if_eq 97 dX5_setAll_53 (by decide) (fun _ => ?_) (fun q => absurd q (by decide))
      refine y_iinc dX5_setAll_97 rfl (fun x4 e_x4 => ?_)
      obtain rfl : x4 = nI (v + 1) := by rw [e_x4]; exact nI_1 (v)
      refine y_goto 41 dX5_setAll_100 (by decide) ?_
      refine ih (v + 1) I (by omega) hA h15 h13 ho (fun a b h1 h2 => ?_) k1
      rw [hi a b h1 h2]
      by_cases e : a = q ∧ b = v
      · obtain ⟨rfl, rfl⟩ := e
        rw [show sSl X ord lz a b = -1 from if_neg (by rw [eu]; decide), ite_self, ite_self]
      · by_cases e2 : a ∈ T ∨ (a = q ∧ b < v)
        · rw [if_pos e2, if_pos (e2.imp id (fun z => ⟨z.1, by omega⟩))]
        · rw [if_neg e2, if_neg (fun z => e2 (z.imp id (fun y => ⟨y.1, by omega⟩)))]
theorem ksa_3 {d R : Nat} {X : xX} {Q : Option Value → xH → Prop} {K : Nat → Nat × Nat} {P : Nat → Nat → Option Nat} {n s : Nat} (hR : xAt K P R 5) {ord : List Nat} {lz : Bool} (ho2 : ∀ q ∈ ord, q < 12) (ho3 : ord.length ≤ 12) (hw : ∀ m, m < 12 → wfM X m) : ∀ (l : List Nat) (p : Nat) (I : Nat → Nat → Int32) (v2 v3 : Option Value), p ≤ ord.length → ord.drop p = l → xPg I R X → I R 15 = nI ord.length → I R 13 = bI lz → xHl I (R + 12) ord → (∀ a b, a < 12 → b < 64 → I (R + 14) (64 * a + b) = if a ∈ ord.take p then sSl X ord lz a b else -1) → (∀ I' v1 v2 v3, xF2 R I I' → (∀ a b, a < 12 → b < 64 → I' (R + 14) (64 * a + b) = if a ∈ ord then sSl X ord lz a b else -1) → xB (d + 2) 5 cX5_setAll none false Q 109 [some (.ref R), v1, v2, v3] [] (K, I', P, n, s)) → xB (d + 2) 5 cX5_setAll none false Q 24 [some (.ref R), some (.int (nI p)), v2, v3] [] (K, I, P, n, s) := by
  intro l
  induction l with
  | nil =>
    intro p I v2 v3 hp hl hA h15 h13 ho hi k1
    have h1 := drop_nil hl
    refine y_iload_n dX5_setAll_24 rfl ?_
    refine y_aload_n dX5_setAll_25 rfl ?_
    refine y_getv 5 15 dX5_setAll_26 rfl rfl hR.1 h15 ?_
    refine y_icmpN_ge 109 (p) (ord.length) dX5_setAll_29 (by decide) rfl rfl (by omega) (by omega) (fun _ => ?_) (fun c29 => absurd c29 (by omega))
    refine k1 I _ _ _ xF2.rf (fun a b h2 h3 => ?_)
    rw [hi a b h2 h3, List.take_of_length_le h1]
  | cons q r ih =>
    intro p I v2 v3 hp hl hA h15 h13 ho hi k1
    obtain ⟨g1, g2, g3⟩ := drop_get hl
    have hq : q < 12 := ho2 q (List.mem_of_getElem? g2)
    refine y_iload_n dX5_setAll_24 rfl ?_
    refine y_aload_n dX5_setAll_25 rfl ?_
    refine y_getv 5 15 dX5_setAll_26 rfl rfl hR.1 h15 ?_
    refine y_icmpN_ge 109 (p) (ord.length) dX5_setAll_29 (by decide) rfl rfl (by omega) (by omega) (fun c29 => absurd c29 (by omega)) (fun _ => ?_)
    refine y_aload_n dX5_setAll_32 rfl ?_
    refine y_getr 5 16 dX5_setAll_33 rfl rfl hR.1 (r5_16 hR) ?_
    refine y_iload_n dX5_setAll_36 rfl ?_
    refine y_ialdN (p) dX5_setAll_37 (k5_16 hR) rfl (by omega) (by omega) (ho p q g2) ?_
    refine y_istore_n dX5_setAll_38 (by first | (simp; done) | (simp; decide)) (fun x1 e_x1 => ?_)
    subst e_x1
    refine y_iconst (v := nI 0) dX5_setAll_39 (by decide) ?_
    refine y_istore_n dX5_setAll_40 (by first | (simp; done) | (simp; decide)) (fun x2 e_x2 => ?_)
    subst e_x2
    refine ksa_2 hR ho2 ho3 hw hq (ord.take p) 64 0 I rfl hA h15 h13 ho (fun a b h1 h2 => ?_) (fun I2 y f1 i1 => ?_)
    · rw [hi a b h1 h2]
      by_cases e : a ∈ ord.take p
      · rw [if_pos e, if_pos (Or.inl e)]
      · rw [if_neg e, if_neg (fun z => z.elim e (fun y => absurd y.2 (Nat.not_lt_zero _)))]
    · refine y_iinc dX5_setAll_103 rfl (fun x3 e_x3 => ?_)
      obtain rfl : x3 = nI (p + 1) := by rw [e_x3]; exact nI_1 (p)
      refine y_goto 24 dX5_setAll_106 (by decide) ?_
      refine ih (p + 1) I2 _ _ g1 g3 (f1.1.pg hA (by decide)) ((f1.1.fld 15 (by decide) (by decide)).trans h15) ((f1.1.fld 13 (by decide) (by decide)).trans h13) (xHl_F (a := 0) ho f1.1 (by decide) (by decide)) (fun a b h1 h2 => ?_) (fun I3 v1 v2 v3 q1 q2 => k1 I3 v1 v2 v3 (f1.tr q1) q2)
      rw [i1 a b h1 h2]
      by_cases e : a ∈ ord.take p ∨ a = q
      · rw [if_pos e, if_pos ((take_mem g2 a).mpr e)]
      · rw [if_neg e, if_neg (fun z => e ((take_mem g2 a).mp z))]
theorem ksa_4 {d R : Nat} {X : xX} {Q : Option Value → xH → Prop} {K : Nat → Nat × Nat} {P : Nat → Nat → Option Nat} {n s : Nat} (hR : xAt K P R 5) {v2 v3 : Option Value} : ∀ (t i : Nat) (I : Nat → Nat → Int32), i + t = 240 → xPg I R X → (∀ q, q < i → I (R + 15) q = X 5 q) → (∀ I' ls, xF2 R I I' → I' (R + 14) = I (R + 14) → (∀ q, q < 240 → I' (R + 15) q = X 5 q) → xB d 5 cX5_setAll none false Q 136 ls [] (K, I', P, n, s)) → xB d 5 cX5_setAll none false Q 111 [some (.ref R), some (.int (nI i)), v2, v3] [] (K, I, P, n, s) := by
  intro t
  induction t with
  | zero =>
    intro i I hi hA hq k1
    refine y_iload_n dX5_setAll_111 rfl ?_
    refine y_sipush (v := 240) dX5_setAll_112 (by decide) ?_
    refine y_icmpN_ge 136 (i) (240) dX5_setAll_115 (by decide) rfl rfl (by omega) (by omega) (fun _ => ?_) (fun c115 => absurd c115 (by omega))
    exact k1 I _ xF2.rf rfl (fun q h => hq q (by omega))
  | succ t ih =>
    intro i I hi hA hq k1
    refine y_iload_n dX5_setAll_111 rfl ?_
    refine y_sipush (v := 240) dX5_setAll_112 (by decide) ?_
    refine y_icmpN_ge 136 (i) (240) dX5_setAll_115 (by decide) rfl rfl (by omega) (by omega) (fun c115 => absurd c115 (by omega)) (fun _ => ?_)
    refine y_aload_n dX5_setAll_118 rfl ?_
    refine y_getr 5 19 dX5_setAll_119 rfl rfl hR.1 (r5_19 hR) ?_
    refine y_iload_n dX5_setAll_122 rfl ?_
    refine y_aload_n dX5_setAll_123 rfl ?_
    refine y_getr 5 5 dX5_setAll_124 rfl rfl hR.1 (r5_5 hR) ?_
    refine y_iload_n dX5_setAll_127 rfl ?_
    refine y_ialdN (i) dX5_setAll_128 (k5_5 hR) rfl (by omega) (by omega) (congrFun (hA 5 (by decide) (by decide)) (i)) ?_
    refine y_iast (i) dX5_setAll_129 (k5_19 hR) rfl (by omega) (by omega) ?_
    refine y_iinc dX5_setAll_130 rfl (fun x1 e_x1 => ?_)
    obtain rfl : x1 = nI (i + 1) := by rw [e_x1]; exact nI_1 (i)
    refine y_goto 111 dX5_setAll_133 (by decide) ?_
    refine ih (i + 1) _ (by omega) ((xF.u (rows := [15]) (flds := []) 15 (by decide)).pg hA (by decide)) (fun q h => ?_) (fun I2 ls q1 q1b q2 => k1 I2 ls ((xF2.u15 (by omega)).tr q1) (q1b.trans (xuI_ne (by omega))) q2)
    by_cases e : q = i
    · subst e; exact xuI_s
    · rw [xuI_o (Or.inr e)]; exact hq q (by omega)
theorem ksetAll {d : Nat} {Pp : Option Value → xH → Prop} {K : Nat → Nat × Nat} {I : Nat → Nat → Int32} {P : Nat → Nat → Option Nat} {n s : Nat} {R : Nat} {X : xX} {ord : List Nat} {lz : Bool} (hR : xAt K P R 5) (hA : xPg I R X) (ho2 : ∀ q ∈ ord, q < 12) (ho3 : ord.length ≤ 12) (hw : ∀ m, m < 12 → wfM X m) (h15 : I R 15 = nI ord.length) (h13 : I R 13 = bI lz) (ho : xHl I (R + 12) ord) (hp : ∀ I', xF2 R I I' → (∀ a b, a < 12 → b < 64 → I' (R + 14) (64 * a + b) = if a ∈ ord then sSl X ord lz a b else -1) → (∀ q, q < 240 → I' (R + 15) q = X 5 q) → Pp none (K, I', P, n, s)) : xC (d + 2) mX5_setAll [(.ref R)] (K, I, P, n, s) Pp := by
  refine y_met 0 0 ?_
  show xB (d + 2) 5 cX5_setAll none false (xE n s 0 0 Pp) 0 [some (.ref R), none, none, none] [] (K, I, P, n, s)
  refine y_iconst (v := nI 0) dX5_setAll_0 (by decide) ?_
  refine y_istore_n dX5_setAll_1 (by first | (simp; done) | (simp; decide)) (fun x1 e_x1 => ?_)
  subst e_x1
  refine ksa_1 hR 768 0 I rfl (fun q h => absurd h (Nat.not_lt_zero _)) (fun I2 y f1 g1 => ?_)
  refine y_iconst (v := nI 0) dX5_setAll_22 (by decide) ?_
  refine y_istore_n dX5_setAll_23 (by first | (simp; done) | (simp; decide)) (fun x2 e_x2 => ?_)
  subst e_x2
  refine ksa_3 (lz := lz) hR ho2 ho3 hw ord 0 I2 _ _ (Nat.zero_le _) rfl (f1.1.pg hA (by decide)) ((f1.1.fld 15 (by decide) (by decide)).trans h15) ((f1.1.fld 13 (by decide) (by decide)).trans h13) (xHl_F (a := 0) ho f1.1 (by decide) (by decide)) (fun a b h1 h2 => ?_) (fun I3 v1 v2 v3 f2 g2 => ?_)
  · rw [g1 _ (by omega), if_neg (by simp)]
  · refine y_iconst (v := nI 0) dX5_setAll_109 (by decide) ?_
    refine y_istore_n dX5_setAll_110 (by first | (simp; done) | (simp; decide)) (fun x3 e_x3 => ?_)
    subst e_x3
    refine ksa_4 hR 240 0 I3 rfl ((f1.tr f2).1.pg hA (by decide)) (fun q h => absurd h (Nat.not_lt_zero _)) (fun I4 ls f3 f3b g3 => ?_)
    exact y_retv dX5_setAll_136 rfl rfl (hp I4 ((f1.tr f2).tr f3) (fun a b h1 h2 => by rw [show I4 (R + 14) = I3 (R + 14) from f3b]; exact g2 a b h1 h2) g3)
