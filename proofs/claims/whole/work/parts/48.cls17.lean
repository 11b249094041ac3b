/-! constructors -/
section ZR
variable {d own : Nat} {cc : ByteArray} {ret : Option FieldType} {ini : Bool} {Q : Option Value → xH → Prop} {pc : Nat} {ls : xL} {st : List Value} {K : Nat → Nat × Nat} {I : Nat → Nat → Int32} {P : Nat → Nat → Option Nat} {n s : Nat}
theorem z_newi {x : Int32} (m a b t : Nat) (hd : decode cc pc = .ok (.newarray .int, 2)) (hx : x = nI m) (hm : m ≤ 100000) (ha : n = a) (hb : n + 1 = b) (ht : s + m = t) (k : xB d own cc ret ini Q (pc + 2) ls (.ref a :: st) (xuK K a (100, m), xuR I a (fun _ => 0), P, b, t)) : xB d own cc ret ini Q pc ls (.int x :: st) (K, I, P, n, s) := by
  subst ha hb ht
  exact y_newi m hd hx hm k
theorem z_newz {x : Int32} (m a b t : Nat) (hd : decode cc pc = .ok (.newarray .boolean, 2)) (hx : x = nI m) (hm : m ≤ 100000) (ha : n = a) (hb : n + 1 = b) (ht : s + m = t) (k : xB d own cc ret ini Q (pc + 2) ls (.ref a :: st) (xuK K a (101, m), xuR I a (fun _ => 0), P, b, t)) : xB d own cc ret ini Q pc ls (.int x :: st) (K, I, P, n, s) := by
  subst ha hb ht
  exact y_newz m hd hx hm k
theorem z_new {idx : Nat} (c a b t : Nat) (hd : decode cc pc = .ok (.new idx, 3)) (hc : xcl own idx = some c) (ha : n = a) (hb : n + 1 = b) (ht : s + xN c = t) (k : xB d own cc ret ini Q (pc + 3) ls (.ref a :: st) (xuK K a (c + 1, 0), xuR I a (fun _ => 0), xuQ P a (fun _ => none), b, t)) : xB d own cc ret ini Q pc ls st (K, I, P, n, s) := by
  subst ha hb ht
  exact y_new c hd hc k
theorem z_newm {x : Int32} {idx : Nat} (m a b t : Nat) (hd : decode cc pc = .ok (.anewarray idx, 3)) (hx : x = nI m) (hm : m ≤ 100000) (hc : xcl own idx = some 2) (ha : n = a) (hb : n + 1 = b) (ht : s + m = t) (k : xB d own cc ret ini Q (pc + 3) ls (.ref a :: st) (xuK K a (102, m), I, xuQ P a (fun _ => none), b, t)) : xB d own cc ret ini Q pc ls (.int x :: st) (K, I, P, n, s) := by
  subst ha hb ht
  exact y_newm m hd hx hm hc k
end ZR
theorem xuR_s {I : Nat → Nat → Int32} {a j : Nat} {f : Nat → Int32} : xuR I a f a j = f j := by simp [xuR]
theorem xuK_s {K : Nat → Nat × Nat} {a : Nat} {v : Nat × Nat} : xuK K a v a = v := by simp [xuK]
theorem kiX0 {d : Nat} {Pp : Option Value → xH → Prop} {K : Nat → Nat × Nat} {I : Nat → Nat → Int32} {P : Nat → Nat → Option Nat} {s : Nat} {q : Nat}  (hq : (K q).1 = 1)  (hp : ∀ (K' : Nat → Nat × Nat) (I' : Nat → Nat → Int32) (P' : Nat → Nat → Option Nat), (∀ a, (a < q + 1 ∨ q + 0 < a) → K' a = K a) → (∀ a, (a < q ∨ q + 0 < a) → I' a = I a) → (∀ a, a ≠ q → P' a = P a) → xAt K' P' q 0 → I' q 0 = 0 → I' q 1 = -1 → I' q 2 = -1 → I' q 3 = -1 → Pp none (K', I', P', q + 1, s)) : xC (d + 1) mX0_init [(.ref q)] (K, I, P, q + 1, s) Pp := by
  refine y_met 0 0 ?_
  show xB (d + 1) 0 cX0_init none true (xE (q + 1) s 0 0 Pp) 0 [some (.ref q)] [] (K, I, P, q + 1, s)
  refine y_aload_n dX0_init_0 rfl ?_
  refine y_obj dX0_init_1 rfl (Nat.le_of_ble_eq_true rfl) ?_
  refine y_aload_n dX0_init_4 rfl ?_
  refine y_iconst (v := 0) dX0_init_5 (by decide) ?_
  refine y_puti 0 0 dX0_init_6 rfl rfl rfl (by exact hq) ?_
  refine y_aload_n dX0_init_9 rfl ?_
  refine y_iconst (v := (-1)) dX0_init_10 (by decide) ?_
  refine y_puti 0 1 dX0_init_11 rfl rfl rfl (by exact hq) ?_
  refine y_aload_n dX0_init_14 rfl ?_
  refine y_iconst (v := (-1)) dX0_init_15 (by decide) ?_
  refine y_puti 0 2 dX0_init_16 rfl rfl rfl (by exact hq) ?_
  refine y_aload_n dX0_init_19 rfl ?_
  refine y_iconst (v := (-1)) dX0_init_20 (by decide) ?_
  refine y_puti 0 3 dX0_init_21 rfl rfl rfl (by exact hq) ?_
  refine y_retv dX0_init_24 rfl rfl (hp _ _ _ ?_ ?_ ?_ ?_ ?_ ?_ ?_ ?_)
  · intro a h; rfl
  · intro a h; rw [xuI_ne (by omega), xuI_ne (by omega), xuI_ne (by omega), xuI_ne (by omega)]
  · intro a h; rfl
  · refine ⟨(by exact hq), fun e he => ?_⟩
    simp [xLay] at he
  · rw [xuI_o (Or.inr (by decide)), xuI_o (Or.inr (by decide)), xuI_o (Or.inr (by decide)), xuI_s]
  · rw [xuI_o (Or.inr (by decide)), xuI_o (Or.inr (by decide)), xuI_s]
  · rw [xuI_o (Or.inr (by decide)), xuI_s]
  · rw [xuI_s]
theorem kiX3 {d : Nat} {Pp : Option Value → xH → Prop} {K : Nat → Nat × Nat} {I : Nat → Nat → Int32} {P : Nat → Nat → Option Nat} {s : Nat} {q : Nat}  (hq : (K q).1 = 4)  (hp : ∀ (K' : Nat → Nat × Nat) (I' : Nat → Nat → Int32) (P' : Nat → Nat → Option Nat), (∀ a, (a < q + 1 ∨ q + 6 < a) → K' a = K a) → (∀ a, (a < q ∨ q + 6 < a) → I' a = I a) → (∀ a, a ≠ q → P' a = P a) → xAt K' P' q 3 → (∀ k, k ∈ [2, 3, 4, 5, 12] → I' q k = 0) → (∀ i j, 1 ≤ i → i ≤ 6 → I' (q + i) j = 0) → Pp none (K', I', P', q + 7, s + 294)) : xC (d + 1) mX3_init [(.ref q)] (K, I, P, q + 1, s) Pp := by
  refine y_met 6 294 ?_
  show xB (d + 1) 3 cX3_init none true (xE (q + 1) s 6 294 Pp) 0 [some (.ref q)] [] (K, I, P, q + 1, s)
  refine y_aload_n dX3_init_0 rfl ?_
  refine y_obj dX3_init_1 rfl (Nat.le_of_ble_eq_true rfl) ?_
  refine y_aload_n dX3_init_4 rfl ?_
  refine y_bipush (v := 8) dX3_init_5 (by decide) ?_
  refine z_newi 8 (q + 1) (q + 2) (s + 8) dX3_init_7 rfl (by decide) rfl rfl rfl ?_
  refine y_putr 3 0 dX3_init_9 rfl rfl rfl (by rw [xuK_ne (by omega)]; exact hq) ?_
  refine y_aload_n dX3_init_12 rfl ?_
  refine y_bipush (v := 60) dX3_init_13 (by decide) ?_
  refine z_newi 60 (q + 2) (q + 3) (s + 68) dX3_init_15 rfl (by decide) rfl rfl (Nat.add_assoc _ _ _) ?_
  refine y_putr 3 1 dX3_init_17 rfl rfl rfl (by rw [xuK_ne (by omega), xuK_ne (by omega)]; exact hq) ?_
  refine y_aload_n dX3_init_20 rfl ?_
  refine y_iconst (v := 0) dX3_init_21 (by decide) ?_
  refine y_puti 3 2 dX3_init_22 rfl rfl rfl (by rw [xuK_ne (by omega), xuK_ne (by omega)]; exact hq) ?_
  refine y_aload_n dX3_init_25 rfl ?_
  refine y_iconst (v := 0) dX3_init_26 (by decide) ?_
  refine y_puti 3 3 dX3_init_27 rfl rfl rfl (by rw [xuK_ne (by omega), xuK_ne (by omega)]; exact hq) ?_
  refine y_aload_n dX3_init_30 rfl ?_
  refine y_iconst (v := 0) dX3_init_31 (by decide) ?_
  refine y_puti 3 4 dX3_init_32 rfl rfl rfl (by rw [xuK_ne (by omega), xuK_ne (by omega)]; exact hq) ?_
  refine y_aload_n dX3_init_35 rfl ?_
  refine y_iconst (v := 0) dX3_init_36 (by decide) ?_
  refine y_puti 3 5 dX3_init_37 rfl rfl rfl (by rw [xuK_ne (by omega), xuK_ne (by omega)]; exact hq) ?_
  refine y_aload_n dX3_init_40 rfl ?_
  refine y_bipush (v := 13) dX3_init_41 (by decide) ?_
  refine z_newi 13 (q + 3) (q + 4) (s + 81) dX3_init_43 rfl (by decide) rfl rfl (Nat.add_assoc _ _ _) ?_
  refine y_putr 3 6 dX3_init_45 rfl rfl rfl (by rw [xuK_ne (by omega), xuK_ne (by omega), xuK_ne (by omega)]; exact hq) ?_
  refine y_aload_n dX3_init_48 rfl ?_
  refine y_bipush (v := 13) dX3_init_49 (by decide) ?_
  refine z_newi 13 (q + 4) (q + 5) (s + 94) dX3_init_51 rfl (by decide) rfl rfl (Nat.add_assoc _ _ _) ?_
  refine y_putr 3 7 dX3_init_53 rfl rfl rfl (by rw [xuK_ne (by omega), xuK_ne (by omega), xuK_ne (by omega), xuK_ne (by omega)]; exact hq) ?_
  refine y_aload_n dX3_init_56 rfl ?_
  refine y_iconst (v := 0) dX3_init_57 (by decide) ?_
  refine y_puti 3 8 dX3_init_58 rfl rfl rfl (by rw [xuK_ne (by omega), xuK_ne (by omega), xuK_ne (by omega), xuK_ne (by omega)]; exact hq) ?_
  refine y_aload_n dX3_init_61 rfl ?_
  refine y_iconst (v := 0) dX3_init_62 (by decide) ?_
  refine y_puti 3 9 dX3_init_63 rfl rfl rfl (by rw [xuK_ne (by omega), xuK_ne (by omega), xuK_ne (by omega), xuK_ne (by omega)]; exact hq) ?_
  refine y_aload_n dX3_init_66 rfl ?_
  refine y_bipush (v := 100) dX3_init_67 (by decide) ?_
  refine z_newi 100 (q + 5) (q + 6) (s + 194) dX3_init_69 rfl (by decide) rfl rfl (Nat.add_assoc _ _ _) ?_
  refine y_putr 3 10 dX3_init_71 rfl rfl rfl (by rw [xuK_ne (by omega), xuK_ne (by omega), xuK_ne (by omega), xuK_ne (by omega), xuK_ne (by omega)]; exact hq) ?_
  refine y_aload_n dX3_init_74 rfl ?_
  refine y_bipush (v := 100) dX3_init_75 (by decide) ?_
  refine z_newi 100 (q + 6) (q + 7) (s + 294) dX3_init_77 rfl (by decide) rfl rfl (Nat.add_assoc _ _ _) ?_
  refine y_putr 3 11 dX3_init_79 rfl rfl rfl (by rw [xuK_ne (by omega), xuK_ne (by omega), xuK_ne (by omega), xuK_ne (by omega), xuK_ne (by omega), xuK_ne (by omega)]; exact hq) ?_
  refine y_aload_n dX3_init_82 rfl ?_
  refine y_iconst (v := 0) dX3_init_83 (by decide) ?_
  refine y_puti 3 12 dX3_init_84 rfl rfl rfl (by rw [xuK_ne (by omega), xuK_ne (by omega), xuK_ne (by omega), xuK_ne (by omega), xuK_ne (by omega), xuK_ne (by omega)]; exact hq) ?_
  refine y_aload_n dX3_init_87 rfl ?_
  refine y_iconst (v := 0) dX3_init_88 (by decide) ?_
  refine y_puti 3 13 dX3_init_89 rfl rfl rfl (by rw [xuK_ne (by omega), xuK_ne (by omega), xuK_ne (by omega), xuK_ne (by omega), xuK_ne (by omega), xuK_ne (by omega)]; exact hq) ?_
  refine y_aload_n dX3_init_92 rfl ?_
  refine y_iconst (v := 0) dX3_init_93 (by decide) ?_
  refine y_puti 3 14 dX3_init_94 rfl rfl rfl (by rw [xuK_ne (by omega), xuK_ne (by omega), xuK_ne (by omega), xuK_ne (by omega), xuK_ne (by omega), xuK_ne (by omega)]; exact hq) ?_
  refine y_retv dX3_init_97 rfl rfl (hp _ _ _ ?_ ?_ ?_ ?_ ?_ ?_)
  · intro a h; rw [xuK_ne (by omega), xuK_ne (by omega), xuK_ne (by omega), xuK_ne (by omega), xuK_ne (by omega), xuK_ne (by omega)]
  · intro a h; rw [xuI_ne (by omega), xuI_ne (by omega), xuI_ne (by omega), xuR_ne (by omega), xuR_ne (by omega), xuI_ne (by omega), xuI_ne (by omega), xuR_ne (by omega), xuR_ne (by omega), xuI_ne (by omega), xuI_ne (by omega), xuI_ne (by omega), xuI_ne (by omega), xuR_ne (by omega), xuR_ne (by omega)]
  · intro a h; rw [xuP_ne h, xuP_ne h, xuP_ne h, xuP_ne h, xuP_ne h, xuP_ne h]
  · refine ⟨(by rw [xuK_ne (by omega), xuK_ne (by omega), xuK_ne (by omega), xuK_ne (by omega), xuK_ne (by omega), xuK_ne (by omega)]; exact hq), fun e he => ?_⟩
    simp only [xLay, List.mem_cons, List.not_mem_nil, or_false] at he
    rcases he with rfl | rfl | rfl | rfl | rfl | rfl
    · exact ⟨by dsimp only; rw [xuP_o (Or.inr (by decide)), xuP_o (Or.inr (by decide)), xuP_o (Or.inr (by decide)), xuP_o (Or.inr (by decide)), xuP_o (Or.inr (by decide)), xuP_s], by dsimp only; rw [xuK_ne (by omega), xuK_ne (by omega), xuK_ne (by omega), xuK_ne (by omega), xuK_ne (by omega), xuK_s]⟩
    · exact ⟨by dsimp only; rw [xuP_o (Or.inr (by decide)), xuP_o (Or.inr (by decide)), xuP_o (Or.inr (by decide)), xuP_o (Or.inr (by decide)), xuP_s], by dsimp only; rw [xuK_ne (by omega), xuK_ne (by omega), xuK_ne (by omega), xuK_ne (by omega), xuK_s]⟩
    · exact ⟨by dsimp only; rw [xuP_o (Or.inr (by decide)), xuP_o (Or.inr (by decide)), xuP_o (Or.inr (by decide)), xuP_s], by dsimp only; rw [xuK_ne (by omega), xuK_ne (by omega), xuK_ne (by omega), xuK_s]⟩
    · exact ⟨by dsimp only; rw [xuP_o (Or.inr (by decide)), xuP_o (Or.inr (by decide)), xuP_s], by dsimp only; rw [xuK_ne (by omega), xuK_ne (by omega), xuK_s]⟩
    · exact ⟨by dsimp only; rw [xuP_o (Or.inr (by decide)), xuP_s], by dsimp only; rw [xuK_ne (by omega), xuK_s]⟩
    · exact ⟨by dsimp only; rw [xuP_s], by dsimp only; rw [xuK_s]⟩
  · intro k hk
    simp only [List.mem_cons, List.not_mem_nil, or_false] at hk
    rcases hk with rfl | rfl | rfl | rfl | rfl
    · rw [xuI_o (Or.inr (by decide)), xuI_o (Or.inr (by decide)), xuI_o (Or.inr (by decide)), xuR_ne (by omega), xuR_ne (by omega), xuI_o (Or.inr (by decide)), xuI_o (Or.inr (by decide)), xuR_ne (by omega), xuR_ne (by omega), xuI_o (Or.inr (by decide)), xuI_o (Or.inr (by decide)), xuI_o (Or.inr (by decide)), xuI_s]
    · rw [xuI_o (Or.inr (by decide)), xuI_o (Or.inr (by decide)), xuI_o (Or.inr (by decide)), xuR_ne (by omega), xuR_ne (by omega), xuI_o (Or.inr (by decide)), xuI_o (Or.inr (by decide)), xuR_ne (by omega), xuR_ne (by omega), xuI_o (Or.inr (by decide)), xuI_o (Or.inr (by decide)), xuI_s]
    · rw [xuI_o (Or.inr (by decide)), xuI_o (Or.inr (by decide)), xuI_o (Or.inr (by decide)), xuR_ne (by omega), xuR_ne (by omega), xuI_o (Or.inr (by decide)), xuI_o (Or.inr (by decide)), xuR_ne (by omega), xuR_ne (by omega), xuI_o (Or.inr (by decide)), xuI_s]
    · rw [xuI_o (Or.inr (by decide)), xuI_o (Or.inr (by decide)), xuI_o (Or.inr (by decide)), xuR_ne (by omega), xuR_ne (by omega), xuI_o (Or.inr (by decide)), xuI_o (Or.inr (by decide)), xuR_ne (by omega), xuR_ne (by omega), xuI_s]
    · rw [xuI_o (Or.inr (by decide)), xuI_o (Or.inr (by decide)), xuI_s]
  · intro i j h1 h2
    have : i = 1 ∨ i = 2 ∨ i = 3 ∨ i = 4 ∨ i = 5 ∨ i = 6 := by omega
    rcases this with rfl | rfl | rfl | rfl | rfl | rfl
    · rw [xuI_ne (by omega), xuI_ne (by omega), xuI_ne (by omega), xuR_ne (by omega), xuR_ne (by omega), xuI_ne (by omega), xuI_ne (by omega), xuR_ne (by omega), xuR_ne (by omega), xuI_ne (by omega), xuI_ne (by omega), xuI_ne (by omega), xuI_ne (by omega), xuR_ne (by omega), xuR_s]
    · rw [xuI_ne (by omega), xuI_ne (by omega), xuI_ne (by omega), xuR_ne (by omega), xuR_ne (by omega), xuI_ne (by omega), xuI_ne (by omega), xuR_ne (by omega), xuR_ne (by omega), xuI_ne (by omega), xuI_ne (by omega), xuI_ne (by omega), xuI_ne (by omega), xuR_s]
    · rw [xuI_ne (by omega), xuI_ne (by omega), xuI_ne (by omega), xuR_ne (by omega), xuR_ne (by omega), xuI_ne (by omega), xuI_ne (by omega), xuR_ne (by omega), xuR_s]
    · rw [xuI_ne (by omega), xuI_ne (by omega), xuI_ne (by omega), xuR_ne (by omega), xuR_ne (by omega), xuI_ne (by omega), xuI_ne (by omega), xuR_s]
    · rw [xuI_ne (by omega), xuI_ne (by omega), xuI_ne (by omega), xuR_ne (by omega), xuR_s]
    · rw [xuI_ne (by omega), xuI_ne (by omega), xuI_ne (by omega), xuR_s]
theorem kiX2 {d : Nat} {Pp : Option Value → xH → Prop} {K : Nat → Nat × Nat} {I : Nat → Nat → Int32} {P : Nat → Nat → Option Nat} {s : Nat} {q : Nat}  (hq : (K q).1 = 3)  (hp : ∀ (K' : Nat → Nat × Nat) (I' : Nat → Nat → Int32) (P' : Nat → Nat → Option Nat), (∀ a, (a < q + 1 ∨ q + 12 < a) → K' a = K a) → (∀ a, (a < q ∨ q + 12 < a) → I' a = I a) → (∀ a, a ≠ q → P' a = P a) → xAt K' P' q 2 → I' q 1 = 0 → I' q 5 = 0 → I' q 8 = -1 → I' q 13 = 0 → (∀ j, j < 64 → I' (q + 2) j = -1) → (∀ j, j < 64 → I' (q + 11) j = -1) → (∀ j, I' (q + 5) j = 0) → (∀ j, I' (q + 6) j = 0) → Pp none (K', I', P', q + 13, s + 890)) : xC (d + 1) mX2_init [(.ref q)] (K, I, P, q + 1, s) Pp := by
  refine y_met 12 890 ?_
  show xB (d + 1) 2 cX2_init none true (xE (q + 1) s 12 890 Pp) 0 [some (.ref q)] [] (K, I, P, q + 1, s)
  refine y_aload_n dX2_init_0 rfl ?_
  refine y_obj dX2_init_1 rfl (Nat.le_of_ble_eq_true rfl) ?_
  refine y_aload_n dX2_init_4 rfl ?_
  refine y_bipush (v := 6) dX2_init_5 (by decide) ?_
  refine z_newi 6 (q + 1) (q + 2) (s + 6) dX2_init_7 rfl (by decide) rfl rfl rfl ?_
  refine y_putr 2 0 dX2_init_9 rfl rfl rfl (by rw [xuK_ne (by omega)]; exact hq) ?_
  refine y_aload_n dX2_init_12 rfl ?_
  refine y_iconst (v := 0) dX2_init_13 (by decide) ?_
  refine y_puti 2 1 dX2_init_14 rfl rfl rfl (by rw [xuK_ne (by omega)]; exact hq) ?_
  refine y_aload_n dX2_init_17 rfl ?_
  refine y_bipush (v := 64) dX2_init_18 (by decide) ?_
  refine z_newi 64 (q + 2) (q + 3) (s + 70) dX2_init_20 rfl (by decide) rfl rfl (Nat.add_assoc _ _ _) ?_
  refine y_putr 2 2 dX2_init_22 rfl rfl rfl (by rw [xuK_ne (by omega), xuK_ne (by omega)]; exact hq) ?_
  refine y_aload_n dX2_init_25 rfl ?_
  refine y_bipush (v := 64) dX2_init_26 (by decide) ?_
  refine z_newi 64 (q + 3) (q + 4) (s + 134) dX2_init_28 rfl (by decide) rfl rfl (Nat.add_assoc _ _ _) ?_
  refine y_putr 2 3 dX2_init_30 rfl rfl rfl (by rw [xuK_ne (by omega), xuK_ne (by omega), xuK_ne (by omega)]; exact hq) ?_
  refine y_aload_n dX2_init_33 rfl ?_
  refine y_bipush (v := 64) dX2_init_34 (by decide) ?_
  refine z_newi 64 (q + 4) (q + 5) (s + 198) dX2_init_36 rfl (by decide) rfl rfl (Nat.add_assoc _ _ _) ?_
  refine y_putr 2 4 dX2_init_38 rfl rfl rfl (by rw [xuK_ne (by omega), xuK_ne (by omega), xuK_ne (by omega), xuK_ne (by omega)]; exact hq) ?_
  refine y_aload_n dX2_init_41 rfl ?_
  refine y_iconst (v := 0) dX2_init_42 (by decide) ?_
  refine y_puti 2 5 dX2_init_43 rfl rfl rfl (by rw [xuK_ne (by omega), xuK_ne (by omega), xuK_ne (by omega), xuK_ne (by omega)]; exact hq) ?_
  refine y_aload_n dX2_init_46 rfl ?_
  refine y_bipush (v := 100) dX2_init_47 (by decide) ?_
  refine z_newz 100 (q + 5) (q + 6) (s + 298) dX2_init_49 rfl (by decide) rfl rfl (Nat.add_assoc _ _ _) ?_
  refine y_putr 2 6 dX2_init_51 rfl rfl rfl (by rw [xuK_ne (by omega), xuK_ne (by omega), xuK_ne (by omega), xuK_ne (by omega), xuK_ne (by omega)]; exact hq) ?_
  refine y_aload_n dX2_init_54 rfl ?_
  refine y_bipush (v := 64) dX2_init_55 (by decide) ?_
  refine z_newz 64 (q + 6) (q + 7) (s + 362) dX2_init_57 rfl (by decide) rfl rfl (Nat.add_assoc _ _ _) ?_
  refine y_putr 2 7 dX2_init_59 rfl rfl rfl (by rw [xuK_ne (by omega), xuK_ne (by omega), xuK_ne (by omega), xuK_ne (by omega), xuK_ne (by omega), xuK_ne (by omega)]; exact hq) ?_
  refine y_aload_n dX2_init_62 rfl ?_
  refine y_iconst (v := (-1)) dX2_init_63 (by decide) ?_
  refine y_puti 2 8 dX2_init_64 rfl rfl rfl (by rw [xuK_ne (by omega), xuK_ne (by omega), xuK_ne (by omega), xuK_ne (by omega), xuK_ne (by omega), xuK_ne (by omega)]; exact hq) ?_
  refine y_aload_n dX2_init_67 rfl ?_
  refine y_bipush (v := 100) dX2_init_68 (by decide) ?_
  refine z_newi 100 (q + 7) (q + 8) (s + 462) dX2_init_70 rfl (by decide) rfl rfl (Nat.add_assoc _ _ _) ?_
  refine y_putr 2 9 dX2_init_72 rfl rfl rfl (by rw [xuK_ne (by omega), xuK_ne (by omega), xuK_ne (by omega), xuK_ne (by omega), xuK_ne (by omega), xuK_ne (by omega), xuK_ne (by omega)]; exact hq) ?_
  refine y_aload_n dX2_init_75 rfl ?_
  refine y_bipush (v := 100) dX2_init_76 (by decide) ?_
  refine z_newi 100 (q + 8) (q + 9) (s + 562) dX2_init_78 rfl (by decide) rfl rfl (Nat.add_assoc _ _ _) ?_
  refine y_putr 2 10 dX2_init_80 rfl rfl rfl (by rw [xuK_ne (by omega), xuK_ne (by omega), xuK_ne (by omega), xuK_ne (by omega), xuK_ne (by omega), xuK_ne (by omega), xuK_ne (by omega), xuK_ne (by omega)]; exact hq) ?_
  refine y_aload_n dX2_init_83 rfl ?_
  refine y_bipush (v := 100) dX2_init_84 (by decide) ?_
  refine z_newi 100 (q + 9) (q + 10) (s + 662) dX2_init_86 rfl (by decide) rfl rfl (Nat.add_assoc _ _ _) ?_
  refine y_putr 2 11 dX2_init_88 rfl rfl rfl (by rw [xuK_ne (by omega), xuK_ne (by omega), xuK_ne (by omega), xuK_ne (by omega), xuK_ne (by omega), xuK_ne (by omega), xuK_ne (by omega), xuK_ne (by omega), xuK_ne (by omega)]; exact hq) ?_
  refine y_aload_n dX2_init_91 rfl ?_
  refine y_bipush (v := 100) dX2_init_92 (by decide) ?_
  refine z_newi 100 (q + 10) (q + 11) (s + 762) dX2_init_94 rfl (by decide) rfl rfl (Nat.add_assoc _ _ _) ?_
  refine y_putr 2 12 dX2_init_96 rfl rfl rfl (by rw [xuK_ne (by omega), xuK_ne (by omega), xuK_ne (by omega), xuK_ne (by omega), xuK_ne (by omega), xuK_ne (by omega), xuK_ne (by omega), xuK_ne (by omega), xuK_ne (by omega), xuK_ne (by omega)]; exact hq) ?_
  refine y_aload_n dX2_init_99 rfl ?_
  refine y_iconst (v := 0) dX2_init_100 (by decide) ?_
  refine y_puti 2 13 dX2_init_101 rfl rfl rfl (by rw [xuK_ne (by omega), xuK_ne (by omega), xuK_ne (by omega), xuK_ne (by omega), xuK_ne (by omega), xuK_ne (by omega), xuK_ne (by omega), xuK_ne (by omega), xuK_ne (by omega), xuK_ne (by omega)]; exact hq) ?_
  refine y_aload_n dX2_init_104 rfl ?_
  refine y_bipush (v := 64) dX2_init_105 (by decide) ?_
  refine z_newi 64 (q + 11) (q + 12) (s + 826) dX2_init_107 rfl (by decide) rfl rfl (Nat.add_assoc _ _ _) ?_
  refine y_putr 2 14 dX2_init_109 rfl rfl rfl (by rw [xuK_ne (by omega), xuK_ne (by omega), xuK_ne (by omega), xuK_ne (by omega), xuK_ne (by omega), xuK_ne (by omega), xuK_ne (by omega), xuK_ne (by omega), xuK_ne (by omega), xuK_ne (by omega), xuK_ne (by omega)]; exact hq) ?_
  refine y_aload_n dX2_init_112 rfl ?_
  refine y_bipush (v := 64) dX2_init_113 (by decide) ?_
  refine z_newi 64 (q + 12) (q + 13) (s + 890) dX2_init_115 rfl (by decide) rfl rfl (Nat.add_assoc _ _ _) ?_
  refine y_putr 2 15 dX2_init_117 rfl rfl rfl (by rw [xuK_ne (by omega), xuK_ne (by omega), xuK_ne (by omega), xuK_ne (by omega), xuK_ne (by omega), xuK_ne (by omega), xuK_ne (by omega), xuK_ne (by omega), xuK_ne (by omega), xuK_ne (by omega), xuK_ne (by omega), xuK_ne (by omega)]; exact hq) ?_
  refine y_aload_n dX2_init_120 rfl ?_
  refine y_getr 2 2 dX2_init_121 rfl rfl (by rw [xuK_ne (by omega), xuK_ne (by omega), xuK_ne (by omega), xuK_ne (by omega), xuK_ne (by omega), xuK_ne (by omega), xuK_ne (by omega), xuK_ne (by omega), xuK_ne (by omega), xuK_ne (by omega), xuK_ne (by omega), xuK_ne (by omega)]; exact hq) (by rw [xuP_o (Or.inr (by decide)), xuP_o (Or.inr (by decide)), xuP_o (Or.inr (by decide)), xuP_o (Or.inr (by decide)), xuP_o (Or.inr (by decide)), xuP_o (Or.inr (by decide)), xuP_o (Or.inr (by decide)), xuP_o (Or.inr (by decide)), xuP_o (Or.inr (by decide)), xuP_o (Or.inr (by decide)), xuP_s]) ?_
  refine y_iconst (v := (-1)) dX2_init_124 (by decide) ?_
  refine y_callS2 mJ7_fill_53178 0 dX2_init_125 rfl rfl (Nat.le_of_ble_eq_true rfl) (kfill (a := q + 2) (M := 64) (by rw [xuK_ne (by omega), xuK_ne (by omega), xuK_ne (by omega), xuK_ne (by omega), xuK_ne (by omega), xuK_ne (by omega), xuK_ne (by omega), xuK_ne (by omega), xuK_ne (by omega), xuK_ne (by omega), xuK_s]) (by decide) (fun F0 f0a f0b => ?_))
  refine y_aload_n dX2_init_128 rfl ?_
  refine y_getr 2 14 dX2_init_129 rfl rfl (by rw [xuK_ne (by omega), xuK_ne (by omega), xuK_ne (by omega), xuK_ne (by omega), xuK_ne (by omega), xuK_ne (by omega), xuK_ne (by omega), xuK_ne (by omega), xuK_ne (by omega), xuK_ne (by omega), xuK_ne (by omega), xuK_ne (by omega)]; exact hq) (by rw [xuP_o (Or.inr (by decide)), xuP_s]) ?_
  refine y_iconst (v := (-1)) dX2_init_132 (by decide) ?_
  refine y_callS2 mJ7_fill_53178 0 dX2_init_133 rfl rfl (Nat.le_of_ble_eq_true rfl) (kfill (a := q + 11) (M := 64) (by rw [xuK_ne (by omega), xuK_s]) (by decide) (fun F1 f1a f1b => ?_))
  refine y_retv dX2_init_136 rfl rfl (hp _ _ _ ?_ ?_ ?_ ?_ ?_ ?_ ?_ ?_ ?_ ?_ ?_ ?_)
  · intro a h; rw [xuK_ne (by omega), xuK_ne (by omega), xuK_ne (by omega), xuK_ne (by omega), xuK_ne (by omega), xuK_ne (by omega), xuK_ne (by omega), xuK_ne (by omega), xuK_ne (by omega), xuK_ne (by omega), xuK_ne (by omega), xuK_ne (by omega)]
  · intro a h; rw [f1a a (by omega)]; rw [f0a a (by omega)]; rw [xuR_ne (by omega), xuR_ne (by omega), xuI_ne (by omega), xuR_ne (by omega), xuR_ne (by omega), xuR_ne (by omega), xuR_ne (by omega), xuI_ne (by omega), xuR_ne (by omega), xuR_ne (by omega), xuI_ne (by omega), xuR_ne (by omega), xuR_ne (by omega), xuR_ne (by omega), xuI_ne (by omega), xuR_ne (by omega)]
  · intro a h; rw [xuP_ne h, xuP_ne h, xuP_ne h, xuP_ne h, xuP_ne h, xuP_ne h, xuP_ne h, xuP_ne h, xuP_ne h, xuP_ne h, xuP_ne h, xuP_ne h]
  · refine ⟨(by rw [xuK_ne (by omega), xuK_ne (by omega), xuK_ne (by omega), xuK_ne (by omega), xuK_ne (by omega), xuK_ne (by omega), xuK_ne (by omega), xuK_ne (by omega), xuK_ne (by omega), xuK_ne (by omega), xuK_ne (by omega), xuK_ne (by omega)]; exact hq), fun e he => ?_⟩
    simp only [xLay, List.mem_cons, List.not_mem_nil, or_false] at he
    rcases he with rfl | rfl | rfl | rfl | rfl | rfl | rfl | rfl | rfl | rfl | rfl | rfl
    · exact ⟨by dsimp only; rw [xuP_o (Or.inr (by decide)), xuP_o (Or.inr (by decide)), xuP_o (Or.inr (by decide)), xuP_o (Or.inr (by decide)), xuP_o (Or.inr (by decide)), xuP_o (Or.inr (by decide)), xuP_o (Or.inr (by decide)), xuP_o (Or.inr (by decide)), xuP_o (Or.inr (by decide)), xuP_o (Or.inr (by decide)), xuP_o (Or.inr (by decide)), xuP_s], by dsimp only; rw [xuK_ne (by omega), xuK_ne (by omega), xuK_ne (by omega), xuK_ne (by omega), xuK_ne (by omega), xuK_ne (by omega), xuK_ne (by omega), xuK_ne (by omega), xuK_ne (by omega), xuK_ne (by omega), xuK_ne (by omega), xuK_s]⟩
    · exact ⟨by dsimp only; rw [xuP_o (Or.inr (by decide)), xuP_o (Or.inr (by decide)), xuP_o (Or.inr (by decide)), xuP_o (Or.inr (by decide)), xuP_o (Or.inr (by decide)), xuP_o (Or.inr (by decide)), xuP_o (Or.inr (by decide)), xuP_o (Or.inr (by decide)), xuP_o (Or.inr (by decide)), xuP_o (Or.inr (by decide)), xuP_s], by dsimp only; rw [xuK_ne (by omega), xuK_ne (by omega), xuK_ne (by omega), xuK_ne (by omega), xuK_ne (by omega), xuK_ne (by omega), xuK_ne (by omega), xuK_ne (by omega), xuK_ne (by omega), xuK_ne (by omega), xuK_s]⟩
    · exact ⟨by dsimp only; rw [xuP_o (Or.inr (by decide)), xuP_o (Or.inr (by decide)), xuP_o (Or.inr (by decide)), xuP_o (Or.inr (by decide)), xuP_o (Or.inr (by decide)), xuP_o (Or.inr (by decide)), xuP_o (Or.inr (by decide)), xuP_o (Or.inr (by decide)), xuP_o (Or.inr (by decide)), xuP_s], by dsimp only; rw [xuK_ne (by omega), xuK_ne (by omega), xuK_ne (by omega), xuK_ne (by omega), xuK_ne (by omega), xuK_ne (by omega), xuK_ne (by omega), xuK_ne (by omega), xuK_ne (by omega), xuK_s]⟩
    · exact ⟨by dsimp only; rw [xuP_o (Or.inr (by decide)), xuP_o (Or.inr (by decide)), xuP_o (Or.inr (by decide)), xuP_o (Or.inr (by decide)), xuP_o (Or.inr (by decide)), xuP_o (Or.inr (by decide)), xuP_o (Or.inr (by decide)), xuP_o (Or.inr (by decide)), xuP_s], by dsimp only; rw [xuK_ne (by omega), xuK_ne (by omega), xuK_ne (by omega), xuK_ne (by omega), xuK_ne (by omega), xuK_ne (by omega), xuK_ne (by omega), xuK_ne (by omega), xuK_s]⟩
    · exact ⟨by dsimp only; rw [xuP_o (Or.inr (by decide)), xuP_o (Or.inr (by decide)), xuP_o (Or.inr (by decide)), xuP_o (Or.inr (by decide)), xuP_o (Or.inr (by decide)), xuP_o (Or.inr (by decide)), xuP_o (Or.inr (by decide)), xuP_s], by dsimp only; rw [xuK_ne (by omega), xuK_ne (by omega), xuK_ne (by omega), xuK_ne (by omega), xuK_ne (by omega), xuK_ne (by omega), xuK_ne (by omega), xuK_s]⟩
    · exact ⟨by dsimp only; rw [xuP_o (Or.inr (by decide)), xuP_o (Or.inr (by decide)), xuP_o (Or.inr (by decide)), xuP_o (Or.inr (by decide)), xuP_o (Or.inr (by decide)), xuP_o (Or.inr (by decide)), xuP_s], by dsimp only; rw [xuK_ne (by omega), xuK_ne (by omega), xuK_ne (by omega), xuK_ne (by omega), xuK_ne (by omega), xuK_ne (by omega), xuK_s]⟩
    · exact ⟨by dsimp only; rw [xuP_o (Or.inr (by decide)), xuP_o (Or.inr (by decide)), xuP_o (Or.inr (by decide)), xuP_o (Or.inr (by decide)), xuP_o (Or.inr (by decide)), xuP_s], by dsimp only; rw [xuK_ne (by omega), xuK_ne (by omega), xuK_ne (by omega), xuK_ne (by omega), xuK_ne (by omega), xuK_s]⟩
    · exact ⟨by dsimp only; rw [xuP_o (Or.inr (by decide)), xuP_o (Or.inr (by decide)), xuP_o (Or.inr (by decide)), xuP_o (Or.inr (by decide)), xuP_s], by dsimp only; rw [xuK_ne (by omega), xuK_ne (by omega), xuK_ne (by omega), xuK_ne (by omega), xuK_s]⟩
    · exact ⟨by dsimp only; rw [xuP_o (Or.inr (by decide)), xuP_o (Or.inr (by decide)), xuP_o (Or.inr (by decide)), xuP_s], by dsimp only; rw [xuK_ne (by omega), xuK_ne (by omega), xuK_ne (by omega), xuK_s]⟩
    · exact ⟨by dsimp only; rw [xuP_o (Or.inr (by decide)), xuP_o (Or.inr (by decide)), xuP_s], by dsimp only; rw [xuK_ne (by omega), xuK_ne (by omega), xuK_s]⟩
    · exact ⟨by dsimp only; rw [xuP_o (Or.inr (by decide)), xuP_s], by dsimp only; rw [xuK_ne (by omega), xuK_s]⟩
    · exact ⟨by dsimp only; rw [xuP_s], by dsimp only; rw [xuK_s]⟩
  · rw [f1a _ (by omega), f0a _ (by omega), xuR_ne (by omega), xuR_ne (by omega), xuI_o (Or.inr (by decide)), xuR_ne (by omega), xuR_ne (by omega), xuR_ne (by omega), xuR_ne (by omega), xuI_o (Or.inr (by decide)), xuR_ne (by omega), xuR_ne (by omega), xuI_o (Or.inr (by decide)), xuR_ne (by omega), xuR_ne (by omega), xuR_ne (by omega), xuI_s]
  · rw [f1a _ (by omega), f0a _ (by omega), xuR_ne (by omega), xuR_ne (by omega), xuI_o (Or.inr (by decide)), xuR_ne (by omega), xuR_ne (by omega), xuR_ne (by omega), xuR_ne (by omega), xuI_o (Or.inr (by decide)), xuR_ne (by omega), xuR_ne (by omega), xuI_s]
  · rw [f1a _ (by omega), f0a _ (by omega), xuR_ne (by omega), xuR_ne (by omega), xuI_o (Or.inr (by decide)), xuR_ne (by omega), xuR_ne (by omega), xuR_ne (by omega), xuR_ne (by omega), xuI_s]
  · rw [f1a _ (by omega), f0a _ (by omega), xuR_ne (by omega), xuR_ne (by omega), xuI_s]
  · intro j hj; rw [f1a _ (by omega)]; exact f0b j hj
  · exact f1b
  · intro j; rw [f1a _ (by omega), f0a _ (by omega), xuR_ne (by omega), xuR_ne (by omega), xuI_ne (by omega), xuR_ne (by omega), xuR_ne (by omega), xuR_ne (by omega), xuR_ne (by omega), xuI_ne (by omega), xuR_ne (by omega), xuR_s]
  · intro j; rw [f1a _ (by omega), f0a _ (by omega), xuR_ne (by omega), xuR_ne (by omega), xuI_ne (by omega), xuR_ne (by omega), xuR_ne (by omega), xuR_ne (by omega), xuR_ne (by omega), xuI_ne (by omega), xuR_s]
theorem kiX1 {d : Nat} {Pp : Option Value → xH → Prop} {K : Nat → Nat × Nat} {I : Nat → Nat → Int32} {P : Nat → Nat → Option Nat} {s : Nat} {q : Nat} {x1 : Nat} (hq : (K q).1 = 2)  (hp : ∀ (K' : Nat → Nat × Nat) (I' : Nat → Nat → Int32) (P' : Nat → Nat → Option Nat), (∀ a, (a < q + 1 ∨ q + 5 < a) → K' a = K a) → (∀ a, (a < q ∨ q + 5 < a) → I' a = I a) → (∀ a, a ≠ q → P' a = P a) → xAt K' P' q 1 → P' q 0 = some x1 → I' q 3 = 0 → I' q 6 = 0 → (∀ j, j < 12 → I' (q + 2) j = -1) → Pp none (K', I', P', q + 6, s + 112)) : xC (d + 1) mX1_init [(.ref q), (.ref x1)] (K, I, P, q + 1, s) Pp := by
  refine y_met 5 112 ?_
  show xB (d + 1) 1 cX1_init none true (xE (q + 1) s 5 112 Pp) 0 [some (.ref q), some (.ref x1)] [] (K, I, P, q + 1, s)
  refine y_aload_n dX1_init_0 rfl ?_
  refine y_obj dX1_init_1 rfl (Nat.le_of_ble_eq_true rfl) ?_
  refine y_aload_n dX1_init_4 rfl ?_
  refine y_bipush (v := 12) dX1_init_5 (by decide) ?_
  refine z_newi 12 (q + 1) (q + 2) (s + 12) dX1_init_7 rfl (by decide) rfl rfl rfl ?_
  refine y_putr 1 1 dX1_init_9 rfl rfl rfl (by rw [xuK_ne (by omega)]; exact hq) ?_
  refine y_aload_n dX1_init_12 rfl ?_
  refine y_bipush (v := 12) dX1_init_13 (by decide) ?_
  refine z_newi 12 (q + 2) (q + 3) (s + 24) dX1_init_15 rfl (by decide) rfl rfl (Nat.add_assoc _ _ _) ?_
  refine y_putr 1 2 dX1_init_17 rfl rfl rfl (by rw [xuK_ne (by omega), xuK_ne (by omega)]; exact hq) ?_
  refine y_aload_n dX1_init_20 rfl ?_
  refine y_iconst (v := 0) dX1_init_21 (by decide) ?_
  refine y_puti 1 3 dX1_init_22 rfl rfl rfl (by rw [xuK_ne (by omega), xuK_ne (by omega)]; exact hq) ?_
  refine y_aload_n dX1_init_25 rfl ?_
  refine y_bipush (v := 12) dX1_init_26 (by decide) ?_
  refine z_newi 12 (q + 3) (q + 4) (s + 36) dX1_init_28 rfl (by decide) rfl rfl (Nat.add_assoc _ _ _) ?_
  refine y_putr 1 4 dX1_init_30 rfl rfl rfl (by rw [xuK_ne (by omega), xuK_ne (by omega), xuK_ne (by omega)]; exact hq) ?_
  refine y_aload_n dX1_init_33 rfl ?_
  refine y_bipush (v := 12) dX1_init_34 (by decide) ?_
  refine z_newz 12 (q + 4) (q + 5) (s + 48) dX1_init_36 rfl (by decide) rfl rfl (Nat.add_assoc _ _ _) ?_
  refine y_putr 1 5 dX1_init_38 rfl rfl rfl (by rw [xuK_ne (by omega), xuK_ne (by omega), xuK_ne (by omega), xuK_ne (by omega)]; exact hq) ?_
  refine y_aload_n dX1_init_41 rfl ?_
  refine y_iconst (v := 0) dX1_init_42 (by decide) ?_
  refine y_puti 1 6 dX1_init_43 rfl rfl rfl (by rw [xuK_ne (by omega), xuK_ne (by omega), xuK_ne (by omega), xuK_ne (by omega)]; exact hq) ?_
  refine y_aload_n dX1_init_46 rfl ?_
  refine y_bipush (v := 64) dX1_init_47 (by decide) ?_
  refine z_newi 64 (q + 5) (q + 6) (s + 112) dX1_init_49 rfl (by decide) rfl rfl (Nat.add_assoc _ _ _) ?_
  refine y_putr 1 7 dX1_init_51 rfl rfl rfl (by rw [xuK_ne (by omega), xuK_ne (by omega), xuK_ne (by omega), xuK_ne (by omega), xuK_ne (by omega)]; exact hq) ?_
  refine y_aload_n dX1_init_54 rfl ?_
  refine y_iconst (v := 0) dX1_init_55 (by decide) ?_
  refine y_putz 1 8 dX1_init_56 rfl rfl rfl (by rw [xuK_ne (by omega), xuK_ne (by omega), xuK_ne (by omega), xuK_ne (by omega), xuK_ne (by omega)]; exact hq) (by decide) ?_
  refine y_aload_n dX1_init_59 rfl ?_
  refine y_aload_n dX1_init_60 rfl ?_
  refine y_putr 1 0 dX1_init_61 rfl rfl rfl (by rw [xuK_ne (by omega), xuK_ne (by omega), xuK_ne (by omega), xuK_ne (by omega), xuK_ne (by omega)]; exact hq) ?_
  refine y_aload_n dX1_init_64 rfl ?_
  refine y_getr 1 2 dX1_init_65 rfl rfl (by rw [xuK_ne (by omega), xuK_ne (by omega), xuK_ne (by omega), xuK_ne (by omega), xuK_ne (by omega)]; exact hq) (by rw [xuP_o (Or.inr (by decide)), xuP_o (Or.inr (by decide)), xuP_o (Or.inr (by decide)), xuP_o (Or.inr (by decide)), xuP_s]) ?_
  refine y_iconst (v := (-1)) dX1_init_68 (by decide) ?_
  refine y_callS2 mJ7_fill_53178 0 dX1_init_69 rfl rfl (Nat.le_of_ble_eq_true rfl) (kfill (a := q + 2) (M := 12) (by rw [xuK_ne (by omega), xuK_ne (by omega), xuK_ne (by omega), xuK_s]) (by decide) (fun F0 f0a f0b => ?_))
  refine y_retv dX1_init_72 rfl rfl (hp _ _ _ ?_ ?_ ?_ ?_ ?_ ?_ ?_ ?_)
  · intro a h; rw [xuK_ne (by omega), xuK_ne (by omega), xuK_ne (by omega), xuK_ne (by omega), xuK_ne (by omega)]
  · intro a h; rw [f0a a (by omega)]; rw [xuI_ne (by omega), xuR_ne (by omega), xuI_ne (by omega), xuR_ne (by omega), xuR_ne (by omega), xuI_ne (by omega), xuR_ne (by omega), xuR_ne (by omega)]
  · intro a h; rw [xuP_ne h, xuP_ne h, xuP_ne h, xuP_ne h, xuP_ne h, xuP_ne h]
  · refine ⟨(by rw [xuK_ne (by omega), xuK_ne (by omega), xuK_ne (by omega), xuK_ne (by omega), xuK_ne (by omega)]; exact hq), fun e he => ?_⟩
    simp only [xLay, List.mem_cons, List.not_mem_nil, or_false] at he
    rcases he with rfl | rfl | rfl | rfl | rfl
    · exact ⟨by dsimp only; rw [xuP_o (Or.inr (by decide)), xuP_o (Or.inr (by decide)), xuP_o (Or.inr (by decide)), xuP_o (Or.inr (by decide)), xuP_o (Or.inr (by decide)), xuP_s], by dsimp only; rw [xuK_ne (by omega), xuK_ne (by omega), xuK_ne (by omega), xuK_ne (by omega), xuK_s]⟩
    · exact ⟨by dsimp only; rw [xuP_o (Or.inr (by decide)), xuP_o (Or.inr (by decide)), xuP_o (Or.inr (by decide)), xuP_o (Or.inr (by decide)), xuP_s], by dsimp only; rw [xuK_ne (by omega), xuK_ne (by omega), xuK_ne (by omega), xuK_s]⟩
    · exact ⟨by dsimp only; rw [xuP_o (Or.inr (by decide)), xuP_o (Or.inr (by decide)), xuP_o (Or.inr (by decide)), xuP_s], by dsimp only; rw [xuK_ne (by omega), xuK_ne (by omega), xuK_s]⟩
    · exact ⟨by dsimp only; rw [xuP_o (Or.inr (by decide)), xuP_o (Or.inr (by decide)), xuP_s], by dsimp only; rw [xuK_ne (by omega), xuK_s]⟩
    · exact ⟨by dsimp only; rw [xuP_o (Or.inr (by decide)), xuP_s], by dsimp only; rw [xuK_s]⟩
  · rw [xuP_s]
  · rw [f0a _ (by omega), xuI_o (Or.inr (by decide)), xuR_ne (by omega), xuI_o (Or.inr (by decide)), xuR_ne (by omega), xuR_ne (by omega), xuI_s]
  · rw [f0a _ (by omega), xuI_o (Or.inr (by decide)), xuR_ne (by omega), xuI_s]
  · exact f0b
theorem kiX5 {d : Nat} {Pp : Option Value → xH → Prop} {K : Nat → Nat × Nat} {I : Nat → Nat → Int32} {P : Nat → Nat → Option Nat} {s : Nat} {q : Nat}  (hq : (K q).1 = 6) (h0 : ∀ j, I q j = 0) (hp : ∀ (K' : Nat → Nat × Nat) (I' : Nat → Nat → Int32) (P' : Nat → Nat → Option Nat), (∀ a, (a < q + 1 ∨ q + 23 < a) → K' a = K a) → (∀ a, (a < q ∨ q + 23 < a) → I' a = I a) → (∀ a, a ≠ q → P' a = P a) → xAt K' P' q 5 → (∀ i j, 1 ≤ i → i ≤ 23 → I' (q + i) j = 0) → (∀ j, I' q j = if j = 25 ∨ j = 26 ∨ j = 27 then -1 else 0) → Pp none (K', I', P', q + 24, s + 7998)) : xC (d + 1) mX5_init [(.ref q)] (K, I, P, q + 1, s) Pp := by
  refine y_met 23 7998 ?_
  show xB (d + 1) 5 cX5_init none true (xE (q + 1) s 23 7998 Pp) 0 [some (.ref q)] [] (K, I, P, q + 1, s)
  refine y_aload_n dX5_init_0 rfl ?_
  refine y_obj dX5_init_1 rfl (Nat.le_of_ble_eq_true rfl) ?_
  refine y_aload_n dX5_init_4 rfl ?_
  refine y_bipush (v := 72) dX5_init_5 (by decide) ?_
  refine z_newi 72 (q + 1) (q + 2) (s + 72) dX5_init_7 rfl (by decide) rfl rfl rfl ?_
  refine y_putr 5 1 dX5_init_9 rfl rfl rfl (by rw [xuK_ne (by omega)]; exact hq) ?_
  refine y_aload_n dX5_init_12 rfl ?_
  refine y_bipush (v := 12) dX5_init_13 (by decide) ?_
  refine z_newi 12 (q + 2) (q + 3) (s + 84) dX5_init_15 rfl (by decide) rfl rfl (Nat.add_assoc _ _ _) ?_
  refine y_putr 5 2 dX5_init_17 rfl rfl rfl (by rw [xuK_ne (by omega), xuK_ne (by omega)]; exact hq) ?_
  refine y_aload_n dX5_init_20 rfl ?_
  refine y_sipush (v := 240) dX5_init_21 (by decide) ?_
  refine z_newi 240 (q + 3) (q + 4) (s + 324) dX5_init_24 rfl (by decide) rfl rfl (Nat.add_assoc _ _ _) ?_
  refine y_putr 5 3 dX5_init_26 rfl rfl rfl (by rw [xuK_ne (by omega), xuK_ne (by omega), xuK_ne (by omega)]; exact hq) ?_
  refine y_aload_n dX5_init_29 rfl ?_
  refine y_sipush (v := 240) dX5_init_30 (by decide) ?_
  refine z_newi 240 (q + 4) (q + 5) (s + 564) dX5_init_33 rfl (by decide) rfl rfl (Nat.add_assoc _ _ _) ?_
  refine y_putr 5 4 dX5_init_35 rfl rfl rfl (by rw [xuK_ne (by omega), xuK_ne (by omega), xuK_ne (by omega), xuK_ne (by omega)]; exact hq) ?_
  refine y_aload_n dX5_init_38 rfl ?_
  refine y_sipush (v := 240) dX5_init_39 (by decide) ?_
  refine z_newi 240 (q + 5) (q + 6) (s + 804) dX5_init_42 rfl (by decide) rfl rfl (Nat.add_assoc _ _ _) ?_
  refine y_putr 5 5 dX5_init_44 rfl rfl rfl (by rw [xuK_ne (by omega), xuK_ne (by omega), xuK_ne (by omega), xuK_ne (by omega), xuK_ne (by omega)]; exact hq) ?_
  refine y_aload_n dX5_init_47 rfl ?_
  refine y_sipush (v := 240) dX5_init_48 (by decide) ?_
  refine z_newi 240 (q + 6) (q + 7) (s + 1044) dX5_init_51 rfl (by decide) rfl rfl (Nat.add_assoc _ _ _) ?_
  refine y_putr 5 6 dX5_init_53 rfl rfl rfl (by rw [xuK_ne (by omega), xuK_ne (by omega), xuK_ne (by omega), xuK_ne (by omega), xuK_ne (by omega), xuK_ne (by omega)]; exact hq) ?_
  refine y_aload_n dX5_init_56 rfl ?_
  refine y_bipush (v := 12) dX5_init_57 (by decide) ?_
  refine z_newi 12 (q + 7) (q + 8) (s + 1056) dX5_init_59 rfl (by decide) rfl rfl (Nat.add_assoc _ _ _) ?_
  refine y_putr 5 7 dX5_init_61 rfl rfl rfl (by rw [xuK_ne (by omega), xuK_ne (by omega), xuK_ne (by omega), xuK_ne (by omega), xuK_ne (by omega), xuK_ne (by omega), xuK_ne (by omega)]; exact hq) ?_
  refine y_aload_n dX5_init_64 rfl ?_
  refine y_sipush (v := 4800) dX5_init_65 (by decide) ?_
  refine z_newi 4800 (q + 8) (q + 9) (s + 5856) dX5_init_68 rfl (by decide) rfl rfl (Nat.add_assoc _ _ _) ?_
  refine y_putr 5 8 dX5_init_70 rfl rfl rfl (by rw [xuK_ne (by omega), xuK_ne (by omega), xuK_ne (by omega), xuK_ne (by omega), xuK_ne (by omega), xuK_ne (by omega), xuK_ne (by omega), xuK_ne (by omega)]; exact hq) ?_
  refine y_aload_n dX5_init_73 rfl ?_
  refine y_bipush (v := 12) dX5_init_74 (by decide) ?_
  refine z_newi 12 (q + 9) (q + 10) (s + 5868) dX5_init_76 rfl (by decide) rfl rfl (Nat.add_assoc _ _ _) ?_
  refine y_putr 5 9 dX5_init_78 rfl rfl rfl (by rw [xuK_ne (by omega), xuK_ne (by omega), xuK_ne (by omega), xuK_ne (by omega), xuK_ne (by omega), xuK_ne (by omega), xuK_ne (by omega), xuK_ne (by omega), xuK_ne (by omega)]; exact hq) ?_
  refine y_aload_n dX5_init_81 rfl ?_
  refine y_sipush (v := 768) dX5_init_82 (by decide) ?_
  refine z_newz 768 (q + 10) (q + 11) (s + 6636) dX5_init_85 rfl (by decide) rfl rfl (Nat.add_assoc _ _ _) ?_
  refine y_putr 5 10 dX5_init_87 rfl rfl rfl (by rw [xuK_ne (by omega), xuK_ne (by omega), xuK_ne (by omega), xuK_ne (by omega), xuK_ne (by omega), xuK_ne (by omega), xuK_ne (by omega), xuK_ne (by omega), xuK_ne (by omega), xuK_ne (by omega)]; exact hq) ?_
  refine y_aload_n dX5_init_90 rfl ?_
  refine y_bipush (v := 12) dX5_init_91 (by decide) ?_
  refine z_newi 12 (q + 11) (q + 12) (s + 6648) dX5_init_93 rfl (by decide) rfl rfl (Nat.add_assoc _ _ _) ?_
  refine y_putr 5 11 dX5_init_95 rfl rfl rfl (by rw [xuK_ne (by omega), xuK_ne (by omega), xuK_ne (by omega), xuK_ne (by omega), xuK_ne (by omega), xuK_ne (by omega), xuK_ne (by omega), xuK_ne (by omega), xuK_ne (by omega), xuK_ne (by omega), xuK_ne (by omega)]; exact hq) ?_
  refine y_aload_n dX5_init_98 rfl ?_
  refine y_bipush (v := 12) dX5_init_99 (by decide) ?_
  refine z_newi 12 (q + 12) (q + 13) (s + 6660) dX5_init_101 rfl (by decide) rfl rfl (Nat.add_assoc _ _ _) ?_
  refine y_putr 5 16 dX5_init_103 rfl rfl rfl (by rw [xuK_ne (by omega), xuK_ne (by omega), xuK_ne (by omega), xuK_ne (by omega), xuK_ne (by omega), xuK_ne (by omega), xuK_ne (by omega), xuK_ne (by omega), xuK_ne (by omega), xuK_ne (by omega), xuK_ne (by omega), xuK_ne (by omega)]; exact hq) ?_
  refine y_aload_n dX5_init_106 rfl ?_
  refine y_bipush (v := 12) dX5_init_107 (by decide) ?_
  refine z_newi 12 (q + 13) (q + 14) (s + 6672) dX5_init_109 rfl (by decide) rfl rfl (Nat.add_assoc _ _ _) ?_
  refine y_putr 5 17 dX5_init_111 rfl rfl rfl (by rw [xuK_ne (by omega), xuK_ne (by omega), xuK_ne (by omega), xuK_ne (by omega), xuK_ne (by omega), xuK_ne (by omega), xuK_ne (by omega), xuK_ne (by omega), xuK_ne (by omega), xuK_ne (by omega), xuK_ne (by omega), xuK_ne (by omega), xuK_ne (by omega)]; exact hq) ?_
  refine y_aload_n dX5_init_114 rfl ?_
  refine y_sipush (v := 768) dX5_init_115 (by decide) ?_
  refine z_newi 768 (q + 14) (q + 15) (s + 7440) dX5_init_118 rfl (by decide) rfl rfl (Nat.add_assoc _ _ _) ?_
  refine y_putr 5 18 dX5_init_120 rfl rfl rfl (by rw [xuK_ne (by omega), xuK_ne (by omega), xuK_ne (by omega), xuK_ne (by omega), xuK_ne (by omega), xuK_ne (by omega), xuK_ne (by omega), xuK_ne (by omega), xuK_ne (by omega), xuK_ne (by omega), xuK_ne (by omega), xuK_ne (by omega), xuK_ne (by omega), xuK_ne (by omega)]; exact hq) ?_
  refine y_aload_n dX5_init_123 rfl ?_
  refine y_sipush (v := 240) dX5_init_124 (by decide) ?_
  refine z_newi 240 (q + 15) (q + 16) (s + 7680) dX5_init_127 rfl (by decide) rfl rfl (Nat.add_assoc _ _ _) ?_
  refine y_putr 5 19 dX5_init_129 rfl rfl rfl (by rw [xuK_ne (by omega), xuK_ne (by omega), xuK_ne (by omega), xuK_ne (by omega), xuK_ne (by omega), xuK_ne (by omega), xuK_ne (by omega), xuK_ne (by omega), xuK_ne (by omega), xuK_ne (by omega), xuK_ne (by omega), xuK_ne (by omega), xuK_ne (by omega), xuK_ne (by omega), xuK_ne (by omega)]; exact hq) ?_
  refine y_aload_n dX5_init_132 rfl ?_
  refine y_bipush (v := 12) dX5_init_133 (by decide) ?_
  refine z_newi 12 (q + 16) (q + 17) (s + 7692) dX5_init_135 rfl (by decide) rfl rfl (Nat.add_assoc _ _ _) ?_
  refine y_putr 5 21 dX5_init_137 rfl rfl rfl (by rw [xuK_ne (by omega), xuK_ne (by omega), xuK_ne (by omega), xuK_ne (by omega), xuK_ne (by omega), xuK_ne (by omega), xuK_ne (by omega), xuK_ne (by omega), xuK_ne (by omega), xuK_ne (by omega), xuK_ne (by omega), xuK_ne (by omega), xuK_ne (by omega), xuK_ne (by omega), xuK_ne (by omega), xuK_ne (by omega)]; exact hq) ?_
  refine y_aload_n dX5_init_140 rfl ?_
  refine y_bipush (v := 12) dX5_init_141 (by decide) ?_
  refine z_newz 12 (q + 17) (q + 18) (s + 7704) dX5_init_143 rfl (by decide) rfl rfl (Nat.add_assoc _ _ _) ?_
  refine y_putr 5 22 dX5_init_145 rfl rfl rfl (by rw [xuK_ne (by omega), xuK_ne (by omega), xuK_ne (by omega), xuK_ne (by omega), xuK_ne (by omega), xuK_ne (by omega), xuK_ne (by omega), xuK_ne (by omega), xuK_ne (by omega), xuK_ne (by omega), xuK_ne (by omega), xuK_ne (by omega), xuK_ne (by omega), xuK_ne (by omega), xuK_ne (by omega), xuK_ne (by omega), xuK_ne (by omega)]; exact hq) ?_
  refine y_aload_n dX5_init_148 rfl ?_
  refine y_bipush (v := 12) dX5_init_149 (by decide) ?_
  refine z_newi 12 (q + 18) (q + 19) (s + 7716) dX5_init_151 rfl (by decide) rfl rfl (Nat.add_assoc _ _ _) ?_
  refine y_putr 5 23 dX5_init_153 rfl rfl rfl (by rw [xuK_ne (by omega), xuK_ne (by omega), xuK_ne (by omega), xuK_ne (by omega), xuK_ne (by omega), xuK_ne (by omega), xuK_ne (by omega), xuK_ne (by omega), xuK_ne (by omega), xuK_ne (by omega), xuK_ne (by omega), xuK_ne (by omega), xuK_ne (by omega), xuK_ne (by omega), xuK_ne (by omega), xuK_ne (by omega), xuK_ne (by omega), xuK_ne (by omega)]; exact hq) ?_
  refine y_aload_n dX5_init_156 rfl ?_
  refine y_bipush (v := 12) dX5_init_157 (by decide) ?_
  refine z_newi 12 (q + 19) (q + 20) (s + 7728) dX5_init_159 rfl (by decide) rfl rfl (Nat.add_assoc _ _ _) ?_
  refine y_putr 5 24 dX5_init_161 rfl rfl rfl (by rw [xuK_ne (by omega), xuK_ne (by omega), xuK_ne (by omega), xuK_ne (by omega), xuK_ne (by omega), xuK_ne (by omega), xuK_ne (by omega), xuK_ne (by omega), xuK_ne (by omega), xuK_ne (by omega), xuK_ne (by omega), xuK_ne (by omega), xuK_ne (by omega), xuK_ne (by omega), xuK_ne (by omega), xuK_ne (by omega), xuK_ne (by omega), xuK_ne (by omega), xuK_ne (by omega)]; exact hq) ?_
  refine y_aload_n dX5_init_164 rfl ?_
  refine y_iconst (v := (-1)) dX5_init_165 (by decide) ?_
  refine y_puti 5 25 dX5_init_166 rfl rfl rfl (by rw [xuK_ne (by omega), xuK_ne (by omega), xuK_ne (by omega), xuK_ne (by omega), xuK_ne (by omega), xuK_ne (by omega), xuK_ne (by omega), xuK_ne (by omega), xuK_ne (by omega), xuK_ne (by omega), xuK_ne (by omega), xuK_ne (by omega), xuK_ne (by omega), xuK_ne (by omega), xuK_ne (by omega), xuK_ne (by omega), xuK_ne (by omega), xuK_ne (by omega), xuK_ne (by omega)]; exact hq) ?_
  refine y_aload_n dX5_init_169 rfl ?_
  refine y_iconst (v := (-1)) dX5_init_170 (by decide) ?_
  refine y_puti 5 26 dX5_init_171 rfl rfl rfl (by rw [xuK_ne (by omega), xuK_ne (by omega), xuK_ne (by omega), xuK_ne (by omega), xuK_ne (by omega), xuK_ne (by omega), xuK_ne (by omega), xuK_ne (by omega), xuK_ne (by omega), xuK_ne (by omega), xuK_ne (by omega), xuK_ne (by omega), xuK_ne (by omega), xuK_ne (by omega), xuK_ne (by omega), xuK_ne (by omega), xuK_ne (by omega), xuK_ne (by omega), xuK_ne (by omega)]; exact hq) ?_
  refine y_aload_n dX5_init_174 rfl ?_
  refine y_iconst (v := (-1)) dX5_init_175 (by decide) ?_
  refine y_puti 5 27 dX5_init_176 rfl rfl rfl (by rw [xuK_ne (by omega), xuK_ne (by omega), xuK_ne (by omega), xuK_ne (by omega), xuK_ne (by omega), xuK_ne (by omega), xuK_ne (by omega), xuK_ne (by omega), xuK_ne (by omega), xuK_ne (by omega), xuK_ne (by omega), xuK_ne (by omega), xuK_ne (by omega), xuK_ne (by omega), xuK_ne (by omega), xuK_ne (by omega), xuK_ne (by omega), xuK_ne (by omega), xuK_ne (by omega)]; exact hq) ?_
  refine y_aload_n dX5_init_179 rfl ?_
  refine y_bipush (v := 8) dX5_init_180 (by decide) ?_
  refine z_newi 8 (q + 20) (q + 21) (s + 7736) dX5_init_182 rfl (by decide) rfl rfl (Nat.add_assoc _ _ _) ?_
  refine y_putr 5 28 dX5_init_184 rfl rfl rfl (by rw [xuK_ne (by omega), xuK_ne (by omega), xuK_ne (by omega), xuK_ne (by omega), xuK_ne (by omega), xuK_ne (by omega), xuK_ne (by omega), xuK_ne (by omega), xuK_ne (by omega), xuK_ne (by omega), xuK_ne (by omega), xuK_ne (by omega), xuK_ne (by omega), xuK_ne (by omega), xuK_ne (by omega), xuK_ne (by omega), xuK_ne (by omega), xuK_ne (by omega), xuK_ne (by omega), xuK_ne (by omega)]; exact hq) ?_
  refine y_aload_n dX5_init_187 rfl ?_
  refine y_bipush (v := 60) dX5_init_188 (by decide) ?_
  refine z_newi 60 (q + 21) (q + 22) (s + 7796) dX5_init_190 rfl (by decide) rfl rfl (Nat.add_assoc _ _ _) ?_
  refine y_putr 5 33 dX5_init_192 rfl rfl rfl (by rw [xuK_ne (by omega), xuK_ne (by omega), xuK_ne (by omega), xuK_ne (by omega), xuK_ne (by omega), xuK_ne (by omega), xuK_ne (by omega), xuK_ne (by omega), xuK_ne (by omega), xuK_ne (by omega), xuK_ne (by omega), xuK_ne (by omega), xuK_ne (by omega), xuK_ne (by omega), xuK_ne (by omega), xuK_ne (by omega), xuK_ne (by omega), xuK_ne (by omega), xuK_ne (by omega), xuK_ne (by omega), xuK_ne (by omega)]; exact hq) ?_
  refine y_aload_n dX5_init_195 rfl ?_
  refine y_bipush (v := 101) dX5_init_196 (by decide) ?_
  refine z_newi 101 (q + 22) (q + 23) (s + 7897) dX5_init_198 rfl (by decide) rfl rfl (Nat.add_assoc _ _ _) ?_
  refine y_putr 5 34 dX5_init_200 rfl rfl rfl (by rw [xuK_ne (by omega), xuK_ne (by omega), xuK_ne (by omega), xuK_ne (by omega), xuK_ne (by omega), xuK_ne (by omega), xuK_ne (by omega), xuK_ne (by omega), xuK_ne (by omega), xuK_ne (by omega), xuK_ne (by omega), xuK_ne (by omega), xuK_ne (by omega), xuK_ne (by omega), xuK_ne (by omega), xuK_ne (by omega), xuK_ne (by omega), xuK_ne (by omega), xuK_ne (by omega), xuK_ne (by omega), xuK_ne (by omega), xuK_ne (by omega)]; exact hq) ?_
  refine y_aload_n dX5_init_203 rfl ?_
  refine y_bipush (v := 101) dX5_init_204 (by decide) ?_
  refine z_newi 101 (q + 23) (q + 24) (s + 7998) dX5_init_206 rfl (by decide) rfl rfl (Nat.add_assoc _ _ _) ?_
  refine y_putr 5 35 dX5_init_208 rfl rfl rfl (by rw [xuK_ne (by omega), xuK_ne (by omega), xuK_ne (by omega), xuK_ne (by omega), xuK_ne (by omega), xuK_ne (by omega), xuK_ne (by omega), xuK_ne (by omega), xuK_ne (by omega), xuK_ne (by omega), xuK_ne (by omega), xuK_ne (by omega), xuK_ne (by omega), xuK_ne (by omega), xuK_ne (by omega), xuK_ne (by omega), xuK_ne (by omega), xuK_ne (by omega), xuK_ne (by omega), xuK_ne (by omega), xuK_ne (by omega), xuK_ne (by omega), xuK_ne (by omega)]; exact hq) ?_
  refine y_retv dX5_init_211 rfl rfl (hp _ _ _ ?_ ?_ ?_ ?_ ?_ ?_)
  · intro a h; rw [xuK_ne (by omega), xuK_ne (by omega), xuK_ne (by omega), xuK_ne (by omega), xuK_ne (by omega), xuK_ne (by omega), xuK_ne (by omega), xuK_ne (by omega), xuK_ne (by omega), xuK_ne (by omega), xuK_ne (by omega), xuK_ne (by omega), xuK_ne (by omega), xuK_ne (by omega), xuK_ne (by omega), xuK_ne (by omega), xuK_ne (by omega), xuK_ne (by omega), xuK_ne (by omega), xuK_ne (by omega), xuK_ne (by omega), xuK_ne (by omega), xuK_ne (by omega)]
  · intro a h; rw [xuR_ne (by omega), xuR_ne (by omega), xuR_ne (by omega), xuR_ne (by omega), xuI_ne (by omega), xuI_ne (by omega), xuI_ne (by omega), xuR_ne (by omega), xuR_ne (by omega), xuR_ne (by omega), xuR_ne (by omega), xuR_ne (by omega), xuR_ne (by omega), xuR_ne (by omega), xuR_ne (by omega), xuR_ne (by omega), xuR_ne (by omega), xuR_ne (by omega), xuR_ne (by omega), xuR_ne (by omega), xuR_ne (by omega), xuR_ne (by omega), xuR_ne (by omega), xuR_ne (by omega), xuR_ne (by omega), xuR_ne (by omega)]
  · intro a h; rw [xuP_ne h, xuP_ne h, xuP_ne h, xuP_ne h, xuP_ne h, xuP_ne h, xuP_ne h, xuP_ne h, xuP_ne h, xuP_ne h, xuP_ne h, xuP_ne h, xuP_ne h, xuP_ne h, xuP_ne h, xuP_ne h, xuP_ne h, xuP_ne h, xuP_ne h, xuP_ne h, xuP_ne h, xuP_ne h, xuP_ne h]
  · refine ⟨(by rw [xuK_ne (by omega), xuK_ne (by omega), xuK_ne (by omega), xuK_ne (by omega), xuK_ne (by omega), xuK_ne (by omega), xuK_ne (by omega), xuK_ne (by omega), xuK_ne (by omega), xuK_ne (by omega), xuK_ne (by omega), xuK_ne (by omega), xuK_ne (by omega), xuK_ne (by omega), xuK_ne (by omega), xuK_ne (by omega), xuK_ne (by omega), xuK_ne (by omega), xuK_ne (by omega), xuK_ne (by omega), xuK_ne (by omega), xuK_ne (by omega), xuK_ne (by omega)]; exact hq), fun e he => ?_⟩
    simp only [xLay, List.mem_cons, List.not_mem_nil, or_false] at he
    rcases he with rfl | rfl | rfl | rfl | rfl | rfl | rfl | rfl | rfl | rfl | rfl | rfl | rfl | rfl | rfl | rfl | rfl | rfl | rfl | rfl | rfl | rfl | rfl
    · exact ⟨by dsimp only; rw [xuP_o (Or.inr (by decide)), xuP_o (Or.inr (by decide)), xuP_o (Or.inr (by decide)), xuP_o (Or.inr (by decide)), xuP_o (Or.inr (by decide)), xuP_o (Or.inr (by decide)), xuP_o (Or.inr (by decide)), xuP_o (Or.inr (by decide)), xuP_o (Or.inr (by decide)), xuP_o (Or.inr (by decide)), xuP_o (Or.inr (by decide)), xuP_o (Or.inr (by decide)), xuP_o (Or.inr (by decide)), xuP_o (Or.inr (by decide)), xuP_o (Or.inr (by decide)), xuP_o (Or.inr (by decide)), xuP_o (Or.inr (by decide)), xuP_o (Or.inr (by decide)), xuP_o (Or.inr (by decide)), xuP_o (Or.inr (by decide)), xuP_o (Or.inr (by decide)), xuP_o (Or.inr (by decide)), xuP_s], by dsimp only; rw [xuK_ne (by omega), xuK_ne (by omega), xuK_ne (by omega), xuK_ne (by omega), xuK_ne (by omega), xuK_ne (by omega), xuK_ne (by omega), xuK_ne (by omega), xuK_ne (by omega), xuK_ne (by omega), xuK_ne (by omega), xuK_ne (by omega), xuK_ne (by omega), xuK_ne (by omega), xuK_ne (by omega), xuK_ne (by omega), xuK_ne (by omega), xuK_ne (by omega), xuK_ne (by omega), xuK_ne (by omega), xuK_ne (by omega), xuK_ne (by omega), xuK_s]⟩
    · exact ⟨by dsimp only; rw [xuP_o (Or.inr (by decide)), xuP_o (Or.inr (by decide)), xuP_o (Or.inr (by decide)), xuP_o (Or.inr (by decide)), xuP_o (Or.inr (by decide)), xuP_o (Or.inr (by decide)), xuP_o (Or.inr (by decide)), xuP_o (Or.inr (by decide)), xuP_o (Or.inr (by decide)), xuP_o (Or.inr (by decide)), xuP_o (Or.inr (by decide)), xuP_o (Or.inr (by decide)), xuP_o (Or.inr (by decide)), xuP_o (Or.inr (by decide)), xuP_o (Or.inr (by decide)), xuP_o (Or.inr (by decide)), xuP_o (Or.inr (by decide)), xuP_o (Or.inr (by decide)), xuP_o (Or.inr (by decide)), xuP_o (Or.inr (by decide)), xuP_o (Or.inr (by decide)), xuP_s], by dsimp only; rw [xuK_ne (by omega), xuK_ne (by omega), xuK_ne (by omega), xuK_ne (by omega), xuK_ne (by omega), xuK_ne (by omega), xuK_ne (by omega), xuK_ne (by omega), xuK_ne (by omega), xuK_ne (by omega), xuK_ne (by omega), xuK_ne (by omega), xuK_ne (by omega), xuK_ne (by omega), xuK_ne (by omega), xuK_ne (by omega), xuK_ne (by omega), xuK_ne (by omega), xuK_ne (by omega), xuK_ne (by omega), xuK_ne (by omega), xuK_s]⟩
    · exact ⟨by dsimp only; rw [xuP_o (Or.inr (by decide)), xuP_o (Or.inr (by decide)), xuP_o (Or.inr (by decide)), xuP_o (Or.inr (by decide)), xuP_o (Or.inr (by decide)), xuP_o (Or.inr (by decide)), xuP_o (Or.inr (by decide)), xuP_o (Or.inr (by decide)), xuP_o (Or.inr (by decide)), xuP_o (Or.inr (by decide)), xuP_o (Or.inr (by decide)), xuP_o (Or.inr (by decide)), xuP_o (Or.inr (by decide)), xuP_o (Or.inr (by decide)), xuP_o (Or.inr (by decide)), xuP_o (Or.inr (by decide)), xuP_o (Or.inr (by decide)), xuP_o (Or.inr (by decide)), xuP_o (Or.inr (by decide)), xuP_o (Or.inr (by decide)), xuP_s], by dsimp only; rw [xuK_ne (by omega), xuK_ne (by omega), xuK_ne (by omega), xuK_ne (by omega), xuK_ne (by omega), xuK_ne (by omega), xuK_ne (by omega), xuK_ne (by omega), xuK_ne (by omega), xuK_ne (by omega), xuK_ne (by omega), xuK_ne (by omega), xuK_ne (by omega), xuK_ne (by omega), xuK_ne (by omega), xuK_ne (by omega), xuK_ne (by omega), xuK_ne (by omega), xuK_ne (by omega), xuK_ne (by omega), xuK_s]⟩
    · exact ⟨by dsimp only; rw [xuP_o (Or.inr (by decide)), xuP_o (Or.inr (by decide)), xuP_o (Or.inr (by decide)), xuP_o (Or.inr (by decide)), xuP_o (Or.inr (by decide)), xuP_o (Or.inr (by decide)), xuP_o (Or.inr (by decide)), xuP_o (Or.inr (by decide)), xuP_o (Or.inr (by decide)), xuP_o (Or.inr (by decide)), xuP_o (Or.inr (by decide)), xuP_o (Or.inr (by decide)), xuP_o (Or.inr (by decide)), xuP_o (Or.inr (by decide)), xuP_o (Or.inr (by decide)), xuP_o (Or.inr (by decide)), xuP_o (Or.inr (by decide)), xuP_o (Or.inr (by decide)), xuP_o (Or.inr (by decide)), xuP_s], by dsimp only; rw [xuK_ne (by omega), xuK_ne (by omega), xuK_ne (by omega), xuK_ne (by omega), xuK_ne (by omega), xuK_ne (by omega), xuK_ne (by omega), xuK_ne (by omega), xuK_ne (by omega), xuK_ne (by omega), xuK_ne (by omega), xuK_ne (by omega), xuK_ne (by omega), xuK_ne (by omega), xuK_ne (by omega), xuK_ne (by omega), xuK_ne (by omega), xuK_ne (by omega), xuK_ne (by omega), xuK_s]⟩
    · exact ⟨by dsimp only; rw [xuP_o (Or.inr (by decide)), xuP_o (Or.inr (by decide)), xuP_o (Or.inr (by decide)), xuP_o (Or.inr (by decide)), xuP_o (Or.inr (by decide)), xuP_o (Or.inr (by decide)), xuP_o (Or.inr (by decide)), xuP_o (Or.inr (by decide)), xuP_o (Or.inr (by decide)), xuP_o (Or.inr (by decide)), xuP_o (Or.inr (by decide)), xuP_o (Or.inr (by decide)), xuP_o (Or.inr (by decide)), xuP_o (Or.inr (by decide)), xuP_o (Or.inr (by decide)), xuP_o (Or.inr (by decide)), xuP_o (Or.inr (by decide)), xuP_o (Or.inr (by decide)), xuP_s], by dsimp only; rw [xuK_ne (by omega), xuK_ne (by omega), xuK_ne (by omega), xuK_ne (by omega), xuK_ne (by omega), xuK_ne (by omega), xuK_ne (by omega), xuK_ne (by omega), xuK_ne (by omega), xuK_ne (by omega), xuK_ne (by omega), xuK_ne (by omega), xuK_ne (by omega), xuK_ne (by omega), xuK_ne (by omega), xuK_ne (by omega), xuK_ne (by omega), xuK_ne (by omega), xuK_s]⟩
    · exact ⟨by dsimp only; rw [xuP_o (Or.inr (by decide)), xuP_o (Or.inr (by decide)), xuP_o (Or.inr (by decide)), xuP_o (Or.inr (by decide)), xuP_o (Or.inr (by decide)), xuP_o (Or.inr (by decide)), xuP_o (Or.inr (by decide)), xuP_o (Or.inr (by decide)), xuP_o (Or.inr (by decide)), xuP_o (Or.inr (by decide)), xuP_o (Or.inr (by decide)), xuP_o (Or.inr (by decide)), xuP_o (Or.inr (by decide)), xuP_o (Or.inr (by decide)), xuP_o (Or.inr (by decide)), xuP_o (Or.inr (by decide)), xuP_o (Or.inr (by decide)), xuP_s], by dsimp only; rw [xuK_ne (by omega), xuK_ne (by omega), xuK_ne (by omega), xuK_ne (by omega), xuK_ne (by omega), xuK_ne (by omega), xuK_ne (by omega), xuK_ne (by omega), xuK_ne (by omega), xuK_ne (by omega), xuK_ne (by omega), xuK_ne (by omega), xuK_ne (by omega), xuK_ne (by omega), xuK_ne (by omega), xuK_ne (by omega), xuK_ne (by omega), xuK_s]⟩
    · exact ⟨by dsimp only; rw [xuP_o (Or.inr (by decide)), xuP_o (Or.inr (by decide)), xuP_o (Or.inr (by decide)), xuP_o (Or.inr (by decide)), xuP_o (Or.inr (by decide)), xuP_o (Or.inr (by decide)), xuP_o (Or.inr (by decide)), xuP_o (Or.inr (by decide)), xuP_o (Or.inr (by decide)), xuP_o (Or.inr (by decide)), xuP_o (Or.inr (by decide)), xuP_o (Or.inr (by decide)), xuP_o (Or.inr (by decide)), xuP_o (Or.inr (by decide)), xuP_o (Or.inr (by decide)), xuP_o (Or.inr (by decide)), xuP_s], by dsimp only; rw [xuK_ne (by omega), xuK_ne (by omega), xuK_ne (by omega), xuK_ne (by omega), xuK_ne (by omega), xuK_ne (by omega), xuK_ne (by omega), xuK_ne (by omega), xuK_ne (by omega), xuK_ne (by omega), xuK_ne (by omega), xuK_ne (by omega), xuK_ne (by omega), xuK_ne (by omega), xuK_ne (by omega), xuK_ne (by omega), xuK_s]⟩
    · exact ⟨by dsimp only; rw [xuP_o (Or.inr (by decide)), xuP_o (Or.inr (by decide)), xuP_o (Or.inr (by decide)), xuP_o (Or.inr (by decide)), xuP_o (Or.inr (by decide)), xuP_o (Or.inr (by decide)), xuP_o (Or.inr (by decide)), xuP_o (Or.inr (by decide)), xuP_o (Or.inr (by decide)), xuP_o (Or.inr (by decide)), xuP_o (Or.inr (by decide)), xuP_o (Or.inr (by decide)), xuP_o (Or.inr (by decide)), xuP_o (Or.inr (by decide)), xuP_o (Or.inr (by decide)), xuP_s], by dsimp only; rw [xuK_ne (by omega), xuK_ne (by omega), xuK_ne (by omega), xuK_ne (by omega), xuK_ne (by omega), xuK_ne (by omega), xuK_ne (by omega), xuK_ne (by omega), xuK_ne (by omega), xuK_ne (by omega), xuK_ne (by omega), xuK_ne (by omega), xuK_ne (by omega), xuK_ne (by omega), xuK_ne (by omega), xuK_s]⟩
    · exact ⟨by dsimp only; rw [xuP_o (Or.inr (by decide)), xuP_o (Or.inr (by decide)), xuP_o (Or.inr (by decide)), xuP_o (Or.inr (by decide)), xuP_o (Or.inr (by decide)), xuP_o (Or.inr (by decide)), xuP_o (Or.inr (by decide)), xuP_o (Or.inr (by decide)), xuP_o (Or.inr (by decide)), xuP_o (Or.inr (by decide)), xuP_o (Or.inr (by decide)), xuP_o (Or.inr (by decide)), xuP_o (Or.inr (by decide)), xuP_o (Or.inr (by decide)), xuP_s], by dsimp only; rw [xuK_ne (by omega), xuK_ne (by omega), xuK_ne (by omega), xuK_ne (by omega), xuK_ne (by omega), xuK_ne (by omega), xuK_ne (by omega), xuK_ne (by omega), xuK_ne (by omega), xuK_ne (by omega), xuK_ne (by omega), xuK_ne (by omega), xuK_ne (by omega), xuK_ne (by omega), xuK_s]⟩
    · exact ⟨by dsimp only; rw [xuP_o (Or.inr (by decide)), xuP_o (Or.inr (by decide)), xuP_o (Or.inr (by decide)), xuP_o (Or.inr (by decide)), xuP_o (Or.inr (by decide)), xuP_o (Or.inr (by decide)), xuP_o (Or.inr (by decide)), xuP_o (Or.inr (by decide)), xuP_o (Or.inr (by decide)), xuP_o (Or.inr (by decide)), xuP_o (Or.inr (by decide)), xuP_o (Or.inr (by decide)), xuP_o (Or.inr (by decide)), xuP_s], by dsimp only; rw [xuK_ne (by omega), xuK_ne (by omega), xuK_ne (by omega), xuK_ne (by omega), xuK_ne (by omega), xuK_ne (by omega), xuK_ne (by omega), xuK_ne (by omega), xuK_ne (by omega), xuK_ne (by omega), xuK_ne (by omega), xuK_ne (by omega), xuK_ne (by omega), xuK_s]⟩
    · exact ⟨by dsimp only; rw [xuP_o (Or.inr (by decide)), xuP_o (Or.inr (by decide)), xuP_o (Or.inr (by decide)), xuP_o (Or.inr (by decide)), xuP_o (Or.inr (by decide)), xuP_o (Or.inr (by decide)), xuP_o (Or.inr (by decide)), xuP_o (Or.inr (by decide)), xuP_o (Or.inr (by decide)), xuP_o (Or.inr (by decide)), xuP_o (Or.inr (by decide)), xuP_o (Or.inr (by decide)), xuP_s], by dsimp only; rw [xuK_ne (by omega), xuK_ne (by omega), xuK_ne (by omega), xuK_ne (by omega), xuK_ne (by omega), xuK_ne (by omega), xuK_ne (by omega), xuK_ne (by omega), xuK_ne (by omega), xuK_ne (by omega), xuK_ne (by omega), xuK_ne (by omega), xuK_s]⟩
    · exact ⟨by dsimp only; rw [xuP_o (Or.inr (by decide)), xuP_o (Or.inr (by decide)), xuP_o (Or.inr (by decide)), xuP_o (Or.inr (by decide)), xuP_o (Or.inr (by decide)), xuP_o (Or.inr (by decide)), xuP_o (Or.inr (by decide)), xuP_o (Or.inr (by decide)), xuP_o (Or.inr (by decide)), xuP_o (Or.inr (by decide)), xuP_o (Or.inr (by decide)), xuP_s], by dsimp only; rw [xuK_ne (by omega), xuK_ne (by omega), xuK_ne (by omega), xuK_ne (by omega), xuK_ne (by omega), xuK_ne (by omega), xuK_ne (by omega), xuK_ne (by omega), xuK_ne (by omega), xuK_ne (by omega), xuK_ne (by omega), xuK_s]⟩
    · exact ⟨by dsimp only; rw [xuP_o (Or.inr (by decide)), xuP_o (Or.inr (by decide)), xuP_o (Or.inr (by decide)), xuP_o (Or.inr (by decide)), xuP_o (Or.inr (by decide)), xuP_o (Or.inr (by decide)), xuP_o (Or.inr (by decide)), xuP_o (Or.inr (by decide)), xuP_o (Or.inr (by decide)), xuP_o (Or.inr (by decide)), xuP_s], by dsimp only; rw [xuK_ne (by omega), xuK_ne (by omega), xuK_ne (by omega), xuK_ne (by omega), xuK_ne (by omega), xuK_ne (by omega), xuK_ne (by omega), xuK_ne (by omega), xuK_ne (by omega), xuK_ne (by omega), xuK_s]⟩
    · exact ⟨by dsimp only; rw [xuP_o (Or.inr (by decide)), xuP_o (Or.inr (by decide)), xuP_o (Or.inr (by decide)), xuP_o (Or.inr (by decide)), xuP_o (Or.inr (by decide)), xuP_o (Or.inr (by decide)), xuP_o (Or.inr (by decide)), xuP_o (Or.inr (by decide)), xuP_o (Or.inr (by decide)), xuP_s], by dsimp only; rw [xuK_ne (by omega), xuK_ne (by omega), xuK_ne (by omega), xuK_ne (by omega), xuK_ne (by omega), xuK_ne (by omega), xuK_ne (by omega), xuK_ne (by omega), xuK_ne (by omega), xuK_s]⟩
    · exact ⟨by dsimp only; rw [xuP_o (Or.inr (by decide)), xuP_o (Or.inr (by decide)), xuP_o (Or.inr (by decide)), xuP_o (Or.inr (by decide)), xuP_o (Or.inr (by decide)), xuP_o (Or.inr (by decide)), xuP_o (Or.inr (by decide)), xuP_o (Or.inr (by decide)), xuP_s], by dsimp only; rw [xuK_ne (by omega), xuK_ne (by omega), xuK_ne (by omega), xuK_ne (by omega), xuK_ne (by omega), xuK_ne (by omega), xuK_ne (by omega), xuK_ne (by omega), xuK_s]⟩
    · exact ⟨by dsimp only; rw [xuP_o (Or.inr (by decide)), xuP_o (Or.inr (by decide)), xuP_o (Or.inr (by decide)), xuP_o (Or.inr (by decide)), xuP_o (Or.inr (by decide)), xuP_o (Or.inr (by decide)), xuP_o (Or.inr (by decide)), xuP_s], by dsimp only; rw [xuK_ne (by omega), xuK_ne (by omega), xuK_ne (by omega), xuK_ne (by omega), xuK_ne (by omega), xuK_ne (by omega), xuK_ne (by omega), xuK_s]⟩
    · exact ⟨by dsimp only; rw [xuP_o (Or.inr (by decide)), xuP_o (Or.inr (by decide)), xuP_o (Or.inr (by decide)), xuP_o (Or.inr (by decide)), xuP_o (Or.inr (by decide)), xuP_o (Or.inr (by decide)), xuP_s], by dsimp only; rw [xuK_ne (by omega), xuK_ne (by omega), xuK_ne (by omega), xuK_ne (by omega), xuK_ne (by omega), xuK_ne (by omega), xuK_s]⟩
    · exact ⟨by dsimp only; rw [xuP_o (Or.inr (by decide)), xuP_o (Or.inr (by decide)), xuP_o (Or.inr (by decide)), xuP_o (Or.inr (by decide)), xuP_o (Or.inr (by decide)), xuP_s], by dsimp only; rw [xuK_ne (by omega), xuK_ne (by omega), xuK_ne (by omega), xuK_ne (by omega), xuK_ne (by omega), xuK_s]⟩
    · exact ⟨by dsimp only; rw [xuP_o (Or.inr (by decide)), xuP_o (Or.inr (by decide)), xuP_o (Or.inr (by decide)), xuP_o (Or.inr (by decide)), xuP_s], by dsimp only; rw [xuK_ne (by omega), xuK_ne (by omega), xuK_ne (by omega), xuK_ne (by omega), xuK_s]⟩
    · exact ⟨by dsimp only; rw [xuP_o (Or.inr (by decide)), xuP_o (Or.inr (by decide)), xuP_o (Or.inr (by decide)), xuP_s], by dsimp only; rw [xuK_ne (by omega), xuK_ne (by omega), xuK_ne (by omega), xuK_s]⟩
    · exact ⟨by dsimp only; rw [xuP_o (Or.inr (by decide)), xuP_o (Or.inr (by decide)), xuP_s], by dsimp only; rw [xuK_ne (by omega), xuK_ne (by omega), xuK_s]⟩
    · exact ⟨by dsimp only; rw [xuP_o (Or.inr (by decide)), xuP_s], by dsimp only; rw [xuK_ne (by omega), xuK_s]⟩
    · exact ⟨by dsimp only; rw [xuP_s], by dsimp only; rw [xuK_s]⟩
  · intro i j h1 h2
    have : i = 1 ∨ i = 2 ∨ i = 3 ∨ i = 4 ∨ i = 5 ∨ i = 6 ∨ i = 7 ∨ i = 8 ∨ i = 9 ∨ i = 10 ∨ i = 11 ∨ i = 12 ∨ i = 13 ∨ i = 14 ∨ i = 15 ∨ i = 16 ∨ i = 17 ∨ i = 18 ∨ i = 19 ∨ i = 20 ∨ i = 21 ∨ i = 22 ∨ i = 23 := by omega
    rcases this with rfl | rfl | rfl | rfl | rfl | rfl | rfl | rfl | rfl | rfl | rfl | rfl | rfl | rfl | rfl | rfl | rfl | rfl | rfl | rfl | rfl | rfl | rfl
    · rw [xuR_ne (by omega), xuR_ne (by omega), xuR_ne (by omega), xuR_ne (by omega), xuI_ne (by omega), xuI_ne (by omega), xuI_ne (by omega), xuR_ne (by omega), xuR_ne (by omega), xuR_ne (by omega), xuR_ne (by omega), xuR_ne (by omega), xuR_ne (by omega), xuR_ne (by omega), xuR_ne (by omega), xuR_ne (by omega), xuR_ne (by omega), xuR_ne (by omega), xuR_ne (by omega), xuR_ne (by omega), xuR_ne (by omega), xuR_ne (by omega), xuR_ne (by omega), xuR_ne (by omega), xuR_ne (by omega), xuR_s]
    · rw [xuR_ne (by omega), xuR_ne (by omega), xuR_ne (by omega), xuR_ne (by omega), xuI_ne (by omega), xuI_ne (by omega), xuI_ne (by omega), xuR_ne (by omega), xuR_ne (by omega), xuR_ne (by omega), xuR_ne (by omega), xuR_ne (by omega), xuR_ne (by omega), xuR_ne (by omega), xuR_ne (by omega), xuR_ne (by omega), xuR_ne (by omega), xuR_ne (by omega), xuR_ne (by omega), xuR_ne (by omega), xuR_ne (by omega), xuR_ne (by omega), xuR_ne (by omega), xuR_ne (by omega), xuR_s]
    · rw [xuR_ne (by omega), xuR_ne (by omega), xuR_ne (by omega), xuR_ne (by omega), xuI_ne (by omega), xuI_ne (by omega), xuI_ne (by omega), xuR_ne (by omega), xuR_ne (by omega), xuR_ne (by omega), xuR_ne (by omega), xuR_ne (by omega), xuR_ne (by omega), xuR_ne (by omega), xuR_ne (by omega), xuR_ne (by omega), xuR_ne (by omega), xuR_ne (by omega), xuR_ne (by omega), xuR_ne (by omega), xuR_ne (by omega), xuR_ne (by omega), xuR_ne (by omega), xuR_s]
    · rw [xuR_ne (by omega), xuR_ne (by omega), xuR_ne (by omega), xuR_ne (by omega), xuI_ne (by omega), xuI_ne (by omega), xuI_ne (by omega), xuR_ne (by omega), xuR_ne (by omega), xuR_ne (by omega), xuR_ne (by omega), xuR_ne (by omega), xuR_ne (by omega), xuR_ne (by omega), xuR_ne (by omega), xuR_ne (by omega), xuR_ne (by omega), xuR_ne (by omega), xuR_ne (by omega), xuR_ne (by omega), xuR_ne (by omega), xuR_ne (by omega), xuR_s]
    · rw [xuR_ne (by omega), xuR_ne (by omega), xuR_ne (by omega), xuR_ne (by omega), xuI_ne (by omega), xuI_ne (by omega), xuI_ne (by omega), xuR_ne (by omega), xuR_ne (by omega), xuR_ne (by omega), xuR_ne (by omega), xuR_ne (by omega), xuR_ne (by omega), xuR_ne (by omega), xuR_ne (by omega), xuR_ne (by omega), xuR_ne (by omega), xuR_ne (by omega), xuR_ne (by omega), xuR_ne (by omega), xuR_ne (by omega), xuR_s]
    · rw [xuR_ne (by omega), xuR_ne (by omega), xuR_ne (by omega), xuR_ne (by omega), xuI_ne (by omega), xuI_ne (by omega), xuI_ne (by omega), xuR_ne (by omega), xuR_ne (by omega), xuR_ne (by omega), xuR_ne (by omega), xuR_ne (by omega), xuR_ne (by omega), xuR_ne (by omega), xuR_ne (by omega), xuR_ne (by omega), xuR_ne (by omega), xuR_ne (by omega), xuR_ne (by omega), xuR_ne (by omega), xuR_s]
    · rw [xuR_ne (by omega), xuR_ne (by omega), xuR_ne (by omega), xuR_ne (by omega), xuI_ne (by omega), xuI_ne (by omega), xuI_ne (by omega), xuR_ne (by omega), xuR_ne (by omega), xuR_ne (by omega), xuR_ne (by omega), xuR_ne (by omega), xuR_ne (by omega), xuR_ne (by omega), xuR_ne (by omega), xuR_ne (by omega), xuR_ne (by omega), xuR_ne (by omega), xuR_ne (by omega), xuR_s]
    · rw [xuR_ne (by omega), xuR_ne (by omega), xuR_ne (by omega), xuR_ne (by omega), xuI_ne (by omega), xuI_ne (by omega), xuI_ne (by omega), xuR_ne (by omega), xuR_ne (by omega), xuR_ne (by omega), xuR_ne (by omega), xuR_ne (by omega), xuR_ne (by omega), xuR_ne (by omega), xuR_ne (by omega), xuR_ne (by omega), xuR_ne (by omega), xuR_ne (by omega), xuR_s]
    · rw [xuR_ne (by omega), xuR_ne (by omega), xuR_ne (by omega), xuR_ne (by omega), xuI_ne (by omega), xuI_ne (by omega), xuI_ne (by omega), xuR_ne (by omega), xuR_ne (by omega), xuR_ne (by omega), xuR_ne (by omega), xuR_ne (by omega), xuR_ne (by omega), xuR_ne (by omega), xuR_ne (by omega), xuR_ne (by omega), xuR_ne (by omega), xuR_s]
    · rw [xuR_ne (by omega), xuR_ne (by omega), xuR_ne (by omega), xuR_ne (by omega), xuI_ne (by omega), xuI_ne (by omega), xuI_ne (by omega), xuR_ne (by omega), xuR_ne (by omega), xuR_ne (by omega), xuR_ne (by omega), xuR_ne (by omega), xuR_ne (by omega), xuR_ne (by omega), xuR_ne (by omega), xuR_ne (by omega), xuR_s]
    · rw [xuR_ne (by omega), xuR_ne (by omega), xuR_ne (by omega), xuR_ne (by omega), xuI_ne (by omega), xuI_ne (by omega), xuI_ne (by omega), xuR_ne (by omega), xuR_ne (by omega), xuR_ne (by omega), xuR_ne (by omega), xuR_ne (by omega), xuR_ne (by omega), xuR_ne (by omega), xuR_ne (by omega), xuR_s]
    · rw [xuR_ne (by omega), xuR_ne (by omega), xuR_ne (by omega), xuR_ne (by omega), xuI_ne (by omega), xuI_ne (by omega), xuI_ne (by omega), xuR_ne (by omega), xuR_ne (by omega), xuR_ne (by omega), xuR_ne (by omega), xuR_ne (by omega), xuR_ne (by omega), xuR_ne (by omega), xuR_s]
    · rw [xuR_ne (by omega), xuR_ne (by omega), xuR_ne (by omega), xuR_ne (by omega), xuI_ne (by omega), xuI_ne (by omega), xuI_ne (by omega), xuR_ne (by omega), xuR_ne (by omega), xuR_ne (by omega), xuR_ne (by omega), xuR_ne (by omega), xuR_ne (by omega), xuR_s]
    · rw [xuR_ne (by omega), xuR_ne (by omega), xuR_ne (by omega), xuR_ne (by omega), xuI_ne (by omega), xuI_ne (by omega), xuI_ne (by omega), xuR_ne (by omega), xuR_ne (by omega), xuR_ne (by omega), xuR_ne (by omega), xuR_ne (by omega), xuR_s]
    · rw [xuR_ne (by omega), xuR_ne (by omega), xuR_ne (by omega), xuR_ne (by omega), xuI_ne (by omega), xuI_ne (by omega), xuI_ne (by omega), xuR_ne (by omega), xuR_ne (by omega), xuR_ne (by omega), xuR_ne (by omega), xuR_s]
    · rw [xuR_ne (by omega), xuR_ne (by omega), xuR_ne (by omega), xuR_ne (by omega), xuI_ne (by omega), xuI_ne (by omega), xuI_ne (by omega), xuR_ne (by omega), xuR_ne (by omega), xuR_ne (by omega), xuR_s]
    · rw [xuR_ne (by omega), xuR_ne (by omega), xuR_ne (by omega), xuR_ne (by omega), xuI_ne (by omega), xuI_ne (by omega), xuI_ne (by omega), xuR_ne (by omega), xuR_ne (by omega), xuR_s]
    · rw [xuR_ne (by omega), xuR_ne (by omega), xuR_ne (by omega), xuR_ne (by omega), xuI_ne (by omega), xuI_ne (by omega), xuI_ne (by omega), xuR_ne (by omega), xuR_s]
    · rw [xuR_ne (by omega), xuR_ne (by omega), xuR_ne (by omega), xuR_ne (by omega), xuI_ne (by omega), xuI_ne (by omega), xuI_ne (by omega), xuR_s]
    · rw [xuR_ne (by omega), xuR_ne (by omega), xuR_ne (by omega), xuR_s]
    · rw [xuR_ne (by omega), xuR_ne (by omega), xuR_s]
    · rw [xuR_ne (by omega), xuR_s]
    · rw [xuR_s]
  · intro j
    rw [xuR_ne (by omega), xuR_ne (by omega), xuR_ne (by omega), xuR_ne (by omega)]
    by_cases c27 : j = 27
    · subst c27; rw [xuI_s]; rfl
    rw [xuI_o (Or.inr c27)]
    by_cases c26 : j = 26
    · subst c26; rw [xuI_s]; rfl
    rw [xuI_o (Or.inr c26)]
    by_cases c25 : j = 25
    · subst c25; rw [xuI_s]; rfl
    rw [xuI_o (Or.inr c25), if_neg (by omega)]
    rw [xuR_ne (by omega), xuR_ne (by omega), xuR_ne (by omega), xuR_ne (by omega), xuR_ne (by omega), xuR_ne (by omega), xuR_ne (by omega), xuR_ne (by omega), xuR_ne (by omega), xuR_ne (by omega), xuR_ne (by omega), xuR_ne (by omega), xuR_ne (by omega), xuR_ne (by omega), xuR_ne (by omega), xuR_ne (by omega), xuR_ne (by omega), xuR_ne (by omega), xuR_ne (by omega)]
    exact h0 j
