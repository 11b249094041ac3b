/-! a run that ends has an end, and cells only come -/
def xlive (Q : Option Value → xH → Prop) (h : xH) : Prop := ∃ r h', Q r h' ∧ h.2.2.2.1 ≤ h'.2.2.2.1 ∧ h.2.2.2.2 ≤ h'.2.2.2.2
theorem xlive_g {Q : Option Value → xH → Prop} {h h1 : xH} (e : xlive Q h1) (a : h.2.2.2.1 ≤ h1.2.2.2.1) (b : h.2.2.2.2 ≤ h1.2.2.2.2) : xlive Q h := by
  obtain ⟨r, h', q, q1, q2⟩ := e
  exact ⟨r, h', q, Nat.le_trans a q1, Nat.le_trans b q2⟩
theorem xins_live {C : xCT} {d own : Nat} {ret : Option FieldType} {ini : Bool} {Q : Option Value → xH → Prop} (hC : ∀ y A h P, C y A h P → xlive P h) {i : Instr} {len pc : Nat} {ls : xL} {st : List Value} {h : xH}
    (hs : xins C d own ret ini Q (fun _ _ _ h => xlive Q h) i len pc ls st h) : xlive Q h := by
  cases i with
  | iconst n => obtain ⟨_a0, z⟩ := hs; exact z
  | bipush n => obtain ⟨_a0, z⟩ := hs; exact z
  | sipush n => obtain ⟨_a0, z⟩ := hs; exact z
  | iload n => obtain ⟨_a0, _a1, _a2, z⟩ := hs; exact z
  | iload_n n => obtain ⟨_a0, _a1, _a2, z⟩ := hs; exact z
  | aload n => obtain ⟨_a0, _a1, _a2, z⟩ := hs; exact z
  | aload_n n => obtain ⟨_a0, _a1, _a2, z⟩ := hs; exact z
  | istore n => obtain ⟨_a0, _a1, _a2, _a3, _a4, z⟩ := hs; exact z
  | istore_n n => obtain ⟨_a0, _a1, _a2, _a3, _a4, z⟩ := hs; exact z
  | astore n => obtain ⟨_a0, _a1, _a2, _a3, _a4, z⟩ := hs; exact z
  | astore_n n => obtain ⟨_a0, _a1, _a2, _a3, _a4, z⟩ := hs; exact z
  | iinc n c => obtain ⟨_a0, _a1, _a2, z⟩ := hs; exact z
  | iadd => obtain ⟨_a0, _a1, _a2, _a3, _a4, z⟩ := hs; exact z
  | isub => obtain ⟨_a0, _a1, _a2, _a3, _a4, z⟩ := hs; exact z
  | imul => obtain ⟨_a0, _a1, _a2, _a3, _a4, z⟩ := hs; exact z
  | iand => obtain ⟨_a0, _a1, _a2, _a3, _a4, z⟩ := hs; exact z
  | idiv => obtain ⟨_a0, _a1, _a2, _a3, _a4, _a5, z⟩ := hs; exact z
  | irem => obtain ⟨_a0, _a1, _a2, _a3, _a4, _a5, z⟩ := hs; exact z
  | dup => obtain ⟨_a0, _a1, _a2, _a3, _a4, z⟩ := hs; exact z
  | dup2 => obtain ⟨_a0, _a1, _a2, _a3, _a4, _a5, _a6, z⟩ := hs; exact z
  | goto off => obtain ⟨_a0, _a1, _a2, z⟩ := hs; exact z
  | getfield idx => obtain ⟨_a0, _a1, _a2, _a3, _a4, _a5, _a6, _a7, z⟩ := hs; exact z
  | iaload => obtain ⟨_a0, _a1, _a2, _a3, _a4, _a5, _a6, _a7, z⟩ := hs; exact z
  | baload => obtain ⟨_a0, _a1, _a2, _a3, _a4, _a5, _a6, _a7, z⟩ := hs; exact z
  | aaload => obtain ⟨_a0, _a1, _a2, _a3, _a4, _a5, _a6, _a7, z⟩ := hs; exact z
  | arraylength => obtain ⟨_a0, _a1, _a2, _a3, _a4, _a5, z⟩ := hs; exact z
  | iastore => obtain ⟨_a0, _a1, _a2, _a3, _a4, _a5, _a6, _a7, _a8, z⟩ := hs; exact z
  | bastore => obtain ⟨_a0, _a1, _a2, _a3, _a4, _a5, _a6, _a7, _a8, _a9, z⟩ := hs; exact z
  | aastore => obtain ⟨_a0, _a1, _a2, _a3, _a4, _a5, _a6, _a7, _a8, _a9, z⟩ := hs; exact z
  | new idx => obtain ⟨_a0, _a1, _a2, z⟩ := hs; exact xlive_g z (Nat.le_add_right _ _) (Nat.le_add_right _ _)
  | anewarray idx => obtain ⟨_a0, _a1, _a2, _a3, _a4, _a5, z⟩ := hs; exact xlive_g z (Nat.le_add_right _ _) (Nat.le_add_right _ _)
  | ifCond c off =>
    obtain ⟨a0, x, a2, a3, a4, a5, a6, a7⟩ := hs
    by_cases q : xcd c x 0
    · exact a6 q
    · exact a7 q
  | if_icmp c off =>
    obtain ⟨a0, x, y, a2, a3, a4, a5, a6, a7⟩ := hs
    by_cases q : xcd c x y
    · exact a6 q
    · exact a7 q
  | tableswitch dflt lo hi offs =>
    obtain ⟨x, a1, a2, a3, a4⟩ := hs
    by_cases q : x.toInt < lo ∨ hi < x.toInt
    · obtain ⟨t, b1, z⟩ := a3 q; exact z
    · obtain ⟨o, t, b1, b2, z⟩ := a4 (fun w => q (Or.inl w)) (fun w => q (Or.inr w)); exact z
  | putfield idx =>
    obtain ⟨a0, c, k, a1, a2, a3⟩ := hs
    rcases a3 with ⟨b0, b1, b2, b3, b4, b5, z⟩ | ⟨b0, b1, b2, b3, b4, b5, b6, z⟩ | ⟨b0, b1, b2, b3, b4, b5, z⟩ <;> exact z
  | newarray t =>
    obtain ⟨a0, n, r, a1, a2, a3⟩ := hs
    rcases a3 with ⟨b0, z⟩ | ⟨b0, z⟩ <;> exact xlive_g z (Nat.le_add_right _ _) (Nat.le_add_right _ _)
  | invokevirtual idx =>
    obtain ⟨a0, y, As, b, r, a1, a2, a3, a4, a5, a6, a7, z⟩ := hs
    obtain ⟨v, h1, z1, z2, z3⟩ := hC _ _ _ _ z
    exact xlive_g z1 z2 z3
  | invokestatic idx =>
    obtain ⟨a0, a1⟩ := hs
    rcases a1 with ⟨y, b, As, r, b1, b2, b3, b4, b5, z⟩ | ⟨b0, b1, x, y, r, b2, b3, z⟩ | ⟨b0, b1, n, dp, sp, a, b, r, N, M, c1, c2, c3, c4, c5, c6, c7, c8, c9, z⟩
    · obtain ⟨v, h1, z1, z2, z3⟩ := hC _ _ _ _ z
      exact xlive_g z1 z2 z3
    · exact z
    · exact z
  | invokespecial idx =>
    obtain ⟨a0, a1⟩ := hs
    rcases a1 with ⟨y, As, b, r, b1, b2, b3, b4, b5, z⟩ | ⟨b0, b1, a, r, b2, b3, z⟩
    · obtain ⟨v, h1, z1, z2, z3⟩ := hC _ _ _ _ z
      exact xlive_g z1.2 z2 z3
    · exact z
  | ireturn => obtain ⟨a0, v, a1, a2, z⟩ := hs; exact ⟨_, _, z, Nat.le_refl _, Nat.le_refl _⟩
  | return_ => obtain ⟨a0, a1, a2, z⟩ := hs; exact ⟨_, _, z, Nat.le_refl _, Nat.le_refl _⟩
  | _ => exact False.elim hs
theorem xw_live {C : xCT} {d own : Nat} {cc : ByteArray} {ret : Option FieldType} {ini : Bool} {Q : Option Value → xH → Prop} (hC : ∀ y A h P, C y A h P → xlive P h) {pc : Nat} {ls : xL} {st : List Value} {h : xH} (hs : xw C d own cc ret ini Q pc ls st h) : xlive Q h := by
  refine hs (fun _ _ _ h => xlive Q h) (fun pc ls st h q => ?_)
  unfold xstp at q
  cases hd : decode cc pc with
  | error e => rw [hd] at q; exact False.elim q
  | ok r =>
    rw [hd] at q
    obtain ⟨i, len⟩ := r
    exact xins_live hC q
theorem xC_live : ∀ (d y : Nat) (A : List Value) (h : xH) (P : Option Value → xH → Prop), xC d y A h P → xlive P h
  | 0, y, A, h, P, ⟨mc, ms, z⟩ => by
    obtain ⟨r, h', q, q1, q2⟩ := xw_live (fun _ _ _ _ q => False.elim q) z
    exact ⟨r, h', q.2.2, q1, q2⟩
  | d + 1, y, A, h, P, ⟨mc, ms, z⟩ => by
    obtain ⟨r, h', q, q1, q2⟩ := xw_live (xC_live d) z
    exact ⟨r, h', q.2.2, q1, q2⟩
theorem xCd_live (d : Nat) : ∀ y A h P, xCd d y A h P → xlive P h := by
  cases d with
  | zero => intro y A h P q; exact False.elim q
  | succ d => exact xC_live d
