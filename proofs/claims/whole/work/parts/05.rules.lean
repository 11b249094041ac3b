/-! the abstract machine: growing, folding, and one rule an instruction -/
theorem xins_mono {C : xCT} {d own : Nat} {ret : Option FieldType} {ini : Bool} {Q Q' : Option Value → xH → Prop} {X X' : xXT} (hQ : ∀ r h, Q r h → Q' r h) (hX : ∀ pc ls st h, X pc ls st h → X' pc ls st h)
    (hC : ∀ y A h (P P' : Option Value → xH → Prop), (∀ r h, P r h → P' r h) → C y A h P → C y A h P') {i : Instr} {len pc : Nat} {ls : xL} {st : List Value} {h : xH}
    (hs : xins C d own ret ini Q X i len pc ls st h) : xins C d own ret ini Q' X' i len pc ls st h := by
  cases i with
  | iconst n => obtain ⟨a0, z⟩ := hs; exact ⟨a0, hX _ _ _ _ z⟩
  | bipush n => obtain ⟨a0, z⟩ := hs; exact ⟨a0, hX _ _ _ _ z⟩
  | sipush n => obtain ⟨a0, z⟩ := hs; exact ⟨a0, hX _ _ _ _ z⟩
  | iload n => obtain ⟨a0, a1, a2, z⟩ := hs; exact ⟨a0, a1, a2, hX _ _ _ _ z⟩
  | iload_n n => obtain ⟨a0, a1, a2, z⟩ := hs; exact ⟨a0, a1, a2, hX _ _ _ _ z⟩
  | aload n => obtain ⟨a0, a1, a2, z⟩ := hs; exact ⟨a0, a1, a2, hX _ _ _ _ z⟩
  | aload_n n => obtain ⟨a0, a1, a2, z⟩ := hs; exact ⟨a0, a1, a2, hX _ _ _ _ z⟩
  | istore n => obtain ⟨a0, a1, a2, a3, a4, z⟩ := hs; exact ⟨a0, a1, a2, a3, a4, hX _ _ _ _ z⟩
  | istore_n n => obtain ⟨a0, a1, a2, a3, a4, z⟩ := hs; exact ⟨a0, a1, a2, a3, a4, hX _ _ _ _ z⟩
  | astore n => obtain ⟨a0, a1, a2, a3, a4, z⟩ := hs; exact ⟨a0, a1, a2, a3, a4, hX _ _ _ _ z⟩
  | astore_n n => obtain ⟨a0, a1, a2, a3, a4, z⟩ := hs; exact ⟨a0, a1, a2, a3, a4, hX _ _ _ _ z⟩
  | iinc n c => obtain ⟨a0, a1, a2, z⟩ := hs; exact ⟨a0, a1, a2, hX _ _ _ _ z⟩
  | iadd => obtain ⟨a0, a1, a2, a3, a4, z⟩ := hs; exact ⟨a0, a1, a2, a3, a4, hX _ _ _ _ z⟩
  | isub => obtain ⟨a0, a1, a2, a3, a4, z⟩ := hs; exact ⟨a0, a1, a2, a3, a4, hX _ _ _ _ z⟩
  | imul => obtain ⟨a0, a1, a2, a3, a4, z⟩ := hs; exact ⟨a0, a1, a2, a3, a4, hX _ _ _ _ z⟩
  | iand => obtain ⟨a0, a1, a2, a3, a4, z⟩ := hs; exact ⟨a0, a1, a2, a3, a4, hX _ _ _ _ z⟩
  | idiv => obtain ⟨a0, a1, a2, a3, a4, a5, z⟩ := hs; exact ⟨a0, a1, a2, a3, a4, a5, hX _ _ _ _ z⟩
  | irem => obtain ⟨a0, a1, a2, a3, a4, a5, z⟩ := hs; exact ⟨a0, a1, a2, a3, a4, a5, hX _ _ _ _ z⟩
  | dup => obtain ⟨a0, a1, a2, a3, a4, z⟩ := hs; exact ⟨a0, a1, a2, a3, a4, hX _ _ _ _ z⟩
  | dup2 => obtain ⟨a0, a1, a2, a3, a4, a5, a6, z⟩ := hs; exact ⟨a0, a1, a2, a3, a4, a5, a6, hX _ _ _ _ z⟩
  | goto off => obtain ⟨a0, a1, a2, z⟩ := hs; exact ⟨a0, a1, a2, hX _ _ _ _ z⟩
  | getfield idx => obtain ⟨a0, a1, a2, a3, a4, a5, a6, a7, z⟩ := hs; exact ⟨a0, a1, a2, a3, a4, a5, a6, a7, hX _ _ _ _ z⟩
  | iaload => obtain ⟨a0, a1, a2, a3, a4, a5, a6, a7, z⟩ := hs; exact ⟨a0, a1, a2, a3, a4, a5, a6, a7, hX _ _ _ _ z⟩
  | baload => obtain ⟨a0, a1, a2, a3, a4, a5, a6, a7, z⟩ := hs; exact ⟨a0, a1, a2, a3, a4, a5, a6, a7, hX _ _ _ _ z⟩
  | aaload => obtain ⟨a0, a1, a2, a3, a4, a5, a6, a7, z⟩ := hs; exact ⟨a0, a1, a2, a3, a4, a5, a6, a7, hX _ _ _ _ z⟩
  | iastore => obtain ⟨a0, a1, a2, a3, a4, a5, a6, a7, a8, z⟩ := hs; exact ⟨a0, a1, a2, a3, a4, a5, a6, a7, a8, hX _ _ _ _ z⟩
  | bastore => obtain ⟨a0, a1, a2, a3, a4, a5, a6, a7, a8, a9, z⟩ := hs; exact ⟨a0, a1, a2, a3, a4, a5, a6, a7, a8, a9, hX _ _ _ _ z⟩
  | aastore => obtain ⟨a0, a1, a2, a3, a4, a5, a6, a7, a8, a9, z⟩ := hs; exact ⟨a0, a1, a2, a3, a4, a5, a6, a7, a8, a9, hX _ _ _ _ z⟩
  | arraylength => obtain ⟨a0, a1, a2, a3, a4, a5, z⟩ := hs; exact ⟨a0, a1, a2, a3, a4, a5, hX _ _ _ _ z⟩
  | new idx => obtain ⟨a0, a1, a2, z⟩ := hs; exact ⟨a0, a1, a2, hX _ _ _ _ z⟩
  | anewarray idx => obtain ⟨a0, a1, a2, a3, a4, a5, z⟩ := hs; exact ⟨a0, a1, a2, a3, a4, a5, hX _ _ _ _ z⟩
  | ifCond c off => obtain ⟨a0, a1, a2, a3, a4, a5, a6, a7⟩ := hs; exact ⟨a0, a1, a2, a3, a4, a5, fun q => hX _ _ _ _ (a6 q), fun q => hX _ _ _ _ (a7 q)⟩
  | if_icmp c off => obtain ⟨a0, a1, a2, a3, a4, a5, a6, a7, a8⟩ := hs; exact ⟨a0, a1, a2, a3, a4, a5, a6, fun q => hX _ _ _ _ (a7 q), fun q => hX _ _ _ _ (a8 q)⟩
  | tableswitch dflt lo hi offs => obtain ⟨a0, a1, a2, a3, a4⟩ := hs; exact ⟨a0, a1, a2, fun q => (a3 q).imp fun _ z => ⟨z.1, hX _ _ _ _ z.2⟩, fun q q2 => (a4 q q2).imp fun _ z => z.imp fun _ z => ⟨z.1, z.2.1, hX _ _ _ _ z.2.2⟩⟩
  | putfield idx =>
    obtain ⟨a0, c, k, a1, a2, a3⟩ := hs
    refine ⟨a0, c, k, a1, a2, ?_⟩
    rcases a3 with ⟨b0, b1, b2, b3, b4, b5, z⟩ | ⟨b0, b1, b2, b3, b4, b5, b6, z⟩ | ⟨b0, b1, b2, b3, b4, b5, z⟩
    · exact Or.inl ⟨b0, b1, b2, b3, b4, b5, hX _ _ _ _ z⟩
    · exact Or.inr (Or.inl ⟨b0, b1, b2, b3, b4, b5, b6, hX _ _ _ _ z⟩)
    · exact Or.inr (Or.inr ⟨b0, b1, b2, b3, b4, b5, hX _ _ _ _ z⟩)
  | newarray t =>
    obtain ⟨a0, n, r, a1, a2, a3⟩ := hs
    refine ⟨a0, n, r, a1, a2, ?_⟩
    rcases a3 with ⟨b0, z⟩ | ⟨b0, z⟩
    · exact Or.inl ⟨b0, hX _ _ _ _ z⟩
    · exact Or.inr ⟨b0, hX _ _ _ _ z⟩
  | invokevirtual idx =>
    obtain ⟨a0, y, As, b, r, a1, a2, a3, a4, a5, a6, a7, z⟩ := hs
    exact ⟨a0, y, As, b, r, a1, a2, a3, a4, a5, a6, a7, hC _ _ _ _ _ (fun v h' q => hX _ _ _ _ q) z⟩
  | invokestatic idx =>
    obtain ⟨a0, a1⟩ := hs
    refine ⟨a0, ?_⟩
    rcases a1 with ⟨y, b, As, r, b1, b2, b3, b4, b5, z⟩ | ⟨b0, b1, x, y, r, b2, b3, z⟩ | ⟨b0, b1, n, dp, sp, a, b, r, N, M, c1, c2, c3, c4, c5, c6, c7, c8, c9, z⟩
    · exact Or.inl ⟨y, b, As, r, b1, b2, b3, b4, b5, hC _ _ _ _ _ (fun v h' q => hX _ _ _ _ q) z⟩
    · exact Or.inr (Or.inl ⟨b0, b1, x, y, r, b2, b3, hX _ _ _ _ z⟩)
    · exact Or.inr (Or.inr ⟨b0, b1, n, dp, sp, a, b, r, N, M, c1, c2, c3, c4, c5, c6, c7, c8, c9, hX _ _ _ _ z⟩)
  | invokespecial idx =>
    obtain ⟨a0, a1⟩ := hs
    refine ⟨a0, ?_⟩
    rcases a1 with ⟨y, As, b, r, b1, b2, b3, b4, b5, z⟩ | ⟨b0, b1, a, r, b2, b3, z⟩
    · exact Or.inl ⟨y, As, b, r, b1, b2, b3, b4, b5, hC _ _ _ _ _ (fun v h' q => ⟨q.1, hX _ _ _ _ q.2⟩) z⟩
    · exact Or.inr ⟨b0, b1, a, r, b2, b3, hX _ _ _ _ z⟩
  | ireturn => obtain ⟨a0, v, a1, a2, z⟩ := hs; exact ⟨a0, v, a1, a2, hQ _ _ z⟩
  | return_ => obtain ⟨a0, a1, a2, z⟩ := hs; exact ⟨a0, a1, a2, hQ _ _ z⟩
  | _ => exact False.elim hs
theorem xstp_mono {C : xCT} {d own : Nat} {cc : ByteArray} {ret : Option FieldType} {ini : Bool} {Q Q' : Option Value → xH → Prop} {X X' : xXT} (hQ : ∀ r h, Q r h → Q' r h) (hX : ∀ pc ls st h, X pc ls st h → X' pc ls st h)
    (hC : ∀ y A h (P P' : Option Value → xH → Prop), (∀ r h, P r h → P' r h) → C y A h P → C y A h P') {pc : Nat} {ls : xL} {st : List Value} {h : xH}
    (hs : xstp C d own cc ret ini Q X pc ls st h) : xstp C d own cc ret ini Q' X' pc ls st h := by
  unfold xstp at hs ⊢
  cases hd : decode cc pc with
  | error e => rw [hd] at hs; exact False.elim hs
  | ok r =>
    rw [hd] at hs
    obtain ⟨i, len⟩ := r
    exact xins_mono hQ hX hC hs
theorem xw_mono {C : xCT} {d own : Nat} {cc : ByteArray} {ret : Option FieldType} {ini : Bool} {Q Q' : Option Value → xH → Prop} (hQ : ∀ r h, Q r h → Q' r h)
    (hC : ∀ y A h (P P' : Option Value → xH → Prop), (∀ r h, P r h → P' r h) → C y A h P → C y A h P') {pc : Nat} {ls : xL} {st : List Value} {h : xH}
    (hs : xw C d own cc ret ini Q pc ls st h) : xw C d own cc ret ini Q' pc ls st h := fun X hX => hs X fun pc ls st h q => hX pc ls st h (xstp_mono hQ (fun _ _ _ _ z => z) hC q)
theorem xC_mono : ∀ (d y : Nat) (A : List Value) (h : xH) (P P' : Option Value → xH → Prop), (∀ r h, P r h → P' r h) → xC d y A h P → xC d y A h P'
  | 0, y, A, h, P, P', hP, ⟨mc, ms, z⟩ => ⟨mc, ms, xw_mono (fun r h' q => ⟨q.1, q.2.1, hP r h' q.2.2⟩) (fun _ _ _ _ _ _ q => q) z⟩
  | d + 1, y, A, h, P, P', hP, ⟨mc, ms, z⟩ => ⟨mc, ms, xw_mono (fun r h' q => ⟨q.1, q.2.1, hP r h' q.2.2⟩) (xC_mono d) z⟩
/-- the machine at depth d: calls of depth d - 1 -/
def xCd (d : Nat) : xCT := match d with
  | 0 => fun _ _ _ _ => False
  | d + 1 => xC d
theorem xCd_mono (d : Nat) : ∀ y A h (P P' : Option Value → xH → Prop), (∀ r h, P r h → P' r h) → xCd d y A h P → xCd d y A h P' := by
  cases d with
  | zero => intro y A h P P' _ q; exact q
  | succ d => exact xC_mono d
/-- the run of a method's body from here, at depth d -/
abbrev xB (d own : Nat) (cc : ByteArray) (ret : Option FieldType) (ini : Bool) (Q : Option Value → xH → Prop) (pc : Nat) (ls : xL) (st : List Value) (h : xH) : Prop := xw (xCd d) d own cc ret ini Q pc ls st h
theorem xC_eq (d y : Nat) (A : List Value) (h : xH) (Q : Option Value → xH → Prop) : xC d y A h Q ↔ ∃ mc ms : Nat, xB d (xM y).2.2.2.2.1 (xM y).2.1 (xM y).2.2.2.1 (decide ((xM y).2.2.2.2.2.1 = 1)) (fun r h' => h'.2.2.2.1 = h.2.2.2.1 + mc ∧ h'.2.2.2.2 = h.2.2.2.2 + ms ∧ Q r h') 0 (A.map some ++ List.replicate ((xM y).2.2.1 - A.length) none) [] h := by
  cases d <;> exact Iff.rfl
section XR
variable {d own : Nat} {cc : ByteArray} {ret : Option FieldType} {ini : Bool} {Q : Option Value → xH → Prop} {pc : Nat} {ls : xL} {st : List Value} {h : xH}
theorem x_fold (hs : xstp (xCd d) d own cc ret ini Q (xB d own cc ret ini Q) pc ls st h) : xB d own cc ret ini Q pc ls st h :=
  fun X hX => hX _ _ _ _ (xstp_mono (fun _ _ q => q) (fun _ _ _ _ z => z X hX) (xCd_mono d) hs)
theorem x_at {i : Instr} {len : Nat} (hd : decode cc pc = .ok (i, len)) (hs : xins (xCd d) d own ret ini Q (xB d own cc ret ini Q) i len pc ls st h) : xB d own cc ret ini Q pc ls st h := by
  refine x_fold ?_
  unfold xstp
  rw [hd]
  exact hs
theorem x_iconst {n : Int} (hd : decode cc pc = .ok (.iconst n, 1)) (k : xB d own cc ret ini Q (pc + 1) ls (.int (Int32.ofInt n) :: st) h) : xB d own cc ret ini Q pc ls st h := x_at hd ⟨rfl, k⟩
theorem x_bipush {n : Int} (hd : decode cc pc = .ok (.bipush n, 2)) (k : xB d own cc ret ini Q (pc + 2) ls (.int (Int8.ofInt n).toInt32 :: st) h) : xB d own cc ret ini Q pc ls st h := x_at hd ⟨rfl, k⟩
theorem x_sipush {n : Int} (hd : decode cc pc = .ok (.sipush n, 3)) (k : xB d own cc ret ini Q (pc + 3) ls (.int (Int16.ofInt n).toInt32 :: st) h) : xB d own cc ret ini Q pc ls st h := x_at hd ⟨rfl, k⟩
theorem x_iload {n : Nat} {x : Int32} (hd : decode cc pc = .ok (.iload n, 2)) (hl : ls[n]? = some (some (.int x))) (k : xB d own cc ret ini Q (pc + 2) ls (.int x :: st) h) : xB d own cc ret ini Q pc ls st h := x_at hd ⟨rfl, x, hl, k⟩
theorem x_iload_n {n : Fin 4} {x : Int32} (hd : decode cc pc = .ok (.iload_n n, 1)) (hl : ls[n.val]? = some (some (.int x))) (k : xB d own cc ret ini Q (pc + 1) ls (.int x :: st) h) : xB d own cc ret ini Q pc ls st h := x_at hd ⟨rfl, x, hl, k⟩
theorem x_istore {n : Nat} {x : Int32} (hd : decode cc pc = .ok (.istore n, 2)) (hl : n < ls.length) (k : xB d own cc ret ini Q (pc + 2) (ls.set n (some (.int x))) st h) : xB d own cc ret ini Q pc ls (.int x :: st) h := x_at hd ⟨rfl, x, _, rfl, hl, k⟩
theorem x_istore_n {n : Fin 4} {x : Int32} (hd : decode cc pc = .ok (.istore_n n, 1)) (hl : n.val < ls.length) (k : xB d own cc ret ini Q (pc + 1) (ls.set n.val (some (.int x))) st h) : xB d own cc ret ini Q pc ls (.int x :: st) h := x_at hd ⟨rfl, x, _, rfl, hl, k⟩
theorem x_aload {n : Nat} {x : Nat} (hd : decode cc pc = .ok (.aload n, 2)) (hl : ls[n]? = some (some (.ref x))) (k : xB d own cc ret ini Q (pc + 2) ls (.ref x :: st) h) : xB d own cc ret ini Q pc ls st h := x_at hd ⟨rfl, x, hl, k⟩
theorem x_aload_n {n : Fin 4} {x : Nat} (hd : decode cc pc = .ok (.aload_n n, 1)) (hl : ls[n.val]? = some (some (.ref x))) (k : xB d own cc ret ini Q (pc + 1) ls (.ref x :: st) h) : xB d own cc ret ini Q pc ls st h := x_at hd ⟨rfl, x, hl, k⟩
theorem x_astore {n : Nat} {x : Nat} (hd : decode cc pc = .ok (.astore n, 2)) (hl : n < ls.length) (k : xB d own cc ret ini Q (pc + 2) (ls.set n (some (.ref x))) st h) : xB d own cc ret ini Q pc ls (.ref x :: st) h := x_at hd ⟨rfl, x, _, rfl, hl, k⟩
theorem x_astore_n {n : Fin 4} {x : Nat} (hd : decode cc pc = .ok (.astore_n n, 1)) (hl : n.val < ls.length) (k : xB d own cc ret ini Q (pc + 1) (ls.set n.val (some (.ref x))) st h) : xB d own cc ret ini Q pc ls (.ref x :: st) h := x_at hd ⟨rfl, x, _, rfl, hl, k⟩
theorem x_iinc {n : Nat} {c : Int} {x : Int32} (hd : decode cc pc = .ok (.iinc n c, 3)) (hl : ls[n]? = some (some (.int x))) (k : xB d own cc ret ini Q (pc + 3) (ls.set n (some (.int (x + Int32.ofInt c)))) st h) : xB d own cc ret ini Q pc ls st h := x_at hd ⟨rfl, x, hl, k⟩
theorem x_iadd {x y : Int32} (hd : decode cc pc = .ok (.iadd, 1)) (k : xB d own cc ret ini Q (pc + 1) ls (.int (x + y) :: st) h) : xB d own cc ret ini Q pc ls (.int y :: .int x :: st) h := x_at hd ⟨rfl, x, y, _, rfl, k⟩
theorem x_isub {x y : Int32} (hd : decode cc pc = .ok (.isub, 1)) (k : xB d own cc ret ini Q (pc + 1) ls (.int (x - y) :: st) h) : xB d own cc ret ini Q pc ls (.int y :: .int x :: st) h := x_at hd ⟨rfl, x, y, _, rfl, k⟩
theorem x_imul {x y : Int32} (hd : decode cc pc = .ok (.imul, 1)) (k : xB d own cc ret ini Q (pc + 1) ls (.int (x * y) :: st) h) : xB d own cc ret ini Q pc ls (.int y :: .int x :: st) h := x_at hd ⟨rfl, x, y, _, rfl, k⟩
theorem x_iand {x y : Int32} (hd : decode cc pc = .ok (.iand, 1)) (k : xB d own cc ret ini Q (pc + 1) ls (.int (x &&& y) :: st) h) : xB d own cc ret ini Q pc ls (.int y :: .int x :: st) h := x_at hd ⟨rfl, x, y, _, rfl, k⟩
theorem x_idiv {x y : Int32} (hd : decode cc pc = .ok (.idiv, 1)) (hy : ¬ y = 0) (k : xB d own cc ret ini Q (pc + 1) ls (.int (x / y) :: st) h) : xB d own cc ret ini Q pc ls (.int y :: .int x :: st) h := x_at hd ⟨rfl, x, y, _, rfl, hy, k⟩
theorem x_irem {x y : Int32} (hd : decode cc pc = .ok (.irem, 1)) (hy : ¬ y = 0) (k : xB d own cc ret ini Q (pc + 1) ls (.int (x - x / y * y) :: st) h) : xB d own cc ret ini Q pc ls (.int y :: .int x :: st) h := x_at hd ⟨rfl, x, y, _, rfl, hy, k⟩
theorem x_dup {v : Value} (hd : decode cc pc = .ok (.dup, 1)) (hv : v.category = 1) (k : xB d own cc ret ini Q (pc + 1) ls (v :: v :: st) h) : xB d own cc ret ini Q pc ls (v :: st) h := x_at hd ⟨rfl, v, _, rfl, hv, k⟩
theorem x_dup2 {v w : Value} (hd : decode cc pc = .ok (.dup2, 1)) (hv : v.category = 1) (hw : w.category = 1) (k : xB d own cc ret ini Q (pc + 1) ls (v :: w :: v :: w :: st) h) : xB d own cc ret ini Q pc ls (v :: w :: st) h := x_at hd ⟨rfl, v, w, _, rfl, hv, hw, k⟩
theorem x_if_eq {x : Int32} {off : Int} (t : Nat) (hd : decode cc pc = .ok (.ifCond .eq off, 3)) (ht : (pc : Int) + off = (t : Int)) (kt : x = 0 → xB d own cc ret ini Q t ls st h) (kf : ¬ x = 0 → xB d own cc ret ini Q (pc + 3) ls st h) : xB d own cc ret ini Q pc ls (.int x :: st) h := x_at hd ⟨rfl, x, _, t, rfl, ht, kt, kf⟩
theorem x_icmp_eq {x y : Int32} {off : Int} (t : Nat) (hd : decode cc pc = .ok (.if_icmp .eq off, 3)) (ht : (pc : Int) + off = (t : Int)) (kt : x = y → xB d own cc ret ini Q t ls st h) (kf : ¬ x = y → xB d own cc ret ini Q (pc + 3) ls st h) : xB d own cc ret ini Q pc ls (.int y :: .int x :: st) h := x_at hd ⟨rfl, x, y, _, t, rfl, ht, kt, kf⟩
theorem x_if_ne {x : Int32} {off : Int} (t : Nat) (hd : decode cc pc = .ok (.ifCond .ne off, 3)) (ht : (pc : Int) + off = (t : Int)) (kt : ¬ x = 0 → xB d own cc ret ini Q t ls st h) (kf : x = 0 → xB d own cc ret ini Q (pc + 3) ls st h) : xB d own cc ret ini Q pc ls (.int x :: st) h := x_at hd ⟨rfl, x, _, t, rfl, ht, kt, fun q => kf (Classical.not_not.mp q)⟩
theorem x_icmp_ne {x y : Int32} {off : Int} (t : Nat) (hd : decode cc pc = .ok (.if_icmp .ne off, 3)) (ht : (pc : Int) + off = (t : Int)) (kt : ¬ x = y → xB d own cc ret ini Q t ls st h) (kf : x = y → xB d own cc ret ini Q (pc + 3) ls st h) : xB d own cc ret ini Q pc ls (.int y :: .int x :: st) h := x_at hd ⟨rfl, x, y, _, t, rfl, ht, kt, fun q => kf (Classical.not_not.mp q)⟩
theorem x_if_lt {x : Int32} {off : Int} (t : Nat) (hd : decode cc pc = .ok (.ifCond .lt off, 3)) (ht : (pc : Int) + off = (t : Int)) (kt : x < 0 → xB d own cc ret ini Q t ls st h) (kf : ¬ x < 0 → xB d own cc ret ini Q (pc + 3) ls st h) : xB d own cc ret ini Q pc ls (.int x :: st) h := x_at hd ⟨rfl, x, _, t, rfl, ht, kt, kf⟩
theorem x_icmp_lt {x y : Int32} {off : Int} (t : Nat) (hd : decode cc pc = .ok (.if_icmp .lt off, 3)) (ht : (pc : Int) + off = (t : Int)) (kt : x < y → xB d own cc ret ini Q t ls st h) (kf : ¬ x < y → xB d own cc ret ini Q (pc + 3) ls st h) : xB d own cc ret ini Q pc ls (.int y :: .int x :: st) h := x_at hd ⟨rfl, x, y, _, t, rfl, ht, kt, kf⟩
theorem x_if_ge {x : Int32} {off : Int} (t : Nat) (hd : decode cc pc = .ok (.ifCond .ge off, 3)) (ht : (pc : Int) + off = (t : Int)) (kt : 0 ≤ x → xB d own cc ret ini Q t ls st h) (kf : ¬ 0 ≤ x → xB d own cc ret ini Q (pc + 3) ls st h) : xB d own cc ret ini Q pc ls (.int x :: st) h := x_at hd ⟨rfl, x, _, t, rfl, ht, kt, kf⟩
theorem x_icmp_ge {x y : Int32} {off : Int} (t : Nat) (hd : decode cc pc = .ok (.if_icmp .ge off, 3)) (ht : (pc : Int) + off = (t : Int)) (kt : y ≤ x → xB d own cc ret ini Q t ls st h) (kf : ¬ y ≤ x → xB d own cc ret ini Q (pc + 3) ls st h) : xB d own cc ret ini Q pc ls (.int y :: .int x :: st) h := x_at hd ⟨rfl, x, y, _, t, rfl, ht, kt, kf⟩
theorem x_if_gt {x : Int32} {off : Int} (t : Nat) (hd : decode cc pc = .ok (.ifCond .gt off, 3)) (ht : (pc : Int) + off = (t : Int)) (kt : 0 < x → xB d own cc ret ini Q t ls st h) (kf : ¬ 0 < x → xB d own cc ret ini Q (pc + 3) ls st h) : xB d own cc ret ini Q pc ls (.int x :: st) h := x_at hd ⟨rfl, x, _, t, rfl, ht, kt, kf⟩
theorem x_icmp_gt {x y : Int32} {off : Int} (t : Nat) (hd : decode cc pc = .ok (.if_icmp .gt off, 3)) (ht : (pc : Int) + off = (t : Int)) (kt : y < x → xB d own cc ret ini Q t ls st h) (kf : ¬ y < x → xB d own cc ret ini Q (pc + 3) ls st h) : xB d own cc ret ini Q pc ls (.int y :: .int x :: st) h := x_at hd ⟨rfl, x, y, _, t, rfl, ht, kt, kf⟩
theorem x_if_le {x : Int32} {off : Int} (t : Nat) (hd : decode cc pc = .ok (.ifCond .le off, 3)) (ht : (pc : Int) + off = (t : Int)) (kt : x ≤ 0 → xB d own cc ret ini Q t ls st h) (kf : ¬ x ≤ 0 → xB d own cc ret ini Q (pc + 3) ls st h) : xB d own cc ret ini Q pc ls (.int x :: st) h := x_at hd ⟨rfl, x, _, t, rfl, ht, kt, kf⟩
theorem x_icmp_le {x y : Int32} {off : Int} (t : Nat) (hd : decode cc pc = .ok (.if_icmp .le off, 3)) (ht : (pc : Int) + off = (t : Int)) (kt : x ≤ y → xB d own cc ret ini Q t ls st h) (kf : ¬ x ≤ y → xB d own cc ret ini Q (pc + 3) ls st h) : xB d own cc ret ini Q pc ls (.int y :: .int x :: st) h := x_at hd ⟨rfl, x, y, _, t, rfl, ht, kt, kf⟩
theorem x_goto {off : Int} (t : Nat) (hd : decode cc pc = .ok (.goto off, 3)) (ht : (pc : Int) + off = (t : Int)) (k : xB d own cc ret ini Q t ls st h) : xB d own cc ret ini Q pc ls st h := x_at hd ⟨rfl, t, ht, k⟩
theorem x_tsw {x : Int32} {dflt lo hi : Int} {offs : Array Int} {len : Nat} (hd : decode cc pc = .ok (.tableswitch dflt lo hi offs, len)) (ko : x.toInt < lo ∨ hi < x.toInt → ∃ t : Nat, (pc : Int) + dflt = (t : Int) ∧ xB d own cc ret ini Q t ls st h) (ki : ¬ x.toInt < lo → ¬ hi < x.toInt → ∃ (off : Int) (t : Nat), offs[(x.toInt - lo).toNat]? = some off ∧ (pc : Int) + off = (t : Int) ∧ xB d own cc ret ini Q t ls st h) : xB d own cc ret ini Q pc ls (.int x :: st) h := x_at hd ⟨x, _, rfl, ko, ki⟩
theorem x_geti {idx a : Nat} (c f : Nat) (hd : decode cc pc = .ok (.getfield idx, 3)) (hf : xfl own idx = some (c, f)) (ht : (xft c f == 2) = false) (ha : (h.1 a).1 = c + 1) (k : xB d own cc ret ini Q (pc + 3) ls (.int (h.2.1 a f) :: st) h) : xB d own cc ret ini Q pc ls (.ref a :: st) h := x_at hd ⟨rfl, c, f, a, _, hf, rfl, ha, by rw [if_neg (by simpa using ht)]; exact k⟩
theorem x_getr {idx a b : Nat} (c f : Nat) (hd : decode cc pc = .ok (.getfield idx, 3)) (hf : xfl own idx = some (c, f)) (ht : (xft c f == 2) = true) (ha : (h.1 a).1 = c + 1) (hb : h.2.2.1 a f = some b) (k : xB d own cc ret ini Q (pc + 3) ls (.ref b :: st) h) : xB d own cc ret ini Q pc ls (.ref a :: st) h := x_at hd ⟨rfl, c, f, a, _, hf, rfl, ha, by rw [if_pos (by simpa using ht), hb]; exact k⟩
theorem x_puti {idx a : Nat} {x : Int32} (c f : Nat) (hd : decode cc pc = .ok (.putfield idx, 3)) (hf : xfl own idx = some (c, f)) (ht : (xft c f == 0) = true) (hn : ((xT c f).2.2.2 == false) = true) (ha : (h.1 a).1 = c + 1) (k : xB d own cc ret ini Q (pc + 3) ls st (h.1, xuI h.2.1 a f x, h.2.2)) : xB d own cc ret ini Q pc ls (.int x :: .ref a :: st) h := x_at hd ⟨rfl, c, f, hf, fun q => (by rw [q] at hn; cases hn), Or.inl ⟨by simpa using ht, x, a, _, rfl, ha, k⟩⟩
theorem x_putz {idx a : Nat} {x : Int32} (c f : Nat) (hd : decode cc pc = .ok (.putfield idx, 3)) (hf : xfl own idx = some (c, f)) (ht : (xft c f == 1) = true) (hn : ((xT c f).2.2.2 == false) = true) (ha : (h.1 a).1 = c + 1) (hx : x = 0 ∨ x = 1) (k : xB d own cc ret ini Q (pc + 3) ls st (h.1, xuI h.2.1 a f x, h.2.2)) : xB d own cc ret ini Q pc ls (.int x :: .ref a :: st) h := x_at hd ⟨rfl, c, f, hf, fun q => (by rw [q] at hn; cases hn), Or.inr (Or.inl ⟨by simpa using ht, x, a, _, rfl, hx, ha, k⟩)⟩
theorem x_putr {idx a b : Nat} (c f : Nat) (hd : decode cc pc = .ok (.putfield idx, 3)) (hf : xfl own idx = some (c, f)) (ht : (xft c f == 2) = true) (hn : ((xT c f).2.2.2 == false || (ini && own == c)) = true) (ha : (h.1 a).1 = c + 1) (k : xB d own cc ret ini Q (pc + 3) ls st (h.1, h.2.1, xuP h.2.2.1 a f (some b), h.2.2.2)) : xB d own cc ret ini Q pc ls (.ref b :: .ref a :: st) h := x_at hd ⟨rfl, c, f, hf, fun q => (by rw [q] at hn; simpa using hn), Or.inr (Or.inr ⟨by simpa using ht, b, a, _, rfl, ha, k⟩)⟩
theorem x_iald {j : Int32} {a N : Nat} (hd : decode cc pc = .ok (.iaload, 1)) (ha : h.1 a = (100, N)) (hj : vp_in j N) (k : xB d own cc ret ini Q (pc + 1) ls (.int (h.2.1 a j.toNatClampNeg) :: st) h) : xB d own cc ret ini Q pc ls (.int j :: .ref a :: st) h := x_at hd ⟨rfl, j, a, _, N, rfl, Or.inl ha, hj, k⟩
theorem x_sald {j : Int32} {a N : Nat} (hd : decode cc pc = .ok (.iaload, 1)) (ha : h.1 a = (103, N)) (hj : vp_in j N) (k : xB d own cc ret ini Q (pc + 1) ls (.int (h.2.1 a j.toNatClampNeg) :: st) h) : xB d own cc ret ini Q pc ls (.int j :: .ref a :: st) h := x_at hd ⟨rfl, j, a, _, N, rfl, Or.inr ha, hj, k⟩
theorem x_bald {j : Int32} {a N : Nat} (hd : decode cc pc = .ok (.baload, 1)) (ha : h.1 a = (101, N)) (hj : vp_in j N) (k : xB d own cc ret ini Q (pc + 1) ls (.int (h.2.1 a j.toNatClampNeg) :: st) h) : xB d own cc ret ini Q pc ls (.int j :: .ref a :: st) h := x_at hd ⟨rfl, j, a, _, N, rfl, ha, hj, k⟩
theorem x_aald {j : Int32} {a b N : Nat} (hd : decode cc pc = .ok (.aaload, 1)) (ha : h.1 a = (102, N)) (hj : vp_in j N) (hb : h.2.2.1 a j.toNatClampNeg = some b) (k : xB d own cc ret ini Q (pc + 1) ls (.ref b :: st) h) : xB d own cc ret ini Q pc ls (.int j :: .ref a :: st) h := x_at hd ⟨rfl, j, a, _, N, rfl, ha, hj, by rw [hb]; exact k⟩
theorem x_iast {x j : Int32} {a N : Nat} (hd : decode cc pc = .ok (.iastore, 1)) (ha : h.1 a = (100, N)) (hj : vp_in j N) (k : xB d own cc ret ini Q (pc + 1) ls st (h.1, xuI h.2.1 a j.toNatClampNeg x, h.2.2)) : xB d own cc ret ini Q pc ls (.int x :: .int j :: .ref a :: st) h := x_at hd ⟨rfl, x, j, a, _, N, rfl, ha, hj, k⟩
theorem x_bast {x j : Int32} {a N : Nat} (hd : decode cc pc = .ok (.bastore, 1)) (ha : h.1 a = (101, N)) (hj : vp_in j N) (hx : x = 0 ∨ x = 1) (k : xB d own cc ret ini Q (pc + 1) ls st (h.1, xuI h.2.1 a j.toNatClampNeg x, h.2.2)) : xB d own cc ret ini Q pc ls (.int x :: .int j :: .ref a :: st) h := x_at hd ⟨rfl, x, j, a, _, N, rfl, hx, ha, hj, k⟩
theorem x_aast {j : Int32} {a b N : Nat} (hd : decode cc pc = .ok (.aastore, 1)) (ha : h.1 a = (102, N)) (hj : vp_in j N) (hb : (h.1 b).1 = 3) (k : xB d own cc ret ini Q (pc + 1) ls st (h.1, h.2.1, xuP h.2.2.1 a j.toNatClampNeg (some b), h.2.2.2)) : xB d own cc ret ini Q pc ls (.ref b :: .int j :: .ref a :: st) h := x_at hd ⟨rfl, b, j, a, _, N, rfl, ha, hj, hb, k⟩
theorem x_alen {a N : Nat} (hd : decode cc pc = .ok (.arraylength, 1)) (ha : h.1 a = (100, N)) (k : xB d own cc ret ini Q (pc + 1) ls (.int (nI N) :: st) h) : xB d own cc ret ini Q pc ls (.ref a :: st) h := x_at hd ⟨rfl, a, _, N, rfl, Or.inl ha, k⟩
theorem x_slen {a N : Nat} (hd : decode cc pc = .ok (.arraylength, 1)) (ha : h.1 a = (103, N)) (k : xB d own cc ret ini Q (pc + 1) ls (.int (nI N) :: st) h) : xB d own cc ret ini Q pc ls (.ref a :: st) h := x_at hd ⟨rfl, a, _, N, rfl, Or.inr ha, k⟩
theorem x_new {idx : Nat} (c : Nat) (hd : decode cc pc = .ok (.new idx, 3)) (hc : xcl own idx = some c) (k : xB d own cc ret ini Q (pc + 3) ls (.ref h.2.2.2.1 :: st) (xuK h.1 h.2.2.2.1 (c + 1, 0), xuR h.2.1 h.2.2.2.1 (fun _ => 0), xuQ h.2.2.1 h.2.2.2.1 (fun _ => none), h.2.2.2.1 + 1, h.2.2.2.2 + xN c)) : xB d own cc ret ini Q pc ls st h := x_at hd ⟨rfl, c, hc, k⟩
theorem x_newi {x : Int32} (n : Nat) (hd : decode cc pc = .ok (.newarray .int, 2)) (hx : x = nI n) (hn : n ≤ 100000) (k : xB d own cc ret ini Q (pc + 2) ls (.ref h.2.2.2.1 :: st) (xuK h.1 h.2.2.2.1 (100, n), xuR h.2.1 h.2.2.2.1 (fun _ => 0), h.2.2.1, h.2.2.2.1 + 1, h.2.2.2.2 + n)) : xB d own cc ret ini Q pc ls (.int x :: st) h := x_at hd ⟨rfl, n, _, by rw [hx], hn, Or.inl ⟨rfl, k⟩⟩
theorem x_newz {x : Int32} (n : Nat) (hd : decode cc pc = .ok (.newarray .boolean, 2)) (hx : x = nI n) (hn : n ≤ 100000) (k : xB d own cc ret ini Q (pc + 2) ls (.ref h.2.2.2.1 :: st) (xuK h.1 h.2.2.2.1 (101, n), xuR h.2.1 h.2.2.2.1 (fun _ => 0), h.2.2.1, h.2.2.2.1 + 1, h.2.2.2.2 + n)) : xB d own cc ret ini Q pc ls (.int x :: st) h := x_at hd ⟨rfl, n, _, by rw [hx], hn, Or.inr ⟨rfl, k⟩⟩
theorem x_newm {x : Int32} {idx : Nat} (n : Nat) (hd : decode cc pc = .ok (.anewarray idx, 3)) (hx : x = nI n) (hn : n ≤ 100000) (hc : xcl own idx = some 2) (k : xB d own cc ret ini Q (pc + 3) ls (.ref h.2.2.2.1 :: st) (xuK h.1 h.2.2.2.1 (102, n), h.2.1, xuQ h.2.2.1 h.2.2.2.1 (fun _ => none), h.2.2.2.1 + 1, h.2.2.2.2 + n)) : xB d own cc ret ini Q pc ls (.int x :: st) h := x_at hd ⟨rfl, n, _, by rw [hx], hn, hc, k⟩
end XR
section XRC
variable {d own : Nat} {cc : ByteArray} {ret : Option FieldType} {ini : Bool} {Q : Option Value → xH → Prop} {pc : Nat} {ls : xL} {st : List Value} {h : xH}
theorem x_callV {idx b : Nat} (y : Nat) (As r : List Value) (P : Option Value → xH → Prop) (hd : decode cc pc = .ok (.invokevirtual idx, 3)) (hm : xml own idx = some (y, 0)) (hy : ((xM y).2.2.2.2.2.1 == 0 && decide ((xM y).2.2.2.2.1 < 6) && As.length == (xM y).2.2.2.2.2.2) = true) (hst : st = As.reverse ++ .ref b :: r) (hb : (h.1 b).1 = (xM y).2.2.2.2.1 + 1) (hr : (r.map fun v => v.category).sum ≤ 8) (hc : xC d y (.ref b :: As) h P) (k : ∀ v h', P v h' → xB (d + 1) own cc ret ini Q (pc + 3) ls (v.toList ++ r) h') : xB (d + 1) own cc ret ini Q pc ls st h := by
  simp only [Bool.and_eq_true, beq_iff_eq, decide_eq_true_eq] at hy
  exact x_at hd ⟨rfl, y, As, b, r, hm, hy.1.1, hst, hy.2, hb, hy.1.2, hr, xC_mono d y _ h _ _ k hc⟩
theorem x_callS {idx : Nat} (y nb : Nat) (As r : List Value) (P : Option Value → xH → Prop) (hd : decode cc pc = .ok (.invokestatic idx, 3)) (hm : xml own idx = some (y, nb)) (hy : ((xM y).2.2.2.2.2.1 == 2 && As.length == (xM y).2.2.2.2.2.2) = true) (hst : st = As.reverse ++ r) (hr : (r.map fun v => v.category).sum ≤ 8) (hc : xC d y As h P) (k : ∀ v h', P v h' → xB (d + 1) own cc ret ini Q (pc + 3) ls (v.toList ++ r) h') : xB (d + 1) own cc ret ini Q pc ls st h := by
  simp only [Bool.and_eq_true, beq_iff_eq] at hy
  exact x_at hd ⟨rfl, Or.inl ⟨y, nb, As, r, hm, hy.1, hst, hy.2, hr, xC_mono d y _ h _ _ k hc⟩⟩
theorem x_callI {idx b : Nat} (y : Nat) (As r : List Value) (P : Option Value → xH → Prop) (hd : decode cc pc = .ok (.invokespecial idx, 3)) (hm : xml own idx = some (y, 0)) (hy : ((xM y).2.2.2.2.2.1 == 1 && As.length == (xM y).2.2.2.2.2.2) = true) (hst : st = As.reverse ++ .ref b :: r) (hr : (r.map fun v => v.category).sum ≤ 8) (hc : xC d y (.ref b :: As) h P) (k : ∀ v h', P v h' → v = none ∧ xB (d + 1) own cc ret ini Q (pc + 3) ls r h') : xB (d + 1) own cc ret ini Q pc ls st h := by
  simp only [Bool.and_eq_true, beq_iff_eq] at hy
  exact x_at hd ⟨rfl, Or.inl ⟨y, As, b, r, hm, hy.1, hst, hy.2, hr, xC_mono d y _ h _ _ k hc⟩⟩
theorem x_obj {idx a : Nat} (hd : decode cc pc = .ok (.invokespecial idx, 3)) (hm : xoi own idx = true) (hr : (st.map fun v => v.category).sum ≤ 8) (k : xB (d + 1) own cc ret ini Q (pc + 3) ls st h) : xB (d + 1) own cc ret ini Q pc ls (.ref a :: st) h := x_at hd ⟨rfl, Or.inr ⟨hm, Nat.le_add_left 1 d, a, _, rfl, hr, k⟩⟩
theorem x_max {idx : Nat} {x y : Int32} (hd : decode cc pc = .ok (.invokestatic idx, 3)) (hm : xmx own idx = true) (hr : (st.map fun v => v.category).sum ≤ 8) (k : xB (d + 1) own cc ret ini Q (pc + 3) ls (.int (if x < y then y else x) :: st) h) : xB (d + 1) own cc ret ini Q pc ls (.int y :: .int x :: st) h := x_at hd ⟨rfl, Or.inr (Or.inl ⟨hm, Nat.le_add_left 1 d, x, y, _, rfl, hr, k⟩)⟩
theorem x_copy {idx a b : Nat} {xn xd xs : Int32} (n dp sp N M : Nat) (hd : decode cc pc = .ok (.invokestatic idx, 3)) (hm : xac own idx = true) (hr : (st.map fun v => v.category).sum ≤ 8) (en : xn = nI n) (ed : xd = nI dp) (es : xs = nI sp) (ha : h.1 a = (100, N)) (hb : h.1 b = (100, M)) (hne : a ≠ b) (h1 : sp + n ≤ N) (h2 : dp + n ≤ M) (h3 : N ≤ 100000) (h4 : M ≤ 100000) (k : xB (d + 1) own cc ret ini Q (pc + 3) ls st (h.1, xuR h.2.1 b (va_cpy (h.2.1 a) (h.2.1 b) sp dp n), h.2.2)) : xB (d + 1) own cc ret ini Q pc ls (.int xn :: .int xd :: .ref b :: .int xs :: .ref a :: st) h := x_at hd ⟨rfl, Or.inr (Or.inr ⟨hm, Nat.le_add_left 1 d, n, dp, sp, a, b, _, N, M, by rw [en, ed, es], hr, ha, hb, hne, h1, h2, h3, h4, k⟩)⟩
end XRC
section XRE
variable {d own : Nat} {cc : ByteArray} {ini : Bool} {Q : Option Value → xH → Prop} {pc : Nat} {ls : xL} {h : xH}
theorem x_ret {v : Int32} (hd : decode cc pc = .ok (.ireturn, 1)) (q : Q (some (.int v)) h) : xB d own cc (some .int) ini Q pc ls [.int v] h := x_at hd ⟨rfl, v, rfl, Or.inl rfl, q⟩
theorem x_retz {v : Int32} (hd : decode cc pc = .ok (.ireturn, 1)) (hv : v = 0 ∨ v = 1) (q : Q (some (.int v)) h) : xB d own cc (some .boolean) ini Q pc ls [.int v] h := x_at hd ⟨rfl, v, rfl, Or.inr ⟨rfl, hv⟩, q⟩
theorem x_retv (hd : decode cc pc = .ok (.return_, 1)) (q : Q none h) : xB d own cc none ini Q pc ls [] h := x_at hd ⟨rfl, rfl, rfl, q⟩
end XRE
