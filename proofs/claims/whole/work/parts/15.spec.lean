/-! the reference's memory as a function of two numbers, and what is computed from it -/
abbrev xX : Type := Nat → Nat → Int32
/-- the memory of the reference at R: 0 its own fields, 1 .. 23 its arrays -/
def xRf (I : Nat → Nat → Int32) (R : Nat) : xX := fun i j => I (R + i) j
def gC (X : xX) : Nat := (X 0 0).toNatClampNeg
def gN (X : xX) (m : Nat) : Nat := (X 2 m).toNatClampNeg
def gD (X : xX) (m k : Nat) : Nat := (X 1 (6 * m + k)).toNatClampNeg
def gF (X : xX) (m : Nat) : Nat := (X 7 m).toNatClampNeg
def gS (X : xX) (m : Nat) : Nat := (X 9 m).toNatClampNeg
def sOfF (X : xX) (m : Nat) (x : Int32) : Nat → Nat → Option Nat
  | 0, _ => none
  | t + 1, k => if X 3 (20 * m + k) = x then some (20 * m + k) else sOfF X m x t (k + 1)
/-- the definition of a name in a module -/
def sOf (X : xX) (m : Nat) (x : Int32) : Option Nat := sOfF X m x (gF X m) 0
def sAm (X : xX) (x : Int32) : List Nat → Option Nat → Option Nat
  | [], w => w
  | p :: r, w => match sOf X p x with
    | none => sAm X x r w
    | some d => if X 6 d &&& 4 = 0 then (if X 6 d &&& 1 = 0 then some d else sAm X x r (match w with
        | none => some d
        | some e => some e)) else sAm X x r w
/-- the definition that a name comes to -/
def sFi (X : xX) (ord : List Nat) (m : Nat) (x : Int32) : Option Nat := match sOf X m x with
  | none => sAm X x ord none
  | some d => if X 6 d &&& 6 = 0 then sAm X x ord none else some d
def oI (o : Option Nat) : Int32 := match o with
  | none => -1
  | some d => nI d
def oM (o : Option Nat) : Int32 := match o with
  | none => 20
  | some d => nI (d / 20)
def sAdd (l : List Nat) (m : Nat) : List Nat := if m ∈ l then l else l ++ [m]
def sAdds (X : xX) (m : Nat) : Nat → Nat → List Nat → List Nat
  | 0, _, l => l
  | t + 1, k, l => sAdds X m t (k + 1) (sAdd l (gD X m k))
def sBfs (X : xX) : Nat → Nat → List Nat → List Nat
  | 0, _, l => l
  | t + 1, p, l => match l[p]? with
    | none => l
    | some m => sBfs X t (p + 1) (sAdds X m (gN X m) 0 l)
/-- the order of loading -/
def sOrd (X : xX) (root : Nat) : List Nat := sBfs X 12 0 [root]
def sLp (g : Nat → List Nat × List Nat → List Nat × List Nat) (X : xX) (m : Nat) : Nat → Nat → List Nat × List Nat → List Nat × List Nat
  | 0, _, z => z
  | t + 1, k, z => sLp g X m t (k + 1) (g (gD X m k) z)
def sDfs (X : xX) : Nat → Nat → List Nat × List Nat → List Nat × List Nat
  | 0 => fun _ z => z
  | f + 1 => fun m z => if m ∈ z.1 then z else ((sLp (sDfs X f) X m (gN X m) 0 (z.1 ++ [m], z.2)).1, (sLp (sDfs X f) X m (gN X m) 0 (z.1 ++ [m], z.2)).2 ++ [m])
/-- the order of beginning -/
def sBeg (X : xX) (root : Nat) : List Nat := (sDfs X 12 root ([], [])).2
/-- a use of a name: 0 as it should be, 1 missing, 2 of the wrong kind -/
def sUse (X : xX) (ord : List Nat) (m : Nat) (x : Int32) (fn : Bool) : Int32 := match sFi X ord m x with
  | none => if X 10 (64 * m + x.toNatClampNeg) = 0 then 1 else 0
  | some d => if decide (X 4 d = 0) = fn then 0 else 2
def sOp (X : xX) (m k : Nat) : Int32 := X 8 (4 * (100 * m + k))
def sAr (X : xX) (m k i : Nat) : Int32 := X 8 (4 * (100 * m + k) + i)
/-- a step's use: its name, and whether a function is wanted -/
def sNm (X : xX) (m k : Nat) : Int32 := if sOp X m k = 7 ∨ sOp X m k = 9 then sAr X m k 1 else sAr X m k 2
def sLkS (X : xX) (ord : List Nat) (m : Nat) : Nat → Nat → Int32 × Int32 × Int32
  | 0, _ => (0, -1, -1)
  | t + 1, k => if 6 < (sOp X m k).toInt ∧ (sOp X m k).toInt < 11 then
      (if sUse X ord m (sNm X m k) (decide (sOp X m k = 7 ∨ sOp X m k = 10)) = 0 then sLkS X ord m t (k + 1) else (sUse X ord m (sNm X m k) (decide (sOp X m k = 7 ∨ sOp X m k = 10)), nI k, sNm X m k))
    else sLkS X ord m t (k + 1)
def sLk (X : xX) (ord : List Nat) (m : Nat) : Int32 × Int32 × Int32 := if X 11 m = -1 then sLkS X ord m (gS X m) 0 else
  if sUse X ord m (X 11 m) true = 0 then sLkS X ord m (gS X m) 0 else (sUse X ord m (X 11 m) true, -1, X 11 m)
def sFt (X : xX) (ord : List Nat) : List Nat → Int32 × Int32 × Int32 × Int32
  | [] => (0, -1, -1, -1)
  | m :: r => if (sLk X ord m).1 = 0 then sFt X ord r else ((sLk X ord m).1, nI m, (sLk X ord m).2.1, (sLk X ord m).2.2)
/-- the reference's memory is as the calls leave it: counts, names, kinds, steps in their ranges -/
def xStep (op a b c : Int32) : Prop :=
  let rg := fun x : Int32 => ∃ k : Nat, k < 8 ∧ x = nI k
  let sp := fun x : Int32 => ∃ k : Nat, k < 100 ∧ x = nI k
  let nm := fun x : Int32 => ∃ k : Nat, k < 64 ∧ x = nI k
  (op = 0 ∧ rg a) ∨ (op = 1 ∧ rg a ∧ rg b) ∨ (op = 2 ∧ rg a ∧ rg b ∧ rg c) ∨ (op = 3 ∧ rg a ∧ rg b ∧ rg c) ∨ (op = 4 ∧ rg a ∧ rg b ∧ rg c) ∨ (op = 5 ∧ rg a ∧ rg b ∧ sp c) ∨ (op = 6 ∧ sp a) ∨ (op = 7 ∧ nm a) ∨ (op = 8 ∧ rg a ∧ nm b) ∨ (op = 9 ∧ nm a ∧ rg b) ∨ (op = 10 ∧ rg a ∧ nm b) ∨ (op = 11 ∧ rg a) ∨ op = 12 ∨ (op = 13 ∧ rg a) ∨ op = 14
def wfM (X : xX) (m : Nat) : Prop :=
  (X 2 m = nI (gN X m) ∧ gN X m ≤ 6) ∧ (∀ k, k < gN X m → X 1 (6 * m + k) = nI (gD X m k) ∧ gD X m k < gC X) ∧ (X 7 m = nI (gF X m) ∧ gF X m ≤ 20) ∧
  (∀ k, k < gF X m → (∃ v : Nat, v < 64 ∧ X 3 (20 * m + k) = nI v) ∧ (X 4 (20 * m + k) = 0 ∨ X 4 (20 * m + k) = 1) ∧ (X 4 (20 * m + k) = 0 → ∃ v : Nat, v < 100 ∧ X 5 (20 * m + k) = nI v)) ∧
  (∀ j k, j < gF X m → k < gF X m → X 3 (20 * m + j) = X 3 (20 * m + k) → j = k) ∧
  (X 9 m = nI (gS X m) ∧ gS X m ≤ 100) ∧ (∀ k, k < gS X m → xStep (sOp X m k) (sAr X m k 1) (sAr X m k 2) (sAr X m k 3)) ∧ (X 11 m = -1 ∨ ∃ v : Nat, v < 64 ∧ X 11 m = nI v) ∧ (∀ j, j < 64 → X 10 (64 * m + j) = 0 ∨ X 10 (64 * m + j) = 1)
def wfX (X : xX) : Prop := (X 0 0 = nI (gC X) ∧ gC X ≤ 12) ∧ ∀ m, m < 12 → wfM X m
theorem sOfF_some {X : xX} {m : Nat} {x : Int32} : ∀ {t k d : Nat}, sOfF X m x t k = some d → ∃ j, k ≤ j ∧ j < k + t ∧ d = 20 * m + j ∧ X 3 d = x
  | 0, k, d, h => by cases h
  | t + 1, k, d, h => by
    unfold sOfF at h
    by_cases e : X 3 (20 * m + k) = x
    · rw [if_pos e] at h
      cases h
      exact ⟨k, Nat.le_refl _, by omega, rfl, e⟩
    · rw [if_neg e] at h
      obtain ⟨j, h1, h2, h3, h4⟩ := sOfF_some h
      exact ⟨j, by omega, by omega, h3, h4⟩
theorem sOfF_none {X : xX} {m : Nat} {x : Int32} : ∀ {t k : Nat}, sOfF X m x t k = none → ∀ j, k ≤ j → j < k + t → X 3 (20 * m + j) ≠ x
  | 0, k, h => fun j h1 h2 => by omega
  | t + 1, k, h => fun j h1 h2 e => by
    unfold sOfF at h
    by_cases e2 : X 3 (20 * m + k) = x
    · rw [if_pos e2] at h; cases h
    · rw [if_neg e2] at h
      by_cases hj : j = k
      · subst hj; exact e2 e
      · exact sOfF_none h j (by omega) (by omega) e
theorem sOf_some {X : xX} {m d : Nat} {x : Int32} (h : sOf X m x = some d) : ∃ j, j < gF X m ∧ d = 20 * m + j ∧ X 3 d = x := by
  obtain ⟨j, h1, h2, h3, h4⟩ := sOfF_some h
  exact ⟨j, by omega, h3, h4⟩
theorem sOf_none {X : xX} {m : Nat} {x : Int32} (h : sOf X m x = none) : ∀ j, j < gF X m → X 3 (20 * m + j) ≠ x := fun j hj => sOfF_none h j (Nat.zero_le _) (by omega)
theorem sOf_lt {X : xX} {m d : Nat} {x : Int32} (hf : gF X m ≤ 20) (hm : m < 12) (h : sOf X m x = some d) : d < 240 ∧ d / 20 = m := by
  obtain ⟨j, h1, h2, -⟩ := sOf_some h
  omega
