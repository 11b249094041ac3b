/-! An abstract machine over the same bytecode: a heap of numbered cells as functions; calls by depth; a predicate 'the run from here ends, and Q'. -/
/-- kinds and lengths of cells (0 none; class + 1; 100 int[], 101 boolean[], 102 LinkModule[], 103 the script); ints; references; next cell; slots used -/
abbrev xH : Type := (Nat → Nat × Nat) × (Nat → Nat → Int32) × (Nat → Nat → Option Nat) × Nat × Nat
abbrev xL : Type := List (Option Value)
abbrev xCT : Type := Nat → List Value → xH → (Option Value → xH → Prop) → Prop
abbrev xXT : Type := Nat → xL → List Value → xH → Prop
def xuI (I : Nat → Nat → Int32) (a j : Nat) (x : Int32) : Nat → Nat → Int32 := fun b i => if b = a ∧ i = j then x else I b i
def xuR (I : Nat → Nat → Int32) (a : Nat) (f : Nat → Int32) : Nat → Nat → Int32 := fun b i => if b = a then f i else I b i
def xuP (P : Nat → Nat → Option Nat) (a j : Nat) (x : Option Nat) : Nat → Nat → Option Nat := fun b i => if b = a ∧ i = j then x else P b i
def xuQ (P : Nat → Nat → Option Nat) (a : Nat) (f : Nat → Option Nat) : Nat → Nat → Option Nat := fun b i => if b = a then f i else P b i
def xuK (K : Nat → Nat × Nat) (a : Nat) (v : Nat × Nat) : Nat → Nat × Nat := fun b => if b = a then v else K b
/-- a field's type: 0 int, 1 boolean, 2 a reference -/
def xft (c k : Nat) : Nat := match xty c k with
  | .int => 0
  | .boolean => 1
  | _ => 2
/-- a condition of an if against 0, or of two ints -/
def xcd (c : ClassFile.Cond) (x y : Int32) : Prop := match c with
  | .eq => x = y
  | .ne => ¬ x = y
  | .lt => x < y
  | .ge => y ≤ x
  | .gt => y < x
  | .le => x ≤ y
def xld (ls : xL) (n : Nat) (k : Value → Prop) : Prop := ∃ v, ls[n]? = some (some v) ∧ k v
def xisI (v : Value) : Prop := ∃ x, v = .int x
def xisR (v : Value) : Prop := ∃ a, v = .ref a
/-- one instruction: what must hold before it, so that X holds behind it -/
def xins (C : xCT) (d own : Nat) (ret : Option FieldType) (ini : Bool) (Q : Option Value → xH → Prop) (X : xXT) (i : Instr) (len pc : Nat) (ls : xL) (st : List Value) (h : xH) : Prop :=
  match i with
  | .iconst n => len = 1 ∧ X (pc + 1) ls (.int (Int32.ofInt n) :: st) h
  | .bipush n => len = 2 ∧ X (pc + 2) ls (.int (Int8.ofInt n).toInt32 :: st) h
  | .sipush n => len = 3 ∧ X (pc + 3) ls (.int (Int16.ofInt n).toInt32 :: st) h
  | .iload n => len = 2 ∧ ∃ x, ls[n]? = some (some (.int x)) ∧ X (pc + 2) ls (.int x :: st) h
  | .iload_n n => len = 1 ∧ ∃ x, ls[n.val]? = some (some (.int x)) ∧ X (pc + 1) ls (.int x :: st) h
  | .aload n => len = 2 ∧ ∃ x, ls[n]? = some (some (.ref x)) ∧ X (pc + 2) ls (.ref x :: st) h
  | .aload_n n => len = 1 ∧ ∃ x, ls[n.val]? = some (some (.ref x)) ∧ X (pc + 1) ls (.ref x :: st) h
  | .istore n => len = 2 ∧ ∃ x r, st = .int x :: r ∧ n < ls.length ∧ X (pc + 2) (ls.set n (some (.int x))) r h
  | .istore_n n => len = 1 ∧ ∃ x r, st = .int x :: r ∧ n.val < ls.length ∧ X (pc + 1) (ls.set n.val (some (.int x))) r h
  | .astore n => len = 2 ∧ ∃ x r, st = .ref x :: r ∧ n < ls.length ∧ X (pc + 2) (ls.set n (some (.ref x))) r h
  | .astore_n n => len = 1 ∧ ∃ x r, st = .ref x :: r ∧ n.val < ls.length ∧ X (pc + 1) (ls.set n.val (some (.ref x))) r h
  | .iinc n c => len = 3 ∧ ∃ x, ls[n]? = some (some (.int x)) ∧ X (pc + 3) (ls.set n (some (.int (x + Int32.ofInt c)))) st h
  | .iadd => len = 1 ∧ ∃ x y r, st = .int y :: .int x :: r ∧ X (pc + 1) ls (.int (x + y) :: r) h
  | .isub => len = 1 ∧ ∃ x y r, st = .int y :: .int x :: r ∧ X (pc + 1) ls (.int (x - y) :: r) h
  | .imul => len = 1 ∧ ∃ x y r, st = .int y :: .int x :: r ∧ X (pc + 1) ls (.int (x * y) :: r) h
  | .iand => len = 1 ∧ ∃ x y r, st = .int y :: .int x :: r ∧ X (pc + 1) ls (.int (x &&& y) :: r) h
  | .idiv => len = 1 ∧ ∃ x y r, st = .int y :: .int x :: r ∧ ¬ y = 0 ∧ X (pc + 1) ls (.int (x / y) :: r) h
  | .irem => len = 1 ∧ ∃ x y r, st = .int y :: .int x :: r ∧ ¬ y = 0 ∧ X (pc + 1) ls (.int (x - x / y * y) :: r) h
  | .dup => len = 1 ∧ ∃ v r, st = v :: r ∧ v.category = 1 ∧ X (pc + 1) ls (v :: v :: r) h
  | .dup2 => len = 1 ∧ ∃ v w r, st = v :: w :: r ∧ v.category = 1 ∧ w.category = 1 ∧ X (pc + 1) ls (v :: w :: v :: w :: r) h
  | .ifCond c off => len = 3 ∧ ∃ x r, ∃ t : Nat, st = .int x :: r ∧ (pc : Int) + off = (t : Int) ∧ (xcd c x 0 → X t ls r h) ∧ (¬ xcd c x 0 → X (pc + 3) ls r h)
  | .if_icmp c off => len = 3 ∧ ∃ x y r, ∃ t : Nat, st = .int y :: .int x :: r ∧ (pc : Int) + off = (t : Int) ∧ (xcd c x y → X t ls r h) ∧ (¬ xcd c x y → X (pc + 3) ls r h)
  | .goto off => len = 3 ∧ ∃ t : Nat, (pc : Int) + off = (t : Int) ∧ X t ls st h
  | .tableswitch dflt lo hi offs => ∃ x r, st = .int x :: r ∧ (x.toInt < lo ∨ hi < x.toInt → ∃ t : Nat, (pc : Int) + dflt = (t : Int) ∧ X t ls r h) ∧ (¬ x.toInt < lo → ¬ hi < x.toInt → ∃ (off : Int) (t : Nat), offs[(x.toInt - lo).toNat]? = some off ∧ (pc : Int) + off = (t : Int) ∧ X t ls r h)
  | .getfield idx => len = 3 ∧ ∃ c k a r, xfl own idx = some (c, k) ∧ st = .ref a :: r ∧ (h.1 a).1 = c + 1 ∧ X (pc + 3) ls ((if xft c k = 2 then va_rf (h.2.2.1 a k) else .int (h.2.1 a k)) :: r) h
  | .putfield idx => len = 3 ∧ ∃ c k, xfl own idx = some (c, k) ∧ ((xT c k).2.2.2 = true → ini = true ∧ own = c) ∧
      ((xft c k = 0 ∧ ∃ x a r, st = .int x :: .ref a :: r ∧ (h.1 a).1 = c + 1 ∧ X (pc + 3) ls r (h.1, xuI h.2.1 a k x, h.2.2)) ∨
       (xft c k = 1 ∧ ∃ x a r, st = .int x :: .ref a :: r ∧ (x = 0 ∨ x = 1) ∧ (h.1 a).1 = c + 1 ∧ X (pc + 3) ls r (h.1, xuI h.2.1 a k x, h.2.2)) ∨
       (xft c k = 2 ∧ ∃ b a r, st = .ref b :: .ref a :: r ∧ (h.1 a).1 = c + 1 ∧ X (pc + 3) ls r (h.1, h.2.1, xuP h.2.2.1 a k (some b), h.2.2.2)))
  | .iaload => len = 1 ∧ ∃ j a r N, st = .int j :: .ref a :: r ∧ (h.1 a = (100, N) ∨ h.1 a = (103, N)) ∧ vp_in j N ∧ X (pc + 1) ls (.int (h.2.1 a j.toNatClampNeg) :: r) h
  | .baload => len = 1 ∧ ∃ j a r N, st = .int j :: .ref a :: r ∧ h.1 a = (101, N) ∧ vp_in j N ∧ X (pc + 1) ls (.int (h.2.1 a j.toNatClampNeg) :: r) h
  | .aaload => len = 1 ∧ ∃ j a r N, st = .int j :: .ref a :: r ∧ h.1 a = (102, N) ∧ vp_in j N ∧ X (pc + 1) ls (va_rf (h.2.2.1 a j.toNatClampNeg) :: r) h
  | .iastore => len = 1 ∧ ∃ x j a r N, st = .int x :: .int j :: .ref a :: r ∧ h.1 a = (100, N) ∧ vp_in j N ∧ X (pc + 1) ls r (h.1, xuI h.2.1 a j.toNatClampNeg x, h.2.2)
  | .bastore => len = 1 ∧ ∃ x j a r N, st = .int x :: .int j :: .ref a :: r ∧ (x = 0 ∨ x = 1) ∧ h.1 a = (101, N) ∧ vp_in j N ∧ X (pc + 1) ls r (h.1, xuI h.2.1 a j.toNatClampNeg x, h.2.2)
  | .aastore => len = 1 ∧ ∃ b j a r N, st = .ref b :: .int j :: .ref a :: r ∧ h.1 a = (102, N) ∧ vp_in j N ∧ (h.1 b).1 = 3 ∧ X (pc + 1) ls r (h.1, h.2.1, xuP h.2.2.1 a j.toNatClampNeg (some b), h.2.2.2)
  | .arraylength => len = 1 ∧ ∃ a r N, st = .ref a :: r ∧ (h.1 a = (100, N) ∨ h.1 a = (103, N)) ∧ X (pc + 1) ls (.int (nI N) :: r) h
  | .new idx => len = 3 ∧ ∃ c, xcl own idx = some c ∧ X (pc + 3) ls (.ref h.2.2.2.1 :: st) (xuK h.1 h.2.2.2.1 (c + 1, 0), xuR h.2.1 h.2.2.2.1 (fun _ => 0), xuQ h.2.2.1 h.2.2.2.1 (fun _ => none), h.2.2.2.1 + 1, h.2.2.2.2 + xN c)
  | .newarray t => len = 2 ∧ ∃ n r, st = .int (nI n) :: r ∧ n ≤ 100000 ∧ ((t = .int ∧ X (pc + 2) ls (.ref h.2.2.2.1 :: r) (xuK h.1 h.2.2.2.1 (100, n), xuR h.2.1 h.2.2.2.1 (fun _ => 0), h.2.2.1, h.2.2.2.1 + 1, h.2.2.2.2 + n)) ∨ (t = .boolean ∧ X (pc + 2) ls (.ref h.2.2.2.1 :: r) (xuK h.1 h.2.2.2.1 (101, n), xuR h.2.1 h.2.2.2.1 (fun _ => 0), h.2.2.1, h.2.2.2.1 + 1, h.2.2.2.2 + n)))
  | .anewarray idx => len = 3 ∧ ∃ n r, st = .int (nI n) :: r ∧ n ≤ 100000 ∧ xcl own idx = some 2 ∧ X (pc + 3) ls (.ref h.2.2.2.1 :: r) (xuK h.1 h.2.2.2.1 (102, n), h.2.1, xuQ h.2.2.1 h.2.2.2.1 (fun _ => none), h.2.2.2.1 + 1, h.2.2.2.2 + n)
  | .invokevirtual idx => len = 3 ∧ ∃ y As b r, xml own idx = some (y, 0) ∧ (xM y).2.2.2.2.2.1 = 0 ∧ st = As.reverse ++ .ref b :: r ∧ As.length = (xM y).2.2.2.2.2.2 ∧ (h.1 b).1 = (xM y).2.2.2.2.1 + 1 ∧ (xM y).2.2.2.2.1 < 6 ∧ (r.map fun v => v.category).sum ≤ 8 ∧ C y (.ref b :: As) h (fun v h' => X (pc + 3) ls (v.toList ++ r) h')
  | .invokestatic idx => len = 3 ∧ ((∃ y b As r, xml own idx = some (y, b) ∧ (xM y).2.2.2.2.2.1 = 2 ∧ st = As.reverse ++ r ∧ As.length = (xM y).2.2.2.2.2.2 ∧ (r.map fun v => v.category).sum ≤ 8 ∧ C y As h (fun v h' => X (pc + 3) ls (v.toList ++ r) h')) ∨
      (xmx own idx = true ∧ 1 ≤ d ∧ ∃ x y r, st = .int y :: .int x :: r ∧ (r.map fun v => v.category).sum ≤ 8 ∧ X (pc + 3) ls (.int (if x < y then y else x) :: r) h) ∨
      (xac own idx = true ∧ 1 ≤ d ∧ ∃ n dp sp a b r N M, st = .int (nI n) :: .int (nI dp) :: .ref b :: .int (nI sp) :: .ref a :: r ∧ (r.map fun v => v.category).sum ≤ 8 ∧ h.1 a = (100, N) ∧ h.1 b = (100, M) ∧ a ≠ b ∧ sp + n ≤ N ∧ dp + n ≤ M ∧ N ≤ 100000 ∧ M ≤ 100000 ∧ X (pc + 3) ls r (h.1, xuR h.2.1 b (va_cpy (h.2.1 a) (h.2.1 b) sp dp n), h.2.2)))
  | .invokespecial idx => len = 3 ∧ ((∃ y As b r, xml own idx = some (y, 0) ∧ (xM y).2.2.2.2.2.1 = 1 ∧ st = As.reverse ++ .ref b :: r ∧ As.length = (xM y).2.2.2.2.2.2 ∧ (r.map fun v => v.category).sum ≤ 8 ∧ C y (.ref b :: As) h (fun v h' => v = none ∧ X (pc + 3) ls r h')) ∨
      (xoi own idx = true ∧ 1 ≤ d ∧ ∃ a r, st = .ref a :: r ∧ (r.map fun v => v.category).sum ≤ 8 ∧ X (pc + 3) ls r h))
  | .ireturn => len = 1 ∧ ∃ v, st = [.int v] ∧ (ret = some .int ∨ (ret = some .boolean ∧ (v = 0 ∨ v = 1))) ∧ Q (some (.int v)) h
  | .return_ => len = 1 ∧ st = [] ∧ ret = none ∧ Q none h
  | _ => False
def xstp (C : xCT) (d own : Nat) (cc : ByteArray) (ret : Option FieldType) (ini : Bool) (Q : Option Value → xH → Prop) (X : xXT) (pc : Nat) (ls : xL) (st : List Value) (h : xH) : Prop :=
  match decode cc pc with
  | .ok (i, len) => xins C d own ret ini Q X i len pc ls st h
  | .error _ => False
/-- the run from here ends, and Q holds of its answer and heap: the least X that is closed under the steps -/
def xw (C : xCT) (d own : Nat) (cc : ByteArray) (ret : Option FieldType) (ini : Bool) (Q : Option Value → xH → Prop) (pc : Nat) (ls : xL) (st : List Value) (h : xH) : Prop :=
  ∀ X : xXT, (∀ pc ls st h, xstp C d own cc ret ini Q X pc ls st h → X pc ls st h) → X pc ls st h
/-- a call at depth d: it ends, makes mc cells of ms slots in all, and Q -/
def xC : Nat → xCT
  | 0 => fun y A h Q => ∃ mc ms : Nat, xw (fun _ _ _ _ => False) 0 (xM y).2.2.2.2.1 (xM y).2.1 (xM y).2.2.2.1 (decide ((xM y).2.2.2.2.2.1 = 1)) (fun r h' => h'.2.2.2.1 = h.2.2.2.1 + mc ∧ h'.2.2.2.2 = h.2.2.2.2 + ms ∧ Q r h') 0 (A.map some ++ List.replicate ((xM y).2.2.1 - A.length) none) [] h
  | d + 1 => fun y A h Q => ∃ mc ms : Nat, xw (xC d) (d + 1) (xM y).2.2.2.2.1 (xM y).2.1 (xM y).2.2.2.1 (decide ((xM y).2.2.2.2.2.1 = 1)) (fun r h' => h'.2.2.2.1 = h.2.2.2.1 + mc ∧ h'.2.2.2.2 = h.2.2.2.2 + ms ∧ Q r h') 0 (A.map some ++ List.replicate ((xM y).2.2.1 - A.length) none) [] h
