/-! THE HEAP behind the two constructors: of a fixed shape; M k j is the number at place j of cell k, T the reader's tape -/
abbrev xM : Type := Nat → Nat → Int32
abbrev xS : Type := (Nat × List (Option Nat)) ⊕ (Nat ⊕ (Nat × List Nat))
def xRf : List Nat → Nat → (Nat → Option Nat) → Nat → Option Nat
  | [], _, f => f
  | r :: rs, i, f => xRf rs (i + 1) (va_up f i (some r))
def xFd (M : xM) (T k j : Nat) (r : Option Nat) : Value := match r with
  | none => .int (M k j)
  | some 0 => .ref T
  | some r => .ref r
/-- f at each place -/
def ixL {α β : Type} (f : Nat → α → β) : Nat → List α → List β
  | _, [] => []
  | k, a :: l => f k a :: ixL f (k + 1) l
theorem ixL_at {α β : Type} (f : Nat → α → β) (l : List α) : ∀ (k i : Nat), (ixL f k l)[i]? = (l[i]?).map (f (k + i)) := by
  induction l with
  | nil => intro k i; rfl
  | cons a l ih =>
    intro k i
    cases i with
    | zero => rfl
    | succ i =>
      show (ixL f (k + 1) l)[i]? = (l[i]?).map (f (k + (i + 1)))
      rw [ih, show k + 1 + i = k + (i + 1) by omega]
theorem ixL_len {α β : Type} (f : Nat → α → β) (l : List α) : ∀ k : Nat, (ixL f k l).length = l.length := by
  induction l with
  | nil => intro k; rfl
  | cons a l ih => intro k; show (ixL f (k + 1) l).length + 1 = l.length + 1; rw [ih]
theorem ixL_0 {α β : Type} (f : Nat → α → β) (l : List α) (i : Nat) : (ixL f 0 l)[i]? = (l[i]?).map (f i) := by rw [ixL_at, Nat.zero_add]
def inst (M : xM) (T k : Nat) (s : xS) : xE := match s with
  | .inl (ci, ks) => .inl (ci, ixL (fun j r => xFd M T k j r) 0 ks)
  | .inr (.inl n) => .inr (.inl (n, M k))
  | .inr (.inr (ci, rs)) => .inr (.inr (ci, rs.length, xRf rs 0 (fun _ => none)))
def shp : List xS := [.inl (7, [some 4, some 23, some 42, some 48, some 52, some 54, some 63, none]),
  .inl (0, [some 5, some 14, some 15, some 16, some 17, some 20, none, none, none, none, none, none, none, none, none, none]),
  .inr (.inr (1, [6, 7, 8, 9, 10, 11, 12, 13])),
  .inl (1, [none, none, none, none, none, none, none]),
  .inl (1, [none, none, none, none, none, none, none]),
  .inl (1, [none, none, none, none, none, none, none]),
  .inl (1, [none, none, none, none, none, none, none]),
  .inl (1, [none, none, none, none, none, none, none]),
  .inl (1, [none, none, none, none, none, none, none]),
  .inl (1, [none, none, none, none, none, none, none]),
  .inl (1, [none, none, none, none, none, none, none]),
  .inr (.inl 6),
  .inr (.inl 60),
  .inr (.inl 24),
  .inl (6, [some 18, some 19, none]),
  .inr (.inl 60),
  .inr (.inl 60),
  .inl (6, [some 21, some 22, none]),
  .inr (.inl 60),
  .inr (.inl 60),
  .inl (0, [some 24, some 33, some 34, some 35, some 36, some 39, none, none, none, none, none, none, none, none, none, none]),
  .inr (.inr (1, [25, 26, 27, 28, 29, 30, 31, 32])),
  .inl (1, [none, none, none, none, none, none, none]),
  .inl (1, [none, none, none, none, none, none, none]),
  .inl (1, [none, none, none, none, none, none, none]),
  .inl (1, [none, none, none, none, none, none, none]),
  .inl (1, [none, none, none, none, none, none, none]),
  .inl (1, [none, none, none, none, none, none, none]),
  .inl (1, [none, none, none, none, none, none, none]),
  .inl (1, [none, none, none, none, none, none, none]),
  .inr (.inl 6),
  .inr (.inl 60),
  .inr (.inl 24),
  .inl (6, [some 37, some 38, none]),
  .inr (.inl 60),
  .inr (.inl 60),
  .inl (6, [some 40, some 41, none]),
  .inr (.inl 60),
  .inr (.inl 60),
  .inl (3, [some 43, some 44, some 45, some 46, some 47, none]),
  .inr (.inl 128),
  .inr (.inl 128),
  .inr (.inl 8),
  .inr (.inl 8),
  .inr (.inl 8),
  .inl (2, [some 49, some 0, none, none, none]),
  .inl (6, [some 50, some 51, none]),
  .inr (.inl 60),
  .inr (.inl 60),
  .inl (5, [some 53, none, none, none, none, none]),
  .inr (.inl 30),
  .inr (.inr (4, [55, 57, 59, 61])),
  .inl (4, [some 56, none, none]),
  .inr (.inl 24),
  .inl (4, [some 58, none, none]),
  .inr (.inl 24),
  .inl (4, [some 60, none, none]),
  .inr (.inl 24),
  .inl (4, [some 62, none, none]),
  .inr (.inl 24),
  .inr (.inl 7),
  .inl (8, [some 65, some 66, none, some 67, some 68, some 69, some 70, none, some 71, some 72, some 73, some 74, none, none, none, none, none, some 75, some 76, some 77, none, some 78, none, none]),
  .inr (.inl 398),
  .inr (.inl 398),
  .inr (.inl 7),
  .inr (.inl 4),
  .inr (.inl 4),
  .inr (.inl 96),
  .inr (.inl 60),
  .inr (.inl 60),
  .inr (.inl 3),
  .inr (.inl 60),
  .inr (.inl 8),
  .inr (.inl 8),
  .inr (.inl 6),
  .inr (.inl 30)]
def mk (M : xM) (T : Nat) : xH := ixL (inst M T) 0 shp
def up (M : xM) (k j : Nat) (v : Int32) : xM := fun a => bif Nat.beq a k then upd (M a) j v else M a
def KA : Nat → Int32 := fun j => [(-1 : Int32), 0, 0, 0, 1, 2, 0].getD j 0
def BO : Nat → Int32 := fun j => [(10 : Int32), 11, 12, 13, 20, 0, 0, 21, 0, 30, 0, 0, 0, 0, 40, 0, 50, 0, 51, 0, 0, 60, 0, 0, 70, 71, 0, 0].getD j 0
/-- the script, and the two static arrays -/
def roS (L : Nat) (xs : Nat → Int32) : xRO := fun a => match a with
  | 1 => (7, KA)
  | 2 => (28, BO)
  | _ => (L, xs)
def M0r : Nat → Int32 := upd (upd (upd (fun _ => 0) 0 12) 1 6) 5 1
def M0h : Nat → Int32 := fun j => bif Nat.beq j 11 then 12 else bif Nat.beq j 12 then 6 else bif Nat.beq j 15 then 1 else 0
def M0 : xM := fun k => bif Nat.beq k 62 then M0r else bif Nat.beq k 1 || Nat.beq k 20 then M0h else fun _ => 0
