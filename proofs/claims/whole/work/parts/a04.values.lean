/-! VALUES OF FORMULAS: what both sides work out -/
abbrev tv_T : Type := Option Int32 ⊕ Option Bool
abbrev op_T : Type := Int32 × Int32
abbrev rw_F : Type := Nat → Option Int32
def e_V : Option Int32 → Int64
  | none => -9223372036854775808
  | some x => x.toInt64
def t_K : Option Bool → Int64
  | none => 2
  | some false => 0
  | some true => 1
def t_M : Option Bool → Int64
  | none => -9223372036854775808
  | some false => 0
  | some true => 1
def v_K : tv_T → Int64
  | .inl v => e_V v
  | .inr b => t_K b
def v_M : tv_T → Int64
  | .inl v => e_V v
  | .inr b => t_M b
set_option maxRecDepth 100000 in
theorem e_V_ne (x : Int32) : x.toInt64 ≠ -9223372036854775808 := by
  intro e
  have h := congrArg Int64.toInt e
  rw [i64] at h
  have h1 := Int32.le_toInt x
  have h2 : (-9223372036854775808 : Int64).toInt = -9223372036854775808 := rfl
  rw [h2] at h
  omega
set_option maxRecDepth 100000 in
theorem e_V_un (v : Option Int32) : e_V v ≠ -9223372036854775807 := by
  intro e
  have h := congrArg Int64.toInt e
  have h2 : (-9223372036854775807 : Int64).toInt = -9223372036854775807 := rfl
  rw [h2] at h
  cases v with
  | none =>
    have h3 : (e_V none).toInt = -9223372036854775808 := rfl
    omega
  | some x =>
    have h3 : (e_V (some x)).toInt = x.toInt := i64 x
    have h1 := Int32.le_toInt x
    omega
set_option maxRecDepth 100000 in
theorem i64_inj {x y : Int32} (h : x.toInt64 = y.toInt64) : x = y := by
  have h1 := congrArg Int64.toInt h
  rw [i64, i64] at h1
  exact Int32.toInt_inj.mp h1
set_option maxRecDepth 100000 in
theorem e_V_inj : ∀ {v w : Option Int32}, e_V v = e_V w → v = w
  | none, none, _ => rfl
  | none, some y, h => absurd h.symm (e_V_ne y)
  | some x, none, h => absurd h (e_V_ne x)
  | some x, some y, h => by rw [i64_inj h]
set_option maxRecDepth 100000 in
theorem v_K_un : ∀ v : tv_T, v_K v ≠ -9223372036854775807
  | .inl v => e_V_un v
  | .inr none => by show (2 : Int64) ≠ _; decide
  | .inr (some false) => by show (0 : Int64) ≠ _; decide
  | .inr (some true) => by show (1 : Int64) ≠ _; decide
/-! signs -/
def u_a (c : Bool) (a x y : Int32) : Option (Option Int32) := if a = 9 then some (some (x.toInt64 + y.toInt64).toInt32) else if a = 10 then some (some (x.toInt64 - y.toInt64).toInt32) else if a = 11 then some (some (x.toInt64 * y.toInt64).toInt32) else if y.toInt64 = 0 then (if c = true then some none else none) else some (some (x.toInt64 / y.toInt64).toInt32)
def u_c (a x y : Int32) : Bool := if a = 13 then decide (x.toInt64 = y.toInt64) else if a = 14 then !decide (x.toInt64 = y.toInt64) else if a = 15 then decide (x.toInt64.toInt < y.toInt64.toInt) else if a = 16 then decide (x.toInt64.toInt ≤ y.toInt64.toInt) else if a = 17 then decide (y.toInt64.toInt < x.toInt64.toInt) else decide (y.toInt64.toInt ≤ x.toInt64.toInt)
def u_s (c : Bool) (a : Int32) : Option Int32 → Option Int32 → Option (Option Int32)
  | some x, some y => u_a c a x y
  | _, _ => some none
def u_t (a : Int32) : Option Int32 → Option Int32 → Option Bool
  | some x, some y => some (u_c a x y)
  | _, _ => none
def u_b (a : Int32) (x y : Option Bool) : Option Bool := if a = 19 then (if x = some false ∨ y = some false then some false else if x = none ∨ y = none then none else some true) else (if x = some true ∨ y = some true then some true else if x = none ∨ y = none then none else some false)
def u_1 (a : Int32) : tv_T → tv_T
  | .inl v => if a = 5 then .inl (v.map (fun x => (-x.toInt64).toInt32)) else if a = 7 then .inr (some v.isNone) else .inr (some v.isSome)
  | .inr b => .inr (b.map (fun x => !x))
def isA (a : Int32) : Prop := a = 9 ∨ a = 10 ∨ a = 11 ∨ a = 12
def isB (a : Int32) : Prop := a = 13 ∨ a = 14 ∨ a = 15 ∨ a = 16 ∨ a = 17 ∨ a = 18
/-! a sum of two, a test of two sums, a test of two tests -/
def u_2 (c : Bool) (a : Int32) : tv_T → tv_T → Option tv_T
  | .inl v, .inl w => if a = 9 ∨ a = 10 ∨ a = 11 ∨ a = 12 then (u_s c a v w).map .inl else some (.inr (u_t a v w))
  | .inr v, .inr w => some (.inr (u_b a v w))
  | _, _ => some (.inl none)
def f_1 (c : Bool) (R N O : rw_F) (q : op_T) (st : List tv_T) : Option (List tv_T) := if q.1 = 0 then some (.inl (some q.2) :: st) else if q.1 = 1 then some (.inl none :: st) else if q.1 = 2 then some (.inl (R q.2.toNatClampNeg) :: st) else if q.1 = 3 then some (.inl (N q.2.toNatClampNeg) :: st) else if q.1 = 4 then some (.inl (O q.2.toNatClampNeg) :: st) else if q.1 = 5 ∨ q.1 = 6 ∨ q.1 = 7 ∨ q.1 = 8 then (match st with
    | v :: r => some (u_1 q.1 v :: r)
    | [] => none) else (match st with
    | w :: v :: r => (u_2 c q.1 v w).map (fun z => z :: r)
    | _ => none)
def f_l (c : Bool) (R N O : rw_F) : List op_T → List tv_T → Option (List tv_T)
  | [], st => some st
  | q :: l, st => (f_1 c R N O q st).bind (f_l c R N O l)
/-! the formula's value; none: it can't be divided -/
def f_v (c : Bool) (R N O : rw_F) (l : List op_T) : Option tv_T := (f_l c R N O l []).bind List.head?
/-! kinds: true a test, false a sum -/
def tyv : tv_T → Bool
  | .inl _ => false
  | .inr _ => true
def inW (x : Int32) (w : Nat) : Prop := x = nI x.toNatClampNeg ∧ x.toNatClampNeg < w
def inb (x : Int32) (w : Nat) : Bool := decide (x = nI x.toNatClampNeg) && decide (x.toNatClampNeg < w)
set_option maxRecDepth 100000 in
theorem inb_t {x : Int32} {w : Nat} : inb x w = true ↔ inW x w := by
  unfold inb inW
  rw [Bool.and_eq_true, decide_eq_true_eq, decide_eq_true_eq]
def t_1 (w1 w2 w3 : Nat) (q : op_T) (T : List Bool) : Option (List Bool) := if q.1 = 0 then some (false :: T) else if q.1 = 1 then some (false :: T) else if q.1 = 2 then (bif inb q.2 w1 then some (false :: T) else none) else if q.1 = 3 then (bif inb q.2 w2 then some (false :: T) else none) else if q.1 = 4 then (bif inb q.2 w3 then some (false :: T) else none) else (match T with
    | [] => none
    | a :: r => if q.1 = 5 then (bif a then none else some (false :: r)) else if q.1 = 6 then (bif a then some (true :: r) else none) else if q.1 = 7 then (bif a then none else some (true :: r)) else if q.1 = 8 then (bif a then none else some (true :: r)) else (match r with
      | [] => none
      | b :: r => if q.1 = 9 ∨ q.1 = 10 ∨ q.1 = 11 ∨ q.1 = 12 then (bif a || b then none else some (false :: r)) else if q.1 = 13 ∨ q.1 = 14 ∨ q.1 = 15 ∨ q.1 = 16 ∨ q.1 = 17 ∨ q.1 = 18 then (bif a || b then none else some (true :: r)) else if q.1 = 19 ∨ q.1 = 20 then (bif a && b then some (true :: r) else none) else none))
def t_l (w1 w2 w3 : Nat) : List op_T → List Bool → Option (List Bool)
  | [], T => some T
  | q :: l, T => (t_1 w1 w2 w3 q T).bind (t_l w1 w2 w3 l)
section TYP
variable {w1 w2 w3 : Nat} {q : op_T} {T T' : List Bool} {b : Int32}
set_option maxRecDepth 100000 in
theorem t_app : ∀ (l m : List op_T) (T : List Bool), t_l w1 w2 w3 (l ++ m) T = (t_l w1 w2 w3 l T).bind (t_l w1 w2 w3 m)
  | [], m, T => rfl
  | q :: l, m, T => by
    show (t_1 w1 w2 w3 q T).bind (t_l w1 w2 w3 (l ++ m)) = ((t_1 w1 w2 w3 q T).bind (t_l w1 w2 w3 l)).bind (t_l w1 w2 w3 m)
    cases t_1 w1 w2 w3 q T with
    | none => rfl
    | some T1 => exact t_app l m T1
set_option maxRecDepth 100000 in
theorem to_0 : t_1 w1 w2 w3 (0, b) T = some (false :: T) := by
  unfold t_1; dsimp only; rw [if_pos rfl]
set_option maxRecDepth 100000 in
theorem to_1 : t_1 w1 w2 w3 (1, b) T = some (false :: T) := by
  unfold t_1; dsimp only; rw [if_neg (by decide), if_pos rfl]
set_option maxRecDepth 100000 in
theorem to_2 (h : inW b w1) : t_1 w1 w2 w3 (2, b) T = some (false :: T) := by
  unfold t_1; dsimp only; rw [if_neg (by decide), if_neg (by decide), if_pos rfl, inb_t.mpr h]; rfl
set_option maxRecDepth 100000 in
theorem to_3 (h : inW b w2) : t_1 w1 w2 w3 (3, b) T = some (false :: T) := by
  unfold t_1; dsimp only; rw [if_neg (by decide), if_neg (by decide), if_neg (by decide), if_pos rfl, inb_t.mpr h]; rfl
set_option maxRecDepth 100000 in
theorem to_4 (h : inW b w3) : t_1 w1 w2 w3 (4, b) T = some (false :: T) := by
  unfold t_1; dsimp only; rw [if_neg (by decide), if_neg (by decide), if_neg (by decide), if_neg (by decide), if_pos rfl, inb_t.mpr h]; rfl
set_option maxRecDepth 100000 in
theorem to_5 : t_1 w1 w2 w3 (5, b) (false :: T) = some (false :: T) := by
  unfold t_1; dsimp only; rw [if_neg (by decide), if_neg (by decide), if_neg (by decide), if_neg (by decide), if_neg (by decide), if_pos rfl]; rfl
set_option maxRecDepth 100000 in
theorem to_6 : t_1 w1 w2 w3 (6, b) (true :: T) = some (true :: T) := by
  unfold t_1; dsimp only; rw [if_neg (by decide), if_neg (by decide), if_neg (by decide), if_neg (by decide), if_neg (by decide), if_neg (by decide), if_pos rfl]; rfl
set_option maxRecDepth 100000 in
theorem to_7 : t_1 w1 w2 w3 (7, b) (false :: T) = some (true :: T) := by
  unfold t_1; dsimp only; rw [if_neg (by decide), if_neg (by decide), if_neg (by decide), if_neg (by decide), if_neg (by decide), if_neg (by decide), if_neg (by decide), if_pos rfl]; rfl
set_option maxRecDepth 100000 in
theorem to_8 : t_1 w1 w2 w3 (8, b) (false :: T) = some (true :: T) := by
  unfold t_1; dsimp only; rw [if_neg (by decide), if_neg (by decide), if_neg (by decide), if_neg (by decide), if_neg (by decide), if_neg (by decide), if_neg (by decide), if_neg (by decide), if_pos rfl]; rfl
set_option maxRecDepth 100000 in
theorem to_9 : t_1 w1 w2 w3 (9, b) (false :: false :: T) = some (false :: T) := by
  unfold t_1; dsimp only; rw [if_neg (by decide), if_neg (by decide), if_neg (by decide), if_neg (by decide), if_neg (by decide), if_neg (by decide), if_neg (by decide), if_neg (by decide), if_neg (by decide), if_pos (by decide)]; rfl
set_option maxRecDepth 100000 in
theorem to_10 : t_1 w1 w2 w3 (10, b) (false :: false :: T) = some (false :: T) := by
  unfold t_1; dsimp only; rw [if_neg (by decide), if_neg (by decide), if_neg (by decide), if_neg (by decide), if_neg (by decide), if_neg (by decide), if_neg (by decide), if_neg (by decide), if_neg (by decide), if_pos (by decide)]; rfl
set_option maxRecDepth 100000 in
theorem to_11 : t_1 w1 w2 w3 (11, b) (false :: false :: T) = some (false :: T) := by
  unfold t_1; dsimp only; rw [if_neg (by decide), if_neg (by decide), if_neg (by decide), if_neg (by decide), if_neg (by decide), if_neg (by decide), if_neg (by decide), if_neg (by decide), if_neg (by decide), if_pos (by decide)]; rfl
set_option maxRecDepth 100000 in
theorem to_12 : t_1 w1 w2 w3 (12, b) (false :: false :: T) = some (false :: T) := by
  unfold t_1; dsimp only; rw [if_neg (by decide), if_neg (by decide), if_neg (by decide), if_neg (by decide), if_neg (by decide), if_neg (by decide), if_neg (by decide), if_neg (by decide), if_neg (by decide), if_pos (by decide)]; rfl
set_option maxRecDepth 100000 in
theorem to_13 : t_1 w1 w2 w3 (13, b) (false :: false :: T) = some (true :: T) := by
  unfold t_1; dsimp only; rw [if_neg (by decide), if_neg (by decide), if_neg (by decide), if_neg (by decide), if_neg (by decide), if_neg (by decide), if_neg (by decide), if_neg (by decide), if_neg (by decide), if_neg (by decide), if_pos (by decide)]; rfl
set_option maxRecDepth 100000 in
theorem to_14 : t_1 w1 w2 w3 (14, b) (false :: false :: T) = some (true :: T) := by
  unfold t_1; dsimp only; rw [if_neg (by decide), if_neg (by decide), if_neg (by decide), if_neg (by decide), if_neg (by decide), if_neg (by decide), if_neg (by decide), if_neg (by decide), if_neg (by decide), if_neg (by decide), if_pos (by decide)]; rfl
set_option maxRecDepth 100000 in
theorem to_15 : t_1 w1 w2 w3 (15, b) (false :: false :: T) = some (true :: T) := by
  unfold t_1; dsimp only; rw [if_neg (by decide), if_neg (by decide), if_neg (by decide), if_neg (by decide), if_neg (by decide), if_neg (by decide), if_neg (by decide), if_neg (by decide), if_neg (by decide), if_neg (by decide), if_pos (by decide)]; rfl
set_option maxRecDepth 100000 in
theorem to_16 : t_1 w1 w2 w3 (16, b) (false :: false :: T) = some (true :: T) := by
  unfold t_1; dsimp only; rw [if_neg (by decide), if_neg (by decide), if_neg (by decide), if_neg (by decide), if_neg (by decide), if_neg (by decide), if_neg (by decide), if_neg (by decide), if_neg (by decide), if_neg (by decide), if_pos (by decide)]; rfl
set_option maxRecDepth 100000 in
theorem to_17 : t_1 w1 w2 w3 (17, b) (false :: false :: T) = some (true :: T) := by
  unfold t_1; dsimp only; rw [if_neg (by decide), if_neg (by decide), if_neg (by decide), if_neg (by decide), if_neg (by decide), if_neg (by decide), if_neg (by decide), if_neg (by decide), if_neg (by decide), if_neg (by decide), if_pos (by decide)]; rfl
set_option maxRecDepth 100000 in
theorem to_18 : t_1 w1 w2 w3 (18, b) (false :: false :: T) = some (true :: T) := by
  unfold t_1; dsimp only; rw [if_neg (by decide), if_neg (by decide), if_neg (by decide), if_neg (by decide), if_neg (by decide), if_neg (by decide), if_neg (by decide), if_neg (by decide), if_neg (by decide), if_neg (by decide), if_pos (by decide)]; rfl
set_option maxRecDepth 100000 in
theorem to_19 : t_1 w1 w2 w3 (19, b) (true :: true :: T) = some (true :: T) := by
  unfold t_1; dsimp only; rw [if_neg (by decide), if_neg (by decide), if_neg (by decide), if_neg (by decide), if_neg (by decide), if_neg (by decide), if_neg (by decide), if_neg (by decide), if_neg (by decide), if_neg (by decide), if_neg (by decide), if_pos (by decide)]; rfl
set_option maxRecDepth 100000 in
theorem to_20 : t_1 w1 w2 w3 (20, b) (true :: true :: T) = some (true :: T) := by
  unfold t_1; dsimp only; rw [if_neg (by decide), if_neg (by decide), if_neg (by decide), if_neg (by decide), if_neg (by decide), if_neg (by decide), if_neg (by decide), if_neg (by decide), if_neg (by decide), if_neg (by decide), if_neg (by decide), if_pos (by decide)]; rfl
/-! what an operation finds on the stack -/
set_option maxRecDepth 100000 in
theorem t_1c (h : t_1 w1 w2 w3 q T = some T') : (q.1 = 0 ∧ T' = false :: T) ∨ (q.1 = 1 ∧ T' = false :: T) ∨ (q.1 = 2 ∧ inW q.2 w1 ∧ T' = false :: T) ∨ (q.1 = 3 ∧ inW q.2 w2 ∧ T' = false :: T) ∨ (q.1 = 4 ∧ inW q.2 w3 ∧ T' = false :: T) ∨ (∃ r, T = false :: r ∧ ((q.1 = 5 ∧ T' = false :: r) ∨ ((q.1 = 7 ∨ q.1 = 8) ∧ T' = true :: r))) ∨ (∃ r, T = true :: r ∧ q.1 = 6 ∧ T' = true :: r) ∨ (∃ r, T = false :: false :: r ∧ ((isA q.1 ∧ T' = false :: r) ∨ (isB q.1 ∧ T' = true :: r))) ∨ (∃ r, T = true :: true :: r ∧ (q.1 = 19 ∨ q.1 = 20) ∧ T' = true :: r) := by
  unfold t_1 at h
  by_cases e : q.1 = 0
  · rw [if_pos e] at h; cases h; exact Or.inl ⟨e, rfl⟩
  rw [if_neg e] at h
  clear e
  by_cases e : q.1 = 1
  · rw [if_pos e] at h; cases h; exact Or.inr (Or.inl ⟨e, rfl⟩)
  rw [if_neg e] at h
  clear e
  by_cases e : q.1 = 2
  · rw [if_pos e] at h
    cases hb : inb q.2 w1 with
    | false => rw [hb] at h; cases h
    | true => rw [hb] at h; cases h; exact Or.inr (Or.inr (Or.inl ⟨e, inb_t.mp hb, rfl⟩))
  rw [if_neg e] at h
  clear e
  by_cases e : q.1 = 3
  · rw [if_pos e] at h
    cases hb : inb q.2 w2 with
    | false => rw [hb] at h; cases h
    | true => rw [hb] at h; cases h; exact Or.inr (Or.inr (Or.inr (Or.inl ⟨e, inb_t.mp hb, rfl⟩)))
  rw [if_neg e] at h
  clear e
  by_cases e : q.1 = 4
  · rw [if_pos e] at h
    cases hb : inb q.2 w3 with
    | false => rw [hb] at h; cases h
    | true => rw [hb] at h; cases h; exact Or.inr (Or.inr (Or.inr (Or.inr (Or.inl ⟨e, inb_t.mp hb, rfl⟩))))
  rw [if_neg e] at h
  clear e
  right; right; right; right; right
  cases T with
  | nil => cases h
  | cons a r =>
    dsimp only at h
    by_cases e : q.1 = 5
    · rw [if_pos e] at h
      cases a with
      | true => cases h
      | false => cases h; exact Or.inl ⟨r, rfl, Or.inl ⟨e, rfl⟩⟩
    rw [if_neg e] at h
    clear e
    by_cases e : q.1 = 6
    · rw [if_pos e] at h
      cases a with
      | true => cases h; exact Or.inr (Or.inl ⟨r, rfl, e, rfl⟩)
      | false => cases h
    rw [if_neg e] at h
    clear e
    by_cases e : q.1 = 7
    · rw [if_pos e] at h
      cases a with
      | true => cases h
      | false => cases h; exact Or.inl ⟨r, rfl, Or.inr ⟨Or.inl e, rfl⟩⟩
    rw [if_neg e] at h
    clear e
    by_cases e : q.1 = 8
    · rw [if_pos e] at h
      cases a with
      | true => cases h
      | false => cases h; exact Or.inl ⟨r, rfl, Or.inr ⟨Or.inr e, rfl⟩⟩
    rw [if_neg e] at h
    clear e
    right; right
    cases r with
    | nil => cases h
    | cons b r =>
      dsimp only at h
      by_cases e : q.1 = 9 ∨ q.1 = 10 ∨ q.1 = 11 ∨ q.1 = 12
      · rw [if_pos e] at h
        cases a with
        | true => cases h
        | false => cases b with
          | true => cases h
          | false => cases h; exact Or.inl ⟨r, rfl, Or.inl ⟨e, rfl⟩⟩
      rw [if_neg e] at h
      clear e
      by_cases e : q.1 = 13 ∨ q.1 = 14 ∨ q.1 = 15 ∨ q.1 = 16 ∨ q.1 = 17 ∨ q.1 = 18
      · rw [if_pos e] at h
        cases a with
        | true => cases h
        | false => cases b with
          | true => cases h
          | false => cases h; exact Or.inl ⟨r, rfl, Or.inr ⟨e, rfl⟩⟩
      rw [if_neg e] at h
      clear e
      by_cases e : q.1 = 19 ∨ q.1 = 20
      · rw [if_pos e] at h
        cases a with
        | false => cases h
        | true => cases b with
          | false => cases h
          | true => cases h; exact Or.inr ⟨r, rfl, e, rfl⟩
      rw [if_neg e] at h
      cases h
end TYP
/-! one operation on values -/
section FOP
variable {c : Bool} {R N O : rw_F} {b : Int32} {st : List tv_T}
set_option maxRecDepth 100000 in
theorem fo_0 : f_1 c R N O (0, b) st = some (.inl (some b) :: st) := by
  unfold f_1; dsimp only; rw [if_pos rfl]
set_option maxRecDepth 100000 in
theorem fo_1 : f_1 c R N O (1, b) st = some (.inl none :: st) := by
  unfold f_1; dsimp only; rw [if_neg (by decide), if_pos rfl]
set_option maxRecDepth 100000 in
theorem fo_2 : f_1 c R N O (2, b) st = some (.inl (R b.toNatClampNeg) :: st) := by
  unfold f_1; dsimp only; rw [if_neg (by decide), if_neg (by decide), if_pos rfl]
set_option maxRecDepth 100000 in
theorem fo_3 : f_1 c R N O (3, b) st = some (.inl (N b.toNatClampNeg) :: st) := by
  unfold f_1; dsimp only; rw [if_neg (by decide), if_neg (by decide), if_neg (by decide), if_pos rfl]
set_option maxRecDepth 100000 in
theorem fo_4 : f_1 c R N O (4, b) st = some (.inl (O b.toNatClampNeg) :: st) := by
  unfold f_1; dsimp only; rw [if_neg (by decide), if_neg (by decide), if_neg (by decide), if_neg (by decide), if_pos rfl]
set_option maxRecDepth 100000 in
theorem fo_5 {v : tv_T} : f_1 c R N O (5, b) (v :: st) = some (u_1 5 v :: st) := by
  unfold f_1; dsimp only; rw [if_neg (by decide), if_neg (by decide), if_neg (by decide), if_neg (by decide), if_neg (by decide), if_pos (by decide)]
set_option maxRecDepth 100000 in
theorem fo_6 {v : tv_T} : f_1 c R N O (6, b) (v :: st) = some (u_1 6 v :: st) := by
  unfold f_1; dsimp only; rw [if_neg (by decide), if_neg (by decide), if_neg (by decide), if_neg (by decide), if_neg (by decide), if_pos (by decide)]
set_option maxRecDepth 100000 in
theorem fo_7 {v : tv_T} : f_1 c R N O (7, b) (v :: st) = some (u_1 7 v :: st) := by
  unfold f_1; dsimp only; rw [if_neg (by decide), if_neg (by decide), if_neg (by decide), if_neg (by decide), if_neg (by decide), if_pos (by decide)]
set_option maxRecDepth 100000 in
theorem fo_8 {v : tv_T} : f_1 c R N O (8, b) (v :: st) = some (u_1 8 v :: st) := by
  unfold f_1; dsimp only; rw [if_neg (by decide), if_neg (by decide), if_neg (by decide), if_neg (by decide), if_neg (by decide), if_pos (by decide)]
set_option maxRecDepth 100000 in
theorem fo_9 {v w : tv_T} : f_1 c R N O (9, b) (w :: v :: st) = (u_2 c 9 v w).map (fun z => z :: st) := by
  unfold f_1; dsimp only; rw [if_neg (by decide), if_neg (by decide), if_neg (by decide), if_neg (by decide), if_neg (by decide), if_neg (by decide)]
set_option maxRecDepth 100000 in
theorem fo_10 {v w : tv_T} : f_1 c R N O (10, b) (w :: v :: st) = (u_2 c 10 v w).map (fun z => z :: st) := by
  unfold f_1; dsimp only; rw [if_neg (by decide), if_neg (by decide), if_neg (by decide), if_neg (by decide), if_neg (by decide), if_neg (by decide)]
set_option maxRecDepth 100000 in
theorem fo_11 {v w : tv_T} : f_1 c R N O (11, b) (w :: v :: st) = (u_2 c 11 v w).map (fun z => z :: st) := by
  unfold f_1; dsimp only; rw [if_neg (by decide), if_neg (by decide), if_neg (by decide), if_neg (by decide), if_neg (by decide), if_neg (by decide)]
set_option maxRecDepth 100000 in
theorem fo_12 {v w : tv_T} : f_1 c R N O (12, b) (w :: v :: st) = (u_2 c 12 v w).map (fun z => z :: st) := by
  unfold f_1; dsimp only; rw [if_neg (by decide), if_neg (by decide), if_neg (by decide), if_neg (by decide), if_neg (by decide), if_neg (by decide)]
set_option maxRecDepth 100000 in
theorem fo_13 {v w : tv_T} : f_1 c R N O (13, b) (w :: v :: st) = (u_2 c 13 v w).map (fun z => z :: st) := by
  unfold f_1; dsimp only; rw [if_neg (by decide), if_neg (by decide), if_neg (by decide), if_neg (by decide), if_neg (by decide), if_neg (by decide)]
set_option maxRecDepth 100000 in
theorem fo_14 {v w : tv_T} : f_1 c R N O (14, b) (w :: v :: st) = (u_2 c 14 v w).map (fun z => z :: st) := by
  unfold f_1; dsimp only; rw [if_neg (by decide), if_neg (by decide), if_neg (by decide), if_neg (by decide), if_neg (by decide), if_neg (by decide)]
set_option maxRecDepth 100000 in
theorem fo_15 {v w : tv_T} : f_1 c R N O (15, b) (w :: v :: st) = (u_2 c 15 v w).map (fun z => z :: st) := by
  unfold f_1; dsimp only; rw [if_neg (by decide), if_neg (by decide), if_neg (by decide), if_neg (by decide), if_neg (by decide), if_neg (by decide)]
set_option maxRecDepth 100000 in
theorem fo_16 {v w : tv_T} : f_1 c R N O (16, b) (w :: v :: st) = (u_2 c 16 v w).map (fun z => z :: st) := by
  unfold f_1; dsimp only; rw [if_neg (by decide), if_neg (by decide), if_neg (by decide), if_neg (by decide), if_neg (by decide), if_neg (by decide)]
set_option maxRecDepth 100000 in
theorem fo_17 {v w : tv_T} : f_1 c R N O (17, b) (w :: v :: st) = (u_2 c 17 v w).map (fun z => z :: st) := by
  unfold f_1; dsimp only; rw [if_neg (by decide), if_neg (by decide), if_neg (by decide), if_neg (by decide), if_neg (by decide), if_neg (by decide)]
set_option maxRecDepth 100000 in
theorem fo_18 {v w : tv_T} : f_1 c R N O (18, b) (w :: v :: st) = (u_2 c 18 v w).map (fun z => z :: st) := by
  unfold f_1; dsimp only; rw [if_neg (by decide), if_neg (by decide), if_neg (by decide), if_neg (by decide), if_neg (by decide), if_neg (by decide)]
set_option maxRecDepth 100000 in
theorem fo_19 {v w : tv_T} : f_1 c R N O (19, b) (w :: v :: st) = (u_2 c 19 v w).map (fun z => z :: st) := by
  unfold f_1; dsimp only; rw [if_neg (by decide), if_neg (by decide), if_neg (by decide), if_neg (by decide), if_neg (by decide), if_neg (by decide)]
set_option maxRecDepth 100000 in
theorem fo_20 {v w : tv_T} : f_1 c R N O (20, b) (w :: v :: st) = (u_2 c 20 v w).map (fun z => z :: st) := by
  unfold f_1; dsimp only; rw [if_neg (by decide), if_neg (by decide), if_neg (by decide), if_neg (by decide), if_neg (by decide), if_neg (by decide)]
end FOP
