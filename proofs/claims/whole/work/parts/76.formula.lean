/-! FORMULAS: how they are read, as functions of the tokens -/
abbrev fs_T : Type := Nat × List (Int32 × Int32) × Nat × Option Nat
abbrev fr_T : Type := (Int32 × Nat) ⊕ fs_T
/-! what formulas are read over: kinds and values of the tokens; the columns of the row alone and of the trigger's table; whether there is a NEW, an OLD row -/
abbrev fe_T : Type := (Nat → Nat) × (Nat → Int64) × Option (Int64 → Int32) × Option (Int64 → Int32) × Bool × Bool
def spd (s : fs_T) : fr_T := match s.2.2.2 with
  | none => .inr s
  | some 0 => .inl (6, s.1)
  | some (k + 1) => .inr (s.1, s.2.1, s.2.2.1, some k)
def emt (s : fs_T) (a b : Int32) : fs_T := (s.1, s.2.1 ++ [(a, b)], s.2.2)
def nxt (s : fs_T) : fs_T := (s.1 + 1, s.2)
def gin (s : fs_T) : fr_T := if 10 ≤ s.2.2.1 then .inl (6, s.1) else .inr (s.1, s.2.1, s.2.2.1 + 1, s.2.2.2)
def gou (s : fs_T) : fs_T := (s.1, s.2.1, s.2.2.1 - 1, s.2.2.2)
def bnd (r : fr_T) (g : fs_T → fr_T) : fr_T := match r with
  | .inl e => .inl e
  | .inr s => g s
def xpt (E : fe_T) (w : Nat) (s : fs_T) : fr_T := if E.1 s.1 = w then .inr (nxt s) else .inl (2, s.1)
def lef (s : fs_T) (a b : Int32) : fr_T := bnd (spd s) (fun s => .inr (nxt (emt s a b)))
def clm (E : fe_T) (r : Option (Int64 → Int32)) (s : fs_T) : (Int32 × Nat) ⊕ Int32 := if E.1 s.1 = 3 then (match r with
  | none => .inl (7, s.1)
  | some g => if g (E.2.1 s.1) = -1 then .inl (4, s.1) else .inr (g (E.2.1 s.1))) else .inl (2, s.1)
def lfc (E : fe_T) (r : Option (Int64 → Int32)) (s : fs_T) (a : Int32) : fr_T := match clm E r s with
  | .inl e => .inl e
  | .inr c => lef s a c
def cmo (k : Nat) : Int32 := if k = 19 then 7 else if k = 50 then 13 else if k = 51 then 14 else if k = 52 then 15 else if k = 53 then 16 else if k = 54 then 17 else if k = 55 then 18 else -1
def nsm (E : fe_T) (s : fs_T) : fr_T := if E.1 s.1 = 27 then .inr (emt (nxt s) 7 0) else bnd (xpt E 35 s) (fun s => .inr (emt s 8 0))
/-! factor 0, term 1 and its loop 2, sum 3 and its loop 4, unit 5, both 6 and its loop 7, test 8 and its loop 9 -/
def rd (E : fe_T) : Nat → Nat → fs_T → fr_T
  | 0, _, _ => .inl (0, 0)
  | f + 1, md, s => match md with
    | 0 => if E.1 s.1 = 4 then lef s 0 (E.2.1 s.1).toInt32
      else if E.1 s.1 = 27 then lef s 1 0
      else if E.1 s.1 = 3 then lfc E E.2.2.1 s 2
      else if E.1 s.1 = 24 then (if E.2.2.2.2.1 = true then bnd (xpt E 49 (nxt s)) (fun s => lfc E E.2.2.2.1 s 3) else .inl (7, s.1))
      else if E.1 s.1 = 28 then (if E.2.2.2.2.2 = true then bnd (xpt E 49 (nxt s)) (fun s => lfc E E.2.2.2.1 s 4) else .inl (7, s.1))
      else if E.1 s.1 = 57 then bnd (gin s) (fun s => bnd (spd s) (fun s => bnd (rd E f 0 (nxt s)) (fun s => .inr (gou (emt s 5 0)))))
      else if E.1 s.1 = 44 then bnd (gin s) (fun s => bnd (rd E f 3 (nxt s)) (fun s => bnd (xpt E 45 s) (fun s => .inr (gou s))))
      else .inl (2, s.1)
    | 1 => bnd (rd E f 0 s) (rd E f 2)
    | 2 => if E.1 s.1 = 58 ∨ E.1 s.1 = 59 then bnd (spd s) (fun z => bnd (rd E f 0 (nxt z)) (fun z => rd E f 2 (emt z (if E.1 s.1 = 58 then 11 else 12) 0))) else .inr s
    | 3 => bnd (rd E f 1 s) (rd E f 4)
    | 4 => if E.1 s.1 = 56 ∨ E.1 s.1 = 57 then bnd (spd s) (fun z => bnd (rd E f 1 (nxt z)) (fun z => rd E f 4 (emt z (if E.1 s.1 = 56 then 9 else 10) 0))) else .inr s
    | 5 => if E.1 s.1 = 25 then bnd (gin s) (fun s => bnd (spd s) (fun s => bnd (rd E f 5 (nxt s)) (fun s => .inr (gou (emt s 6 0)))))
      else if E.1 s.1 = 46 then bnd (gin s) (fun s => bnd (rd E f 8 (nxt s)) (fun s => bnd (xpt E 47 s) (fun s => .inr (gou s))))
      else bnd (rd E f 3 s) (fun s => if cmo (E.1 s.1) = -1 then .inl (2, s.1) else bnd (spd s) (fun z => if cmo (E.1 s.1) = 7 then nsm E (nxt z) else bnd (rd E f 3 (nxt z)) (fun z => .inr (emt z (cmo (E.1 s.1)) 0))))
    | 6 => bnd (rd E f 5 s) (rd E f 7)
    | 7 => if E.1 s.1 = 7 then bnd (spd s) (fun z => bnd (rd E f 5 (nxt z)) (fun z => rd E f 7 (emt z 19 0))) else .inr s
    | 8 => bnd (rd E f 6 s) (rd E f 9)
    | _ => if E.1 s.1 = 30 then bnd (spd s) (fun z => bnd (rd E f 6 (nxt z)) (fun z => rd E f 9 (emt z 20 0))) else .inr s
/-! how far it goes: no more operations than tokens; as much open as before -/
def fle (s z : fs_T) : Prop := s.1 ≤ z.1 ∧ z.2.1.length + s.1 ≤ s.2.1.length + z.1 ∧ z.2.2.1 = s.2.2.1
set_option maxRecDepth 100000 in
theorem spd_s {s z : fs_T} (h : spd s = .inr z) : z.1 = s.1 ∧ z.2.1 = s.2.1 ∧ z.2.2.1 = s.2.2.1 := by
  unfold spd at h
  split at h
  · cases h
    exact ⟨rfl, rfl, rfl⟩
  · cases h
  · cases h
    exact ⟨rfl, rfl, rfl⟩
set_option maxRecDepth 100000 in
theorem bnd_s {r : fr_T} {g : fs_T → fr_T} {z : fs_T} (h : bnd r g = .inr z) : ∃ s, r = .inr s ∧ g s = .inr z := by
  unfold bnd at h
  split at h
  · cases h
  · exact ⟨_, rfl, h⟩
set_option maxRecDepth 100000 in
theorem xpt_s {E : fe_T} {w : Nat} {s z : fs_T} (h : xpt E w s = .inr z) : z = nxt s := by
  unfold xpt at h
  split at h
  · cases h
    rfl
  · cases h
set_option maxRecDepth 100000 in
theorem gin_s {s z : fs_T} (h : gin s = .inr z) : z = (s.1, s.2.1, s.2.2.1 + 1, s.2.2.2) ∧ s.2.2.1 < 10 := by
  unfold gin at h
  split at h
  · cases h
  · cases h
    exact ⟨rfl, by omega⟩
set_option maxRecDepth 100000 in
theorem lef_s {s z : fs_T} {a b : Int32} (h : lef s a b = .inr z) : fle s z := by
  obtain ⟨y, h1, h2⟩ := bnd_s h
  have h3 := spd_s h1
  cases h2
  refine ⟨?_, ?_, ?_⟩
  · show s.1 ≤ y.1 + 1
    omega
  · show (y.2.1 ++ [(a, b)]).length + s.1 ≤ s.2.1.length + (y.1 + 1)
    rw [h3.1, h3.2.1, List.length_append, List.length_singleton]
    omega
  · exact h3.2.2
set_option maxRecDepth 100000 in
theorem lfc_s {E : fe_T} {r : Option (Int64 → Int32)} {s z : fs_T} {a : Int32} (h : lfc E r s a = .inr z) : fle s z := by
  unfold lfc at h
  split at h
  · cases h
  · exact lef_s h
set_option maxRecDepth 100000 in
theorem fle_n {s z : fs_T} (h : fle (nxt s) z) : fle s z := by
  have h1 : (nxt s).1 = s.1 + 1 := rfl
  have h2 : (nxt s).2 = s.2 := rfl
  unfold fle at h ⊢
  rw [h1, h2] at h
  omega
