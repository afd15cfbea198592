
/-! WHAT A CHANGE DOES, as functions -/
abbrev ac_T : Type := Nat × Option Nat × List Nat × List (Option (List op_T)) × Option (List op_T) × Int32
def aKd (a : ac_T) : Nat := a.1
def aTb (a : ac_T) : Option Nat := a.2.1
def aCs (a : ac_T) : List Nat := a.2.2.1
def aSs (a : ac_T) : List (Option (List op_T)) := a.2.2.2.1
def aWh (a : ac_T) : Option (List op_T) := a.2.2.2.2.1
def aNo (a : ac_T) : Int32 := a.2.2.2.2.2
abbrev tr_T : Type := Int64 × Nat × Nat × Nat × Option (List op_T) × ac_T
def gNm (g : tr_T) : Int64 := g.1
def gTb (g : tr_T) : Nat := g.2.1
def gTi (g : tr_T) : Nat := g.2.2.1
def gEv (g : tr_T) : Nat := g.2.2.2.1
def gWh (g : tr_T) : Option (List op_T) := g.2.2.2.2.1
def gAc (g : tr_T) : ac_T := g.2.2.2.2.2
/-! widths, defaults, rules, triggers -/
abbrev st_T : Type := (Nat → Nat) × (Nat → Nat → Option Int32) × (Nat → Option ru_T) × (Nat → Option tr_T)
def sWd (S : st_T) : Nat → Nat := S.1
def sDf (S : st_T) : Nat → Nat → Option Int32 := S.2.1
def sRu (S : st_T) : Nat → Option ru_T := S.2.2.1
def sTr (S : st_T) : Nat → Option tr_T := S.2.2.2
/-! rows, steps begun, the most in one another -/
abbrev es_T : Type := rs_T × Nat × Nat
/-! how a statement ends otherwise -/
abbrev sp_T : Type := Nat × Int32 × Int32
abbrev rz_T : Type := es_T × Option sp_T
abbrev sf_T : Type := Nat → Nat → Int32 → rw_F → rw_F → es_T → rz_T
def byZ : sp_T := (4, 0, 0)
def upF (f : rw_F) (c : Nat) (v : Option Int32) : rw_F := fun j => if j = c then v else f j
/-! a TEST: none, if it can't be divided; a SUM -/
def tst (R N O : rw_F) : Option (List op_T) → Option Bool
  | none => some true
  | some l => match f_l false R N O l [] with
    | none => none
    | some st => match st with
      | .inr (some true) :: _ => some true
      | _ => some false
def smv (R N O : rw_F) : Option (List op_T) → Option (Option Int32)
  | none => some none
  | some l => match f_l false R N O l [] with
    | none => none
    | some st => match st with
      | .inl v :: _ => some v
      | _ => some none
/-! the rows for which a test is yes -/
def fnR (p : ro_T → Option Bool) : List ro_T → Option (List Int32)
  | [] => some []
  | r :: l => match p r with
    | none => none
    | some b => (fnR p l).map (fun x => bif b then r.1 :: x else x)
def setS (R N O : rw_F) : rw_F → List Nat → List (Option (List op_T)) → Option rw_F
  | f, c :: cs, s :: ss => match smv R N O s with
    | none => none
    | some v => setS R N O (upF f c v) cs ss
  | f, _, _ => some f
def insV (df : Nat → Option Int32) (N O : rw_F) : rw_F → Nat → List (Option (List op_T)) → Option rw_F
  | f, _, [] => some f
  | f, i, none :: ss => insV df N O (upF f i (df i)) (i + 1) ss
  | f, i, some l :: ss => match smv noF N O (some l) with
    | none => none
    | some v => insV df N O (upF f i v) (i + 1) ss
/-! the row with an id -/
def fdr (i : Int32) : List ro_T → Nat → Option (Nat × ro_T)
  | [], _ => none
  | r :: l, k => if r.1 = i then some (k, r) else fdr i l (k + 1)
def rng : Nat → Nat → List Nat
  | _, 0 => []
  | i, m + 1 => i :: rng (i + 1) m
/-! one after another, until one ends it -/
def lop {α β : Type} (f : α → β → β × Option sp_T) : List α → β → β × Option sp_T
  | [], s => (s, none)
  | a :: l, s => match f a s with
    | (s1, none) => lop f l s1
    | (s1, some e) => (s1, some e)
def chg1 (rec : sf_T) (a : ac_T) (N O : rw_F) (i : Int32) (σ : es_T) : rz_T := match fdr i (σ.1 (tgN (aTb a))).1 0 with
  | none => (σ, none)
  | some (_, r) => if aKd a = 2 then rec 2 (tgN (aTb a)) i r.2 r.2 σ else (match setS r.2 N O r.2 (aCs a) (aSs a) with
    | none => (σ, some byZ)
    | some f => rec 1 (tgN (aTb a)) i r.2 f σ)
def chg (S : st_T) (rec : sf_T) (a : ac_T) (N O : rw_F) (σ : es_T) : rz_T := if aKd a = 0 then (match insV (sDf S (tgN (aTb a))) N O noF 0 (aSs a) with
    | none => (σ, some byZ)
    | some f => rec 0 (tgN (aTb a)) 0 noF f σ) else (match fnR (fun r => tst r.2 N O (aWh a)) (σ.1 (tgN (aTb a))).1 with
    | none => (σ, some byZ)
    | some is => lop (chg1 rec a N O) is σ)
/-! what a trigger does -/
def act1 (S : st_T) (rec : sf_T) (O : rw_F) (a : ac_T) (s : rw_F × es_T) : (rw_F × es_T) × Option sp_T := if aKd a = 4 then (s, some (3, aNo a, 0)) else if aKd a = 3 then (match smv noF s.1 O ((aSs a).headD none) with
    | none => (s, some byZ)
    | some v => ((upF s.1 ((aCs a).headD 0) v, s.2), none)) else ((s.1, (chg S rec a s.1 O s.2).1), (chg S rec a s.1 O s.2).2)
def fir1 (S : st_T) (rec : sf_T) (t ti ev : Nat) (O : rw_F) (g : Nat) (s : rw_F × es_T) : (rw_F × es_T) × Option sp_T := match sTr S g with
  | none => (s, none)
  | some G => if gTb G = t ∧ gTi G = ti ∧ gEv G = ev then (match tst noF s.1 O (gWh G) with
    | none => (s, some byZ)
    | some false => (s, none)
    | some true => act1 S rec O (gAc G) s) else (s, none)
def fir (S : st_T) (rec : sf_T) (t ti ev : Nat) (O : rw_F) (s : rw_F × es_T) : (rw_F × es_T) × Option sp_T := lop (fir1 S rec t ti ev O) (rng 0 8) s
/-! rules that follow -/
def tch (ev : Nat) (cs : List Nat) (O N : rw_F) : Bool := !nul cs O && (decide (ev = 2) || cs.any (fun c => !decide (N c = O c)))
def rfg (u : ru_T) (O : rw_F) (r : ro_T) : Bool := alk (rCs u) (rOs u) r.2 O
def setR (act : Nat) (N : rw_F) (df : Nat → Option Int32) : rw_F → List Nat → List Nat → rw_F
  | f, c :: cs, e :: es => setR act N df (upF f c (if act = 2 then N e else if act = 4 then df c else none)) cs es
  | f, _, _ => f
def rf1 (S : st_T) (rec : sf_T) (i : Nat) (u : ru_T) (act ev : Nat) (i0 : Int32) (O N : rw_F) (j : Int32) (σ : es_T) : rz_T := match fdr j (σ.1 (rTb u)).1 0 with
  | none => (σ, none)
  | some (_, r) => bif rfg u O r then (if act = 1 then (σ, some (2, nI i, i0)) else if act = 2 ∧ ev = 2 then rec 2 (rTb u) j r.2 r.2 σ else rec 1 (rTb u) j r.2 (setR act N (sDf S (rTb u)) r.2 (rCs u) (rOs u)) σ) else (σ, none)
def dos (ev : Nat) (u : ru_T) : Nat := if ev = 2 then rDl u else rUp u
def fol1 (S : st_T) (rec : sf_T) (t ev : Nat) (i0 : Int32) (O N : rw_F) (i : Nat) (σ : es_T) : rz_T := match sRu S i with
  | none => (σ, none)
  | some u => if rTg u = some t ∧ tch ev (rOs u) O N = true ∧ dos ev u ≠ 0 then lop (rf1 S rec i u (dos ev u) ev i0 O N) (((σ.1 (rTb u)).1.filter (rfg u O)).map (fun r => r.1)) σ else (σ, none)
def fol (S : st_T) (rec : sf_T) (t ev : Nat) (i0 : Int32) (O N : rw_F) (σ : es_T) : rz_T := lop (fol1 S rec t ev i0 O N) (rng 0 24) σ
/-! behind the before triggers -/
def stp2 (S : st_T) (rec : sf_T) (kd t : Nat) (i : Int32) (O N : rw_F) (σ : es_T) : rz_T := if kd = 0 then (if 40 ≤ (σ.1 t).1.length then (σ, some (6, 0, 0)) else (((fir S rec t 1 0 O (N, (rsA σ.1 t N, σ.2))).1.2, (fir S rec t 1 0 O (N, (rsA σ.1 t N, σ.2))).2))) else (match fdr i (σ.1 t).1 0 with
  | none => (σ, none)
  | some (k, r) => match fol S rec t kd i O N ((if kd = 1 then rsW σ.1 t k (r.1, N) else rsD σ.1 t k), σ.2) with
    | (σ1, some e) => (σ1, some e)
    | (σ1, none) => (((fir S rec t 1 kd O (N, σ1)).1.2, (fir S rec t 1 kd O (N, σ1)).2)))
/-! a step; n: how many may lie in it, and one more -/
def stp (S : st_T) : Nat → sf_T
  | 0, _, _, _, _, _, σ => (σ, some (5, 0, 0))
  | n + 1, kd, t, i, O, N, σ => if 300 ≤ σ.2.1 then (σ, some (5, 0, 0)) else (match fir S (stp S n) t 0 kd O (N, (σ.1, σ.2.1 + 1, max σ.2.2 (12 - n))) with
    | (s, some e) => (s.2, some e)
    | (s, none) => stp2 S (stp S n) kd t i O s.1 s.2)
/-! an act that can stand: the widths of the row alone, of NEW, of OLD -/
def okS (w1 w2 w3 : Nat) : Option (List op_T) → Prop
  | none => True
  | some l => l.length ≤ 600 ∧ t_l w1 w2 w3 l [] = some [false]
def okT2 (w1 w2 w3 : Nat) : Option (List op_T) → Prop
  | none => True
  | some l => l.length ≤ 600 ∧ t_l w1 w2 w3 l [] = some [true]
def okA2 (wd : Nat → Nat) (w0 w2 w3 : Nat) (a : ac_T) : Prop := (aKd a = 0 ∧ ∃ b, aTb a = some b ∧ b < 6 ∧ (aSs a).length = wd b ∧ (∀ s, s ∈ aSs a → okS 0 w2 w3 s) ∧ 0 < wd b) ∨ (aKd a = 1 ∧ ∃ b, aTb a = some b ∧ b < 6 ∧ (aCs a).length = (aSs a).length ∧ (aCs a).length ≤ 6 ∧ (∀ c, c ∈ aCs a → c < wd b) ∧ (∀ s, s ∈ aSs a → s ≠ none ∧ okS (wd b) w2 w3 s) ∧ okT2 (wd b) w2 w3 (aWh a)) ∨ (aKd a = 2 ∧ ∃ b, aTb a = some b ∧ b < 6 ∧ okT2 (wd b) w2 w3 (aWh a)) ∨ (aKd a = 3 ∧ aTb a = none ∧ ∃ c l, aCs a = [c] ∧ aSs a = [some l] ∧ c < w0 ∧ okS 0 w2 w3 (some l)) ∨ (aKd a = 4 ∧ aTb a = none)
def wN (wd : Nat → Nat) (t ev : Nat) : Nat := if ev = 2 then 0 else wd t
def wO (wd : Nat → Nat) (t ev : Nat) : Nat := if ev = 0 then 0 else wd t
def okG (wd : Nat → Nat) (g : tr_T) : Prop := gTb g < 6 ∧ gTi g < 2 ∧ gEv g < 3 ∧ okT2 0 (wN wd (gTb g) (gEv g)) (wO wd (gTb g) (gEv g)) (gWh g) ∧ okA2 wd (wd (gTb g)) (wN wd (gTb g) (gEv g)) (wO wd (gTb g) (gEv g)) (gAc g)
def okSt (S : st_T) : Prop := (∀ b, b < 6 → sWd S b ≤ 6) ∧ (∀ i u, i < 24 → sRu S i = some u → okR (sWd S) u) ∧ (∀ i g, i < 8 → sTr S i = some g → okG (sWd S) g)
/-! loops that end, or go on -/
set_option maxRecDepth 100000 in
theorem lop_n {α β : Type} {f : α → β → β × Option sp_T} {a : α} {l : List α} {s s1 : β} (h : f a s = (s1, none)) : lop f (a :: l) s = lop f l s1 := by
  show (match f a s with | (s1, none) => lop f l s1 | (s1, some e) => (s1, some e)) = _
  rw [h]
set_option maxRecDepth 100000 in
theorem lop_s {α β : Type} {f : α → β → β × Option sp_T} {a : α} {l : List α} {s s1 : β} {e : sp_T} (h : f a s = (s1, some e)) : lop f (a :: l) s = (s1, some e) := by
  show (match f a s with | (s1, none) => lop f l s1 | (s1, some e) => (s1, some e)) = _
  rw [h]
set_option maxRecDepth 100000 in
theorem fdr_s {i : Int32} : ∀ {l : List ro_T} {k j : Nat} {r : ro_T}, fdr i l k = some (j, r) → k ≤ j ∧ l[j - k]? = some r ∧ r.1 = i
  | [], _, _, _, h => by cases h
  | q :: l, k, j, r, h => by
    unfold fdr at h
    split at h
    · rename_i e
      cases h
      exact ⟨Nat.le_refl _, by rw [Nat.sub_self]; rfl, e⟩
    · obtain ⟨h1, h2, h3⟩ := fdr_s h
      refine ⟨by omega, ?_, h3⟩
      rw [show j - k = (j - (k + 1)) + 1 by omega, List.getElem?_cons_succ]
      exact h2
def fdI : Option (Nat × ro_T) → Int32
  | none => -1
  | some (j, _) => nI j
set_option maxRecDepth 100000 in
theorem fdr_f {id : Nat → Int32} {i : Int32} {B0 : Nat} : ∀ (l : List ro_T) (k : Nat), (∀ j r, l[j]? = some r → id (B0 + (k + j)) = r.1) → fnd (fun j => decide (id (B0 + j) = i)) l.length k = fdI (fdr i l k)
  | [], _, _ => rfl
  | q :: l, k, h => by
    have h0 := h 0 q rfl
    rw [Nat.add_zero] at h0
    show (bif decide (id (B0 + k) = i) then nI k else fnd (fun j => decide (id (B0 + j) = i)) l.length (k + 1)) = _
    rw [h0]
    unfold fdr
    by_cases e : q.1 = i
    · rw [decide_eq_true e, if_pos e]
      rfl
    · rw [decide_eq_false e, if_neg e, cond_false]
      exact fdr_f l (k + 1) (fun j r hj => by rw [show k + 1 + j = k + (j + 1) by omega]; exact h (j + 1) r hj)
