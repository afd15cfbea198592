/-! THE EVALUATOR: it runs a method on cells that are numbers; fuel, frames and words of stack are counted down -/
def sumc (st : List Value) : Nat := (st.map fun v => v.category).sum
theorem sumc_v (r : Nat → Nat) (st : List Value) : ((st.map (ab_v r)).map fun v => v.category).sum = sumc st := by
  unfold sumc
  rw [List.map_map]
  congr 2
  funext v
  exact ab_v_cat r v
/-- calls that stay within the row: Token.ordinal, System.arraycopy, Math, Object's constructor, an array of arrays -/
def cn_or (o idx fr lo : Nat) (h : ab_H) : List Value → mo_T
  | .ref a :: q => if (or_l.contains (o, idx)) = true ∧ (1 ≤ a ∧ a ≤ 59) ∧ 1 ≤ fr ∧ sumc q + 12 ≤ lo then some (.int (nI (a - 1)) :: q, h, 0) else none
  | _ => none
def cn_ac (o idx fr lo : Nat) (h : ab_H) : List Value → mo_T
  | .int n :: .int dp :: .ref a :: .int sp :: .ref a0 :: q => match mo_arr h a0, mo_arr h a with
    | some (0, n0, .inl f), some (0, n1, .inl g) => if (ac_l.contains (o, idx)) = true ∧ (¬ sp < 0 ∧ ¬ dp < 0 ∧ ¬ n < 0) ∧ sp.toNatClampNeg + n.toNatClampNeg ≤ n0 ∧ dp.toNatClampNeg + n.toNatClampNeg ≤ n1 ∧ 1 ≤ fr ∧ sumc q + (nativeFrameWords "java/lang/System" "arraycopy" 5 + 11) ≤ lo then some (q, h.set (a - 100) (.inl (0, n1, .inl (va_cpy f g sp.toNatClampNeg dp.toNatClampNeg n.toNatClampNeg))), 0) else none
    | some (1, n0, .inr (.inl f)), some (1, n1, .inr (.inl g)) => if (ac_l.contains (o, idx)) = true ∧ (¬ sp < 0 ∧ ¬ dp < 0 ∧ ¬ n < 0) ∧ sp.toNatClampNeg + n.toNatClampNeg ≤ n0 ∧ dp.toNatClampNeg + n.toNatClampNeg ≤ n1 ∧ 1 ≤ fr ∧ sumc q + (nativeFrameWords "java/lang/System" "arraycopy" 5 + 11) ≤ lo then some (q, h.set (a - 100) (.inl (1, n1, .inr (.inl (va_cpy f g sp.toNatClampNeg dp.toNatClampNeg n.toNatClampNeg)))), 0) else none
    | _, _ => none
  | _ => none
def cn_mi (o idx fr lo : Nat) (h : ab_H) : List Value → mo_T
  | .int y :: .int x :: q => if 1 ≤ fr ∧ sumc q + 13 ≤ lo then (if (mi_l.contains (o, idx)) = true then some (.int (if y < x then y else x) :: q, h, 0) else if (ma_l.contains (o, idx)) = true then some (.int (if x < y then y else x) :: q, h, 0) else none) else none
  | .long y :: .long x :: q => if (mal_l.contains (o, idx)) = true ∧ 1 ≤ fr ∧ sumc q + 15 ≤ lo then some (.long (if y < x then x else y) :: q, h, 0) else none
  | _ => none
def cn_oi (o idx fr lo : Nat) (h : ab_H) : List Value → mo_T
  | .ref _ :: q => if (oi_l.contains (o, idx)) = true ∧ 1 ≤ fr ∧ sumc q + 12 ≤ lo then some (q, h, 0) else none
  | _ => none
def cn_mu (o idx : Nat) (h : ab_H) : List Value → mo_T
  | .int k :: .int n :: q => if o = 6 ∧ (idx = 18 ∨ idx = 26) ∧ (¬ n < 0 ∧ ¬ k < 0) ∧ n.toNatClampNeg ≤ 60000000 ∧ k.toNatClampNeg ≤ 60000000 then
      some (.ref (100 + h.length) :: q, mu_fill (if idx = 18 then 9 else 10) (if idx = 18 then 1 else 0) n.toNatClampNeg k.toNatClampNeg h.length n.toNatClampNeg 0 (fun _ => none) (h ++ [.inl (if idx = 18 then 9 else 10, n.toNatClampNeg, .inr (.inr (.inr (.inr (fun _ => none)))))]), n.toNatClampNeg + n.toNatClampNeg * k.toNatClampNeg) else none
  | _ => none
def cn (o fr lo : Nat) (i : Instr) (len : Nat) (h : ab_H) (st : List Value) : mo_T := match i, len with
  | .invokevirtual idx, 3 => cn_or o idx fr lo h st
  | .invokestatic idx, 3 => (cn_ac o idx fr lo h st).orElse (fun _ => cn_mi o idx fr lo h st)
  | .invokespecial idx, 3 => cn_oi o idx fr lo h st
  | .multianewarray idx 2, 4 => cn_mu o idx h st
  | _, _ => none
/-- the method's end -/
def cr (ret : Option FieldType) (i : Instr) (len : Nat) : List Value → Option Outcome
  | [] => match i, len, ret with
    | .return_, 1, none => some (.returned none)
    | _, _, _ => none
  | [.int v] => match i, len, ret with
    | .ireturn, 1, some ty => if narrow ty (.int v) = .int v then some (.returned (some (.int v))) else none
    | _, _, _ => none
  | [.long v] => match i, len, ret with
    | .lreturn, 1, some .long => some (.returned (some (.long v)))
    | _, _, _ => none
  | [.null] => match i, len, ret with
    | .areturn, 1, some (.object _) => some (.returned (some .null))
    | .areturn, 1, some (.array _) => some (.returned (some .null))
    | _, _, _ => none
  | [.ref a] => match i, len, ret with
    | .areturn, 1, some (.object _) => some (.returned (some (.ref a)))
    | .areturn, 1, some (.array _) => some (.returned (some (.ref a)))
    | _, _, _ => none
  | _ => none
/-- a call: the callee's row, its arguments, what stays on the stack -/
abbrev cl_T : Type := Option (mc_T × List Value × List Value)
def cl_ar (k : Nat) (st : List Value) : Option (mc_T × List Value × List Value) := match mc[k]?, na_l[k]? with
  | some y, some n => if n ≤ st.length then some (y, (st.take n).reverse, st.drop n) else none
  | _, _ => none
def cl (o : Nat) (h : ab_H) (i : Instr) (len : Nat) (st : List Value) : cl_T := match i, len with
  | .invokevirtual idx, 3 => match mlV.find? (fun q => q.1 == o && q.2.1 == idx) with
    | some q => match cl_ar q.2.2.1 st with
      | some (y, as, .ref b :: rest) => match mo_obj h b with
        | some (ci, _) => if ci = y.2.1 ∧ ci < 12 ∧ mV.contains q.2.2.1 = true then some (y, .ref b :: as, rest) else none
        | none => none
      | _ => none
    | none => none
  | .invokestatic idx, 3 => match mlS.find? (fun q => q.1 == o && q.2.1 == idx) with
    | some q => match cl_ar q.2.2.1 st with
      | some (y, as, rest) => if mS.contains q.2.2.1 = true then some (y, as, rest) else none
      | none => none
    | none => none
  | .invokespecial idx, 3 => match mlI.find? (fun q => q.1 == o && q.2.1 == idx) with
    | some q => match cl_ar q.2.2.1 st with
      | some (y, as, .ref b :: rest) => if mN.contains q.2.2.1 = true ∧ y.1.1.name = "<init>" ∧ y.1.2.2.2.1 = none ∧ y.1.2.2.2.2 = [] then some (y, .ref b :: as, rest) else none
      | _ => none
    | none => none
  | _, _ => none
/-- throw new X(text): the exception's class -/
def cx (y : mc_T) (fr lo : Nat) (i : Instr) (len pc : Nat) (st : List Value) : Option Nat := match i, len with
  | .new ia, 3 => match y.2.2.find? (fun x => x.1 == pc + 3), y.2.2.find? (fun x => x.1 == pc + 4), y.2.2.find? (fun x => x.1 == pc + 6), y.2.2.find? (fun x => x.1 == pc + 9) with
    | some (_, .dup, 1), some (_, .ldc ib, 2), some (_, .invokespecial ic, 3), some (_, .athrow, 1) => match xs_l.find? (fun q => q.1 == y.2.1 && (q.2.1 == ia && q.2.2.1 == ic)), tx_l.find? (fun q => q.1 == y.2.1 && q.2.1 == ib) with
      | some q, some _ => if 5 < fr ∧ 1 + sumc st + 81 ≤ lo then some q.2.2.2 else none
      | _, _ => none
    | _, _, _, _ => none
  | _, _ => none
/-- where an exception goes on: none, if that isn't known; else the place of the handler, or out -/
def chL (o ci pc : Nat) : List (Nat × Nat × Nat × Nat) → Option (Option Nat)
  | [] => some none
  | x :: r => if x.1 ≤ pc ∧ pc < x.2.1 then (match ht_l.find? (fun q => q.1 == o && q.2.1 == x.2.2.2) with
      | some q => if q.2.2 = ci then some (some x.2.2.1) else (match chL o ci pc r with
        | some (some hp) => some (some hp)
        | _ => none)
      | none => none) else chL o ci pc r
def ch (y : mc_T) (h : ab_H) (a pc : Nat) : Option (Option Nat) := match mo_obj h a with
  | some (ci, _) => if ci = 12 ∨ ci = 13 ∨ ci = 14 then chL y.2.1 ci pc y.1.2.2.2.2 else none
  | none => none
abbrev ev_R : Type := Option (Outcome × ab_H × Nat)
abbrev ev_F : Type := Nat → Nat → mc_T → Nat → List (Nat × Value) → List Value → ab_H → Nat → ev_R
def ev_x (go : ev_F) (fr lo : Nat) (y : mc_T) (pc : Nat) (al : List (Nat × Value)) (a : Nat) (h : ab_H) (sl : Nat) : ev_R := match ch y h a pc with
  | none => none
  | some none => some (.threw a, h, sl)
  | some (some hp) => go fr lo y hp al [.ref a] h sl
def ev_s (L : Nat) (xs : Nat → Int32) (go : ev_F) (fr lo : Nat) (y : mc_T) (pc : Nat) (al : List (Nat × Value)) (st : List Value) (h : ab_H) (sl : Nat) : ev_R :=
  match y.2.2.find? (fun x => x.1 == pc) with
  | none => none
  | some (_, i, len) => match ab_p y.1.2.2.1 i len pc al st with
    | some (pc1, al1, st1) => go fr lo y pc1 al1 st1 h sl
    | none => match mo L xs y.2.1 (y.1.1.name == "<init>") i len h st with
      | some (st1, h1, du) => go fr lo y (pc + len) al st1 h1 (sl + du)
      | none => match cn y.2.1 fr lo i len h st with
        | some (st1, h1, du) => go fr lo y (pc + len) al st1 h1 (sl + du)
        | none => match cr y.1.2.2.2.1 i len st with
          | some o => some (o, h, sl)
          | none => match cl y.2.1 h i len st with
            | some (yc, vs, rest) => if 1 ≤ fr ∧ sumc rest + (yc.1.2.2.1 + 11) ≤ lo ∧ (lg_sl vs).length ≤ yc.1.2.2.1 then (match go (fr - 1) (lo - (sumc rest + (yc.1.2.2.1 + 11))) yc 0 (lv_args 0 vs) [] h 0 with
                | none => none
                | some (.returned v, h1, d1) => go fr lo y (pc + 3) al (v.toList ++ rest) h1 (sl + d1)
                | some (.threw a, h1, d1) => ev_x go fr lo y pc al a h1 (sl + d1)) else none
            | none => match cx y fr lo i len pc st with
              | some ci => ev_x go fr lo y (pc + 9) al (100 + h.length) (h ++ [.inr (ci, [])]) (sl + 6)
              | none => none
def ev (L : Nat) (xs : Nat → Int32) : Nat → ev_F
  | 0 => fun _ _ _ _ _ _ _ _ => none
  | n + 1 => ev_s L xs (ev L xs n)
