
section WIA
variable {L : Nat} {xs : Nat → Int32} {d pc sl pc0 pc1 : Nat} {y : mc_T} {al : List (Nat × Value)} {q : List Value} {h : ab_H} {P : Option Value → ab_H → Nat → Prop} {X : Nat → ab_H → Nat → Prop} {u v z : Int32}
set_option maxRecDepth 100000 in
theorem w_iand (hf : y.2.2.find? (fun x => x.1 == pc) = some (pc0, .iand, 1)) (e : u &&& v = z) (hpc : pc + 1 = pc1) (w : Wd L xs d y (pc1, al, .int z :: q, h, sl) P X) : Wd L xs d y (pc, al, .int v :: .int u :: q, h, sl) P X := by
  subst e
  subst hpc
  exact w_p hf rfl w
set_option maxRecDepth 100000 in
theorem w_ior (hf : y.2.2.find? (fun x => x.1 == pc) = some (pc0, .ior, 1)) (e : u ||| v = z) (hpc : pc + 1 = pc1) (w : Wd L xs d y (pc1, al, .int z :: q, h, sl) P X) : Wd L xs d y (pc, al, .int v :: .int u :: q, h, sl) P X := by
  subst e
  subst hpc
  exact w_p hf rfl w
set_option maxRecDepth 100000 in
theorem cn_s {o idx fr lo : Nat} {st : List Value} (h1 : mi_l.contains (o, idx) = false) (h2 : ma_l.contains (o, idx) = false) (h3 : mal_l.contains (o, idx) = false) (h4 : ac_l.contains (o, idx) = false) : cn o fr lo (.invokestatic idx) 3 h st = none := by
  show (cn_ac o idx fr lo h st).orElse (fun _ => cn_mi o idx fr lo h st) = _
  rw [cn_ac_no h4]
  show cn_mi o idx fr lo h st = none
  unfold cn_mi
  split
  · split
    · rw [if_neg (by rw [h1]; decide), if_neg (by rw [h2]; decide)]
    · rfl
  · rw [if_neg (by rw [h3]; intro e; cases e.1)]
  · rfl
end WIA
/-! ROWS AND RULES, as both sides keep them -/
abbrev ro_T : Type := Int32 × rw_F
abbrev rs_T : Type := Nat → List ro_T × Int32
abbrev ru_T : Type := Nat × Nat × List Nat × Option Nat × List Nat × Bool × Nat × Nat × Option (List op_T)
def rKd (r : ru_T) : Nat := r.1
def rTb (r : ru_T) : Nat := r.2.1
def rCs (r : ru_T) : List Nat := r.2.2.1
def rTg (r : ru_T) : Option Nat := r.2.2.2.1
def rOs (r : ru_T) : List Nat := r.2.2.2.2.1
def rLt (r : ru_T) : Bool := r.2.2.2.2.2.1
def rDl (r : ru_T) : Nat := r.2.2.2.2.2.2.1
def rUp (r : ru_T) : Nat := r.2.2.2.2.2.2.2.1
def rCk (r : ru_T) : Option (List op_T) := r.2.2.2.2.2.2.2.2
def tgI : Option Nat → Int32
  | none => -1
  | some b => nI b
/-! columns alike -/
def alk : List Nat → List Nat → rw_F → rw_F → Bool
  | c :: cs, e :: es, a, b => decide (a c = b e) && alk cs es a b
  | _, _, _, _ => true
def nul (cs : List Nat) (a : rw_F) : Bool := cs.any (fun c => decide (a c = none))
def noF : rw_F := fun _ => none
def tgN : Option Nat → Nat
  | none => 0
  | some b => b
/-! is the rule broken by row k -/
def brk (u : ru_T) (rs : rs_T) (k : Nat) (r : ro_T) : Bool := match rKd u with
  | 0 => nul (rCs u) r.2
  | 1 => nul (rCs u) r.2 || ((rs (rTb u)).1.take k).any (fun q => alk (rCs u) (rCs u) r.2 q.2)
  | 2 => !nul (rCs u) r.2 && ((rs (rTb u)).1.take k).any (fun q => alk (rCs u) (rCs u) r.2 q.2)
  | 3 => (match rCk u with
    | none => false
    | some O => decide (f_l true r.2 noF noF O [] = some [.inr (some false)]))
  | _ => !nul (rCs u) r.2 && !((rs (tgN (rTg u))).1.any (fun q => alk (rCs u) (rOs u) r.2 q.2))
def fbl (p : Nat → ro_T → Bool) : Nat → List ro_T → Int32
  | _, [] => -1
  | k, r :: l => bif p k r then r.1 else fbl p (k + 1) l
def fbk (u : ru_T) (rs : rs_T) : Int32 := fbl (brk u rs) 0 (rs (rTb u)).1
/-! a rule that can stand -/
def okR (wd : Nat → Nat) (u : ru_T) : Prop := (rKd u ≤ 4 ∧ rTb u < 6 ∧ (rCs u).length ≤ 6 ∧ ∀ c, c ∈ rCs u → c < wd (rTb u)) ∧ (rKd u = 4 → (∃ b, rTg u = some b ∧ b < 6 ∧ ∀ c, c ∈ rOs u → c < wd b) ∧ (rOs u).length = (rCs u).length) ∧ (rKd u ≠ 4 → rTg u = none) ∧ (rKd u = 3 → rCs u = [] ∧ ∃ O, rCk u = some O ∧ O.length ≤ 600 ∧ t_l (wd (rTb u)) 0 0 O [] = some [true]) ∧ (rDl u ≤ 4 ∧ rUp u ≤ 4)
/-! rows in cells -/
def RWf (ce : Nat → Int64) (id sz : Nat → Int32) (wd : Nat → Nat) (rs : rs_T) : Prop := ∀ b, b < 6 → wd b ≤ 6 ∧ sz b = nI (rs b).1.length ∧ (rs b).1.length ≤ 40 ∧ ∀ k r, (rs b).1[k]? = some r → id (b * 40 + k) = r.1 ∧ ∀ c, c < wd b → ce ((b * 40 + k) * 6 + c) = e_V (r.2 c)
def RWK (C : co_T) (wd : Nat → Nat) (rs : rs_T) : Prop := RWf (C.2.1 14) (C.1 15) (C.1 16) wd rs
def arI (f : Nat → Int32) (b : Nat) (l : List Nat) : Prop := ∀ j c, l[j]? = some c → f (b + j) = nI c
/-! stacks of formulas may change -/
def stk (t t' : ab_H) : Prop := t'.length = t.length ∧ ∀ (k : Nat) (c : ab_C), t[k]? = some c → t'[k]? = some c ∨ ∃ n s s', n ≤ 600 ∧ c = sCell n s ∧ t'[k]? = some (sCell n s')
set_option maxRecDepth 100000 in
theorem stk_r {t : ab_H} : stk t t := ⟨rfl, fun _ _ h => Or.inl h⟩
set_option maxRecDepth 100000 in
theorem stk_t {a b c : ab_H} (h : stk a b) (g : stk b c) : stk a c := by
  refine ⟨g.1.trans h.1, fun k x hx => ?_⟩
  rcases h.2 k x hx with h1 | ⟨n, s, s', hn, e, h1⟩
  · exact g.2 k x h1
  · rcases g.2 k _ h1 with h2 | ⟨n2, s2, s3, hn2, e2, h2⟩
    · exact Or.inr ⟨n, s, s', hn, e, h2⟩
    · cases e2
      exact Or.inr ⟨n, s, s3, hn, e, h2⟩
set_option maxRecDepth 100000 in
theorem stk_o {t t' : ab_H} {k : Nat} {z : Nat × List Value} (h : stk t t') (g : t[k]? = some (.inr z)) : t'[k]? = some (.inr z) := by
  rcases h.2 k _ g with h1 | ⟨n, s, s', _, e, _⟩
  · exact h1
  · cases e
set_option maxRecDepth 100000 in
theorem stk_a {t t' : ab_H} {k n : Nat} {f : Nat → Int32} (h : stk t t') (g : t[k]? = some (.inl (0, n, .inl f))) : t'[k]? = some (.inl (0, n, .inl f)) := by
  rcases h.2 k _ g with h1 | ⟨n, s, s', _, e, _⟩
  · exact h1
  · cases e
set_option maxRecDepth 100000 in
theorem stk_q {t t' : ab_H} {k n ty : Nat} {f : Nat → Option Nat} (h : stk t t') (g : t[k]? = some (.inl (ty, n, .inr (.inr (.inr (.inr f)))))) : t'[k]? = some (.inl (ty, n, .inr (.inr (.inr (.inr f))))) := by
  rcases h.2 k _ g with h1 | ⟨n, s, s', _, e, _⟩
  · exact h1
  · cases e
set_option maxRecDepth 100000 in
theorem stk_s {t t' : ab_H} {k n : Nat} {s : Nat → Int64} (h : stk t t') (g : t[k]? = some (sCell n s)) : ∃ s', t'[k]? = some (sCell n s') := by
  rcases h.2 k _ g with h1 | ⟨n, s, s', _, e, h1⟩
  · exact ⟨s, h1⟩
  · cases e
    exact ⟨s', h1⟩
set_option maxRecDepth 100000 in
theorem stk_set {t : ab_H} {k n : Nat} {s s' : Nat → Int64} (g : t[k]? = some (sCell n s)) (hn : n ≤ 600) : stk t (t.set k (sCell n s')) := by
  refine ⟨List.length_set, fun j c hj => ?_⟩
  by_cases e : k = j
  · subst e
    rw [g] at hj
    cases hj
    exact Or.inr ⟨n, s, s', hn, rfl, tl_self g⟩
  · exact Or.inl (tl_set hj e)
set_option maxRecDepth 100000 in
theorem FO_k {t t' : ab_H} {k k1 k2 k3 : Nat} {O : List op_T} {c : Int32} {s : Nat → Int64} (F : FO t k k1 k2 k3 O c s) (h : stk t t') : ∃ s', FO t' k k1 k2 k3 O c s' := by
  obtain ⟨hO, ⟨f, hA, hf⟩, ⟨g, hB, hg⟩, hS⟩ := F
  obtain ⟨s', h'⟩ := stk_s h hS
  exact ⟨s', stk_o h hO, ⟨f, stk_a h hA, hf⟩, ⟨g, stk_a h hB, hg⟩, h'⟩
/-! a formula, or none -/
def foK (t : ab_H) (c : Int32) (v : Value) : Option (List op_T) → Prop
  | none => v = .null
  | some O => ∃ k k1 k2 k3 s, v = .ref (241 + k) ∧ FO t k k1 k2 k3 O c s ∧ O.length ≤ 600
set_option maxRecDepth 100000 in
theorem foK_k {t t' : ab_H} {c : Int32} {v : Value} (h : stk t t') : ∀ {q : Option (List op_T)}, foK t c v q → foK t' c v q
  | none, e => e
  | some O, ⟨k, k1, k2, k3, s, e, F, h6⟩ => by
    obtain ⟨s', F'⟩ := FO_k F h
    exact ⟨k, k1, k2, k3, s', e, F', h6⟩
def RUo (t : ab_H) (k0 kc kt : Nat) (u : ru_T) (fc ft : Nat → Int32) (vc : Value) : Prop := t[k0]? = some (.inr (7, [.int (nI (rKd u)), .int (nI (rTb u)), .ref (241 + kc), .ref (241 + kt), .int (nI (rCs u).length), .int (tgI (rTg u)), .int (ck (rLt u)), .int (nI (rDl u)), .int (nI (rUp u)), vc])) ∧ t[kc]? = some (.inl (0, 6, .inl fc)) ∧ t[kt]? = some (.inl (0, 6, .inl ft)) ∧ arI fc 0 (rCs u) ∧ arI ft 0 (rOs u)
def RUK (t : ab_H) (k0 : Nat) (u : ru_T) : Prop := ∃ kc kt fc ft vc, RUo t k0 kc kt u fc ft vc ∧ foK t 1 vc (rCk u)
set_option maxRecDepth 100000 in
theorem RUK_k {t t' : ab_H} {k0 : Nat} {u : ru_T} (h : stk t t') (U : RUK t k0 u) : RUK t' k0 u := by
  obtain ⟨kc, kt, fc, ft, vc, ⟨h1, h2, h3, h4, h5⟩, h6⟩ := U
  exact ⟨kc, kt, fc, ft, vc, ⟨stk_o h h1, stk_a h h2, stk_a h h3, h4, h5⟩, foK_k h h6⟩
section KRU
variable {L : Nat} {xs : Nat → Int32} {C : co_T} {t : ab_H} {d sl k k0 kc kt b c : Nat} {wd : Nat → Nat} {rs : rs_T} {u : ru_T} {fc ft : Nat → Int32} {vc : Value} {r : ro_T}
set_option maxRecDepth 100000 in
theorem get_lt {α : Type} {l : List α} {k : Nat} {x : α} (h : l[k]? = some x) : k < l.length := (List.getElem?_eq_some_iff.mp h).1
set_option maxRecDepth 100000 in
theorem get_ap {α : Type} {pre suf l : List α} {x : α} (h : pre ++ x :: suf = l) : l[pre.length]? = some x ∧ pre.length < l.length ∧ (pre ++ [x]) ++ suf = l := by
  subst h
  refine ⟨by rw [List.getElem?_append_right (Nat.le_refl _), Nat.sub_self]; rfl, by rw [List.length_append, List.length_cons]; omega, by rw [List.append_assoc]; rfl⟩
set_option maxRecDepth 100000 in
theorem len_s {α : Type} {pre : List α} {x : α} : (pre ++ [x]).length = pre.length + 1 := by rw [List.length_append, List.length_singleton]
set_option maxRecDepth 100000 in
theorem cellK (W : RWK C wd rs) (hb : b < 6) (hr : (rs b).1[k]? = some r) (hc : c < wd b) : Wd L xs (d + 1) y_140 (0, [(0, .ref 113), (1, .int (nI b)), (2, .int (nI k)), (3, .int (nI c))], [], MH C t, sl) (Rt (some (.long (e_V (r.2 c)))) (MH C t) sl) nX := by
  obtain ⟨h1, h2, h3, h4⟩ := W b hb
  have := m_140 (L := L) (xs := xs) (t := t) (d := d) (sl := sl) (c := c) hb h2 h3 (get_lt hr) (by omega)
  rw [(h4 k r hr).2 c hc] at this
  exact this
set_option maxRecDepth 100000 in
theorem lp_147 (W : RWK C wd rs) (U : RUo t k0 kc kt u fc ft vc) (hb : rTb u < 6) (h6 : (rCs u).length ≤ 6) (hc : ∀ c, c ∈ rCs u → c < wd (rTb u)) (hr : (rs (rTb u)).1[k]? = some r) : ∀ suf pre : List Nat, pre ++ suf = rCs u → Wd L xs (d + 2) y_147 (2, [(3, .int (nI (pre.length))), (0, .ref (241 + k0)), (1, .ref 113), (2, .int (nI (k)))], [], MH C t, sl) (Rt (some (.int (ck (nul suf r.2)))) (MH C t) sl) nX
  | [], pre, hp => by
    rw [List.append_nil] at hp
    have hl := congrArg List.length hp
    have h40 := (W _ hb).2.2.1
    have hk := get_lt hr
    refine w_p (pc1 := 3) rfl rfl ?_
    refine w_p (pc1 := 4) rfl rfl ?_
    refine w_m0 (pc1 := 7) (st1 := .int (nI ((rCs u).length)) :: _) rfl rfl (x_gf (k := k0) rfl U.1 rfl) rfl ?_
    refine w_t (a := 49) (b := 10) (bN_ge_t (a := pre.length) (b := (rCs u).length) (by omega) (by omega) (by omega)) rfl rfl ?_
    refine w_p (pc1 := 50) (st1 := .int 0 :: _) rfl rfl ?_
    refine w_r rfl rfl rfl (fun _ _ => rfl) rfl ?_
    exact ⟨rfl, rfl, rfl⟩
  | c :: suf, pre, hp => by
    obtain ⟨h1, h2, h3⟩ := get_ap hp
    have h40 := (W _ hb).2.2.1
    have hk := get_lt hr
    have hf := U.2.2.2.1 _ _ h1
    rw [Nat.zero_add] at hf
    have hm := cellK (L := L) (xs := xs) (t := t) (d := d) (sl := 0) W hb hr (hc c (List.mem_of_getElem? h1))
    have e0 : nul (c :: suf) r.2 = (decide (r.2 c = none) || nul suf r.2) := rfl
    cases hx : r.2 c with
    | none =>
      rw [hx] at hm
      rw [e0, hx]
      refine w_p (pc1 := 3) rfl rfl ?_
      refine w_p (pc1 := 4) rfl rfl ?_
      refine w_m0 (pc1 := 7) (st1 := .int (nI ((rCs u).length)) :: _) rfl rfl (x_gf (k := k0) rfl U.1 rfl) rfl ?_
      refine w_f (a := 49) (b := 10) (bN_ge_f (a := pre.length) (b := (rCs u).length) (by omega) (by omega) (by omega)) rfl rfl ?_
      refine w_p (pc1 := 11) rfl rfl ?_
      refine w_p (pc1 := 12) rfl rfl ?_
      refine w_m0 (pc1 := 15) (st1 := .ref (241 + kc) :: _) rfl rfl (x_gf (k := k0) rfl U.1 rfl) rfl ?_
      refine w_m0 (pc1 := 16) (st1 := .int (nI (6)) :: _) rfl rfl (x_ln (k := kc) U.2.1 (by decide)) rfl ?_
      refine w_f (a := 49) (b := 19) (bN_ge_f (a := pre.length) (b := 6) (by omega) (by omega) (by omega)) rfl rfl ?_
      refine w_p (pc1 := 20) rfl rfl ?_
      refine w_p (pc1 := 21) rfl rfl ?_
      refine w_m0 (pc1 := 24) (st1 := .int (nI (rTb u)) :: _) rfl rfl (x_gf (k := k0) rfl U.1 rfl) rfl ?_
      refine w_p (pc1 := 25) rfl rfl ?_
      refine w_p (pc1 := 26) rfl rfl ?_
      refine w_m0 (pc1 := 29) (st1 := .ref (241 + kc) :: _) rfl rfl (x_gf (k := k0) rfl U.1 rfl) rfl ?_
      refine w_p (pc1 := 30) rfl rfl ?_
      refine w_m0 (pc1 := 31) (st1 := .int (nI (c)) :: _) rfl rfl (x_ile (k := kc) (e := pre.length) U.2.1 (by omega) (by omega) (hf)) rfl ?_
      refine w_je (pc1 := 34) (vs := [.ref 113, .int (nI (rTb u)), .int (nI (k)), .int (nI (c))]) (rest := []) (st1 := [.long (e_V none)]) (hm) rfl rfl rfl (fun _ _ => rfl) rfl (by exact cl_v my_140 rfl rfl rfl (Nat.le_of_ble_eq_true rfl) rfl (MH_obj rfl rfl) rfl (by decide) rfl rfl) (by rfl) (Nat.le_of_ble_eq_true rfl) (Nat.le_of_ble_eq_true rfl) rfl (by rfl) ?_
      refine w_m0 (pc1 := 37) (st1 := .long (-9223372036854775808) :: _) rfl rfl rfl rfl ?_
      refine w_p (pc1 := 38) rfl rfl ?_
      refine w_f (a := 43) (b := 41) (lb_ne_f (by rfl)) rfl rfl ?_
      refine w_p (pc1 := 42) (st1 := .int 1 :: _) rfl rfl ?_
      refine w_r rfl rfl rfl (fun _ _ => rfl) rfl ?_
      exact ⟨rfl, rfl, rfl⟩
    | some x =>
      rw [hx] at hm
      have e1 : nul (c :: suf) r.2 = nul suf r.2 := by rw [e0, hx]; rfl
      rw [e1]
      refine w_p (pc1 := 3) rfl rfl ?_
      refine w_p (pc1 := 4) rfl rfl ?_
      refine w_m0 (pc1 := 7) (st1 := .int (nI ((rCs u).length)) :: _) rfl rfl (x_gf (k := k0) rfl U.1 rfl) rfl ?_
      refine w_f (a := 49) (b := 10) (bN_ge_f (a := pre.length) (b := (rCs u).length) (by omega) (by omega) (by omega)) rfl rfl ?_
      refine w_p (pc1 := 11) rfl rfl ?_
      refine w_p (pc1 := 12) rfl rfl ?_
      refine w_m0 (pc1 := 15) (st1 := .ref (241 + kc) :: _) rfl rfl (x_gf (k := k0) rfl U.1 rfl) rfl ?_
      refine w_m0 (pc1 := 16) (st1 := .int (nI (6)) :: _) rfl rfl (x_ln (k := kc) U.2.1 (by decide)) rfl ?_
      refine w_f (a := 49) (b := 19) (bN_ge_f (a := pre.length) (b := 6) (by omega) (by omega) (by omega)) rfl rfl ?_
      refine w_p (pc1 := 20) rfl rfl ?_
      refine w_p (pc1 := 21) rfl rfl ?_
      refine w_m0 (pc1 := 24) (st1 := .int (nI (rTb u)) :: _) rfl rfl (x_gf (k := k0) rfl U.1 rfl) rfl ?_
      refine w_p (pc1 := 25) rfl rfl ?_
      refine w_p (pc1 := 26) rfl rfl ?_
      refine w_m0 (pc1 := 29) (st1 := .ref (241 + kc) :: _) rfl rfl (x_gf (k := k0) rfl U.1 rfl) rfl ?_
      refine w_p (pc1 := 30) rfl rfl ?_
      refine w_m0 (pc1 := 31) (st1 := .int (nI (c)) :: _) rfl rfl (x_ile (k := kc) (e := pre.length) U.2.1 (by omega) (by omega) (hf)) rfl ?_
      refine w_je (pc1 := 34) (vs := [.ref 113, .int (nI (rTb u)), .int (nI (k)), .int (nI (c))]) (rest := []) (st1 := [.long (e_V (some x))]) (hm) rfl rfl rfl (fun _ _ => rfl) rfl (by exact cl_v my_140 rfl rfl rfl (Nat.le_of_ble_eq_true rfl) rfl (MH_obj rfl rfl) rfl (by decide) rfl rfl) (by rfl) (Nat.le_of_ble_eq_true rfl) (Nat.le_of_ble_eq_true rfl) rfl (by rfl) ?_
      refine w_m0 (pc1 := 37) (st1 := .long (-9223372036854775808) :: _) rfl rfl rfl rfl ?_
      refine w_p (pc1 := 38) rfl rfl ?_
      refine w_t (a := 43) (b := 41) (lb_ne_t (by exact e_V_ne x)) rfl rfl ?_
      refine w_iinc (pc1 := 46) (u := nI (pre.length)) (z := nI (pre.length + 1)) (al1 := [(3, .int (nI (pre.length + 1))), (0, .ref (241 + k0)), (1, .ref 113), (2, .int (nI (k)))]) rfl rfl rfl nK_1 rfl rfl ?_
      refine w_p (pc1 := 2) rfl rfl ?_
      have := lp_147 W U hb h6 hc hr suf (pre ++ [c]) h3
      rw [len_s] at this
      exact this
set_option maxRecDepth 100000 in
theorem m_147 (W : RWK C wd rs) (U : RUo t k0 kc kt u fc ft vc) (hb : rTb u < 6) (h6 : (rCs u).length ≤ 6) (hc : ∀ c, c ∈ rCs u → c < wd (rTb u)) (hr : (rs (rTb u)).1[k]? = some r) : Wd L xs (d + 2) y_147 (0, [(0, .ref (241 + k0)), (1, .ref 113), (2, .int (nI (k)))], [], MH C t, sl) (Rt (some (.int (ck (nul (rCs u) r.2)))) (MH C t) sl) nX := by
  refine w_p (pc1 := 1) (st1 := .int 0 :: _) rfl rfl ?_
  refine w_p (pc1 := 2) (al1 := [(3, .int 0), (0, .ref (241 + k0)), (1, .ref 113), (2, .int (nI (k)))]) rfl rfl ?_
  exact lp_147 W U hb h6 hc hr (rCs u) [] rfl
set_option maxRecDepth 100000 in
theorem ck_a {g h : Bool} : ck g &&& ck h = ck (g && h) := by cases g <;> cases h <;> rfl
set_option maxRecDepth 100000 in
theorem lp_148i {ke n j : Nat} {fe : Nat → Int32} {es : List Nat} {q : ro_T} (W : RWK C wd rs) (U : RUo t k0 kc kt u fc ft vc) (hE : t[ke]? = some (.inl (0, 6, .inl fe))) (he : arI fe 0 es) (hl : es.length = (rCs u).length) (hb : rTb u < 6) (hb2 : b < 6) (h6 : (rCs u).length ≤ 6) (hc : ∀ c, c ∈ rCs u → c < wd (rTb u)) (hc2 : ∀ c, c ∈ es → c < wd b) (hr : (rs (rTb u)).1[k]? = some r) (hq : (rs b).1[j]? = some q) {P : Option Value → ab_H → Nat → Prop} {X : Nat → ab_H → Nat → Prop} : ∀ (suf pre sufe pree : List Nat) (g : Bool), pre ++ suf = rCs u → pree ++ sufe = es → pree.length = pre.length → Wd L xs (d + 2) y_148 (91, [(7, .int (ck (g && alk suf sufe r.2 q.2))), (6, .int (nI (j))), (0, .ref (241 + k0)), (1, .ref 113), (2, .int (nI (k))), (3, .int (nI (b))), (4, .ref (241 + ke)), (5, .int (nI (n)))], [], MH C t, sl) P X → Wd L xs (d + 2) y_148 (16, [(8, .int (nI (pre.length))), (7, .int (ck g)), (6, .int (nI (j))), (0, .ref (241 + k0)), (1, .ref 113), (2, .int (nI (k))), (3, .int (nI (b))), (4, .ref (241 + ke)), (5, .int (nI (n)))], [], MH C t, sl) P X
  | [], pre, sufe, pree, g, hp, hpe, hpl, H => by
    rw [List.append_nil] at hp
    have hll := congrArg List.length hp
    have e0 : (g && alk [] sufe r.2 q.2) = g := by unfold alk; cases g <;> rfl
    rw [e0] at H
    refine w_p (pc1 := 18) rfl rfl ?_
    refine w_p (pc1 := 19) rfl rfl ?_
    refine w_m0 (pc1 := 22) (st1 := .int (nI ((rCs u).length)) :: _) rfl rfl (x_gf (k := k0) rfl U.1 rfl) rfl ?_
    refine w_t (a := 91) (b := 25) (bN_ge_t (a := pre.length) (b := (rCs u).length) (by omega) (by omega) (by omega)) rfl rfl ?_
    refine Wd_al (al := [(7, .int (ck g)), (6, .int (nI (j))), (0, .ref (241 + k0)), (1, .ref 113), (2, .int (nI (k))), (3, .int (nI (b))), (4, .ref (241 + ke)), (5, .int (nI (n)))]) (sba_p [1, 2, 3, 4, 5, 6, 7, 8] rfl rfl) ?_
    exact H
  | c :: suf, pre, [], pree, g, hp, hpe, hpl, H => by
    obtain ⟨h1, h2, h3⟩ := get_ap hp
    rw [List.append_nil] at hpe
    subst hpe
    omega
  | c :: suf, pre, e :: sufe, pree, g, hp, hpe, hpl, H => by
    obtain ⟨h1, h2, h3⟩ := get_ap hp
    obtain ⟨g1, g2, g3⟩ := get_ap hpe
    have hk := get_lt hr
    have hj := get_lt hq
    have h40 := (W _ hb).2.2.1
    have h41 := (W _ hb2).2.2.1
    have hf := U.2.2.2.1 _ _ h1
    have hf2 := he _ _ g1
    rw [hpl] at hf2
    rw [Nat.zero_add] at hf hf2
    have hm := cellK (L := L) (xs := xs) (t := t) (d := d) (sl := 0) W hb hr (hc c (List.mem_of_getElem? h1))
    have hm2 := cellK (L := L) (xs := xs) (t := t) (d := d) (sl := 0) W hb2 hq (hc2 e (List.mem_of_getElem? g1))
    have ih := fun g' H' => lp_148i W U hE he hl hb hb2 h6 hc hc2 hr hq (P := P) (X := X) (n := n) suf (pre ++ [c]) sufe (pree ++ [e]) g' h3 g3 (by rw [len_s, len_s, hpl]) H'
    rw [len_s] at ih
    by_cases hx : r.2 c = q.2 e
    · have e0 : (g && alk (c :: suf) (e :: sufe) r.2 q.2) = (g && alk suf sufe r.2 q.2) := by
        show (g && (decide (r.2 c = q.2 e) && alk suf sufe r.2 q.2)) = _
        rw [decide_eq_true hx, Bool.true_and]
      rw [e0] at H
      refine w_p (pc1 := 18) rfl rfl ?_
      refine w_p (pc1 := 19) rfl rfl ?_
      refine w_m0 (pc1 := 22) (st1 := .int (nI ((rCs u).length)) :: _) rfl rfl (x_gf (k := k0) rfl U.1 rfl) rfl ?_
      refine w_f (a := 91) (b := 25) (bN_ge_f (a := pre.length) (b := (rCs u).length) (by omega) (by omega) (by omega)) rfl rfl ?_
      refine w_p (pc1 := 27) rfl rfl ?_
      refine w_p (pc1 := 28) rfl rfl ?_
      refine w_m0 (pc1 := 31) (st1 := .ref (241 + kc) :: _) rfl rfl (x_gf (k := k0) rfl U.1 rfl) rfl ?_
      refine w_m0 (pc1 := 32) (st1 := .int (nI (6)) :: _) rfl rfl (x_ln (k := kc) U.2.1 (by decide)) rfl ?_
      refine w_f (a := 91) (b := 35) (bN_ge_f (a := pre.length) (b := 6) (by omega) (by omega) (by omega)) rfl rfl ?_
      refine w_p (pc1 := 37) rfl rfl ?_
      refine w_p (pc1 := 39) rfl rfl ?_
      refine w_m0 (pc1 := 40) (st1 := .int (nI (6)) :: _) rfl rfl (x_ln (k := ke) hE (by decide)) rfl ?_
      refine w_f (a := 91) (b := 43) (bN_ge_f (a := pre.length) (b := 6) (by omega) (by omega) (by omega)) rfl rfl ?_
      refine w_p (pc1 := 45) rfl rfl ?_
      refine w_p (pc1 := 46) rfl rfl ?_
      refine w_p (pc1 := 47) rfl rfl ?_
      refine w_m0 (pc1 := 50) (st1 := .int (nI (rTb u)) :: _) rfl rfl (x_gf (k := k0) rfl U.1 rfl) rfl ?_
      refine w_p (pc1 := 51) rfl rfl ?_
      refine w_p (pc1 := 52) rfl rfl ?_
      refine w_m0 (pc1 := 55) (st1 := .ref (241 + kc) :: _) rfl rfl (x_gf (k := k0) rfl U.1 rfl) rfl ?_
      refine w_p (pc1 := 57) rfl rfl ?_
      refine w_m0 (pc1 := 58) (st1 := .int (nI (c)) :: _) rfl rfl (x_ile (k := kc) (e := pre.length) U.2.1 (by omega) (by omega) (hf)) rfl ?_
      refine w_je (pc1 := 61) (vs := [.ref 113, .int (nI (rTb u)), .int (nI (k)), .int (nI (c))]) (rest := [.int (ck g)]) (st1 := [.long (e_V (r.2 c)), .int (ck g)]) (hm) rfl rfl rfl (fun _ _ => rfl) rfl (by exact cl_v my_140 rfl rfl rfl (Nat.le_of_ble_eq_true rfl) rfl (MH_obj rfl rfl) rfl (by decide) rfl rfl) (by rfl) (Nat.le_of_ble_eq_true rfl) (Nat.le_of_ble_eq_true rfl) rfl (by rfl) ?_
      refine w_p (pc1 := 62) rfl rfl ?_
      refine w_p (pc1 := 63) rfl rfl ?_
      refine w_p (pc1 := 65) rfl rfl ?_
      refine w_p (pc1 := 67) rfl rfl ?_
      refine w_p (pc1 := 69) rfl rfl ?_
      refine w_m0 (pc1 := 70) (st1 := .int (nI (e)) :: _) rfl rfl (x_ile (k := ke) (e := pre.length) hE (by omega) (by omega) (hf2)) rfl ?_
      refine w_je (pc1 := 73) (vs := [.ref 113, .int (nI (b)), .int (nI (j)), .int (nI (e))]) (rest := [.long (e_V (r.2 c)), .int (ck g)]) (st1 := [.long (e_V (q.2 e)), .long (e_V (r.2 c)), .int (ck g)]) (hm2) rfl rfl rfl (fun _ _ => rfl) rfl (by exact cl_v my_140 rfl rfl rfl (Nat.le_of_ble_eq_true rfl) rfl (MH_obj rfl rfl) rfl (by decide) rfl rfl) (by rfl) (Nat.le_of_ble_eq_true rfl) (Nat.le_of_ble_eq_true rfl) rfl (by rfl) ?_
      refine w_p (pc1 := 74) rfl rfl ?_
      refine w_f (a := 81) (b := 77) (lb_ne_f (by rw [hx])) rfl rfl ?_
      refine w_p (pc1 := 78) (st1 := .int 1 :: _) rfl rfl ?_
      refine w_p (pc1 := 82) rfl rfl ?_
      refine w_iand (pc1 := 83) (z := ck g) rfl (by cases g <;> rfl) rfl ?_
      refine w_p (pc1 := 85) (al1 := [(7, .int (ck g)), (8, .int (nI (pre.length))), (6, .int (nI (j))), (0, .ref (241 + k0)), (1, .ref 113), (2, .int (nI (k))), (3, .int (nI (b))), (4, .ref (241 + ke)), (5, .int (nI (n)))]) rfl rfl ?_
      refine w_iinc (pc1 := 88) (u := nI (pre.length)) (z := nI (pre.length + 1)) (al1 := [(8, .int (nI (pre.length + 1))), (7, .int (ck g)), (6, .int (nI (j))), (0, .ref (241 + k0)), (1, .ref 113), (2, .int (nI (k))), (3, .int (nI (b))), (4, .ref (241 + ke)), (5, .int (nI (n)))]) rfl rfl rfl nK_1 rfl rfl ?_
      refine w_p (pc1 := 16) rfl rfl ?_
      exact ih g H
    · have e0 : (g && alk (c :: suf) (e :: sufe) r.2 q.2) = (false && alk suf sufe r.2 q.2) := by
        show (g && (decide (r.2 c = q.2 e) && alk suf sufe r.2 q.2)) = _
        rw [decide_eq_false hx]
        cases g <;> rfl
      rw [e0] at H
      refine w_p (pc1 := 18) rfl rfl ?_
      refine w_p (pc1 := 19) rfl rfl ?_
      refine w_m0 (pc1 := 22) (st1 := .int (nI ((rCs u).length)) :: _) rfl rfl (x_gf (k := k0) rfl U.1 rfl) rfl ?_
      refine w_f (a := 91) (b := 25) (bN_ge_f (a := pre.length) (b := (rCs u).length) (by omega) (by omega) (by omega)) rfl rfl ?_
      refine w_p (pc1 := 27) rfl rfl ?_
      refine w_p (pc1 := 28) rfl rfl ?_
      refine w_m0 (pc1 := 31) (st1 := .ref (241 + kc) :: _) rfl rfl (x_gf (k := k0) rfl U.1 rfl) rfl ?_
      refine w_m0 (pc1 := 32) (st1 := .int (nI (6)) :: _) rfl rfl (x_ln (k := kc) U.2.1 (by decide)) rfl ?_
      refine w_f (a := 91) (b := 35) (bN_ge_f (a := pre.length) (b := 6) (by omega) (by omega) (by omega)) rfl rfl ?_
      refine w_p (pc1 := 37) rfl rfl ?_
      refine w_p (pc1 := 39) rfl rfl ?_
      refine w_m0 (pc1 := 40) (st1 := .int (nI (6)) :: _) rfl rfl (x_ln (k := ke) hE (by decide)) rfl ?_
      refine w_f (a := 91) (b := 43) (bN_ge_f (a := pre.length) (b := 6) (by omega) (by omega) (by omega)) rfl rfl ?_
      refine w_p (pc1 := 45) rfl rfl ?_
      refine w_p (pc1 := 46) rfl rfl ?_
      refine w_p (pc1 := 47) rfl rfl ?_
      refine w_m0 (pc1 := 50) (st1 := .int (nI (rTb u)) :: _) rfl rfl (x_gf (k := k0) rfl U.1 rfl) rfl ?_
      refine w_p (pc1 := 51) rfl rfl ?_
      refine w_p (pc1 := 52) rfl rfl ?_
      refine w_m0 (pc1 := 55) (st1 := .ref (241 + kc) :: _) rfl rfl (x_gf (k := k0) rfl U.1 rfl) rfl ?_
      refine w_p (pc1 := 57) rfl rfl ?_
      refine w_m0 (pc1 := 58) (st1 := .int (nI (c)) :: _) rfl rfl (x_ile (k := kc) (e := pre.length) U.2.1 (by omega) (by omega) (hf)) rfl ?_
      refine w_je (pc1 := 61) (vs := [.ref 113, .int (nI (rTb u)), .int (nI (k)), .int (nI (c))]) (rest := [.int (ck g)]) (st1 := [.long (e_V (r.2 c)), .int (ck g)]) (hm) rfl rfl rfl (fun _ _ => rfl) rfl (by exact cl_v my_140 rfl rfl rfl (Nat.le_of_ble_eq_true rfl) rfl (MH_obj rfl rfl) rfl (by decide) rfl rfl) (by rfl) (Nat.le_of_ble_eq_true rfl) (Nat.le_of_ble_eq_true rfl) rfl (by rfl) ?_
      refine w_p (pc1 := 62) rfl rfl ?_
      refine w_p (pc1 := 63) rfl rfl ?_
      refine w_p (pc1 := 65) rfl rfl ?_
      refine w_p (pc1 := 67) rfl rfl ?_
      refine w_p (pc1 := 69) rfl rfl ?_
      refine w_m0 (pc1 := 70) (st1 := .int (nI (e)) :: _) rfl rfl (x_ile (k := ke) (e := pre.length) hE (by omega) (by omega) (hf2)) rfl ?_
      refine w_je (pc1 := 73) (vs := [.ref 113, .int (nI (b)), .int (nI (j)), .int (nI (e))]) (rest := [.long (e_V (r.2 c)), .int (ck g)]) (st1 := [.long (e_V (q.2 e)), .long (e_V (r.2 c)), .int (ck g)]) (hm2) rfl rfl rfl (fun _ _ => rfl) rfl (by exact cl_v my_140 rfl rfl rfl (Nat.le_of_ble_eq_true rfl) rfl (MH_obj rfl rfl) rfl (by decide) rfl rfl) (by rfl) (Nat.le_of_ble_eq_true rfl) (Nat.le_of_ble_eq_true rfl) rfl (by rfl) ?_
      refine w_p (pc1 := 74) rfl rfl ?_
      refine w_t (a := 81) (b := 77) (lb_ne_t (by exact fun z => hx (e_V_inj z))) rfl rfl ?_
      refine w_p (pc1 := 82) (st1 := .int 0 :: _) rfl rfl ?_
      refine w_iand (pc1 := 83) (z := ck false) rfl (by cases g <;> rfl) rfl ?_
      refine w_p (pc1 := 85) (al1 := [(7, .int (ck false)), (8, .int (nI (pre.length))), (6, .int (nI (j))), (0, .ref (241 + k0)), (1, .ref 113), (2, .int (nI (k))), (3, .int (nI (b))), (4, .ref (241 + ke)), (5, .int (nI (n)))]) rfl rfl ?_
      refine w_iinc (pc1 := 88) (u := nI (pre.length)) (z := nI (pre.length + 1)) (al1 := [(8, .int (nI (pre.length + 1))), (7, .int (ck false)), (6, .int (nI (j))), (0, .ref (241 + k0)), (1, .ref 113), (2, .int (nI (k))), (3, .int (nI (b))), (4, .ref (241 + ke)), (5, .int (nI (n)))]) rfl rfl rfl nK_1 rfl rfl ?_
      refine w_p (pc1 := 16) rfl rfl ?_
      exact ih false H
set_option maxRecDepth 100000 in
theorem lp_148 {ke n : Nat} {fe : Nat → Int32} {es : List Nat} (W : RWK C wd rs) (U : RUo t k0 kc kt u fc ft vc) (hE : t[ke]? = some (.inl (0, 6, .inl fe))) (he : arI fe 0 es) (hl : es.length = (rCs u).length) (hb : rTb u < 6) (hb2 : b < 6) (h6 : (rCs u).length ≤ 6) (hc : ∀ c, c ∈ rCs u → c < wd (rTb u)) (hc2 : ∀ c, c ∈ es → c < wd b) (hr : (rs (rTb u)).1[k]? = some r) (hn : n ≤ (rs b).1.length) : ∀ (suf pre : List ro_T), pre ++ suf = (rs b).1.take n → Wd L xs (d + 2) y_148 (3, [(6, .int (nI (pre.length))), (0, .ref (241 + k0)), (1, .ref 113), (2, .int (nI (k))), (3, .int (nI (b))), (4, .ref (241 + ke)), (5, .int (nI (n)))], [], MH C t, sl) (Rt (some (.int (ck (suf.any (fun q => alk (rCs u) es r.2 q.2))))) (MH C t) sl) nX
  | [], pre, hp => by
    rw [List.append_nil] at hp
    have hll := congrArg List.length hp
    rw [List.length_take] at hll
    have h41 := (W _ hb2).2.2.1
    refine w_p (pc1 := 5) rfl rfl ?_
    refine w_p (pc1 := 7) rfl rfl ?_
    refine w_t (a := 104) (b := 10) (bN_ge_t (a := pre.length) (b := n) (by omega) (by omega) (by omega)) rfl rfl ?_
    refine w_p (pc1 := 105) (st1 := .int 0 :: _) rfl rfl ?_
    refine w_r rfl rfl rfl (fun _ _ => rfl) rfl ?_
    exact ⟨rfl, rfl, rfl⟩
  | q :: suf, pre, hp => by
    obtain ⟨h1, h2, h3⟩ := get_ap hp
    have h41 := (W _ hb2).2.2.1
    rw [List.length_take] at h2
    have hq : (rs b).1[pre.length]? = some q := by
      rw [List.getElem?_take] at h1
      split at h1
      · exact h1
      · cases h1
    have ih := lp_148 W U hE he hl hb hb2 h6 hc hc2 hr hn suf (pre ++ [q]) h3
    rw [len_s] at ih
    rw [List.any_cons]
    cases hx : alk (rCs u) es r.2 q.2 with
    | true =>
      refine w_p (pc1 := 5) rfl rfl ?_
      refine w_p (pc1 := 7) rfl rfl ?_
      refine w_f (a := 104) (b := 10) (bN_ge_f (a := pre.length) (b := n) (by omega) (by omega) (by omega)) rfl rfl ?_
      refine w_p (pc1 := 11) (st1 := .int 1 :: _) rfl rfl ?_
      refine w_p (pc1 := 13) (al1 := [(7, .int 1), (6, .int (nI (pre.length))), (0, .ref (241 + k0)), (1, .ref 113), (2, .int (nI (k))), (3, .int (nI (b))), (4, .ref (241 + ke)), (5, .int (nI (n)))]) rfl rfl ?_
      refine w_p (pc1 := 14) (st1 := .int 0 :: _) rfl rfl ?_
      refine w_p (pc1 := 16) (al1 := [(8, .int 0), (7, .int 1), (6, .int (nI (pre.length))), (0, .ref (241 + k0)), (1, .ref 113), (2, .int (nI (k))), (3, .int (nI (b))), (4, .ref (241 + ke)), (5, .int (nI (n)))]) rfl rfl ?_
      refine lp_148i W U hE he hl hb hb2 h6 hc hc2 hr hq (rCs u) [] es [] true rfl rfl rfl ?_
      rw [hx]
      refine w_p (pc1 := 93) rfl rfl ?_
      refine w_f (a := 98) (b := 96) rfl rfl rfl ?_
      refine w_p (pc1 := 97) (st1 := .int 1 :: _) rfl rfl ?_
      refine w_r rfl rfl rfl (fun _ _ => rfl) rfl ?_
      exact ⟨rfl, rfl, rfl⟩
    | false =>
      refine w_p (pc1 := 5) rfl rfl ?_
      refine w_p (pc1 := 7) rfl rfl ?_
      refine w_f (a := 104) (b := 10) (bN_ge_f (a := pre.length) (b := n) (by omega) (by omega) (by omega)) rfl rfl ?_
      refine w_p (pc1 := 11) (st1 := .int 1 :: _) rfl rfl ?_
      refine w_p (pc1 := 13) (al1 := [(7, .int 1), (6, .int (nI (pre.length))), (0, .ref (241 + k0)), (1, .ref 113), (2, .int (nI (k))), (3, .int (nI (b))), (4, .ref (241 + ke)), (5, .int (nI (n)))]) rfl rfl ?_
      refine w_p (pc1 := 14) (st1 := .int 0 :: _) rfl rfl ?_
      refine w_p (pc1 := 16) (al1 := [(8, .int 0), (7, .int 1), (6, .int (nI (pre.length))), (0, .ref (241 + k0)), (1, .ref 113), (2, .int (nI (k))), (3, .int (nI (b))), (4, .ref (241 + ke)), (5, .int (nI (n)))]) rfl rfl ?_
      refine lp_148i W U hE he hl hb hb2 h6 hc hc2 hr hq (rCs u) [] es [] true rfl rfl rfl ?_
      rw [hx]
      refine w_p (pc1 := 93) rfl rfl ?_
      refine w_t (a := 98) (b := 96) rfl rfl rfl ?_
      refine w_iinc (pc1 := 101) (u := nI (pre.length)) (z := nI (pre.length + 1)) (al1 := [(6, .int (nI (pre.length + 1))), (7, .int 0), (0, .ref (241 + k0)), (1, .ref 113), (2, .int (nI (k))), (3, .int (nI (b))), (4, .ref (241 + ke)), (5, .int (nI (n)))]) rfl rfl rfl nK_1 rfl rfl ?_
      refine w_p (pc1 := 3) rfl rfl ?_
      refine Wd_al (al := [(6, .int (nI (pre.length + 1))), (0, .ref (241 + k0)), (1, .ref 113), (2, .int (nI (k))), (3, .int (nI (b))), (4, .ref (241 + ke)), (5, .int (nI (n)))]) (sba_p [0, 2, 3, 4, 5, 6, 7] rfl rfl) ?_
      exact ih
set_option maxRecDepth 100000 in
theorem m_148 {ke n : Nat} {fe : Nat → Int32} {es : List Nat} (W : RWK C wd rs) (U : RUo t k0 kc kt u fc ft vc) (hE : t[ke]? = some (.inl (0, 6, .inl fe))) (he : arI fe 0 es) (hl : es.length = (rCs u).length) (hb : rTb u < 6) (hb2 : b < 6) (h6 : (rCs u).length ≤ 6) (hc : ∀ c, c ∈ rCs u → c < wd (rTb u)) (hc2 : ∀ c, c ∈ es → c < wd b) (hr : (rs (rTb u)).1[k]? = some r) (hn : n ≤ (rs b).1.length) : Wd L xs (d + 2) y_148 (0, [(0, .ref (241 + k0)), (1, .ref 113), (2, .int (nI (k))), (3, .int (nI (b))), (4, .ref (241 + ke)), (5, .int (nI (n)))], [], MH C t, sl) (Rt (some (.int (ck (((rs b).1.take n).any (fun q => alk (rCs u) es r.2 q.2))))) (MH C t) sl) nX := by
  refine w_p (pc1 := 1) (st1 := .int 0 :: _) rfl rfl ?_
  refine w_p (pc1 := 3) (al1 := [(6, .int 0), (0, .ref (241 + k0)), (1, .ref 113), (2, .int (nI (k))), (3, .int (nI (b))), (4, .ref (241 + ke)), (5, .int (nI (n)))]) rfl rfl ?_
  exact lp_148 W U hE he hl hb hb2 h6 hc hc2 hr hn ((rs b).1.take n) [] rfl
end KRU
