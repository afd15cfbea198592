/-! ONE SIDE WORKS A FORMULA OUT: the loop -/
def FO (t : ab_H) (k k1 k2 k3 : Nat) (O : List op_T) (c : Int32) (s : Nat → Int64) : Prop := t[k]? = some (.inr (8, [.ref (241 + k1), .ref (241 + k2), .int c, .ref (241 + k3)])) ∧ (∃ f, t[k1]? = some (.inl (0, O.length, .inl f)) ∧ ∀ (j : Nat) (q : op_T), O[j]? = some q → f j = q.1) ∧ (∃ f, t[k2]? = some (.inl (0, O.length, .inl f)) ∧ ∀ (j : Nat) (q : op_T), O[j]? = some q → f j = q.2) ∧ t[k3]? = some (.inl (1, O.length, .inr (.inl s)))
/-! the stack's cells -/
def skR (s : Nat → Int64) : List tv_T → Prop
  | [] => True
  | v :: r => s r.length = v_K v ∧ skR s r
def sCell (n : Nat) (s : Nat → Int64) : ab_C := .inl (1, n, .inr (.inl s))
set_option maxRecDepth 100000 in
theorem skR_u {s : Nat → Int64} {j : Nat} {x : Int64} : ∀ {r : List tv_T}, skR s r → r.length ≤ j → skR (vp_updL s j x) r
  | [], _, _ => trivial
  | v :: r, h, hj => by
    have hj : r.length + 1 ≤ j := hj
    refine ⟨?_, skR_u h.2 (by omega)⟩
    show (if r.length = j then x else s r.length) = _
    rw [if_neg (by omega)]
    exact h.1
set_option maxRecDepth 100000 in
theorem upd_s {s : Nat → Int64} {j : Nat} {x : Int64} : vp_updL s j x j = x := by
  show (if j = j then x else s j) = x
  rw [if_pos rfl]
set_option maxRecDepth 100000 in
theorem FO_s {t : ab_H} {k k1 k2 k3 : Nat} {O : List op_T} {c : Int32} {s : Nat → Int64} (F : FO t k k1 k2 k3 O c s) (s' : Nat → Int64) : FO (t.set k3 (sCell O.length s')) k k1 k2 k3 O c s' := by
  obtain ⟨hO, ⟨f, hA, hf⟩, ⟨g, hB, hg⟩, hS⟩ := F
  refine ⟨tl_set hO (tl_ne hO hS (by intro e; cases e)), ⟨f, tl_set hA (tl_ne hA hS (by intro e; cases e)), hf⟩, ⟨g, tl_set hB (tl_ne hB hS (by intro e; cases e)), hg⟩, tl_self hS⟩
/-! what the formula's names stand for -/
def envK (C : co_T) (p : Nat) (vN vO : Value) (w1 w2 w3 : Nat) (R N O : rw_F) : Prop := (p + w1 ≤ 1440 ∧ ∀ c, c < w1 → C.2.1 14 (p + c) = e_V (R c)) ∧ (0 < w2 → ∃ k l, vN = .ref (k + 100) ∧ SK[k]? = some (1, 1, 6, l) ∧ w2 ≤ 6 ∧ ∀ c, c < w2 → C.2.1 k c = e_V (N c)) ∧ (0 < w3 → ∃ k l, vO = .ref (k + 100) ∧ SK[k]? = some (1, 1, 6, l) ∧ w3 ≤ 6 ∧ ∀ c, c < w3 → C.2.1 k c = e_V (O c))
def rsK (r : Option (List tv_T)) : Int64 := match r with
  | none => -9223372036854775807
  | some st => match st with
    | [] => -9223372036854775808
    | v :: _ => v_K v
def WK (C : co_T) (t : ab_H) (k3 n sl : Nat) (r : Option (List tv_T)) : Option Value → ab_H → Nat → Prop := fun v h m => ∃ s', some (.long (rsK r)) = v ∧ MH C (t.set k3 (sCell n s')) = h ∧ sl = m
set_option maxRecDepth 100000 in
theorem tl_id {t : ab_H} {k : Nat} {c : ab_C} (h : t[k]? = some c) : t.set k c = t := by
  apply List.ext_getElem?
  intro j
  by_cases e : k = j
  · subst e
    rw [tl_self h, h]
  · rw [List.getElem?_set_ne e]
section WKL
variable {L : Nat} {xs : Nat → Int32} {C : co_T} {t0 : ab_H} {d sl k k1 k2 k3 p w1 w2 w3 kN kO : Nat} {R N O : rw_F} {g : Bool} {Q : List op_T} {s0 : Nat → Int64}
set_option maxRecDepth 100000 in
theorem lp_112n (F0 : FO t0 k k1 k2 k3 Q (ck g) s0) (h6 : Q.length ≤ 600) (hE : envK C p .null .null w1 w2 w3 R N O) : ∀ (l pre : List op_T) (st : List tv_T) (s : Nat → Int64), pre ++ l = Q → (∃ b, t_l w1 w2 w3 l (st.map tyv) = some [b]) → st.length ≤ pre.length → skR s st → Wd L xs (d + 3) y_112 (6, [(6, .int (nI (pre.length))), (5, .int (nI (st.length))), (0, .ref (241 + k)), (1, .ref 114), (2, .int (nI (p))), (3, .null), (4, .null)], [], MH C (t0.set k3 (sCell Q.length s)), sl) (WK C t0 k3 Q.length sl (f_l g R N O l st)) nX
  | [], pre, st, s, hQ, ht, hp, hs => by
    rw [List.append_nil] at hQ
    subst hQ
    obtain ⟨hO, ⟨fa, hA, hfa⟩, ⟨fb, hB, hfb⟩, hS⟩ := FO_s F0 s
    obtain ⟨b, hb⟩ := ht
    have hb : some (st.map tyv) = some [b] := hb
    cases st with
    | nil => cases hb
    | cons v r =>
      cases r with
      | cons u r => cases hb
      | nil =>
        have hs1 : s 0 = v_K v := hs.1
        show Wd _ _ _ _ _ (WK C t0 k3 pre.length sl (some [v])) _
        refine w_p (pc1 := 8) rfl rfl ?_
        refine w_p (pc1 := 9) rfl rfl ?_
        refine w_m0 (pc1 := 12) (st1 := .ref (241 + k1) :: _) rfl rfl (x_gf (k := k) rfl hO rfl) rfl ?_
        refine w_m0 (pc1 := 13) (st1 := .int (nI (pre.length)) :: _) rfl rfl (x_ln (k := k1) hA (by decide)) rfl ?_
        refine w_t (a := 199) (b := 16) (bN_ge_t (a := pre.length) (b := pre.length) (by omega) (by omega) (by omega)) rfl rfl ?_
        refine w_p (pc1 := 201) rfl rfl ?_
        refine w_p (pc1 := 202) (st1 := .int 1 :: _) rfl rfl ?_
        refine w_t (a := 211) (b := 205) (bN_ge_t (a := 1) (b := 1) (by omega) (by omega) (by omega)) rfl rfl ?_
        refine w_p (pc1 := 212) rfl rfl ?_
        refine w_m0 (pc1 := 215) (st1 := .ref (241 + k3) :: _) rfl rfl (x_gf (k := k) rfl hO rfl) rfl ?_
        refine w_p (pc1 := 216) (st1 := .int 0 :: _) rfl rfl ?_
        refine w_m0 (pc1 := 217) (st1 := .long (v_K v) :: _) rfl rfl (x_lle (k := k3) (e := 0) hS (by omega) (by (have : 1 ≤ pre.length := hp; omega)) (hs1)) rfl ?_
        refine w_r rfl rfl rfl (fun _ _ => rfl) rfl ?_
        exact ⟨s, rfl, rfl, rfl⟩
  | q :: l, pre, st, s, hQ, ht, hp, hs => by
    have hq : Q[pre.length]? = some q := by
      rw [← hQ, List.getElem?_append_right (Nat.le_refl _), Nat.sub_self]
      rfl
    have hlt : pre.length < Q.length := (List.getElem?_eq_some_iff.mp hq).1
    have hQ2 : (pre ++ [q]) ++ l = Q := by rw [← hQ, List.append_assoc]; rfl
    have hpl : (pre ++ [q]).length = pre.length + 1 := by rw [List.length_append, List.length_singleton]
    obtain ⟨hO, ⟨fa, hA, hfa⟩, ⟨fb, hB, hfb⟩, hS⟩ := FO_s F0 s
    have h1 := hfa _ _ hq
    have h2 := hfb _ _ hq
    obtain ⟨b, hb⟩ := ht
    replace hb : (t_1 w1 w2 w3 q (st.map tyv)).bind (t_l w1 w2 w3 l) = some [b] := hb
    cases hT : t_1 w1 w2 w3 q (st.map tyv) with
    | none => rw [hT] at hb; cases hb
    | some T1 =>
    rw [hT] at hb
    replace hb : t_l w1 w2 w3 l T1 = some [b] := hb
    have ih := lp_112n F0 h6 hE l (pre ++ [q])
    rw [hpl] at ih
    obtain ⟨a, cc⟩ := q
    show Wd _ _ _ _ _ (WK C t0 k3 Q.length sl ((f_1 g R N O (a, cc) st).bind (f_l g R N O l))) _
    have h1 : fa pre.length = a := h1
    have h2 : fb pre.length = cc := h2
    rcases t_1c hT with ⟨e1, e2⟩ | ⟨e1, e2⟩ | ⟨e1, e3, e2⟩ | ⟨e1, e3, e2⟩ | ⟨e1, e3, e2⟩ | ⟨r, er, hr⟩ | ⟨r, er, e1, e2⟩ | ⟨r, er, hr⟩ | ⟨r, er, hr, e2⟩
    · obtain rfl : a = 0 := e1
      subst e2
      rw [fo_0]
      show Wd _ _ _ _ _ (WK C t0 k3 Q.length sl (f_l g R N O l (.inl (some cc) :: st))) _
      refine w_p (pc1 := 8) rfl rfl ?_
      refine w_p (pc1 := 9) rfl rfl ?_
      refine w_m0 (pc1 := 12) (st1 := .ref (241 + k1) :: _) rfl rfl (x_gf (k := k) rfl hO rfl) rfl ?_
      refine w_m0 (pc1 := 13) (st1 := .int (nI (Q.length)) :: _) rfl rfl (x_ln (k := k1) hA (by decide)) rfl ?_
      refine w_f (a := 199) (b := 16) (bN_ge_f (a := pre.length) (b := Q.length) (by omega) (by omega) (by omega)) rfl rfl ?_
      refine w_p (pc1 := 18) rfl rfl ?_
      refine w_p (pc1 := 19) rfl rfl ?_
      refine w_m0 (pc1 := 22) (st1 := .ref (241 + k2) :: _) rfl rfl (x_gf (k := k) rfl hO rfl) rfl ?_
      refine w_m0 (pc1 := 23) (st1 := .int (nI (Q.length)) :: _) rfl rfl (x_ln (k := k2) hB (by decide)) rfl ?_
      refine w_f (a := 199) (b := 26) (bN_ge_f (a := pre.length) (b := Q.length) (by omega) (by omega) (by omega)) rfl rfl ?_
      refine w_p (pc1 := 27) rfl rfl ?_
      refine w_m0 (pc1 := 30) (st1 := .ref (241 + k1) :: _) rfl rfl (x_gf (k := k) rfl hO rfl) rfl ?_
      refine w_p (pc1 := 32) rfl rfl ?_
      refine w_m0 (pc1 := 33) (st1 := .int 0 :: _) rfl rfl (x_ile (k := k1) (e := pre.length) hA (by omega) (by omega) (h1)) rfl ?_
      refine w_p (pc1 := 35) (al1 := [(7, .int 0), (6, .int (nI (pre.length))), (5, .int (nI (st.length))), (0, .ref (241 + k)), (1, .ref 114), (2, .int (nI (p))), (3, .null), (4, .null)]) rfl rfl ?_
      refine w_p (pc1 := 37) rfl rfl ?_
      refine w_p (pc1 := 38) (st1 := .int 4 :: _) rfl rfl ?_
      refine w_f (a := 86) (b := 41) rfl rfl rfl ?_
      refine w_p (pc1 := 43) rfl rfl ?_
      refine w_p (pc1 := 44) rfl rfl ?_
      refine w_m0 (pc1 := 47) (st1 := .ref (241 + k3) :: _) rfl rfl (x_gf (k := k) rfl hO rfl) rfl ?_
      refine w_m0 (pc1 := 48) (st1 := .int (nI (Q.length)) :: _) rfl rfl (x_ln (k := k3) hS (by decide)) rfl ?_
      refine w_t (a := 55) (b := 51) (bN_lt_t (a := st.length) (b := Q.length) (by omega) (by omega) (by omega)) rfl rfl ?_
      refine w_p (pc1 := 56) rfl rfl ?_
      refine w_m0 (pc1 := 59) (st1 := .ref (241 + k3) :: _) rfl rfl (x_gf (k := k) rfl hO rfl) rfl ?_
      refine w_p (pc1 := 61) rfl rfl ?_
      refine w_p (pc1 := 62) rfl rfl ?_
      refine w_p (pc1 := 64) rfl rfl ?_
      refine w_p (pc1 := 65) rfl rfl ?_
      refine w_m0 (pc1 := 68) (st1 := .ref (241 + k2) :: _) rfl rfl (x_gf (k := k) rfl hO rfl) rfl ?_
      refine w_p (pc1 := 70) rfl rfl ?_
      refine w_m0 (pc1 := 71) (st1 := .int (cc) :: _) rfl rfl (x_ile (k := k2) (e := pre.length) hB (by omega) (by omega) (h2)) rfl ?_
      refine w_p (pc1 := 72) rfl rfl ?_
      refine w_p (pc1 := 73) rfl rfl ?_
      refine w_p (pc1 := 74) rfl rfl ?_
      refine w_p (pc1 := 76) rfl rfl ?_
      refine w_je (pc1 := 79) (vs := [.ref (241 + k), .int 0, .int (cc), .ref 114, .int (nI (p)), .null, .null]) (rest := [.int (nI (st.length)), .ref (241 + k3)]) (st1 := [.long (v_K (.inl (some cc))), .int (nI (st.length)), .ref (241 + k3)]) (m_113_0 (d := d + 1) (sl := 0)) rfl rfl rfl (fun _ _ => rfl) rfl (by exact cl_v my_113 rfl rfl rfl (Nat.le_of_ble_eq_true rfl) rfl (x_obj hO) rfl (by decide) rfl rfl) (by rfl) (Nat.le_of_ble_eq_true rfl) (Nat.le_of_ble_eq_true rfl) rfl (by rfl) ?_
      refine w_m0 (pc1 := 80) rfl rfl (x_ls (k := k3) (e := st.length) hS (by omega) (by omega)) rfl ?_
      rw [show (t0.set k3 (sCell Q.length s)).set k3 (Sum.inl (1, Q.length, Sum.inr (Sum.inl (vp_updL s st.length (v_K (.inl (some cc))))))) = t0.set k3 (sCell Q.length (vp_updL s st.length (v_K (.inl (some cc))))) from List.set_set _]
      refine w_iinc (pc1 := 83) (u := nI (st.length)) (z := nI (st.length + 1)) (al1 := [(5, .int (nI (st.length + 1))), (7, .int 0), (6, .int (nI (pre.length))), (0, .ref (241 + k)), (1, .ref 114), (2, .int (nI (p))), (3, .null), (4, .null)]) rfl rfl rfl nK_1 rfl rfl ?_
      refine w_p (pc1 := 193) rfl rfl ?_
      refine w_iinc (pc1 := 196) (u := nI (pre.length)) (z := nI (pre.length + 1)) (al1 := [(6, .int (nI (pre.length + 1))), (5, .int (nI (st.length + 1))), (7, .int 0), (0, .ref (241 + k)), (1, .ref 114), (2, .int (nI (p))), (3, .null), (4, .null)]) rfl rfl rfl nK_1 rfl rfl ?_
      refine w_p (pc1 := 6) rfl rfl ?_
      refine Wd_al (al := [(6, .int (nI (pre.length + 1))), (5, .int (nI (st.length + 1))), (0, .ref (241 + k)), (1, .ref 114), (2, .int (nI (p))), (3, .null), (4, .null)]) (sba_p [0, 1, 3, 4, 5, 6, 7] rfl rfl) ?_
      exact ih (.inl (some cc) :: st) _ hQ2 ⟨b, hb⟩ (Nat.succ_le_succ hp) ⟨upd_s, skR_u hs (Nat.le_refl _)⟩
    · obtain rfl : a = 1 := e1
      subst e2
      rw [fo_1]
      show Wd _ _ _ _ _ (WK C t0 k3 Q.length sl (f_l g R N O l (.inl none :: st))) _
      refine w_p (pc1 := 8) rfl rfl ?_
      refine w_p (pc1 := 9) rfl rfl ?_
      refine w_m0 (pc1 := 12) (st1 := .ref (241 + k1) :: _) rfl rfl (x_gf (k := k) rfl hO rfl) rfl ?_
      refine w_m0 (pc1 := 13) (st1 := .int (nI (Q.length)) :: _) rfl rfl (x_ln (k := k1) hA (by decide)) rfl ?_
      refine w_f (a := 199) (b := 16) (bN_ge_f (a := pre.length) (b := Q.length) (by omega) (by omega) (by omega)) rfl rfl ?_
      refine w_p (pc1 := 18) rfl rfl ?_
      refine w_p (pc1 := 19) rfl rfl ?_
      refine w_m0 (pc1 := 22) (st1 := .ref (241 + k2) :: _) rfl rfl (x_gf (k := k) rfl hO rfl) rfl ?_
      refine w_m0 (pc1 := 23) (st1 := .int (nI (Q.length)) :: _) rfl rfl (x_ln (k := k2) hB (by decide)) rfl ?_
      refine w_f (a := 199) (b := 26) (bN_ge_f (a := pre.length) (b := Q.length) (by omega) (by omega) (by omega)) rfl rfl ?_
      refine w_p (pc1 := 27) rfl rfl ?_
      refine w_m0 (pc1 := 30) (st1 := .ref (241 + k1) :: _) rfl rfl (x_gf (k := k) rfl hO rfl) rfl ?_
      refine w_p (pc1 := 32) rfl rfl ?_
      refine w_m0 (pc1 := 33) (st1 := .int 1 :: _) rfl rfl (x_ile (k := k1) (e := pre.length) hA (by omega) (by omega) (h1)) rfl ?_
      refine w_p (pc1 := 35) (al1 := [(7, .int 1), (6, .int (nI (pre.length))), (5, .int (nI (st.length))), (0, .ref (241 + k)), (1, .ref 114), (2, .int (nI (p))), (3, .null), (4, .null)]) rfl rfl ?_
      refine w_p (pc1 := 37) rfl rfl ?_
      refine w_p (pc1 := 38) (st1 := .int 4 :: _) rfl rfl ?_
      refine w_f (a := 86) (b := 41) rfl rfl rfl ?_
      refine w_p (pc1 := 43) rfl rfl ?_
      refine w_p (pc1 := 44) rfl rfl ?_
      refine w_m0 (pc1 := 47) (st1 := .ref (241 + k3) :: _) rfl rfl (x_gf (k := k) rfl hO rfl) rfl ?_
      refine w_m0 (pc1 := 48) (st1 := .int (nI (Q.length)) :: _) rfl rfl (x_ln (k := k3) hS (by decide)) rfl ?_
      refine w_t (a := 55) (b := 51) (bN_lt_t (a := st.length) (b := Q.length) (by omega) (by omega) (by omega)) rfl rfl ?_
      refine w_p (pc1 := 56) rfl rfl ?_
      refine w_m0 (pc1 := 59) (st1 := .ref (241 + k3) :: _) rfl rfl (x_gf (k := k) rfl hO rfl) rfl ?_
      refine w_p (pc1 := 61) rfl rfl ?_
      refine w_p (pc1 := 62) rfl rfl ?_
      refine w_p (pc1 := 64) rfl rfl ?_
      refine w_p (pc1 := 65) rfl rfl ?_
      refine w_m0 (pc1 := 68) (st1 := .ref (241 + k2) :: _) rfl rfl (x_gf (k := k) rfl hO rfl) rfl ?_
      refine w_p (pc1 := 70) rfl rfl ?_
      refine w_m0 (pc1 := 71) (st1 := .int (cc) :: _) rfl rfl (x_ile (k := k2) (e := pre.length) hB (by omega) (by omega) (h2)) rfl ?_
      refine w_p (pc1 := 72) rfl rfl ?_
      refine w_p (pc1 := 73) rfl rfl ?_
      refine w_p (pc1 := 74) rfl rfl ?_
      refine w_p (pc1 := 76) rfl rfl ?_
      refine w_je (pc1 := 79) (vs := [.ref (241 + k), .int 1, .int (cc), .ref 114, .int (nI (p)), .null, .null]) (rest := [.int (nI (st.length)), .ref (241 + k3)]) (st1 := [.long (v_K (.inl none)), .int (nI (st.length)), .ref (241 + k3)]) (m_113_1 (d := d + 1) (sl := 0)) rfl rfl rfl (fun _ _ => rfl) rfl (by exact cl_v my_113 rfl rfl rfl (Nat.le_of_ble_eq_true rfl) rfl (x_obj hO) rfl (by decide) rfl rfl) (by rfl) (Nat.le_of_ble_eq_true rfl) (Nat.le_of_ble_eq_true rfl) rfl (by rfl) ?_
      refine w_m0 (pc1 := 80) rfl rfl (x_ls (k := k3) (e := st.length) hS (by omega) (by omega)) rfl ?_
      rw [show (t0.set k3 (sCell Q.length s)).set k3 (Sum.inl (1, Q.length, Sum.inr (Sum.inl (vp_updL s st.length (v_K (.inl none)))))) = t0.set k3 (sCell Q.length (vp_updL s st.length (v_K (.inl none)))) from List.set_set _]
      refine w_iinc (pc1 := 83) (u := nI (st.length)) (z := nI (st.length + 1)) (al1 := [(5, .int (nI (st.length + 1))), (7, .int 1), (6, .int (nI (pre.length))), (0, .ref (241 + k)), (1, .ref 114), (2, .int (nI (p))), (3, .null), (4, .null)]) rfl rfl rfl nK_1 rfl rfl ?_
      refine w_p (pc1 := 193) rfl rfl ?_
      refine w_iinc (pc1 := 196) (u := nI (pre.length)) (z := nI (pre.length + 1)) (al1 := [(6, .int (nI (pre.length + 1))), (5, .int (nI (st.length + 1))), (7, .int 1), (0, .ref (241 + k)), (1, .ref 114), (2, .int (nI (p))), (3, .null), (4, .null)]) rfl rfl rfl nK_1 rfl rfl ?_
      refine w_p (pc1 := 6) rfl rfl ?_
      refine Wd_al (al := [(6, .int (nI (pre.length + 1))), (5, .int (nI (st.length + 1))), (0, .ref (241 + k)), (1, .ref 114), (2, .int (nI (p))), (3, .null), (4, .null)]) (sba_p [0, 1, 3, 4, 5, 6, 7] rfl rfl) ?_
      exact ih (.inl none :: st) _ hQ2 ⟨b, hb⟩ (Nat.succ_le_succ hp) ⟨upd_s, skR_u hs (Nat.le_refl _)⟩
    · obtain rfl : a = 2 := e1
      subst e2
      obtain ⟨e3, e4⟩ := e3
      rw [fo_2]
      generalize cc.toNatClampNeg = m at *
      subst e3
      have hv := hE.1.2 m e4
      have hlw := hE.1.1
      show Wd _ _ _ _ _ (WK C t0 k3 Q.length sl (f_l g R N O l (.inl (R m) :: st))) _
      have hm := m_113_2 (L := L) (xs := xs) (C := C) (t := t0.set k3 (sCell Q.length s)) (d := d + 1) (sl := 0) (n := 241 + k) (p := p) (c := m) (vc := .null) (vd := .null) (by omega)
      rw [hv] at hm
      refine w_p (pc1 := 8) rfl rfl ?_
      refine w_p (pc1 := 9) rfl rfl ?_
      refine w_m0 (pc1 := 12) (st1 := .ref (241 + k1) :: _) rfl rfl (x_gf (k := k) rfl hO rfl) rfl ?_
      refine w_m0 (pc1 := 13) (st1 := .int (nI (Q.length)) :: _) rfl rfl (x_ln (k := k1) hA (by decide)) rfl ?_
      refine w_f (a := 199) (b := 16) (bN_ge_f (a := pre.length) (b := Q.length) (by omega) (by omega) (by omega)) rfl rfl ?_
      refine w_p (pc1 := 18) rfl rfl ?_
      refine w_p (pc1 := 19) rfl rfl ?_
      refine w_m0 (pc1 := 22) (st1 := .ref (241 + k2) :: _) rfl rfl (x_gf (k := k) rfl hO rfl) rfl ?_
      refine w_m0 (pc1 := 23) (st1 := .int (nI (Q.length)) :: _) rfl rfl (x_ln (k := k2) hB (by decide)) rfl ?_
      refine w_f (a := 199) (b := 26) (bN_ge_f (a := pre.length) (b := Q.length) (by omega) (by omega) (by omega)) rfl rfl ?_
      refine w_p (pc1 := 27) rfl rfl ?_
      refine w_m0 (pc1 := 30) (st1 := .ref (241 + k1) :: _) rfl rfl (x_gf (k := k) rfl hO rfl) rfl ?_
      refine w_p (pc1 := 32) rfl rfl ?_
      refine w_m0 (pc1 := 33) (st1 := .int 2 :: _) rfl rfl (x_ile (k := k1) (e := pre.length) hA (by omega) (by omega) (h1)) rfl ?_
      refine w_p (pc1 := 35) (al1 := [(7, .int 2), (6, .int (nI (pre.length))), (5, .int (nI (st.length))), (0, .ref (241 + k)), (1, .ref 114), (2, .int (nI (p))), (3, .null), (4, .null)]) rfl rfl ?_
      refine w_p (pc1 := 37) rfl rfl ?_
      refine w_p (pc1 := 38) (st1 := .int 4 :: _) rfl rfl ?_
      refine w_f (a := 86) (b := 41) rfl rfl rfl ?_
      refine w_p (pc1 := 43) rfl rfl ?_
      refine w_p (pc1 := 44) rfl rfl ?_
      refine w_m0 (pc1 := 47) (st1 := .ref (241 + k3) :: _) rfl rfl (x_gf (k := k) rfl hO rfl) rfl ?_
      refine w_m0 (pc1 := 48) (st1 := .int (nI (Q.length)) :: _) rfl rfl (x_ln (k := k3) hS (by decide)) rfl ?_
      refine w_t (a := 55) (b := 51) (bN_lt_t (a := st.length) (b := Q.length) (by omega) (by omega) (by omega)) rfl rfl ?_
      refine w_p (pc1 := 56) rfl rfl ?_
      refine w_m0 (pc1 := 59) (st1 := .ref (241 + k3) :: _) rfl rfl (x_gf (k := k) rfl hO rfl) rfl ?_
      refine w_p (pc1 := 61) rfl rfl ?_
      refine w_p (pc1 := 62) rfl rfl ?_
      refine w_p (pc1 := 64) rfl rfl ?_
      refine w_p (pc1 := 65) rfl rfl ?_
      refine w_m0 (pc1 := 68) (st1 := .ref (241 + k2) :: _) rfl rfl (x_gf (k := k) rfl hO rfl) rfl ?_
      refine w_p (pc1 := 70) rfl rfl ?_
      refine w_m0 (pc1 := 71) (st1 := .int (nI (m)) :: _) rfl rfl (x_ile (k := k2) (e := pre.length) hB (by omega) (by omega) (h2)) rfl ?_
      refine w_p (pc1 := 72) rfl rfl ?_
      refine w_p (pc1 := 73) rfl rfl ?_
      refine w_p (pc1 := 74) rfl rfl ?_
      refine w_p (pc1 := 76) rfl rfl ?_
      refine w_je (pc1 := 79) (vs := [.ref (241 + k), .int 2, .int (nI (m)), .ref 114, .int (nI (p)), .null, .null]) (rest := [.int (nI (st.length)), .ref (241 + k3)]) (st1 := [.long (v_K (.inl (R m))), .int (nI (st.length)), .ref (241 + k3)]) (hm) rfl rfl rfl (fun _ _ => rfl) rfl (by exact cl_v my_113 rfl rfl rfl (Nat.le_of_ble_eq_true rfl) rfl (x_obj hO) rfl (by decide) rfl rfl) (by rfl) (Nat.le_of_ble_eq_true rfl) (Nat.le_of_ble_eq_true rfl) rfl (by rfl) ?_
      refine w_m0 (pc1 := 80) rfl rfl (x_ls (k := k3) (e := st.length) hS (by omega) (by omega)) rfl ?_
      rw [show (t0.set k3 (sCell Q.length s)).set k3 (Sum.inl (1, Q.length, Sum.inr (Sum.inl (vp_updL s st.length (v_K (.inl (R m))))))) = t0.set k3 (sCell Q.length (vp_updL s st.length (v_K (.inl (R m))))) from List.set_set _]
      refine w_iinc (pc1 := 83) (u := nI (st.length)) (z := nI (st.length + 1)) (al1 := [(5, .int (nI (st.length + 1))), (7, .int 2), (6, .int (nI (pre.length))), (0, .ref (241 + k)), (1, .ref 114), (2, .int (nI (p))), (3, .null), (4, .null)]) rfl rfl rfl nK_1 rfl rfl ?_
      refine w_p (pc1 := 193) rfl rfl ?_
      refine w_iinc (pc1 := 196) (u := nI (pre.length)) (z := nI (pre.length + 1)) (al1 := [(6, .int (nI (pre.length + 1))), (5, .int (nI (st.length + 1))), (7, .int 2), (0, .ref (241 + k)), (1, .ref 114), (2, .int (nI (p))), (3, .null), (4, .null)]) rfl rfl rfl nK_1 rfl rfl ?_
      refine w_p (pc1 := 6) rfl rfl ?_
      refine Wd_al (al := [(6, .int (nI (pre.length + 1))), (5, .int (nI (st.length + 1))), (0, .ref (241 + k)), (1, .ref 114), (2, .int (nI (p))), (3, .null), (4, .null)]) (sba_p [0, 1, 3, 4, 5, 6, 7] rfl rfl) ?_
      exact ih (.inl (R m) :: st) _ hQ2 ⟨b, hb⟩ (Nat.succ_le_succ hp) ⟨upd_s, skR_u hs (Nat.le_refl _)⟩
    · obtain rfl : a = 3 := e1
      exact absurd (hE.2.1 (by have := e3.2; omega)) (by rintro ⟨kn, ln, e, _⟩; cases e)
    · obtain rfl : a = 4 := e1
      exact absurd (hE.2.2 (by have := e3.2; omega)) (by rintro ⟨kn, ln, e, _⟩; cases e)
    · cases st with
      | nil => cases er
      | cons v0 r0 =>
        have hp : r0.length + 1 ≤ pre.length := hp
        cases v0 with
        | inr z => cases er
        | inl z =>
          have er : r0.map tyv = r := by cases er; rfl
          subst er
          rcases hr with ⟨e1, e2⟩ | ⟨e1, e2⟩
          · obtain rfl : a = 5 := e1
            subst e2
            rw [fo_5]
            show Wd _ _ _ _ _ (WK C t0 k3 Q.length sl (f_l g R N O l (u_1 5 (.inl z) :: r0))) _
            refine w_p (pc1 := 8) rfl rfl ?_
            refine w_p (pc1 := 9) rfl rfl ?_
            refine w_m0 (pc1 := 12) (st1 := .ref (241 + k1) :: _) rfl rfl (x_gf (k := k) rfl hO rfl) rfl ?_
            refine w_m0 (pc1 := 13) (st1 := .int (nI (Q.length)) :: _) rfl rfl (x_ln (k := k1) hA (by decide)) rfl ?_
            refine w_f (a := 199) (b := 16) (bN_ge_f (a := pre.length) (b := Q.length) (by omega) (by omega) (by omega)) rfl rfl ?_
            refine w_p (pc1 := 18) rfl rfl ?_
            refine w_p (pc1 := 19) rfl rfl ?_
            refine w_m0 (pc1 := 22) (st1 := .ref (241 + k2) :: _) rfl rfl (x_gf (k := k) rfl hO rfl) rfl ?_
            refine w_m0 (pc1 := 23) (st1 := .int (nI (Q.length)) :: _) rfl rfl (x_ln (k := k2) hB (by decide)) rfl ?_
            refine w_f (a := 199) (b := 26) (bN_ge_f (a := pre.length) (b := Q.length) (by omega) (by omega) (by omega)) rfl rfl ?_
            refine w_p (pc1 := 27) rfl rfl ?_
            refine w_m0 (pc1 := 30) (st1 := .ref (241 + k1) :: _) rfl rfl (x_gf (k := k) rfl hO rfl) rfl ?_
            refine w_p (pc1 := 32) rfl rfl ?_
            refine w_m0 (pc1 := 33) (st1 := .int 5 :: _) rfl rfl (x_ile (k := k1) (e := pre.length) hA (by omega) (by omega) (h1)) rfl ?_
            refine w_p (pc1 := 35) (al1 := [(7, .int 5), (6, .int (nI (pre.length))), (5, .int (nI (r0.length + 1))), (0, .ref (241 + k)), (1, .ref 114), (2, .int (nI (p))), (3, .null), (4, .null)]) rfl rfl ?_
            refine w_p (pc1 := 37) rfl rfl ?_
            refine w_p (pc1 := 38) (st1 := .int 4 :: _) rfl rfl ?_
            refine w_t (a := 86) (b := 41) rfl rfl rfl ?_
            refine w_p (pc1 := 88) rfl rfl ?_
            refine w_p (pc1 := 90) (st1 := .int 8 :: _) rfl rfl ?_
            refine w_f (a := 129) (b := 93) rfl rfl rfl ?_
            refine w_p (pc1 := 95) rfl rfl ?_
            refine w_p (pc1 := 96) (st1 := .int 1 :: _) rfl rfl ?_
            refine w_t (a := 103) (b := 99) (bN_ge_t (a := r0.length + 1) (b := 1) (by omega) (by omega) (by omega)) rfl rfl ?_
            refine w_p (pc1 := 104) rfl rfl ?_
            refine w_m0 (pc1 := 107) (st1 := .ref (241 + k3) :: _) rfl rfl (x_gf (k := k) rfl hO rfl) rfl ?_
            refine w_p (pc1 := 109) rfl rfl ?_
            refine w_p (pc1 := 110) (st1 := .int 1 :: _) rfl rfl ?_
            refine w_isub (pc1 := 111) (u := nI (r0.length + 1)) (v := nI (1)) (z := nI (r0.length + 1 - 1)) rfl (nK_sub (by omega)) rfl ?_
            refine w_p (pc1 := 113) rfl rfl ?_
            refine w_p (pc1 := 114) rfl rfl ?_
            refine w_m0 (pc1 := 117) (st1 := .ref (241 + k3) :: _) rfl rfl (x_gf (k := k) rfl hO rfl) rfl ?_
            refine w_p (pc1 := 119) rfl rfl ?_
            refine w_p (pc1 := 120) (st1 := .int 1 :: _) rfl rfl ?_
            refine w_isub (pc1 := 121) (u := nI (r0.length + 1)) (v := nI (1)) (z := nI (r0.length + 1 - 1)) rfl (nK_sub (by omega)) rfl ?_
            refine w_m0 (pc1 := 122) (st1 := .long (v_K (.inl z)) :: _) rfl rfl (x_lle (k := k3) (e := r0.length + 1 - 1) hS (by omega) (by omega) (by rw [Nat.add_sub_cancel]; exact hs.1)) rfl ?_
            refine w_je (pc1 := 125) (vs := [.int 5, .long (v_K (.inl z))]) (rest := [.int (nI (r0.length + 1 - 1)), .ref (241 + k3)]) (st1 := [.long (v_K (u_1 5 (.inl z))), .int (nI (r0.length + 1 - 1)), .ref (241 + k3)]) (m_115_5 (d := d + 2) (sl := 0)) rfl rfl rfl (fun _ _ => rfl) rfl (by exact cl_s my_115 rfl rfl rfl (Nat.le_of_ble_eq_true rfl) rfl rfl) (by rfl) (Nat.le_of_ble_eq_true rfl) (Nat.le_of_ble_eq_true rfl) rfl (by rfl) ?_
            refine w_m0 (pc1 := 126) rfl rfl (x_ls (k := k3) (e := r0.length + 1 - 1) hS (by omega) (by omega)) rfl ?_
            rw [show (t0.set k3 (sCell Q.length s)).set k3 (Sum.inl (1, Q.length, Sum.inr (Sum.inl (vp_updL s (r0.length + 1 - 1) (v_K (u_1 5 (.inl z))))))) = t0.set k3 (sCell Q.length (vp_updL s (r0.length + 1 - 1) (v_K (u_1 5 (.inl z))))) from List.set_set _]
            refine w_p (pc1 := 193) rfl rfl ?_
            refine w_iinc (pc1 := 196) (u := nI (pre.length)) (z := nI (pre.length + 1)) (al1 := [(6, .int (nI (pre.length + 1))), (7, .int 5), (5, .int (nI (r0.length + 1))), (0, .ref (241 + k)), (1, .ref 114), (2, .int (nI (p))), (3, .null), (4, .null)]) rfl rfl rfl nK_1 rfl rfl ?_
            refine w_p (pc1 := 6) rfl rfl ?_
            refine Wd_al (al := [(6, .int (nI (pre.length + 1))), (5, .int (nI (r0.length + 1))), (0, .ref (241 + k)), (1, .ref 114), (2, .int (nI (p))), (3, .null), (4, .null)]) (sba_p [0, 2, 3, 4, 5, 6, 7] rfl rfl) ?_
            exact ih (u_1 5 (.inl z) :: r0) _ hQ2 ⟨b, hb⟩ (Nat.le_succ_of_le hp) ⟨by rw [Nat.add_sub_cancel]; exact upd_s, skR_u hs.2 (by omega)⟩
          · subst e2
            rcases e1 with e1 | e1
            · obtain rfl : a = 7 := e1
              rw [fo_7]
              show Wd _ _ _ _ _ (WK C t0 k3 Q.length sl (f_l g R N O l (u_1 7 (.inl z) :: r0))) _
              refine w_p (pc1 := 8) rfl rfl ?_
              refine w_p (pc1 := 9) rfl rfl ?_
              refine w_m0 (pc1 := 12) (st1 := .ref (241 + k1) :: _) rfl rfl (x_gf (k := k) rfl hO rfl) rfl ?_
              refine w_m0 (pc1 := 13) (st1 := .int (nI (Q.length)) :: _) rfl rfl (x_ln (k := k1) hA (by decide)) rfl ?_
              refine w_f (a := 199) (b := 16) (bN_ge_f (a := pre.length) (b := Q.length) (by omega) (by omega) (by omega)) rfl rfl ?_
              refine w_p (pc1 := 18) rfl rfl ?_
              refine w_p (pc1 := 19) rfl rfl ?_
              refine w_m0 (pc1 := 22) (st1 := .ref (241 + k2) :: _) rfl rfl (x_gf (k := k) rfl hO rfl) rfl ?_
              refine w_m0 (pc1 := 23) (st1 := .int (nI (Q.length)) :: _) rfl rfl (x_ln (k := k2) hB (by decide)) rfl ?_
              refine w_f (a := 199) (b := 26) (bN_ge_f (a := pre.length) (b := Q.length) (by omega) (by omega) (by omega)) rfl rfl ?_
              refine w_p (pc1 := 27) rfl rfl ?_
              refine w_m0 (pc1 := 30) (st1 := .ref (241 + k1) :: _) rfl rfl (x_gf (k := k) rfl hO rfl) rfl ?_
              refine w_p (pc1 := 32) rfl rfl ?_
              refine w_m0 (pc1 := 33) (st1 := .int 7 :: _) rfl rfl (x_ile (k := k1) (e := pre.length) hA (by omega) (by omega) (h1)) rfl ?_
              refine w_p (pc1 := 35) (al1 := [(7, .int 7), (6, .int (nI (pre.length))), (5, .int (nI (r0.length + 1))), (0, .ref (241 + k)), (1, .ref 114), (2, .int (nI (p))), (3, .null), (4, .null)]) rfl rfl ?_
              refine w_p (pc1 := 37) rfl rfl ?_
              refine w_p (pc1 := 38) (st1 := .int 4 :: _) rfl rfl ?_
              refine w_t (a := 86) (b := 41) rfl rfl rfl ?_
              refine w_p (pc1 := 88) rfl rfl ?_
              refine w_p (pc1 := 90) (st1 := .int 8 :: _) rfl rfl ?_
              refine w_f (a := 129) (b := 93) rfl rfl rfl ?_
              refine w_p (pc1 := 95) rfl rfl ?_
              refine w_p (pc1 := 96) (st1 := .int 1 :: _) rfl rfl ?_
              refine w_t (a := 103) (b := 99) (bN_ge_t (a := r0.length + 1) (b := 1) (by omega) (by omega) (by omega)) rfl rfl ?_
              refine w_p (pc1 := 104) rfl rfl ?_
              refine w_m0 (pc1 := 107) (st1 := .ref (241 + k3) :: _) rfl rfl (x_gf (k := k) rfl hO rfl) rfl ?_
              refine w_p (pc1 := 109) rfl rfl ?_
              refine w_p (pc1 := 110) (st1 := .int 1 :: _) rfl rfl ?_
              refine w_isub (pc1 := 111) (u := nI (r0.length + 1)) (v := nI (1)) (z := nI (r0.length + 1 - 1)) rfl (nK_sub (by omega)) rfl ?_
              refine w_p (pc1 := 113) rfl rfl ?_
              refine w_p (pc1 := 114) rfl rfl ?_
              refine w_m0 (pc1 := 117) (st1 := .ref (241 + k3) :: _) rfl rfl (x_gf (k := k) rfl hO rfl) rfl ?_
              refine w_p (pc1 := 119) rfl rfl ?_
              refine w_p (pc1 := 120) (st1 := .int 1 :: _) rfl rfl ?_
              refine w_isub (pc1 := 121) (u := nI (r0.length + 1)) (v := nI (1)) (z := nI (r0.length + 1 - 1)) rfl (nK_sub (by omega)) rfl ?_
              refine w_m0 (pc1 := 122) (st1 := .long (v_K (.inl z)) :: _) rfl rfl (x_lle (k := k3) (e := r0.length + 1 - 1) hS (by omega) (by omega) (by rw [Nat.add_sub_cancel]; exact hs.1)) rfl ?_
              refine w_je (pc1 := 125) (vs := [.int 7, .long (v_K (.inl z))]) (rest := [.int (nI (r0.length + 1 - 1)), .ref (241 + k3)]) (st1 := [.long (v_K (u_1 7 (.inl z))), .int (nI (r0.length + 1 - 1)), .ref (241 + k3)]) (m_115_7 (d := d + 2) (sl := 0)) rfl rfl rfl (fun _ _ => rfl) rfl (by exact cl_s my_115 rfl rfl rfl (Nat.le_of_ble_eq_true rfl) rfl rfl) (by rfl) (Nat.le_of_ble_eq_true rfl) (Nat.le_of_ble_eq_true rfl) rfl (by rfl) ?_
              refine w_m0 (pc1 := 126) rfl rfl (x_ls (k := k3) (e := r0.length + 1 - 1) hS (by omega) (by omega)) rfl ?_
              rw [show (t0.set k3 (sCell Q.length s)).set k3 (Sum.inl (1, Q.length, Sum.inr (Sum.inl (vp_updL s (r0.length + 1 - 1) (v_K (u_1 7 (.inl z))))))) = t0.set k3 (sCell Q.length (vp_updL s (r0.length + 1 - 1) (v_K (u_1 7 (.inl z))))) from List.set_set _]
              refine w_p (pc1 := 193) rfl rfl ?_
              refine w_iinc (pc1 := 196) (u := nI (pre.length)) (z := nI (pre.length + 1)) (al1 := [(6, .int (nI (pre.length + 1))), (7, .int 7), (5, .int (nI (r0.length + 1))), (0, .ref (241 + k)), (1, .ref 114), (2, .int (nI (p))), (3, .null), (4, .null)]) rfl rfl rfl nK_1 rfl rfl ?_
              refine w_p (pc1 := 6) rfl rfl ?_
              refine Wd_al (al := [(6, .int (nI (pre.length + 1))), (5, .int (nI (r0.length + 1))), (0, .ref (241 + k)), (1, .ref 114), (2, .int (nI (p))), (3, .null), (4, .null)]) (sba_p [0, 2, 3, 4, 5, 6, 7] rfl rfl) ?_
              exact ih (u_1 7 (.inl z) :: r0) _ hQ2 ⟨b, hb⟩ (Nat.le_succ_of_le hp) ⟨by rw [Nat.add_sub_cancel]; exact upd_s, skR_u hs.2 (by omega)⟩
            · obtain rfl : a = 8 := e1
              rw [fo_8]
              show Wd _ _ _ _ _ (WK C t0 k3 Q.length sl (f_l g R N O l (u_1 8 (.inl z) :: r0))) _
              refine w_p (pc1 := 8) rfl rfl ?_
              refine w_p (pc1 := 9) rfl rfl ?_
              refine w_m0 (pc1 := 12) (st1 := .ref (241 + k1) :: _) rfl rfl (x_gf (k := k) rfl hO rfl) rfl ?_
              refine w_m0 (pc1 := 13) (st1 := .int (nI (Q.length)) :: _) rfl rfl (x_ln (k := k1) hA (by decide)) rfl ?_
              refine w_f (a := 199) (b := 16) (bN_ge_f (a := pre.length) (b := Q.length) (by omega) (by omega) (by omega)) rfl rfl ?_
              refine w_p (pc1 := 18) rfl rfl ?_
              refine w_p (pc1 := 19) rfl rfl ?_
              refine w_m0 (pc1 := 22) (st1 := .ref (241 + k2) :: _) rfl rfl (x_gf (k := k) rfl hO rfl) rfl ?_
              refine w_m0 (pc1 := 23) (st1 := .int (nI (Q.length)) :: _) rfl rfl (x_ln (k := k2) hB (by decide)) rfl ?_
              refine w_f (a := 199) (b := 26) (bN_ge_f (a := pre.length) (b := Q.length) (by omega) (by omega) (by omega)) rfl rfl ?_
              refine w_p (pc1 := 27) rfl rfl ?_
              refine w_m0 (pc1 := 30) (st1 := .ref (241 + k1) :: _) rfl rfl (x_gf (k := k) rfl hO rfl) rfl ?_
              refine w_p (pc1 := 32) rfl rfl ?_
              refine w_m0 (pc1 := 33) (st1 := .int 8 :: _) rfl rfl (x_ile (k := k1) (e := pre.length) hA (by omega) (by omega) (h1)) rfl ?_
              refine w_p (pc1 := 35) (al1 := [(7, .int 8), (6, .int (nI (pre.length))), (5, .int (nI (r0.length + 1))), (0, .ref (241 + k)), (1, .ref 114), (2, .int (nI (p))), (3, .null), (4, .null)]) rfl rfl ?_
              refine w_p (pc1 := 37) rfl rfl ?_
              refine w_p (pc1 := 38) (st1 := .int 4 :: _) rfl rfl ?_
              refine w_t (a := 86) (b := 41) rfl rfl rfl ?_
              refine w_p (pc1 := 88) rfl rfl ?_
              refine w_p (pc1 := 90) (st1 := .int 8 :: _) rfl rfl ?_
              refine w_f (a := 129) (b := 93) rfl rfl rfl ?_
              refine w_p (pc1 := 95) rfl rfl ?_
              refine w_p (pc1 := 96) (st1 := .int 1 :: _) rfl rfl ?_
              refine w_t (a := 103) (b := 99) (bN_ge_t (a := r0.length + 1) (b := 1) (by omega) (by omega) (by omega)) rfl rfl ?_
              refine w_p (pc1 := 104) rfl rfl ?_
              refine w_m0 (pc1 := 107) (st1 := .ref (241 + k3) :: _) rfl rfl (x_gf (k := k) rfl hO rfl) rfl ?_
              refine w_p (pc1 := 109) rfl rfl ?_
              refine w_p (pc1 := 110) (st1 := .int 1 :: _) rfl rfl ?_
              refine w_isub (pc1 := 111) (u := nI (r0.length + 1)) (v := nI (1)) (z := nI (r0.length + 1 - 1)) rfl (nK_sub (by omega)) rfl ?_
              refine w_p (pc1 := 113) rfl rfl ?_
              refine w_p (pc1 := 114) rfl rfl ?_
              refine w_m0 (pc1 := 117) (st1 := .ref (241 + k3) :: _) rfl rfl (x_gf (k := k) rfl hO rfl) rfl ?_
              refine w_p (pc1 := 119) rfl rfl ?_
              refine w_p (pc1 := 120) (st1 := .int 1 :: _) rfl rfl ?_
              refine w_isub (pc1 := 121) (u := nI (r0.length + 1)) (v := nI (1)) (z := nI (r0.length + 1 - 1)) rfl (nK_sub (by omega)) rfl ?_
              refine w_m0 (pc1 := 122) (st1 := .long (v_K (.inl z)) :: _) rfl rfl (x_lle (k := k3) (e := r0.length + 1 - 1) hS (by omega) (by omega) (by rw [Nat.add_sub_cancel]; exact hs.1)) rfl ?_
              refine w_je (pc1 := 125) (vs := [.int 8, .long (v_K (.inl z))]) (rest := [.int (nI (r0.length + 1 - 1)), .ref (241 + k3)]) (st1 := [.long (v_K (u_1 8 (.inl z))), .int (nI (r0.length + 1 - 1)), .ref (241 + k3)]) (m_115_8 (d := d + 2) (sl := 0)) rfl rfl rfl (fun _ _ => rfl) rfl (by exact cl_s my_115 rfl rfl rfl (Nat.le_of_ble_eq_true rfl) rfl rfl) (by rfl) (Nat.le_of_ble_eq_true rfl) (Nat.le_of_ble_eq_true rfl) rfl (by rfl) ?_
              refine w_m0 (pc1 := 126) rfl rfl (x_ls (k := k3) (e := r0.length + 1 - 1) hS (by omega) (by omega)) rfl ?_
              rw [show (t0.set k3 (sCell Q.length s)).set k3 (Sum.inl (1, Q.length, Sum.inr (Sum.inl (vp_updL s (r0.length + 1 - 1) (v_K (u_1 8 (.inl z))))))) = t0.set k3 (sCell Q.length (vp_updL s (r0.length + 1 - 1) (v_K (u_1 8 (.inl z))))) from List.set_set _]
              refine w_p (pc1 := 193) rfl rfl ?_
              refine w_iinc (pc1 := 196) (u := nI (pre.length)) (z := nI (pre.length + 1)) (al1 := [(6, .int (nI (pre.length + 1))), (7, .int 8), (5, .int (nI (r0.length + 1))), (0, .ref (241 + k)), (1, .ref 114), (2, .int (nI (p))), (3, .null), (4, .null)]) rfl rfl rfl nK_1 rfl rfl ?_
              refine w_p (pc1 := 6) rfl rfl ?_
              refine Wd_al (al := [(6, .int (nI (pre.length + 1))), (5, .int (nI (r0.length + 1))), (0, .ref (241 + k)), (1, .ref 114), (2, .int (nI (p))), (3, .null), (4, .null)]) (sba_p [0, 2, 3, 4, 5, 6, 7] rfl rfl) ?_
              exact ih (u_1 8 (.inl z) :: r0) _ hQ2 ⟨b, hb⟩ (Nat.le_succ_of_le hp) ⟨by rw [Nat.add_sub_cancel]; exact upd_s, skR_u hs.2 (by omega)⟩
    · cases st with
      | nil => cases er
      | cons v0 r0 =>
        have hp : r0.length + 1 ≤ pre.length := hp
        cases v0 with
        | inl z => cases er
        | inr z =>
          have er : r0.map tyv = r := by cases er; rfl
          subst er
          obtain rfl : a = 6 := e1
          subst e2
          rw [fo_6]
          show Wd _ _ _ _ _ (WK C t0 k3 Q.length sl (f_l g R N O l (u_1 6 (.inr z) :: r0))) _
          refine w_p (pc1 := 8) rfl rfl ?_
          refine w_p (pc1 := 9) rfl rfl ?_
          refine w_m0 (pc1 := 12) (st1 := .ref (241 + k1) :: _) rfl rfl (x_gf (k := k) rfl hO rfl) rfl ?_
          refine w_m0 (pc1 := 13) (st1 := .int (nI (Q.length)) :: _) rfl rfl (x_ln (k := k1) hA (by decide)) rfl ?_
          refine w_f (a := 199) (b := 16) (bN_ge_f (a := pre.length) (b := Q.length) (by omega) (by omega) (by omega)) rfl rfl ?_
          refine w_p (pc1 := 18) rfl rfl ?_
          refine w_p (pc1 := 19) rfl rfl ?_
          refine w_m0 (pc1 := 22) (st1 := .ref (241 + k2) :: _) rfl rfl (x_gf (k := k) rfl hO rfl) rfl ?_
          refine w_m0 (pc1 := 23) (st1 := .int (nI (Q.length)) :: _) rfl rfl (x_ln (k := k2) hB (by decide)) rfl ?_
          refine w_f (a := 199) (b := 26) (bN_ge_f (a := pre.length) (b := Q.length) (by omega) (by omega) (by omega)) rfl rfl ?_
          refine w_p (pc1 := 27) rfl rfl ?_
          refine w_m0 (pc1 := 30) (st1 := .ref (241 + k1) :: _) rfl rfl (x_gf (k := k) rfl hO rfl) rfl ?_
          refine w_p (pc1 := 32) rfl rfl ?_
          refine w_m0 (pc1 := 33) (st1 := .int 6 :: _) rfl rfl (x_ile (k := k1) (e := pre.length) hA (by omega) (by omega) (h1)) rfl ?_
          refine w_p (pc1 := 35) (al1 := [(7, .int 6), (6, .int (nI (pre.length))), (5, .int (nI (r0.length + 1))), (0, .ref (241 + k)), (1, .ref 114), (2, .int (nI (p))), (3, .null), (4, .null)]) rfl rfl ?_
          refine w_p (pc1 := 37) rfl rfl ?_
          refine w_p (pc1 := 38) (st1 := .int 4 :: _) rfl rfl ?_
          refine w_t (a := 86) (b := 41) rfl rfl rfl ?_
          refine w_p (pc1 := 88) rfl rfl ?_
          refine w_p (pc1 := 90) (st1 := .int 8 :: _) rfl rfl ?_
          refine w_f (a := 129) (b := 93) rfl rfl rfl ?_
          refine w_p (pc1 := 95) rfl rfl ?_
          refine w_p (pc1 := 96) (st1 := .int 1 :: _) rfl rfl ?_
          refine w_t (a := 103) (b := 99) (bN_ge_t (a := r0.length + 1) (b := 1) (by omega) (by omega) (by omega)) rfl rfl ?_
          refine w_p (pc1 := 104) rfl rfl ?_
          refine w_m0 (pc1 := 107) (st1 := .ref (241 + k3) :: _) rfl rfl (x_gf (k := k) rfl hO rfl) rfl ?_
          refine w_p (pc1 := 109) rfl rfl ?_
          refine w_p (pc1 := 110) (st1 := .int 1 :: _) rfl rfl ?_
          refine w_isub (pc1 := 111) (u := nI (r0.length + 1)) (v := nI (1)) (z := nI (r0.length + 1 - 1)) rfl (nK_sub (by omega)) rfl ?_
          refine w_p (pc1 := 113) rfl rfl ?_
          refine w_p (pc1 := 114) rfl rfl ?_
          refine w_m0 (pc1 := 117) (st1 := .ref (241 + k3) :: _) rfl rfl (x_gf (k := k) rfl hO rfl) rfl ?_
          refine w_p (pc1 := 119) rfl rfl ?_
          refine w_p (pc1 := 120) (st1 := .int 1 :: _) rfl rfl ?_
          refine w_isub (pc1 := 121) (u := nI (r0.length + 1)) (v := nI (1)) (z := nI (r0.length + 1 - 1)) rfl (nK_sub (by omega)) rfl ?_
          refine w_m0 (pc1 := 122) (st1 := .long (v_K (.inr z)) :: _) rfl rfl (x_lle (k := k3) (e := r0.length + 1 - 1) hS (by omega) (by omega) (by rw [Nat.add_sub_cancel]; exact hs.1)) rfl ?_
          refine w_je (pc1 := 125) (vs := [.int 6, .long (v_K (.inr z))]) (rest := [.int (nI (r0.length + 1 - 1)), .ref (241 + k3)]) (st1 := [.long (v_K (u_1 6 (.inr z))), .int (nI (r0.length + 1 - 1)), .ref (241 + k3)]) (m_115_6 (d := d + 2) (sl := 0)) rfl rfl rfl (fun _ _ => rfl) rfl (by exact cl_s my_115 rfl rfl rfl (Nat.le_of_ble_eq_true rfl) rfl rfl) (by rfl) (Nat.le_of_ble_eq_true rfl) (Nat.le_of_ble_eq_true rfl) rfl (by rfl) ?_
          refine w_m0 (pc1 := 126) rfl rfl (x_ls (k := k3) (e := r0.length + 1 - 1) hS (by omega) (by omega)) rfl ?_
          rw [show (t0.set k3 (sCell Q.length s)).set k3 (Sum.inl (1, Q.length, Sum.inr (Sum.inl (vp_updL s (r0.length + 1 - 1) (v_K (u_1 6 (.inr z))))))) = t0.set k3 (sCell Q.length (vp_updL s (r0.length + 1 - 1) (v_K (u_1 6 (.inr z))))) from List.set_set _]
          refine w_p (pc1 := 193) rfl rfl ?_
          refine w_iinc (pc1 := 196) (u := nI (pre.length)) (z := nI (pre.length + 1)) (al1 := [(6, .int (nI (pre.length + 1))), (7, .int 6), (5, .int (nI (r0.length + 1))), (0, .ref (241 + k)), (1, .ref 114), (2, .int (nI (p))), (3, .null), (4, .null)]) rfl rfl rfl nK_1 rfl rfl ?_
          refine w_p (pc1 := 6) rfl rfl ?_
          refine Wd_al (al := [(6, .int (nI (pre.length + 1))), (5, .int (nI (r0.length + 1))), (0, .ref (241 + k)), (1, .ref 114), (2, .int (nI (p))), (3, .null), (4, .null)]) (sba_p [0, 2, 3, 4, 5, 6, 7] rfl rfl) ?_
          exact ih (u_1 6 (.inr z) :: r0) _ hQ2 ⟨b, hb⟩ (Nat.le_succ_of_le hp) ⟨by rw [Nat.add_sub_cancel]; exact upd_s, skR_u hs.2 (by omega)⟩
    · cases st with
      | nil => cases er
      | cons w0 r1 => cases r1 with
        | nil => cases w0 <;> cases er
        | cons v0 r0 =>
          have hp : r0.length + 1 + 1 ≤ pre.length := hp
          cases w0 with
          | inr z => cases er
          | inl w => cases v0 with
            | inr z => cases er
            | inl v =>
              have er : r0.map tyv = r := by cases er; rfl
              subst er
              rcases hr with ⟨e1, e2⟩ | ⟨e1, e2⟩
              · subst e2
                rcases e1 with e1 | e1 | e1 | e1
                · obtain rfl : a = 9 := e1
                  rw [fo_9]
                  cases hu : u_2 g 9 (.inl v) (.inl w) with
                  | none =>
                    show Wd _ _ _ _ _ (WK C t0 k3 Q.length sl none) _
                    refine w_p (pc1 := 8) rfl rfl ?_
                    refine w_p (pc1 := 9) rfl rfl ?_
                    refine w_m0 (pc1 := 12) (st1 := .ref (241 + k1) :: _) rfl rfl (x_gf (k := k) rfl hO rfl) rfl ?_
                    refine w_m0 (pc1 := 13) (st1 := .int (nI (Q.length)) :: _) rfl rfl (x_ln (k := k1) hA (by decide)) rfl ?_
                    refine w_f (a := 199) (b := 16) (bN_ge_f (a := pre.length) (b := Q.length) (by omega) (by omega) (by omega)) rfl rfl ?_
                    refine w_p (pc1 := 18) rfl rfl ?_
                    refine w_p (pc1 := 19) rfl rfl ?_
                    refine w_m0 (pc1 := 22) (st1 := .ref (241 + k2) :: _) rfl rfl (x_gf (k := k) rfl hO rfl) rfl ?_
                    refine w_m0 (pc1 := 23) (st1 := .int (nI (Q.length)) :: _) rfl rfl (x_ln (k := k2) hB (by decide)) rfl ?_
                    refine w_f (a := 199) (b := 26) (bN_ge_f (a := pre.length) (b := Q.length) (by omega) (by omega) (by omega)) rfl rfl ?_
                    refine w_p (pc1 := 27) rfl rfl ?_
                    refine w_m0 (pc1 := 30) (st1 := .ref (241 + k1) :: _) rfl rfl (x_gf (k := k) rfl hO rfl) rfl ?_
                    refine w_p (pc1 := 32) rfl rfl ?_
                    refine w_m0 (pc1 := 33) (st1 := .int 9 :: _) rfl rfl (x_ile (k := k1) (e := pre.length) hA (by omega) (by omega) (h1)) rfl ?_
                    refine w_p (pc1 := 35) (al1 := [(7, .int 9), (6, .int (nI (pre.length))), (5, .int (nI (r0.length + 1 + 1))), (0, .ref (241 + k)), (1, .ref 114), (2, .int (nI (p))), (3, .null), (4, .null)]) rfl rfl ?_
                    refine w_p (pc1 := 37) rfl rfl ?_
                    refine w_p (pc1 := 38) (st1 := .int 4 :: _) rfl rfl ?_
                    refine w_t (a := 86) (b := 41) rfl rfl rfl ?_
                    refine w_p (pc1 := 88) rfl rfl ?_
                    refine w_p (pc1 := 90) (st1 := .int 8 :: _) rfl rfl ?_
                    refine w_t (a := 129) (b := 93) rfl rfl rfl ?_
                    refine w_p (pc1 := 131) rfl rfl ?_
                    refine w_p (pc1 := 132) (st1 := .int 2 :: _) rfl rfl ?_
                    refine w_t (a := 139) (b := 135) (bN_ge_t (a := r0.length + 1 + 1) (b := 2) (by omega) (by omega) (by omega)) rfl rfl ?_
                    refine w_iinc (pc1 := 142) (u := nI (r0.length + 1 + 1)) (z := nI (r0.length + 1)) (al1 := [(5, .int (nI (r0.length + 1))), (7, .int 9), (6, .int (nI (pre.length))), (0, .ref (241 + k)), (1, .ref 114), (2, .int (nI (p))), (3, .null), (4, .null)]) rfl rfl rfl (nK_p.trans nK_s) rfl rfl ?_
                    refine w_p (pc1 := 143) rfl rfl ?_
                    refine w_m0 (pc1 := 146) (st1 := .ref (241 + k3) :: _) rfl rfl (x_gf (k := k) rfl hO rfl) rfl ?_
                    refine w_p (pc1 := 148) rfl rfl ?_
                    refine w_p (pc1 := 149) (st1 := .int 1 :: _) rfl rfl ?_
                    refine w_isub (pc1 := 150) (u := nI (r0.length + 1)) (v := nI (1)) (z := nI (r0.length + 1 - 1)) rfl (nK_sub (by omega)) rfl ?_
                    refine w_p (pc1 := 151) rfl rfl ?_
                    refine w_p (pc1 := 153) rfl rfl ?_
                    refine w_p (pc1 := 154) rfl rfl ?_
                    refine w_m0 (pc1 := 157) (st1 := .ref (241 + k3) :: _) rfl rfl (x_gf (k := k) rfl hO rfl) rfl ?_
                    refine w_p (pc1 := 159) rfl rfl ?_
                    refine w_p (pc1 := 160) (st1 := .int 1 :: _) rfl rfl ?_
                    refine w_isub (pc1 := 161) (u := nI (r0.length + 1)) (v := nI (1)) (z := nI (r0.length + 1 - 1)) rfl (nK_sub (by omega)) rfl ?_
                    refine w_m0 (pc1 := 162) (st1 := .long (v_K (.inl v)) :: _) rfl rfl (x_lle (k := k3) (e := r0.length + 1 - 1) hS (by omega) (by omega) (by rw [Nat.add_sub_cancel]; exact hs.2.1)) rfl ?_
                    refine w_p (pc1 := 163) rfl rfl ?_
                    refine w_m0 (pc1 := 166) (st1 := .ref (241 + k3) :: _) rfl rfl (x_gf (k := k) rfl hO rfl) rfl ?_
                    refine w_p (pc1 := 168) rfl rfl ?_
                    refine w_m0 (pc1 := 169) (st1 := .long (v_K (.inl w)) :: _) rfl rfl (x_lle (k := k3) (e := r0.length + 1) hS (by omega) (by omega) (hs.1)) rfl ?_
                    refine w_je (pc1 := 172) (vs := [.ref (241 + k), .int 9, .long (v_K (.inl v)), .long (v_K (.inl w))]) (rest := [.int (nI (r0.length + 1 - 1)), .ref (241 + k3)]) (st1 := [.long (o2K (u_2 g 9 (.inl v) (.inl w))), .int (nI (r0.length + 1 - 1)), .ref (241 + k3)]) (m_116_9 (d := d + 1) (sl := 0) hO) rfl rfl rfl (fun _ _ => rfl) rfl (by exact cl_v my_116 rfl rfl rfl (Nat.le_of_ble_eq_true rfl) rfl (x_obj hO) rfl (by decide) rfl rfl) (by rfl) (Nat.le_of_ble_eq_true rfl) (Nat.le_of_ble_eq_true rfl) rfl (by rfl) ?_
                    refine w_m0 (pc1 := 173) rfl rfl (x_ls (k := k3) (e := r0.length + 1 - 1) hS (by omega) (by omega)) rfl ?_
                    rw [show (t0.set k3 (sCell Q.length s)).set k3 (Sum.inl (1, Q.length, Sum.inr (Sum.inl (vp_updL s (r0.length + 1 - 1) (o2K (u_2 g 9 (.inl v) (.inl w))))))) = t0.set k3 (sCell Q.length (vp_updL s (r0.length + 1 - 1) (o2K (u_2 g 9 (.inl v) (.inl w))))) from List.set_set _]
                    obtain ⟨hO2, -, -, hS2⟩ := FO_s F0 (vp_updL s (r0.length + 1 - 1) (o2K (u_2 g 9 (.inl v) (.inl w))))
                    refine w_p (pc1 := 174) rfl rfl ?_
                    refine w_m0 (pc1 := 177) (st1 := .ref (241 + k3) :: _) rfl rfl (x_gf (k := k) rfl hO2 rfl) rfl ?_
                    refine w_p (pc1 := 179) rfl rfl ?_
                    refine w_p (pc1 := 180) (st1 := .int 1 :: _) rfl rfl ?_
                    refine w_isub (pc1 := 181) (u := nI (r0.length + 1)) (v := nI (1)) (z := nI (r0.length + 1 - 1)) rfl (nK_sub (by omega)) rfl ?_
                    refine w_m0 (pc1 := 182) (st1 := .long (o2K (u_2 g 9 (.inl v) (.inl w))) :: _) rfl rfl (x_lle (k := k3) (e := r0.length + 1 - 1) hS2 (by omega) (by omega) (upd_s)) rfl ?_
                    refine w_m0 (pc1 := 185) (st1 := .long (-9223372036854775807) :: _) rfl rfl rfl rfl ?_
                    refine w_p (pc1 := 186) rfl rfl ?_
                    refine w_f (a := 193) (b := 189) (lb_ne_f (by rw [hu]; rfl)) rfl rfl ?_
                    refine w_m0 (pc1 := 192) (st1 := .long (-9223372036854775807) :: _) rfl rfl rfl rfl ?_
                    refine w_r rfl rfl rfl (fun _ _ => rfl) rfl ?_
                    exact ⟨_, rfl, rfl, rfl⟩
                  | some z1 =>
                    show Wd _ _ _ _ _ (WK C t0 k3 Q.length sl (f_l g R N O l (z1 :: r0))) _
                    have hb : t_l w1 w2 w3 l ((z1 :: r0).map tyv) = some [b] := by
                      have : tyv z1 = false := by rw [u2_A (by unfold isA; decide), Option.map_eq_some_iff] at hu; obtain ⟨q, _, rfl⟩ := hu; rfl
                      show t_l w1 w2 w3 l (tyv z1 :: r0.map tyv) = _
                      rw [this]
                      exact hb
                    refine w_p (pc1 := 8) rfl rfl ?_
                    refine w_p (pc1 := 9) rfl rfl ?_
                    refine w_m0 (pc1 := 12) (st1 := .ref (241 + k1) :: _) rfl rfl (x_gf (k := k) rfl hO rfl) rfl ?_
                    refine w_m0 (pc1 := 13) (st1 := .int (nI (Q.length)) :: _) rfl rfl (x_ln (k := k1) hA (by decide)) rfl ?_
                    refine w_f (a := 199) (b := 16) (bN_ge_f (a := pre.length) (b := Q.length) (by omega) (by omega) (by omega)) rfl rfl ?_
                    refine w_p (pc1 := 18) rfl rfl ?_
                    refine w_p (pc1 := 19) rfl rfl ?_
                    refine w_m0 (pc1 := 22) (st1 := .ref (241 + k2) :: _) rfl rfl (x_gf (k := k) rfl hO rfl) rfl ?_
                    refine w_m0 (pc1 := 23) (st1 := .int (nI (Q.length)) :: _) rfl rfl (x_ln (k := k2) hB (by decide)) rfl ?_
                    refine w_f (a := 199) (b := 26) (bN_ge_f (a := pre.length) (b := Q.length) (by omega) (by omega) (by omega)) rfl rfl ?_
                    refine w_p (pc1 := 27) rfl rfl ?_
                    refine w_m0 (pc1 := 30) (st1 := .ref (241 + k1) :: _) rfl rfl (x_gf (k := k) rfl hO rfl) rfl ?_
                    refine w_p (pc1 := 32) rfl rfl ?_
                    refine w_m0 (pc1 := 33) (st1 := .int 9 :: _) rfl rfl (x_ile (k := k1) (e := pre.length) hA (by omega) (by omega) (h1)) rfl ?_
                    refine w_p (pc1 := 35) (al1 := [(7, .int 9), (6, .int (nI (pre.length))), (5, .int (nI (r0.length + 1 + 1))), (0, .ref (241 + k)), (1, .ref 114), (2, .int (nI (p))), (3, .null), (4, .null)]) rfl rfl ?_
                    refine w_p (pc1 := 37) rfl rfl ?_
                    refine w_p (pc1 := 38) (st1 := .int 4 :: _) rfl rfl ?_
                    refine w_t (a := 86) (b := 41) rfl rfl rfl ?_
                    refine w_p (pc1 := 88) rfl rfl ?_
                    refine w_p (pc1 := 90) (st1 := .int 8 :: _) rfl rfl ?_
                    refine w_t (a := 129) (b := 93) rfl rfl rfl ?_
                    refine w_p (pc1 := 131) rfl rfl ?_
                    refine w_p (pc1 := 132) (st1 := .int 2 :: _) rfl rfl ?_
                    refine w_t (a := 139) (b := 135) (bN_ge_t (a := r0.length + 1 + 1) (b := 2) (by omega) (by omega) (by omega)) rfl rfl ?_
                    refine w_iinc (pc1 := 142) (u := nI (r0.length + 1 + 1)) (z := nI (r0.length + 1)) (al1 := [(5, .int (nI (r0.length + 1))), (7, .int 9), (6, .int (nI (pre.length))), (0, .ref (241 + k)), (1, .ref 114), (2, .int (nI (p))), (3, .null), (4, .null)]) rfl rfl rfl (nK_p.trans nK_s) rfl rfl ?_
                    refine w_p (pc1 := 143) rfl rfl ?_
                    refine w_m0 (pc1 := 146) (st1 := .ref (241 + k3) :: _) rfl rfl (x_gf (k := k) rfl hO rfl) rfl ?_
                    refine w_p (pc1 := 148) rfl rfl ?_
                    refine w_p (pc1 := 149) (st1 := .int 1 :: _) rfl rfl ?_
                    refine w_isub (pc1 := 150) (u := nI (r0.length + 1)) (v := nI (1)) (z := nI (r0.length + 1 - 1)) rfl (nK_sub (by omega)) rfl ?_
                    refine w_p (pc1 := 151) rfl rfl ?_
                    refine w_p (pc1 := 153) rfl rfl ?_
                    refine w_p (pc1 := 154) rfl rfl ?_
                    refine w_m0 (pc1 := 157) (st1 := .ref (241 + k3) :: _) rfl rfl (x_gf (k := k) rfl hO rfl) rfl ?_
                    refine w_p (pc1 := 159) rfl rfl ?_
                    refine w_p (pc1 := 160) (st1 := .int 1 :: _) rfl rfl ?_
                    refine w_isub (pc1 := 161) (u := nI (r0.length + 1)) (v := nI (1)) (z := nI (r0.length + 1 - 1)) rfl (nK_sub (by omega)) rfl ?_
                    refine w_m0 (pc1 := 162) (st1 := .long (v_K (.inl v)) :: _) rfl rfl (x_lle (k := k3) (e := r0.length + 1 - 1) hS (by omega) (by omega) (by rw [Nat.add_sub_cancel]; exact hs.2.1)) rfl ?_
                    refine w_p (pc1 := 163) rfl rfl ?_
                    refine w_m0 (pc1 := 166) (st1 := .ref (241 + k3) :: _) rfl rfl (x_gf (k := k) rfl hO rfl) rfl ?_
                    refine w_p (pc1 := 168) rfl rfl ?_
                    refine w_m0 (pc1 := 169) (st1 := .long (v_K (.inl w)) :: _) rfl rfl (x_lle (k := k3) (e := r0.length + 1) hS (by omega) (by omega) (hs.1)) rfl ?_
                    refine w_je (pc1 := 172) (vs := [.ref (241 + k), .int 9, .long (v_K (.inl v)), .long (v_K (.inl w))]) (rest := [.int (nI (r0.length + 1 - 1)), .ref (241 + k3)]) (st1 := [.long (o2K (u_2 g 9 (.inl v) (.inl w))), .int (nI (r0.length + 1 - 1)), .ref (241 + k3)]) (m_116_9 (d := d + 1) (sl := 0) hO) rfl rfl rfl (fun _ _ => rfl) rfl (by exact cl_v my_116 rfl rfl rfl (Nat.le_of_ble_eq_true rfl) rfl (x_obj hO) rfl (by decide) rfl rfl) (by rfl) (Nat.le_of_ble_eq_true rfl) (Nat.le_of_ble_eq_true rfl) rfl (by rfl) ?_
                    refine w_m0 (pc1 := 173) rfl rfl (x_ls (k := k3) (e := r0.length + 1 - 1) hS (by omega) (by omega)) rfl ?_
                    rw [show (t0.set k3 (sCell Q.length s)).set k3 (Sum.inl (1, Q.length, Sum.inr (Sum.inl (vp_updL s (r0.length + 1 - 1) (o2K (u_2 g 9 (.inl v) (.inl w))))))) = t0.set k3 (sCell Q.length (vp_updL s (r0.length + 1 - 1) (o2K (u_2 g 9 (.inl v) (.inl w))))) from List.set_set _]
                    obtain ⟨hO2, -, -, hS2⟩ := FO_s F0 (vp_updL s (r0.length + 1 - 1) (o2K (u_2 g 9 (.inl v) (.inl w))))
                    refine w_p (pc1 := 174) rfl rfl ?_
                    refine w_m0 (pc1 := 177) (st1 := .ref (241 + k3) :: _) rfl rfl (x_gf (k := k) rfl hO2 rfl) rfl ?_
                    refine w_p (pc1 := 179) rfl rfl ?_
                    refine w_p (pc1 := 180) (st1 := .int 1 :: _) rfl rfl ?_
                    refine w_isub (pc1 := 181) (u := nI (r0.length + 1)) (v := nI (1)) (z := nI (r0.length + 1 - 1)) rfl (nK_sub (by omega)) rfl ?_
                    refine w_m0 (pc1 := 182) (st1 := .long (o2K (u_2 g 9 (.inl v) (.inl w))) :: _) rfl rfl (x_lle (k := k3) (e := r0.length + 1 - 1) hS2 (by omega) (by omega) (upd_s)) rfl ?_
                    refine w_m0 (pc1 := 185) (st1 := .long (-9223372036854775807) :: _) rfl rfl rfl rfl ?_
                    refine w_p (pc1 := 186) rfl rfl ?_
                    refine w_t (a := 193) (b := 189) (lb_ne_t (by rw [hu]; exact v_K_un _)) rfl rfl ?_
                    refine w_iinc (pc1 := 196) (u := nI (pre.length)) (z := nI (pre.length + 1)) (al1 := [(6, .int (nI (pre.length + 1))), (5, .int (nI (r0.length + 1))), (7, .int 9), (0, .ref (241 + k)), (1, .ref 114), (2, .int (nI (p))), (3, .null), (4, .null)]) rfl rfl rfl nK_1 rfl rfl ?_
                    refine w_p (pc1 := 6) rfl rfl ?_
                    refine Wd_al (al := [(6, .int (nI (pre.length + 1))), (5, .int (nI (r0.length + 1))), (0, .ref (241 + k)), (1, .ref 114), (2, .int (nI (p))), (3, .null), (4, .null)]) (sba_p [0, 1, 3, 4, 5, 6, 7] rfl rfl) ?_
                    exact ih (z1 :: r0) _ hQ2 ⟨b, hb⟩ (show r0.length + 1 ≤ pre.length + 1 by omega) ⟨by rw [Nat.add_sub_cancel, upd_s, hu]; rfl, skR_u hs.2.2 (by omega)⟩
                · obtain rfl : a = 10 := e1
                  rw [fo_10]
                  cases hu : u_2 g 10 (.inl v) (.inl w) with
                  | none =>
                    show Wd _ _ _ _ _ (WK C t0 k3 Q.length sl none) _
                    refine w_p (pc1 := 8) rfl rfl ?_
                    refine w_p (pc1 := 9) rfl rfl ?_
                    refine w_m0 (pc1 := 12) (st1 := .ref (241 + k1) :: _) rfl rfl (x_gf (k := k) rfl hO rfl) rfl ?_
                    refine w_m0 (pc1 := 13) (st1 := .int (nI (Q.length)) :: _) rfl rfl (x_ln (k := k1) hA (by decide)) rfl ?_
                    refine w_f (a := 199) (b := 16) (bN_ge_f (a := pre.length) (b := Q.length) (by omega) (by omega) (by omega)) rfl rfl ?_
                    refine w_p (pc1 := 18) rfl rfl ?_
                    refine w_p (pc1 := 19) rfl rfl ?_
                    refine w_m0 (pc1 := 22) (st1 := .ref (241 + k2) :: _) rfl rfl (x_gf (k := k) rfl hO rfl) rfl ?_
                    refine w_m0 (pc1 := 23) (st1 := .int (nI (Q.length)) :: _) rfl rfl (x_ln (k := k2) hB (by decide)) rfl ?_
                    refine w_f (a := 199) (b := 26) (bN_ge_f (a := pre.length) (b := Q.length) (by omega) (by omega) (by omega)) rfl rfl ?_
                    refine w_p (pc1 := 27) rfl rfl ?_
                    refine w_m0 (pc1 := 30) (st1 := .ref (241 + k1) :: _) rfl rfl (x_gf (k := k) rfl hO rfl) rfl ?_
                    refine w_p (pc1 := 32) rfl rfl ?_
                    refine w_m0 (pc1 := 33) (st1 := .int 10 :: _) rfl rfl (x_ile (k := k1) (e := pre.length) hA (by omega) (by omega) (h1)) rfl ?_
                    refine w_p (pc1 := 35) (al1 := [(7, .int 10), (6, .int (nI (pre.length))), (5, .int (nI (r0.length + 1 + 1))), (0, .ref (241 + k)), (1, .ref 114), (2, .int (nI (p))), (3, .null), (4, .null)]) rfl rfl ?_
                    refine w_p (pc1 := 37) rfl rfl ?_
                    refine w_p (pc1 := 38) (st1 := .int 4 :: _) rfl rfl ?_
                    refine w_t (a := 86) (b := 41) rfl rfl rfl ?_
                    refine w_p (pc1 := 88) rfl rfl ?_
                    refine w_p (pc1 := 90) (st1 := .int 8 :: _) rfl rfl ?_
                    refine w_t (a := 129) (b := 93) rfl rfl rfl ?_
                    refine w_p (pc1 := 131) rfl rfl ?_
                    refine w_p (pc1 := 132) (st1 := .int 2 :: _) rfl rfl ?_
                    refine w_t (a := 139) (b := 135) (bN_ge_t (a := r0.length + 1 + 1) (b := 2) (by omega) (by omega) (by omega)) rfl rfl ?_
                    refine w_iinc (pc1 := 142) (u := nI (r0.length + 1 + 1)) (z := nI (r0.length + 1)) (al1 := [(5, .int (nI (r0.length + 1))), (7, .int 10), (6, .int (nI (pre.length))), (0, .ref (241 + k)), (1, .ref 114), (2, .int (nI (p))), (3, .null), (4, .null)]) rfl rfl rfl (nK_p.trans nK_s) rfl rfl ?_
                    refine w_p (pc1 := 143) rfl rfl ?_
                    refine w_m0 (pc1 := 146) (st1 := .ref (241 + k3) :: _) rfl rfl (x_gf (k := k) rfl hO rfl) rfl ?_
                    refine w_p (pc1 := 148) rfl rfl ?_
                    refine w_p (pc1 := 149) (st1 := .int 1 :: _) rfl rfl ?_
                    refine w_isub (pc1 := 150) (u := nI (r0.length + 1)) (v := nI (1)) (z := nI (r0.length + 1 - 1)) rfl (nK_sub (by omega)) rfl ?_
                    refine w_p (pc1 := 151) rfl rfl ?_
                    refine w_p (pc1 := 153) rfl rfl ?_
                    refine w_p (pc1 := 154) rfl rfl ?_
                    refine w_m0 (pc1 := 157) (st1 := .ref (241 + k3) :: _) rfl rfl (x_gf (k := k) rfl hO rfl) rfl ?_
                    refine w_p (pc1 := 159) rfl rfl ?_
                    refine w_p (pc1 := 160) (st1 := .int 1 :: _) rfl rfl ?_
                    refine w_isub (pc1 := 161) (u := nI (r0.length + 1)) (v := nI (1)) (z := nI (r0.length + 1 - 1)) rfl (nK_sub (by omega)) rfl ?_
                    refine w_m0 (pc1 := 162) (st1 := .long (v_K (.inl v)) :: _) rfl rfl (x_lle (k := k3) (e := r0.length + 1 - 1) hS (by omega) (by omega) (by rw [Nat.add_sub_cancel]; exact hs.2.1)) rfl ?_
                    refine w_p (pc1 := 163) rfl rfl ?_
                    refine w_m0 (pc1 := 166) (st1 := .ref (241 + k3) :: _) rfl rfl (x_gf (k := k) rfl hO rfl) rfl ?_
                    refine w_p (pc1 := 168) rfl rfl ?_
                    refine w_m0 (pc1 := 169) (st1 := .long (v_K (.inl w)) :: _) rfl rfl (x_lle (k := k3) (e := r0.length + 1) hS (by omega) (by omega) (hs.1)) rfl ?_
                    refine w_je (pc1 := 172) (vs := [.ref (241 + k), .int 10, .long (v_K (.inl v)), .long (v_K (.inl w))]) (rest := [.int (nI (r0.length + 1 - 1)), .ref (241 + k3)]) (st1 := [.long (o2K (u_2 g 10 (.inl v) (.inl w))), .int (nI (r0.length + 1 - 1)), .ref (241 + k3)]) (m_116_10 (d := d + 1) (sl := 0) hO) rfl rfl rfl (fun _ _ => rfl) rfl (by exact cl_v my_116 rfl rfl rfl (Nat.le_of_ble_eq_true rfl) rfl (x_obj hO) rfl (by decide) rfl rfl) (by rfl) (Nat.le_of_ble_eq_true rfl) (Nat.le_of_ble_eq_true rfl) rfl (by rfl) ?_
                    refine w_m0 (pc1 := 173) rfl rfl (x_ls (k := k3) (e := r0.length + 1 - 1) hS (by omega) (by omega)) rfl ?_
                    rw [show (t0.set k3 (sCell Q.length s)).set k3 (Sum.inl (1, Q.length, Sum.inr (Sum.inl (vp_updL s (r0.length + 1 - 1) (o2K (u_2 g 10 (.inl v) (.inl w))))))) = t0.set k3 (sCell Q.length (vp_updL s (r0.length + 1 - 1) (o2K (u_2 g 10 (.inl v) (.inl w))))) from List.set_set _]
                    obtain ⟨hO2, -, -, hS2⟩ := FO_s F0 (vp_updL s (r0.length + 1 - 1) (o2K (u_2 g 10 (.inl v) (.inl w))))
                    refine w_p (pc1 := 174) rfl rfl ?_
                    refine w_m0 (pc1 := 177) (st1 := .ref (241 + k3) :: _) rfl rfl (x_gf (k := k) rfl hO2 rfl) rfl ?_
                    refine w_p (pc1 := 179) rfl rfl ?_
                    refine w_p (pc1 := 180) (st1 := .int 1 :: _) rfl rfl ?_
                    refine w_isub (pc1 := 181) (u := nI (r0.length + 1)) (v := nI (1)) (z := nI (r0.length + 1 - 1)) rfl (nK_sub (by omega)) rfl ?_
                    refine w_m0 (pc1 := 182) (st1 := .long (o2K (u_2 g 10 (.inl v) (.inl w))) :: _) rfl rfl (x_lle (k := k3) (e := r0.length + 1 - 1) hS2 (by omega) (by omega) (upd_s)) rfl ?_
                    refine w_m0 (pc1 := 185) (st1 := .long (-9223372036854775807) :: _) rfl rfl rfl rfl ?_
                    refine w_p (pc1 := 186) rfl rfl ?_
                    refine w_f (a := 193) (b := 189) (lb_ne_f (by rw [hu]; rfl)) rfl rfl ?_
                    refine w_m0 (pc1 := 192) (st1 := .long (-9223372036854775807) :: _) rfl rfl rfl rfl ?_
                    refine w_r rfl rfl rfl (fun _ _ => rfl) rfl ?_
                    exact ⟨_, rfl, rfl, rfl⟩
                  | some z1 =>
                    show Wd _ _ _ _ _ (WK C t0 k3 Q.length sl (f_l g R N O l (z1 :: r0))) _
                    have hb : t_l w1 w2 w3 l ((z1 :: r0).map tyv) = some [b] := by
                      have : tyv z1 = false := by rw [u2_A (by unfold isA; decide), Option.map_eq_some_iff] at hu; obtain ⟨q, _, rfl⟩ := hu; rfl
                      show t_l w1 w2 w3 l (tyv z1 :: r0.map tyv) = _
                      rw [this]
                      exact hb
                    refine w_p (pc1 := 8) rfl rfl ?_
                    refine w_p (pc1 := 9) rfl rfl ?_
                    refine w_m0 (pc1 := 12) (st1 := .ref (241 + k1) :: _) rfl rfl (x_gf (k := k) rfl hO rfl) rfl ?_
                    refine w_m0 (pc1 := 13) (st1 := .int (nI (Q.length)) :: _) rfl rfl (x_ln (k := k1) hA (by decide)) rfl ?_
                    refine w_f (a := 199) (b := 16) (bN_ge_f (a := pre.length) (b := Q.length) (by omega) (by omega) (by omega)) rfl rfl ?_
                    refine w_p (pc1 := 18) rfl rfl ?_
                    refine w_p (pc1 := 19) rfl rfl ?_
                    refine w_m0 (pc1 := 22) (st1 := .ref (241 + k2) :: _) rfl rfl (x_gf (k := k) rfl hO rfl) rfl ?_
                    refine w_m0 (pc1 := 23) (st1 := .int (nI (Q.length)) :: _) rfl rfl (x_ln (k := k2) hB (by decide)) rfl ?_
                    refine w_f (a := 199) (b := 26) (bN_ge_f (a := pre.length) (b := Q.length) (by omega) (by omega) (by omega)) rfl rfl ?_
                    refine w_p (pc1 := 27) rfl rfl ?_
                    refine w_m0 (pc1 := 30) (st1 := .ref (241 + k1) :: _) rfl rfl (x_gf (k := k) rfl hO rfl) rfl ?_
                    refine w_p (pc1 := 32) rfl rfl ?_
                    refine w_m0 (pc1 := 33) (st1 := .int 10 :: _) rfl rfl (x_ile (k := k1) (e := pre.length) hA (by omega) (by omega) (h1)) rfl ?_
                    refine w_p (pc1 := 35) (al1 := [(7, .int 10), (6, .int (nI (pre.length))), (5, .int (nI (r0.length + 1 + 1))), (0, .ref (241 + k)), (1, .ref 114), (2, .int (nI (p))), (3, .null), (4, .null)]) rfl rfl ?_
                    refine w_p (pc1 := 37) rfl rfl ?_
                    refine w_p (pc1 := 38) (st1 := .int 4 :: _) rfl rfl ?_
                    refine w_t (a := 86) (b := 41) rfl rfl rfl ?_
                    refine w_p (pc1 := 88) rfl rfl ?_
                    refine w_p (pc1 := 90) (st1 := .int 8 :: _) rfl rfl ?_
                    refine w_t (a := 129) (b := 93) rfl rfl rfl ?_
                    refine w_p (pc1 := 131) rfl rfl ?_
                    refine w_p (pc1 := 132) (st1 := .int 2 :: _) rfl rfl ?_
                    refine w_t (a := 139) (b := 135) (bN_ge_t (a := r0.length + 1 + 1) (b := 2) (by omega) (by omega) (by omega)) rfl rfl ?_
                    refine w_iinc (pc1 := 142) (u := nI (r0.length + 1 + 1)) (z := nI (r0.length + 1)) (al1 := [(5, .int (nI (r0.length + 1))), (7, .int 10), (6, .int (nI (pre.length))), (0, .ref (241 + k)), (1, .ref 114), (2, .int (nI (p))), (3, .null), (4, .null)]) rfl rfl rfl (nK_p.trans nK_s) rfl rfl ?_
                    refine w_p (pc1 := 143) rfl rfl ?_
                    refine w_m0 (pc1 := 146) (st1 := .ref (241 + k3) :: _) rfl rfl (x_gf (k := k) rfl hO rfl) rfl ?_
                    refine w_p (pc1 := 148) rfl rfl ?_
                    refine w_p (pc1 := 149) (st1 := .int 1 :: _) rfl rfl ?_
                    refine w_isub (pc1 := 150) (u := nI (r0.length + 1)) (v := nI (1)) (z := nI (r0.length + 1 - 1)) rfl (nK_sub (by omega)) rfl ?_
                    refine w_p (pc1 := 151) rfl rfl ?_
                    refine w_p (pc1 := 153) rfl rfl ?_
                    refine w_p (pc1 := 154) rfl rfl ?_
                    refine w_m0 (pc1 := 157) (st1 := .ref (241 + k3) :: _) rfl rfl (x_gf (k := k) rfl hO rfl) rfl ?_
                    refine w_p (pc1 := 159) rfl rfl ?_
                    refine w_p (pc1 := 160) (st1 := .int 1 :: _) rfl rfl ?_
                    refine w_isub (pc1 := 161) (u := nI (r0.length + 1)) (v := nI (1)) (z := nI (r0.length + 1 - 1)) rfl (nK_sub (by omega)) rfl ?_
                    refine w_m0 (pc1 := 162) (st1 := .long (v_K (.inl v)) :: _) rfl rfl (x_lle (k := k3) (e := r0.length + 1 - 1) hS (by omega) (by omega) (by rw [Nat.add_sub_cancel]; exact hs.2.1)) rfl ?_
                    refine w_p (pc1 := 163) rfl rfl ?_
                    refine w_m0 (pc1 := 166) (st1 := .ref (241 + k3) :: _) rfl rfl (x_gf (k := k) rfl hO rfl) rfl ?_
                    refine w_p (pc1 := 168) rfl rfl ?_
                    refine w_m0 (pc1 := 169) (st1 := .long (v_K (.inl w)) :: _) rfl rfl (x_lle (k := k3) (e := r0.length + 1) hS (by omega) (by omega) (hs.1)) rfl ?_
                    refine w_je (pc1 := 172) (vs := [.ref (241 + k), .int 10, .long (v_K (.inl v)), .long (v_K (.inl w))]) (rest := [.int (nI (r0.length + 1 - 1)), .ref (241 + k3)]) (st1 := [.long (o2K (u_2 g 10 (.inl v) (.inl w))), .int (nI (r0.length + 1 - 1)), .ref (241 + k3)]) (m_116_10 (d := d + 1) (sl := 0) hO) rfl rfl rfl (fun _ _ => rfl) rfl (by exact cl_v my_116 rfl rfl rfl (Nat.le_of_ble_eq_true rfl) rfl (x_obj hO) rfl (by decide) rfl rfl) (by rfl) (Nat.le_of_ble_eq_true rfl) (Nat.le_of_ble_eq_true rfl) rfl (by rfl) ?_
                    refine w_m0 (pc1 := 173) rfl rfl (x_ls (k := k3) (e := r0.length + 1 - 1) hS (by omega) (by omega)) rfl ?_
                    rw [show (t0.set k3 (sCell Q.length s)).set k3 (Sum.inl (1, Q.length, Sum.inr (Sum.inl (vp_updL s (r0.length + 1 - 1) (o2K (u_2 g 10 (.inl v) (.inl w))))))) = t0.set k3 (sCell Q.length (vp_updL s (r0.length + 1 - 1) (o2K (u_2 g 10 (.inl v) (.inl w))))) from List.set_set _]
                    obtain ⟨hO2, -, -, hS2⟩ := FO_s F0 (vp_updL s (r0.length + 1 - 1) (o2K (u_2 g 10 (.inl v) (.inl w))))
                    refine w_p (pc1 := 174) rfl rfl ?_
                    refine w_m0 (pc1 := 177) (st1 := .ref (241 + k3) :: _) rfl rfl (x_gf (k := k) rfl hO2 rfl) rfl ?_
                    refine w_p (pc1 := 179) rfl rfl ?_
                    refine w_p (pc1 := 180) (st1 := .int 1 :: _) rfl rfl ?_
                    refine w_isub (pc1 := 181) (u := nI (r0.length + 1)) (v := nI (1)) (z := nI (r0.length + 1 - 1)) rfl (nK_sub (by omega)) rfl ?_
                    refine w_m0 (pc1 := 182) (st1 := .long (o2K (u_2 g 10 (.inl v) (.inl w))) :: _) rfl rfl (x_lle (k := k3) (e := r0.length + 1 - 1) hS2 (by omega) (by omega) (upd_s)) rfl ?_
                    refine w_m0 (pc1 := 185) (st1 := .long (-9223372036854775807) :: _) rfl rfl rfl rfl ?_
                    refine w_p (pc1 := 186) rfl rfl ?_
                    refine w_t (a := 193) (b := 189) (lb_ne_t (by rw [hu]; exact v_K_un _)) rfl rfl ?_
                    refine w_iinc (pc1 := 196) (u := nI (pre.length)) (z := nI (pre.length + 1)) (al1 := [(6, .int (nI (pre.length + 1))), (5, .int (nI (r0.length + 1))), (7, .int 10), (0, .ref (241 + k)), (1, .ref 114), (2, .int (nI (p))), (3, .null), (4, .null)]) rfl rfl rfl nK_1 rfl rfl ?_
                    refine w_p (pc1 := 6) rfl rfl ?_
                    refine Wd_al (al := [(6, .int (nI (pre.length + 1))), (5, .int (nI (r0.length + 1))), (0, .ref (241 + k)), (1, .ref 114), (2, .int (nI (p))), (3, .null), (4, .null)]) (sba_p [0, 1, 3, 4, 5, 6, 7] rfl rfl) ?_
                    exact ih (z1 :: r0) _ hQ2 ⟨b, hb⟩ (show r0.length + 1 ≤ pre.length + 1 by omega) ⟨by rw [Nat.add_sub_cancel, upd_s, hu]; rfl, skR_u hs.2.2 (by omega)⟩
                · obtain rfl : a = 11 := e1
                  rw [fo_11]
                  cases hu : u_2 g 11 (.inl v) (.inl w) with
                  | none =>
                    show Wd _ _ _ _ _ (WK C t0 k3 Q.length sl none) _
                    refine w_p (pc1 := 8) rfl rfl ?_
                    refine w_p (pc1 := 9) rfl rfl ?_
                    refine w_m0 (pc1 := 12) (st1 := .ref (241 + k1) :: _) rfl rfl (x_gf (k := k) rfl hO rfl) rfl ?_
                    refine w_m0 (pc1 := 13) (st1 := .int (nI (Q.length)) :: _) rfl rfl (x_ln (k := k1) hA (by decide)) rfl ?_
                    refine w_f (a := 199) (b := 16) (bN_ge_f (a := pre.length) (b := Q.length) (by omega) (by omega) (by omega)) rfl rfl ?_
                    refine w_p (pc1 := 18) rfl rfl ?_
                    refine w_p (pc1 := 19) rfl rfl ?_
                    refine w_m0 (pc1 := 22) (st1 := .ref (241 + k2) :: _) rfl rfl (x_gf (k := k) rfl hO rfl) rfl ?_
                    refine w_m0 (pc1 := 23) (st1 := .int (nI (Q.length)) :: _) rfl rfl (x_ln (k := k2) hB (by decide)) rfl ?_
                    refine w_f (a := 199) (b := 26) (bN_ge_f (a := pre.length) (b := Q.length) (by omega) (by omega) (by omega)) rfl rfl ?_
                    refine w_p (pc1 := 27) rfl rfl ?_
                    refine w_m0 (pc1 := 30) (st1 := .ref (241 + k1) :: _) rfl rfl (x_gf (k := k) rfl hO rfl) rfl ?_
                    refine w_p (pc1 := 32) rfl rfl ?_
                    refine w_m0 (pc1 := 33) (st1 := .int 11 :: _) rfl rfl (x_ile (k := k1) (e := pre.length) hA (by omega) (by omega) (h1)) rfl ?_
                    refine w_p (pc1 := 35) (al1 := [(7, .int 11), (6, .int (nI (pre.length))), (5, .int (nI (r0.length + 1 + 1))), (0, .ref (241 + k)), (1, .ref 114), (2, .int (nI (p))), (3, .null), (4, .null)]) rfl rfl ?_
                    refine w_p (pc1 := 37) rfl rfl ?_
                    refine w_p (pc1 := 38) (st1 := .int 4 :: _) rfl rfl ?_
                    refine w_t (a := 86) (b := 41) rfl rfl rfl ?_
                    refine w_p (pc1 := 88) rfl rfl ?_
                    refine w_p (pc1 := 90) (st1 := .int 8 :: _) rfl rfl ?_
                    refine w_t (a := 129) (b := 93) rfl rfl rfl ?_
                    refine w_p (pc1 := 131) rfl rfl ?_
                    refine w_p (pc1 := 132) (st1 := .int 2 :: _) rfl rfl ?_
                    refine w_t (a := 139) (b := 135) (bN_ge_t (a := r0.length + 1 + 1) (b := 2) (by omega) (by omega) (by omega)) rfl rfl ?_
                    refine w_iinc (pc1 := 142) (u := nI (r0.length + 1 + 1)) (z := nI (r0.length + 1)) (al1 := [(5, .int (nI (r0.length + 1))), (7, .int 11), (6, .int (nI (pre.length))), (0, .ref (241 + k)), (1, .ref 114), (2, .int (nI (p))), (3, .null), (4, .null)]) rfl rfl rfl (nK_p.trans nK_s) rfl rfl ?_
                    refine w_p (pc1 := 143) rfl rfl ?_
                    refine w_m0 (pc1 := 146) (st1 := .ref (241 + k3) :: _) rfl rfl (x_gf (k := k) rfl hO rfl) rfl ?_
                    refine w_p (pc1 := 148) rfl rfl ?_
                    refine w_p (pc1 := 149) (st1 := .int 1 :: _) rfl rfl ?_
                    refine w_isub (pc1 := 150) (u := nI (r0.length + 1)) (v := nI (1)) (z := nI (r0.length + 1 - 1)) rfl (nK_sub (by omega)) rfl ?_
                    refine w_p (pc1 := 151) rfl rfl ?_
                    refine w_p (pc1 := 153) rfl rfl ?_
                    refine w_p (pc1 := 154) rfl rfl ?_
                    refine w_m0 (pc1 := 157) (st1 := .ref (241 + k3) :: _) rfl rfl (x_gf (k := k) rfl hO rfl) rfl ?_
                    refine w_p (pc1 := 159) rfl rfl ?_
                    refine w_p (pc1 := 160) (st1 := .int 1 :: _) rfl rfl ?_
                    refine w_isub (pc1 := 161) (u := nI (r0.length + 1)) (v := nI (1)) (z := nI (r0.length + 1 - 1)) rfl (nK_sub (by omega)) rfl ?_
                    refine w_m0 (pc1 := 162) (st1 := .long (v_K (.inl v)) :: _) rfl rfl (x_lle (k := k3) (e := r0.length + 1 - 1) hS (by omega) (by omega) (by rw [Nat.add_sub_cancel]; exact hs.2.1)) rfl ?_
                    refine w_p (pc1 := 163) rfl rfl ?_
                    refine w_m0 (pc1 := 166) (st1 := .ref (241 + k3) :: _) rfl rfl (x_gf (k := k) rfl hO rfl) rfl ?_
                    refine w_p (pc1 := 168) rfl rfl ?_
                    refine w_m0 (pc1 := 169) (st1 := .long (v_K (.inl w)) :: _) rfl rfl (x_lle (k := k3) (e := r0.length + 1) hS (by omega) (by omega) (hs.1)) rfl ?_
                    refine w_je (pc1 := 172) (vs := [.ref (241 + k), .int 11, .long (v_K (.inl v)), .long (v_K (.inl w))]) (rest := [.int (nI (r0.length + 1 - 1)), .ref (241 + k3)]) (st1 := [.long (o2K (u_2 g 11 (.inl v) (.inl w))), .int (nI (r0.length + 1 - 1)), .ref (241 + k3)]) (m_116_11 (d := d + 1) (sl := 0) hO) rfl rfl rfl (fun _ _ => rfl) rfl (by exact cl_v my_116 rfl rfl rfl (Nat.le_of_ble_eq_true rfl) rfl (x_obj hO) rfl (by decide) rfl rfl) (by rfl) (Nat.le_of_ble_eq_true rfl) (Nat.le_of_ble_eq_true rfl) rfl (by rfl) ?_
                    refine w_m0 (pc1 := 173) rfl rfl (x_ls (k := k3) (e := r0.length + 1 - 1) hS (by omega) (by omega)) rfl ?_
                    rw [show (t0.set k3 (sCell Q.length s)).set k3 (Sum.inl (1, Q.length, Sum.inr (Sum.inl (vp_updL s (r0.length + 1 - 1) (o2K (u_2 g 11 (.inl v) (.inl w))))))) = t0.set k3 (sCell Q.length (vp_updL s (r0.length + 1 - 1) (o2K (u_2 g 11 (.inl v) (.inl w))))) from List.set_set _]
                    obtain ⟨hO2, -, -, hS2⟩ := FO_s F0 (vp_updL s (r0.length + 1 - 1) (o2K (u_2 g 11 (.inl v) (.inl w))))
                    refine w_p (pc1 := 174) rfl rfl ?_
                    refine w_m0 (pc1 := 177) (st1 := .ref (241 + k3) :: _) rfl rfl (x_gf (k := k) rfl hO2 rfl) rfl ?_
                    refine w_p (pc1 := 179) rfl rfl ?_
                    refine w_p (pc1 := 180) (st1 := .int 1 :: _) rfl rfl ?_
                    refine w_isub (pc1 := 181) (u := nI (r0.length + 1)) (v := nI (1)) (z := nI (r0.length + 1 - 1)) rfl (nK_sub (by omega)) rfl ?_
                    refine w_m0 (pc1 := 182) (st1 := .long (o2K (u_2 g 11 (.inl v) (.inl w))) :: _) rfl rfl (x_lle (k := k3) (e := r0.length + 1 - 1) hS2 (by omega) (by omega) (upd_s)) rfl ?_
                    refine w_m0 (pc1 := 185) (st1 := .long (-9223372036854775807) :: _) rfl rfl rfl rfl ?_
                    refine w_p (pc1 := 186) rfl rfl ?_
                    refine w_f (a := 193) (b := 189) (lb_ne_f (by rw [hu]; rfl)) rfl rfl ?_
                    refine w_m0 (pc1 := 192) (st1 := .long (-9223372036854775807) :: _) rfl rfl rfl rfl ?_
                    refine w_r rfl rfl rfl (fun _ _ => rfl) rfl ?_
                    exact ⟨_, rfl, rfl, rfl⟩
                  | some z1 =>
                    show Wd _ _ _ _ _ (WK C t0 k3 Q.length sl (f_l g R N O l (z1 :: r0))) _
                    have hb : t_l w1 w2 w3 l ((z1 :: r0).map tyv) = some [b] := by
                      have : tyv z1 = false := by rw [u2_A (by unfold isA; decide), Option.map_eq_some_iff] at hu; obtain ⟨q, _, rfl⟩ := hu; rfl
                      show t_l w1 w2 w3 l (tyv z1 :: r0.map tyv) = _
                      rw [this]
                      exact hb
                    refine w_p (pc1 := 8) rfl rfl ?_
                    refine w_p (pc1 := 9) rfl rfl ?_
                    refine w_m0 (pc1 := 12) (st1 := .ref (241 + k1) :: _) rfl rfl (x_gf (k := k) rfl hO rfl) rfl ?_
                    refine w_m0 (pc1 := 13) (st1 := .int (nI (Q.length)) :: _) rfl rfl (x_ln (k := k1) hA (by decide)) rfl ?_
                    refine w_f (a := 199) (b := 16) (bN_ge_f (a := pre.length) (b := Q.length) (by omega) (by omega) (by omega)) rfl rfl ?_
                    refine w_p (pc1 := 18) rfl rfl ?_
                    refine w_p (pc1 := 19) rfl rfl ?_
                    refine w_m0 (pc1 := 22) (st1 := .ref (241 + k2) :: _) rfl rfl (x_gf (k := k) rfl hO rfl) rfl ?_
                    refine w_m0 (pc1 := 23) (st1 := .int (nI (Q.length)) :: _) rfl rfl (x_ln (k := k2) hB (by decide)) rfl ?_
                    refine w_f (a := 199) (b := 26) (bN_ge_f (a := pre.length) (b := Q.length) (by omega) (by omega) (by omega)) rfl rfl ?_
                    refine w_p (pc1 := 27) rfl rfl ?_
                    refine w_m0 (pc1 := 30) (st1 := .ref (241 + k1) :: _) rfl rfl (x_gf (k := k) rfl hO rfl) rfl ?_
                    refine w_p (pc1 := 32) rfl rfl ?_
                    refine w_m0 (pc1 := 33) (st1 := .int 11 :: _) rfl rfl (x_ile (k := k1) (e := pre.length) hA (by omega) (by omega) (h1)) rfl ?_
                    refine w_p (pc1 := 35) (al1 := [(7, .int 11), (6, .int (nI (pre.length))), (5, .int (nI (r0.length + 1 + 1))), (0, .ref (241 + k)), (1, .ref 114), (2, .int (nI (p))), (3, .null), (4, .null)]) rfl rfl ?_
                    refine w_p (pc1 := 37) rfl rfl ?_
                    refine w_p (pc1 := 38) (st1 := .int 4 :: _) rfl rfl ?_
                    refine w_t (a := 86) (b := 41) rfl rfl rfl ?_
                    refine w_p (pc1 := 88) rfl rfl ?_
                    refine w_p (pc1 := 90) (st1 := .int 8 :: _) rfl rfl ?_
                    refine w_t (a := 129) (b := 93) rfl rfl rfl ?_
                    refine w_p (pc1 := 131) rfl rfl ?_
                    refine w_p (pc1 := 132) (st1 := .int 2 :: _) rfl rfl ?_
                    refine w_t (a := 139) (b := 135) (bN_ge_t (a := r0.length + 1 + 1) (b := 2) (by omega) (by omega) (by omega)) rfl rfl ?_
                    refine w_iinc (pc1 := 142) (u := nI (r0.length + 1 + 1)) (z := nI (r0.length + 1)) (al1 := [(5, .int (nI (r0.length + 1))), (7, .int 11), (6, .int (nI (pre.length))), (0, .ref (241 + k)), (1, .ref 114), (2, .int (nI (p))), (3, .null), (4, .null)]) rfl rfl rfl (nK_p.trans nK_s) rfl rfl ?_
                    refine w_p (pc1 := 143) rfl rfl ?_
                    refine w_m0 (pc1 := 146) (st1 := .ref (241 + k3) :: _) rfl rfl (x_gf (k := k) rfl hO rfl) rfl ?_
                    refine w_p (pc1 := 148) rfl rfl ?_
                    refine w_p (pc1 := 149) (st1 := .int 1 :: _) rfl rfl ?_
                    refine w_isub (pc1 := 150) (u := nI (r0.length + 1)) (v := nI (1)) (z := nI (r0.length + 1 - 1)) rfl (nK_sub (by omega)) rfl ?_
                    refine w_p (pc1 := 151) rfl rfl ?_
                    refine w_p (pc1 := 153) rfl rfl ?_
                    refine w_p (pc1 := 154) rfl rfl ?_
                    refine w_m0 (pc1 := 157) (st1 := .ref (241 + k3) :: _) rfl rfl (x_gf (k := k) rfl hO rfl) rfl ?_
                    refine w_p (pc1 := 159) rfl rfl ?_
                    refine w_p (pc1 := 160) (st1 := .int 1 :: _) rfl rfl ?_
                    refine w_isub (pc1 := 161) (u := nI (r0.length + 1)) (v := nI (1)) (z := nI (r0.length + 1 - 1)) rfl (nK_sub (by omega)) rfl ?_
                    refine w_m0 (pc1 := 162) (st1 := .long (v_K (.inl v)) :: _) rfl rfl (x_lle (k := k3) (e := r0.length + 1 - 1) hS (by omega) (by omega) (by rw [Nat.add_sub_cancel]; exact hs.2.1)) rfl ?_
                    refine w_p (pc1 := 163) rfl rfl ?_
                    refine w_m0 (pc1 := 166) (st1 := .ref (241 + k3) :: _) rfl rfl (x_gf (k := k) rfl hO rfl) rfl ?_
                    refine w_p (pc1 := 168) rfl rfl ?_
                    refine w_m0 (pc1 := 169) (st1 := .long (v_K (.inl w)) :: _) rfl rfl (x_lle (k := k3) (e := r0.length + 1) hS (by omega) (by omega) (hs.1)) rfl ?_
                    refine w_je (pc1 := 172) (vs := [.ref (241 + k), .int 11, .long (v_K (.inl v)), .long (v_K (.inl w))]) (rest := [.int (nI (r0.length + 1 - 1)), .ref (241 + k3)]) (st1 := [.long (o2K (u_2 g 11 (.inl v) (.inl w))), .int (nI (r0.length + 1 - 1)), .ref (241 + k3)]) (m_116_11 (d := d + 1) (sl := 0) hO) rfl rfl rfl (fun _ _ => rfl) rfl (by exact cl_v my_116 rfl rfl rfl (Nat.le_of_ble_eq_true rfl) rfl (x_obj hO) rfl (by decide) rfl rfl) (by rfl) (Nat.le_of_ble_eq_true rfl) (Nat.le_of_ble_eq_true rfl) rfl (by rfl) ?_
                    refine w_m0 (pc1 := 173) rfl rfl (x_ls (k := k3) (e := r0.length + 1 - 1) hS (by omega) (by omega)) rfl ?_
                    rw [show (t0.set k3 (sCell Q.length s)).set k3 (Sum.inl (1, Q.length, Sum.inr (Sum.inl (vp_updL s (r0.length + 1 - 1) (o2K (u_2 g 11 (.inl v) (.inl w))))))) = t0.set k3 (sCell Q.length (vp_updL s (r0.length + 1 - 1) (o2K (u_2 g 11 (.inl v) (.inl w))))) from List.set_set _]
                    obtain ⟨hO2, -, -, hS2⟩ := FO_s F0 (vp_updL s (r0.length + 1 - 1) (o2K (u_2 g 11 (.inl v) (.inl w))))
                    refine w_p (pc1 := 174) rfl rfl ?_
                    refine w_m0 (pc1 := 177) (st1 := .ref (241 + k3) :: _) rfl rfl (x_gf (k := k) rfl hO2 rfl) rfl ?_
                    refine w_p (pc1 := 179) rfl rfl ?_
                    refine w_p (pc1 := 180) (st1 := .int 1 :: _) rfl rfl ?_
                    refine w_isub (pc1 := 181) (u := nI (r0.length + 1)) (v := nI (1)) (z := nI (r0.length + 1 - 1)) rfl (nK_sub (by omega)) rfl ?_
                    refine w_m0 (pc1 := 182) (st1 := .long (o2K (u_2 g 11 (.inl v) (.inl w))) :: _) rfl rfl (x_lle (k := k3) (e := r0.length + 1 - 1) hS2 (by omega) (by omega) (upd_s)) rfl ?_
                    refine w_m0 (pc1 := 185) (st1 := .long (-9223372036854775807) :: _) rfl rfl rfl rfl ?_
                    refine w_p (pc1 := 186) rfl rfl ?_
                    refine w_t (a := 193) (b := 189) (lb_ne_t (by rw [hu]; exact v_K_un _)) rfl rfl ?_
                    refine w_iinc (pc1 := 196) (u := nI (pre.length)) (z := nI (pre.length + 1)) (al1 := [(6, .int (nI (pre.length + 1))), (5, .int (nI (r0.length + 1))), (7, .int 11), (0, .ref (241 + k)), (1, .ref 114), (2, .int (nI (p))), (3, .null), (4, .null)]) rfl rfl rfl nK_1 rfl rfl ?_
                    refine w_p (pc1 := 6) rfl rfl ?_
                    refine Wd_al (al := [(6, .int (nI (pre.length + 1))), (5, .int (nI (r0.length + 1))), (0, .ref (241 + k)), (1, .ref 114), (2, .int (nI (p))), (3, .null), (4, .null)]) (sba_p [0, 1, 3, 4, 5, 6, 7] rfl rfl) ?_
                    exact ih (z1 :: r0) _ hQ2 ⟨b, hb⟩ (show r0.length + 1 ≤ pre.length + 1 by omega) ⟨by rw [Nat.add_sub_cancel, upd_s, hu]; rfl, skR_u hs.2.2 (by omega)⟩
                · obtain rfl : a = 12 := e1
                  rw [fo_12]
                  cases hu : u_2 g 12 (.inl v) (.inl w) with
                  | none =>
                    show Wd _ _ _ _ _ (WK C t0 k3 Q.length sl none) _
                    refine w_p (pc1 := 8) rfl rfl ?_
                    refine w_p (pc1 := 9) rfl rfl ?_
                    refine w_m0 (pc1 := 12) (st1 := .ref (241 + k1) :: _) rfl rfl (x_gf (k := k) rfl hO rfl) rfl ?_
                    refine w_m0 (pc1 := 13) (st1 := .int (nI (Q.length)) :: _) rfl rfl (x_ln (k := k1) hA (by decide)) rfl ?_
                    refine w_f (a := 199) (b := 16) (bN_ge_f (a := pre.length) (b := Q.length) (by omega) (by omega) (by omega)) rfl rfl ?_
                    refine w_p (pc1 := 18) rfl rfl ?_
                    refine w_p (pc1 := 19) rfl rfl ?_
                    refine w_m0 (pc1 := 22) (st1 := .ref (241 + k2) :: _) rfl rfl (x_gf (k := k) rfl hO rfl) rfl ?_
                    refine w_m0 (pc1 := 23) (st1 := .int (nI (Q.length)) :: _) rfl rfl (x_ln (k := k2) hB (by decide)) rfl ?_
                    refine w_f (a := 199) (b := 26) (bN_ge_f (a := pre.length) (b := Q.length) (by omega) (by omega) (by omega)) rfl rfl ?_
                    refine w_p (pc1 := 27) rfl rfl ?_
                    refine w_m0 (pc1 := 30) (st1 := .ref (241 + k1) :: _) rfl rfl (x_gf (k := k) rfl hO rfl) rfl ?_
                    refine w_p (pc1 := 32) rfl rfl ?_
                    refine w_m0 (pc1 := 33) (st1 := .int 12 :: _) rfl rfl (x_ile (k := k1) (e := pre.length) hA (by omega) (by omega) (h1)) rfl ?_
                    refine w_p (pc1 := 35) (al1 := [(7, .int 12), (6, .int (nI (pre.length))), (5, .int (nI (r0.length + 1 + 1))), (0, .ref (241 + k)), (1, .ref 114), (2, .int (nI (p))), (3, .null), (4, .null)]) rfl rfl ?_
                    refine w_p (pc1 := 37) rfl rfl ?_
                    refine w_p (pc1 := 38) (st1 := .int 4 :: _) rfl rfl ?_
                    refine w_t (a := 86) (b := 41) rfl rfl rfl ?_
                    refine w_p (pc1 := 88) rfl rfl ?_
                    refine w_p (pc1 := 90) (st1 := .int 8 :: _) rfl rfl ?_
                    refine w_t (a := 129) (b := 93) rfl rfl rfl ?_
                    refine w_p (pc1 := 131) rfl rfl ?_
                    refine w_p (pc1 := 132) (st1 := .int 2 :: _) rfl rfl ?_
                    refine w_t (a := 139) (b := 135) (bN_ge_t (a := r0.length + 1 + 1) (b := 2) (by omega) (by omega) (by omega)) rfl rfl ?_
                    refine w_iinc (pc1 := 142) (u := nI (r0.length + 1 + 1)) (z := nI (r0.length + 1)) (al1 := [(5, .int (nI (r0.length + 1))), (7, .int 12), (6, .int (nI (pre.length))), (0, .ref (241 + k)), (1, .ref 114), (2, .int (nI (p))), (3, .null), (4, .null)]) rfl rfl rfl (nK_p.trans nK_s) rfl rfl ?_
                    refine w_p (pc1 := 143) rfl rfl ?_
                    refine w_m0 (pc1 := 146) (st1 := .ref (241 + k3) :: _) rfl rfl (x_gf (k := k) rfl hO rfl) rfl ?_
                    refine w_p (pc1 := 148) rfl rfl ?_
                    refine w_p (pc1 := 149) (st1 := .int 1 :: _) rfl rfl ?_
                    refine w_isub (pc1 := 150) (u := nI (r0.length + 1)) (v := nI (1)) (z := nI (r0.length + 1 - 1)) rfl (nK_sub (by omega)) rfl ?_
                    refine w_p (pc1 := 151) rfl rfl ?_
                    refine w_p (pc1 := 153) rfl rfl ?_
                    refine w_p (pc1 := 154) rfl rfl ?_
                    refine w_m0 (pc1 := 157) (st1 := .ref (241 + k3) :: _) rfl rfl (x_gf (k := k) rfl hO rfl) rfl ?_
                    refine w_p (pc1 := 159) rfl rfl ?_
                    refine w_p (pc1 := 160) (st1 := .int 1 :: _) rfl rfl ?_
                    refine w_isub (pc1 := 161) (u := nI (r0.length + 1)) (v := nI (1)) (z := nI (r0.length + 1 - 1)) rfl (nK_sub (by omega)) rfl ?_
                    refine w_m0 (pc1 := 162) (st1 := .long (v_K (.inl v)) :: _) rfl rfl (x_lle (k := k3) (e := r0.length + 1 - 1) hS (by omega) (by omega) (by rw [Nat.add_sub_cancel]; exact hs.2.1)) rfl ?_
                    refine w_p (pc1 := 163) rfl rfl ?_
                    refine w_m0 (pc1 := 166) (st1 := .ref (241 + k3) :: _) rfl rfl (x_gf (k := k) rfl hO rfl) rfl ?_
                    refine w_p (pc1 := 168) rfl rfl ?_
                    refine w_m0 (pc1 := 169) (st1 := .long (v_K (.inl w)) :: _) rfl rfl (x_lle (k := k3) (e := r0.length + 1) hS (by omega) (by omega) (hs.1)) rfl ?_
                    refine w_je (pc1 := 172) (vs := [.ref (241 + k), .int 12, .long (v_K (.inl v)), .long (v_K (.inl w))]) (rest := [.int (nI (r0.length + 1 - 1)), .ref (241 + k3)]) (st1 := [.long (o2K (u_2 g 12 (.inl v) (.inl w))), .int (nI (r0.length + 1 - 1)), .ref (241 + k3)]) (m_116_12 (d := d + 1) (sl := 0) hO) rfl rfl rfl (fun _ _ => rfl) rfl (by exact cl_v my_116 rfl rfl rfl (Nat.le_of_ble_eq_true rfl) rfl (x_obj hO) rfl (by decide) rfl rfl) (by rfl) (Nat.le_of_ble_eq_true rfl) (Nat.le_of_ble_eq_true rfl) rfl (by rfl) ?_
                    refine w_m0 (pc1 := 173) rfl rfl (x_ls (k := k3) (e := r0.length + 1 - 1) hS (by omega) (by omega)) rfl ?_
                    rw [show (t0.set k3 (sCell Q.length s)).set k3 (Sum.inl (1, Q.length, Sum.inr (Sum.inl (vp_updL s (r0.length + 1 - 1) (o2K (u_2 g 12 (.inl v) (.inl w))))))) = t0.set k3 (sCell Q.length (vp_updL s (r0.length + 1 - 1) (o2K (u_2 g 12 (.inl v) (.inl w))))) from List.set_set _]
                    obtain ⟨hO2, -, -, hS2⟩ := FO_s F0 (vp_updL s (r0.length + 1 - 1) (o2K (u_2 g 12 (.inl v) (.inl w))))
                    refine w_p (pc1 := 174) rfl rfl ?_
                    refine w_m0 (pc1 := 177) (st1 := .ref (241 + k3) :: _) rfl rfl (x_gf (k := k) rfl hO2 rfl) rfl ?_
                    refine w_p (pc1 := 179) rfl rfl ?_
                    refine w_p (pc1 := 180) (st1 := .int 1 :: _) rfl rfl ?_
                    refine w_isub (pc1 := 181) (u := nI (r0.length + 1)) (v := nI (1)) (z := nI (r0.length + 1 - 1)) rfl (nK_sub (by omega)) rfl ?_
                    refine w_m0 (pc1 := 182) (st1 := .long (o2K (u_2 g 12 (.inl v) (.inl w))) :: _) rfl rfl (x_lle (k := k3) (e := r0.length + 1 - 1) hS2 (by omega) (by omega) (upd_s)) rfl ?_
                    refine w_m0 (pc1 := 185) (st1 := .long (-9223372036854775807) :: _) rfl rfl rfl rfl ?_
                    refine w_p (pc1 := 186) rfl rfl ?_
                    refine w_f (a := 193) (b := 189) (lb_ne_f (by rw [hu]; rfl)) rfl rfl ?_
                    refine w_m0 (pc1 := 192) (st1 := .long (-9223372036854775807) :: _) rfl rfl rfl rfl ?_
                    refine w_r rfl rfl rfl (fun _ _ => rfl) rfl ?_
                    exact ⟨_, rfl, rfl, rfl⟩
                  | some z1 =>
                    show Wd _ _ _ _ _ (WK C t0 k3 Q.length sl (f_l g R N O l (z1 :: r0))) _
                    have hb : t_l w1 w2 w3 l ((z1 :: r0).map tyv) = some [b] := by
                      have : tyv z1 = false := by rw [u2_A (by unfold isA; decide), Option.map_eq_some_iff] at hu; obtain ⟨q, _, rfl⟩ := hu; rfl
                      show t_l w1 w2 w3 l (tyv z1 :: r0.map tyv) = _
                      rw [this]
                      exact hb
                    refine w_p (pc1 := 8) rfl rfl ?_
                    refine w_p (pc1 := 9) rfl rfl ?_
                    refine w_m0 (pc1 := 12) (st1 := .ref (241 + k1) :: _) rfl rfl (x_gf (k := k) rfl hO rfl) rfl ?_
                    refine w_m0 (pc1 := 13) (st1 := .int (nI (Q.length)) :: _) rfl rfl (x_ln (k := k1) hA (by decide)) rfl ?_
                    refine w_f (a := 199) (b := 16) (bN_ge_f (a := pre.length) (b := Q.length) (by omega) (by omega) (by omega)) rfl rfl ?_
                    refine w_p (pc1 := 18) rfl rfl ?_
                    refine w_p (pc1 := 19) rfl rfl ?_
                    refine w_m0 (pc1 := 22) (st1 := .ref (241 + k2) :: _) rfl rfl (x_gf (k := k) rfl hO rfl) rfl ?_
                    refine w_m0 (pc1 := 23) (st1 := .int (nI (Q.length)) :: _) rfl rfl (x_ln (k := k2) hB (by decide)) rfl ?_
                    refine w_f (a := 199) (b := 26) (bN_ge_f (a := pre.length) (b := Q.length) (by omega) (by omega) (by omega)) rfl rfl ?_
                    refine w_p (pc1 := 27) rfl rfl ?_
                    refine w_m0 (pc1 := 30) (st1 := .ref (241 + k1) :: _) rfl rfl (x_gf (k := k) rfl hO rfl) rfl ?_
                    refine w_p (pc1 := 32) rfl rfl ?_
                    refine w_m0 (pc1 := 33) (st1 := .int 12 :: _) rfl rfl (x_ile (k := k1) (e := pre.length) hA (by omega) (by omega) (h1)) rfl ?_
                    refine w_p (pc1 := 35) (al1 := [(7, .int 12), (6, .int (nI (pre.length))), (5, .int (nI (r0.length + 1 + 1))), (0, .ref (241 + k)), (1, .ref 114), (2, .int (nI (p))), (3, .null), (4, .null)]) rfl rfl ?_
                    refine w_p (pc1 := 37) rfl rfl ?_
                    refine w_p (pc1 := 38) (st1 := .int 4 :: _) rfl rfl ?_
                    refine w_t (a := 86) (b := 41) rfl rfl rfl ?_
                    refine w_p (pc1 := 88) rfl rfl ?_
                    refine w_p (pc1 := 90) (st1 := .int 8 :: _) rfl rfl ?_
                    refine w_t (a := 129) (b := 93) rfl rfl rfl ?_
                    refine w_p (pc1 := 131) rfl rfl ?_
                    refine w_p (pc1 := 132) (st1 := .int 2 :: _) rfl rfl ?_
                    refine w_t (a := 139) (b := 135) (bN_ge_t (a := r0.length + 1 + 1) (b := 2) (by omega) (by omega) (by omega)) rfl rfl ?_
                    refine w_iinc (pc1 := 142) (u := nI (r0.length + 1 + 1)) (z := nI (r0.length + 1)) (al1 := [(5, .int (nI (r0.length + 1))), (7, .int 12), (6, .int (nI (pre.length))), (0, .ref (241 + k)), (1, .ref 114), (2, .int (nI (p))), (3, .null), (4, .null)]) rfl rfl rfl (nK_p.trans nK_s) rfl rfl ?_
                    refine w_p (pc1 := 143) rfl rfl ?_
                    refine w_m0 (pc1 := 146) (st1 := .ref (241 + k3) :: _) rfl rfl (x_gf (k := k) rfl hO rfl) rfl ?_
                    refine w_p (pc1 := 148) rfl rfl ?_
                    refine w_p (pc1 := 149) (st1 := .int 1 :: _) rfl rfl ?_
                    refine w_isub (pc1 := 150) (u := nI (r0.length + 1)) (v := nI (1)) (z := nI (r0.length + 1 - 1)) rfl (nK_sub (by omega)) rfl ?_
                    refine w_p (pc1 := 151) rfl rfl ?_
                    refine w_p (pc1 := 153) rfl rfl ?_
                    refine w_p (pc1 := 154) rfl rfl ?_
                    refine w_m0 (pc1 := 157) (st1 := .ref (241 + k3) :: _) rfl rfl (x_gf (k := k) rfl hO rfl) rfl ?_
                    refine w_p (pc1 := 159) rfl rfl ?_
                    refine w_p (pc1 := 160) (st1 := .int 1 :: _) rfl rfl ?_
                    refine w_isub (pc1 := 161) (u := nI (r0.length + 1)) (v := nI (1)) (z := nI (r0.length + 1 - 1)) rfl (nK_sub (by omega)) rfl ?_
                    refine w_m0 (pc1 := 162) (st1 := .long (v_K (.inl v)) :: _) rfl rfl (x_lle (k := k3) (e := r0.length + 1 - 1) hS (by omega) (by omega) (by rw [Nat.add_sub_cancel]; exact hs.2.1)) rfl ?_
                    refine w_p (pc1 := 163) rfl rfl ?_
                    refine w_m0 (pc1 := 166) (st1 := .ref (241 + k3) :: _) rfl rfl (x_gf (k := k) rfl hO rfl) rfl ?_
                    refine w_p (pc1 := 168) rfl rfl ?_
                    refine w_m0 (pc1 := 169) (st1 := .long (v_K (.inl w)) :: _) rfl rfl (x_lle (k := k3) (e := r0.length + 1) hS (by omega) (by omega) (hs.1)) rfl ?_
                    refine w_je (pc1 := 172) (vs := [.ref (241 + k), .int 12, .long (v_K (.inl v)), .long (v_K (.inl w))]) (rest := [.int (nI (r0.length + 1 - 1)), .ref (241 + k3)]) (st1 := [.long (o2K (u_2 g 12 (.inl v) (.inl w))), .int (nI (r0.length + 1 - 1)), .ref (241 + k3)]) (m_116_12 (d := d + 1) (sl := 0) hO) rfl rfl rfl (fun _ _ => rfl) rfl (by exact cl_v my_116 rfl rfl rfl (Nat.le_of_ble_eq_true rfl) rfl (x_obj hO) rfl (by decide) rfl rfl) (by rfl) (Nat.le_of_ble_eq_true rfl) (Nat.le_of_ble_eq_true rfl) rfl (by rfl) ?_
                    refine w_m0 (pc1 := 173) rfl rfl (x_ls (k := k3) (e := r0.length + 1 - 1) hS (by omega) (by omega)) rfl ?_
                    rw [show (t0.set k3 (sCell Q.length s)).set k3 (Sum.inl (1, Q.length, Sum.inr (Sum.inl (vp_updL s (r0.length + 1 - 1) (o2K (u_2 g 12 (.inl v) (.inl w))))))) = t0.set k3 (sCell Q.length (vp_updL s (r0.length + 1 - 1) (o2K (u_2 g 12 (.inl v) (.inl w))))) from List.set_set _]
                    obtain ⟨hO2, -, -, hS2⟩ := FO_s F0 (vp_updL s (r0.length + 1 - 1) (o2K (u_2 g 12 (.inl v) (.inl w))))
                    refine w_p (pc1 := 174) rfl rfl ?_
                    refine w_m0 (pc1 := 177) (st1 := .ref (241 + k3) :: _) rfl rfl (x_gf (k := k) rfl hO2 rfl) rfl ?_
                    refine w_p (pc1 := 179) rfl rfl ?_
                    refine w_p (pc1 := 180) (st1 := .int 1 :: _) rfl rfl ?_
                    refine w_isub (pc1 := 181) (u := nI (r0.length + 1)) (v := nI (1)) (z := nI (r0.length + 1 - 1)) rfl (nK_sub (by omega)) rfl ?_
                    refine w_m0 (pc1 := 182) (st1 := .long (o2K (u_2 g 12 (.inl v) (.inl w))) :: _) rfl rfl (x_lle (k := k3) (e := r0.length + 1 - 1) hS2 (by omega) (by omega) (upd_s)) rfl ?_
                    refine w_m0 (pc1 := 185) (st1 := .long (-9223372036854775807) :: _) rfl rfl rfl rfl ?_
                    refine w_p (pc1 := 186) rfl rfl ?_
                    refine w_t (a := 193) (b := 189) (lb_ne_t (by rw [hu]; exact v_K_un _)) rfl rfl ?_
                    refine w_iinc (pc1 := 196) (u := nI (pre.length)) (z := nI (pre.length + 1)) (al1 := [(6, .int (nI (pre.length + 1))), (5, .int (nI (r0.length + 1))), (7, .int 12), (0, .ref (241 + k)), (1, .ref 114), (2, .int (nI (p))), (3, .null), (4, .null)]) rfl rfl rfl nK_1 rfl rfl ?_
                    refine w_p (pc1 := 6) rfl rfl ?_
                    refine Wd_al (al := [(6, .int (nI (pre.length + 1))), (5, .int (nI (r0.length + 1))), (0, .ref (241 + k)), (1, .ref 114), (2, .int (nI (p))), (3, .null), (4, .null)]) (sba_p [0, 1, 3, 4, 5, 6, 7] rfl rfl) ?_
                    exact ih (z1 :: r0) _ hQ2 ⟨b, hb⟩ (show r0.length + 1 ≤ pre.length + 1 by omega) ⟨by rw [Nat.add_sub_cancel, upd_s, hu]; rfl, skR_u hs.2.2 (by omega)⟩
              · subst e2
                rcases e1 with e1 | e1 | e1 | e1 | e1 | e1
                · obtain rfl : a = 13 := e1
                  rw [fo_13]
                  cases hu : u_2 g 13 (.inl v) (.inl w) with
                  | none =>
                    show Wd _ _ _ _ _ (WK C t0 k3 Q.length sl none) _
                    refine w_p (pc1 := 8) rfl rfl ?_
                    refine w_p (pc1 := 9) rfl rfl ?_
                    refine w_m0 (pc1 := 12) (st1 := .ref (241 + k1) :: _) rfl rfl (x_gf (k := k) rfl hO rfl) rfl ?_
                    refine w_m0 (pc1 := 13) (st1 := .int (nI (Q.length)) :: _) rfl rfl (x_ln (k := k1) hA (by decide)) rfl ?_
                    refine w_f (a := 199) (b := 16) (bN_ge_f (a := pre.length) (b := Q.length) (by omega) (by omega) (by omega)) rfl rfl ?_
                    refine w_p (pc1 := 18) rfl rfl ?_
                    refine w_p (pc1 := 19) rfl rfl ?_
                    refine w_m0 (pc1 := 22) (st1 := .ref (241 + k2) :: _) rfl rfl (x_gf (k := k) rfl hO rfl) rfl ?_
                    refine w_m0 (pc1 := 23) (st1 := .int (nI (Q.length)) :: _) rfl rfl (x_ln (k := k2) hB (by decide)) rfl ?_
                    refine w_f (a := 199) (b := 26) (bN_ge_f (a := pre.length) (b := Q.length) (by omega) (by omega) (by omega)) rfl rfl ?_
                    refine w_p (pc1 := 27) rfl rfl ?_
                    refine w_m0 (pc1 := 30) (st1 := .ref (241 + k1) :: _) rfl rfl (x_gf (k := k) rfl hO rfl) rfl ?_
                    refine w_p (pc1 := 32) rfl rfl ?_
                    refine w_m0 (pc1 := 33) (st1 := .int 13 :: _) rfl rfl (x_ile (k := k1) (e := pre.length) hA (by omega) (by omega) (h1)) rfl ?_
                    refine w_p (pc1 := 35) (al1 := [(7, .int 13), (6, .int (nI (pre.length))), (5, .int (nI (r0.length + 1 + 1))), (0, .ref (241 + k)), (1, .ref 114), (2, .int (nI (p))), (3, .null), (4, .null)]) rfl rfl ?_
                    refine w_p (pc1 := 37) rfl rfl ?_
                    refine w_p (pc1 := 38) (st1 := .int 4 :: _) rfl rfl ?_
                    refine w_t (a := 86) (b := 41) rfl rfl rfl ?_
                    refine w_p (pc1 := 88) rfl rfl ?_
                    refine w_p (pc1 := 90) (st1 := .int 8 :: _) rfl rfl ?_
                    refine w_t (a := 129) (b := 93) rfl rfl rfl ?_
                    refine w_p (pc1 := 131) rfl rfl ?_
                    refine w_p (pc1 := 132) (st1 := .int 2 :: _) rfl rfl ?_
                    refine w_t (a := 139) (b := 135) (bN_ge_t (a := r0.length + 1 + 1) (b := 2) (by omega) (by omega) (by omega)) rfl rfl ?_
                    refine w_iinc (pc1 := 142) (u := nI (r0.length + 1 + 1)) (z := nI (r0.length + 1)) (al1 := [(5, .int (nI (r0.length + 1))), (7, .int 13), (6, .int (nI (pre.length))), (0, .ref (241 + k)), (1, .ref 114), (2, .int (nI (p))), (3, .null), (4, .null)]) rfl rfl rfl (nK_p.trans nK_s) rfl rfl ?_
                    refine w_p (pc1 := 143) rfl rfl ?_
                    refine w_m0 (pc1 := 146) (st1 := .ref (241 + k3) :: _) rfl rfl (x_gf (k := k) rfl hO rfl) rfl ?_
                    refine w_p (pc1 := 148) rfl rfl ?_
                    refine w_p (pc1 := 149) (st1 := .int 1 :: _) rfl rfl ?_
                    refine w_isub (pc1 := 150) (u := nI (r0.length + 1)) (v := nI (1)) (z := nI (r0.length + 1 - 1)) rfl (nK_sub (by omega)) rfl ?_
                    refine w_p (pc1 := 151) rfl rfl ?_
                    refine w_p (pc1 := 153) rfl rfl ?_
                    refine w_p (pc1 := 154) rfl rfl ?_
                    refine w_m0 (pc1 := 157) (st1 := .ref (241 + k3) :: _) rfl rfl (x_gf (k := k) rfl hO rfl) rfl ?_
                    refine w_p (pc1 := 159) rfl rfl ?_
                    refine w_p (pc1 := 160) (st1 := .int 1 :: _) rfl rfl ?_
                    refine w_isub (pc1 := 161) (u := nI (r0.length + 1)) (v := nI (1)) (z := nI (r0.length + 1 - 1)) rfl (nK_sub (by omega)) rfl ?_
                    refine w_m0 (pc1 := 162) (st1 := .long (v_K (.inl v)) :: _) rfl rfl (x_lle (k := k3) (e := r0.length + 1 - 1) hS (by omega) (by omega) (by rw [Nat.add_sub_cancel]; exact hs.2.1)) rfl ?_
                    refine w_p (pc1 := 163) rfl rfl ?_
                    refine w_m0 (pc1 := 166) (st1 := .ref (241 + k3) :: _) rfl rfl (x_gf (k := k) rfl hO rfl) rfl ?_
                    refine w_p (pc1 := 168) rfl rfl ?_
                    refine w_m0 (pc1 := 169) (st1 := .long (v_K (.inl w)) :: _) rfl rfl (x_lle (k := k3) (e := r0.length + 1) hS (by omega) (by omega) (hs.1)) rfl ?_
                    refine w_je (pc1 := 172) (vs := [.ref (241 + k), .int 13, .long (v_K (.inl v)), .long (v_K (.inl w))]) (rest := [.int (nI (r0.length + 1 - 1)), .ref (241 + k3)]) (st1 := [.long (o2K (u_2 g 13 (.inl v) (.inl w))), .int (nI (r0.length + 1 - 1)), .ref (241 + k3)]) (m_116_13 (d := d + 1) (sl := 0) hO) rfl rfl rfl (fun _ _ => rfl) rfl (by exact cl_v my_116 rfl rfl rfl (Nat.le_of_ble_eq_true rfl) rfl (x_obj hO) rfl (by decide) rfl rfl) (by rfl) (Nat.le_of_ble_eq_true rfl) (Nat.le_of_ble_eq_true rfl) rfl (by rfl) ?_
                    refine w_m0 (pc1 := 173) rfl rfl (x_ls (k := k3) (e := r0.length + 1 - 1) hS (by omega) (by omega)) rfl ?_
                    rw [show (t0.set k3 (sCell Q.length s)).set k3 (Sum.inl (1, Q.length, Sum.inr (Sum.inl (vp_updL s (r0.length + 1 - 1) (o2K (u_2 g 13 (.inl v) (.inl w))))))) = t0.set k3 (sCell Q.length (vp_updL s (r0.length + 1 - 1) (o2K (u_2 g 13 (.inl v) (.inl w))))) from List.set_set _]
                    obtain ⟨hO2, -, -, hS2⟩ := FO_s F0 (vp_updL s (r0.length + 1 - 1) (o2K (u_2 g 13 (.inl v) (.inl w))))
                    refine w_p (pc1 := 174) rfl rfl ?_
                    refine w_m0 (pc1 := 177) (st1 := .ref (241 + k3) :: _) rfl rfl (x_gf (k := k) rfl hO2 rfl) rfl ?_
                    refine w_p (pc1 := 179) rfl rfl ?_
                    refine w_p (pc1 := 180) (st1 := .int 1 :: _) rfl rfl ?_
                    refine w_isub (pc1 := 181) (u := nI (r0.length + 1)) (v := nI (1)) (z := nI (r0.length + 1 - 1)) rfl (nK_sub (by omega)) rfl ?_
                    refine w_m0 (pc1 := 182) (st1 := .long (o2K (u_2 g 13 (.inl v) (.inl w))) :: _) rfl rfl (x_lle (k := k3) (e := r0.length + 1 - 1) hS2 (by omega) (by omega) (upd_s)) rfl ?_
                    refine w_m0 (pc1 := 185) (st1 := .long (-9223372036854775807) :: _) rfl rfl rfl rfl ?_
                    refine w_p (pc1 := 186) rfl rfl ?_
                    refine w_f (a := 193) (b := 189) (lb_ne_f (by rw [hu]; rfl)) rfl rfl ?_
                    refine w_m0 (pc1 := 192) (st1 := .long (-9223372036854775807) :: _) rfl rfl rfl rfl ?_
                    refine w_r rfl rfl rfl (fun _ _ => rfl) rfl ?_
                    exact ⟨_, rfl, rfl, rfl⟩
                  | some z1 =>
                    show Wd _ _ _ _ _ (WK C t0 k3 Q.length sl (f_l g R N O l (z1 :: r0))) _
                    have hb : t_l w1 w2 w3 l ((z1 :: r0).map tyv) = some [b] := by
                      have : tyv z1 = true := by rw [u2_B (by unfold isB; decide)] at hu; cases hu; rfl
                      show t_l w1 w2 w3 l (tyv z1 :: r0.map tyv) = _
                      rw [this]
                      exact hb
                    refine w_p (pc1 := 8) rfl rfl ?_
                    refine w_p (pc1 := 9) rfl rfl ?_
                    refine w_m0 (pc1 := 12) (st1 := .ref (241 + k1) :: _) rfl rfl (x_gf (k := k) rfl hO rfl) rfl ?_
                    refine w_m0 (pc1 := 13) (st1 := .int (nI (Q.length)) :: _) rfl rfl (x_ln (k := k1) hA (by decide)) rfl ?_
                    refine w_f (a := 199) (b := 16) (bN_ge_f (a := pre.length) (b := Q.length) (by omega) (by omega) (by omega)) rfl rfl ?_
                    refine w_p (pc1 := 18) rfl rfl ?_
                    refine w_p (pc1 := 19) rfl rfl ?_
                    refine w_m0 (pc1 := 22) (st1 := .ref (241 + k2) :: _) rfl rfl (x_gf (k := k) rfl hO rfl) rfl ?_
                    refine w_m0 (pc1 := 23) (st1 := .int (nI (Q.length)) :: _) rfl rfl (x_ln (k := k2) hB (by decide)) rfl ?_
                    refine w_f (a := 199) (b := 26) (bN_ge_f (a := pre.length) (b := Q.length) (by omega) (by omega) (by omega)) rfl rfl ?_
                    refine w_p (pc1 := 27) rfl rfl ?_
                    refine w_m0 (pc1 := 30) (st1 := .ref (241 + k1) :: _) rfl rfl (x_gf (k := k) rfl hO rfl) rfl ?_
                    refine w_p (pc1 := 32) rfl rfl ?_
                    refine w_m0 (pc1 := 33) (st1 := .int 13 :: _) rfl rfl (x_ile (k := k1) (e := pre.length) hA (by omega) (by omega) (h1)) rfl ?_
                    refine w_p (pc1 := 35) (al1 := [(7, .int 13), (6, .int (nI (pre.length))), (5, .int (nI (r0.length + 1 + 1))), (0, .ref (241 + k)), (1, .ref 114), (2, .int (nI (p))), (3, .null), (4, .null)]) rfl rfl ?_
                    refine w_p (pc1 := 37) rfl rfl ?_
                    refine w_p (pc1 := 38) (st1 := .int 4 :: _) rfl rfl ?_
                    refine w_t (a := 86) (b := 41) rfl rfl rfl ?_
                    refine w_p (pc1 := 88) rfl rfl ?_
                    refine w_p (pc1 := 90) (st1 := .int 8 :: _) rfl rfl ?_
                    refine w_t (a := 129) (b := 93) rfl rfl rfl ?_
                    refine w_p (pc1 := 131) rfl rfl ?_
                    refine w_p (pc1 := 132) (st1 := .int 2 :: _) rfl rfl ?_
                    refine w_t (a := 139) (b := 135) (bN_ge_t (a := r0.length + 1 + 1) (b := 2) (by omega) (by omega) (by omega)) rfl rfl ?_
                    refine w_iinc (pc1 := 142) (u := nI (r0.length + 1 + 1)) (z := nI (r0.length + 1)) (al1 := [(5, .int (nI (r0.length + 1))), (7, .int 13), (6, .int (nI (pre.length))), (0, .ref (241 + k)), (1, .ref 114), (2, .int (nI (p))), (3, .null), (4, .null)]) rfl rfl rfl (nK_p.trans nK_s) rfl rfl ?_
                    refine w_p (pc1 := 143) rfl rfl ?_
                    refine w_m0 (pc1 := 146) (st1 := .ref (241 + k3) :: _) rfl rfl (x_gf (k := k) rfl hO rfl) rfl ?_
                    refine w_p (pc1 := 148) rfl rfl ?_
                    refine w_p (pc1 := 149) (st1 := .int 1 :: _) rfl rfl ?_
                    refine w_isub (pc1 := 150) (u := nI (r0.length + 1)) (v := nI (1)) (z := nI (r0.length + 1 - 1)) rfl (nK_sub (by omega)) rfl ?_
                    refine w_p (pc1 := 151) rfl rfl ?_
                    refine w_p (pc1 := 153) rfl rfl ?_
                    refine w_p (pc1 := 154) rfl rfl ?_
                    refine w_m0 (pc1 := 157) (st1 := .ref (241 + k3) :: _) rfl rfl (x_gf (k := k) rfl hO rfl) rfl ?_
                    refine w_p (pc1 := 159) rfl rfl ?_
                    refine w_p (pc1 := 160) (st1 := .int 1 :: _) rfl rfl ?_
                    refine w_isub (pc1 := 161) (u := nI (r0.length + 1)) (v := nI (1)) (z := nI (r0.length + 1 - 1)) rfl (nK_sub (by omega)) rfl ?_
                    refine w_m0 (pc1 := 162) (st1 := .long (v_K (.inl v)) :: _) rfl rfl (x_lle (k := k3) (e := r0.length + 1 - 1) hS (by omega) (by omega) (by rw [Nat.add_sub_cancel]; exact hs.2.1)) rfl ?_
                    refine w_p (pc1 := 163) rfl rfl ?_
                    refine w_m0 (pc1 := 166) (st1 := .ref (241 + k3) :: _) rfl rfl (x_gf (k := k) rfl hO rfl) rfl ?_
                    refine w_p (pc1 := 168) rfl rfl ?_
                    refine w_m0 (pc1 := 169) (st1 := .long (v_K (.inl w)) :: _) rfl rfl (x_lle (k := k3) (e := r0.length + 1) hS (by omega) (by omega) (hs.1)) rfl ?_
                    refine w_je (pc1 := 172) (vs := [.ref (241 + k), .int 13, .long (v_K (.inl v)), .long (v_K (.inl w))]) (rest := [.int (nI (r0.length + 1 - 1)), .ref (241 + k3)]) (st1 := [.long (o2K (u_2 g 13 (.inl v) (.inl w))), .int (nI (r0.length + 1 - 1)), .ref (241 + k3)]) (m_116_13 (d := d + 1) (sl := 0) hO) rfl rfl rfl (fun _ _ => rfl) rfl (by exact cl_v my_116 rfl rfl rfl (Nat.le_of_ble_eq_true rfl) rfl (x_obj hO) rfl (by decide) rfl rfl) (by rfl) (Nat.le_of_ble_eq_true rfl) (Nat.le_of_ble_eq_true rfl) rfl (by rfl) ?_
                    refine w_m0 (pc1 := 173) rfl rfl (x_ls (k := k3) (e := r0.length + 1 - 1) hS (by omega) (by omega)) rfl ?_
                    rw [show (t0.set k3 (sCell Q.length s)).set k3 (Sum.inl (1, Q.length, Sum.inr (Sum.inl (vp_updL s (r0.length + 1 - 1) (o2K (u_2 g 13 (.inl v) (.inl w))))))) = t0.set k3 (sCell Q.length (vp_updL s (r0.length + 1 - 1) (o2K (u_2 g 13 (.inl v) (.inl w))))) from List.set_set _]
                    obtain ⟨hO2, -, -, hS2⟩ := FO_s F0 (vp_updL s (r0.length + 1 - 1) (o2K (u_2 g 13 (.inl v) (.inl w))))
                    refine w_p (pc1 := 174) rfl rfl ?_
                    refine w_m0 (pc1 := 177) (st1 := .ref (241 + k3) :: _) rfl rfl (x_gf (k := k) rfl hO2 rfl) rfl ?_
                    refine w_p (pc1 := 179) rfl rfl ?_
                    refine w_p (pc1 := 180) (st1 := .int 1 :: _) rfl rfl ?_
                    refine w_isub (pc1 := 181) (u := nI (r0.length + 1)) (v := nI (1)) (z := nI (r0.length + 1 - 1)) rfl (nK_sub (by omega)) rfl ?_
                    refine w_m0 (pc1 := 182) (st1 := .long (o2K (u_2 g 13 (.inl v) (.inl w))) :: _) rfl rfl (x_lle (k := k3) (e := r0.length + 1 - 1) hS2 (by omega) (by omega) (upd_s)) rfl ?_
                    refine w_m0 (pc1 := 185) (st1 := .long (-9223372036854775807) :: _) rfl rfl rfl rfl ?_
                    refine w_p (pc1 := 186) rfl rfl ?_
                    refine w_t (a := 193) (b := 189) (lb_ne_t (by rw [hu]; exact v_K_un _)) rfl rfl ?_
                    refine w_iinc (pc1 := 196) (u := nI (pre.length)) (z := nI (pre.length + 1)) (al1 := [(6, .int (nI (pre.length + 1))), (5, .int (nI (r0.length + 1))), (7, .int 13), (0, .ref (241 + k)), (1, .ref 114), (2, .int (nI (p))), (3, .null), (4, .null)]) rfl rfl rfl nK_1 rfl rfl ?_
                    refine w_p (pc1 := 6) rfl rfl ?_
                    refine Wd_al (al := [(6, .int (nI (pre.length + 1))), (5, .int (nI (r0.length + 1))), (0, .ref (241 + k)), (1, .ref 114), (2, .int (nI (p))), (3, .null), (4, .null)]) (sba_p [0, 1, 3, 4, 5, 6, 7] rfl rfl) ?_
                    exact ih (z1 :: r0) _ hQ2 ⟨b, hb⟩ (show r0.length + 1 ≤ pre.length + 1 by omega) ⟨by rw [Nat.add_sub_cancel, upd_s, hu]; rfl, skR_u hs.2.2 (by omega)⟩
                · obtain rfl : a = 14 := e1
                  rw [fo_14]
                  cases hu : u_2 g 14 (.inl v) (.inl w) with
                  | none =>
                    show Wd _ _ _ _ _ (WK C t0 k3 Q.length sl none) _
                    refine w_p (pc1 := 8) rfl rfl ?_
                    refine w_p (pc1 := 9) rfl rfl ?_
                    refine w_m0 (pc1 := 12) (st1 := .ref (241 + k1) :: _) rfl rfl (x_gf (k := k) rfl hO rfl) rfl ?_
                    refine w_m0 (pc1 := 13) (st1 := .int (nI (Q.length)) :: _) rfl rfl (x_ln (k := k1) hA (by decide)) rfl ?_
                    refine w_f (a := 199) (b := 16) (bN_ge_f (a := pre.length) (b := Q.length) (by omega) (by omega) (by omega)) rfl rfl ?_
                    refine w_p (pc1 := 18) rfl rfl ?_
                    refine w_p (pc1 := 19) rfl rfl ?_
                    refine w_m0 (pc1 := 22) (st1 := .ref (241 + k2) :: _) rfl rfl (x_gf (k := k) rfl hO rfl) rfl ?_
                    refine w_m0 (pc1 := 23) (st1 := .int (nI (Q.length)) :: _) rfl rfl (x_ln (k := k2) hB (by decide)) rfl ?_
                    refine w_f (a := 199) (b := 26) (bN_ge_f (a := pre.length) (b := Q.length) (by omega) (by omega) (by omega)) rfl rfl ?_
                    refine w_p (pc1 := 27) rfl rfl ?_
                    refine w_m0 (pc1 := 30) (st1 := .ref (241 + k1) :: _) rfl rfl (x_gf (k := k) rfl hO rfl) rfl ?_
                    refine w_p (pc1 := 32) rfl rfl ?_
                    refine w_m0 (pc1 := 33) (st1 := .int 14 :: _) rfl rfl (x_ile (k := k1) (e := pre.length) hA (by omega) (by omega) (h1)) rfl ?_
                    refine w_p (pc1 := 35) (al1 := [(7, .int 14), (6, .int (nI (pre.length))), (5, .int (nI (r0.length + 1 + 1))), (0, .ref (241 + k)), (1, .ref 114), (2, .int (nI (p))), (3, .null), (4, .null)]) rfl rfl ?_
                    refine w_p (pc1 := 37) rfl rfl ?_
                    refine w_p (pc1 := 38) (st1 := .int 4 :: _) rfl rfl ?_
                    refine w_t (a := 86) (b := 41) rfl rfl rfl ?_
                    refine w_p (pc1 := 88) rfl rfl ?_
                    refine w_p (pc1 := 90) (st1 := .int 8 :: _) rfl rfl ?_
                    refine w_t (a := 129) (b := 93) rfl rfl rfl ?_
                    refine w_p (pc1 := 131) rfl rfl ?_
                    refine w_p (pc1 := 132) (st1 := .int 2 :: _) rfl rfl ?_
                    refine w_t (a := 139) (b := 135) (bN_ge_t (a := r0.length + 1 + 1) (b := 2) (by omega) (by omega) (by omega)) rfl rfl ?_
                    refine w_iinc (pc1 := 142) (u := nI (r0.length + 1 + 1)) (z := nI (r0.length + 1)) (al1 := [(5, .int (nI (r0.length + 1))), (7, .int 14), (6, .int (nI (pre.length))), (0, .ref (241 + k)), (1, .ref 114), (2, .int (nI (p))), (3, .null), (4, .null)]) rfl rfl rfl (nK_p.trans nK_s) rfl rfl ?_
                    refine w_p (pc1 := 143) rfl rfl ?_
                    refine w_m0 (pc1 := 146) (st1 := .ref (241 + k3) :: _) rfl rfl (x_gf (k := k) rfl hO rfl) rfl ?_
                    refine w_p (pc1 := 148) rfl rfl ?_
                    refine w_p (pc1 := 149) (st1 := .int 1 :: _) rfl rfl ?_
                    refine w_isub (pc1 := 150) (u := nI (r0.length + 1)) (v := nI (1)) (z := nI (r0.length + 1 - 1)) rfl (nK_sub (by omega)) rfl ?_
                    refine w_p (pc1 := 151) rfl rfl ?_
                    refine w_p (pc1 := 153) rfl rfl ?_
                    refine w_p (pc1 := 154) rfl rfl ?_
                    refine w_m0 (pc1 := 157) (st1 := .ref (241 + k3) :: _) rfl rfl (x_gf (k := k) rfl hO rfl) rfl ?_
                    refine w_p (pc1 := 159) rfl rfl ?_
                    refine w_p (pc1 := 160) (st1 := .int 1 :: _) rfl rfl ?_
                    refine w_isub (pc1 := 161) (u := nI (r0.length + 1)) (v := nI (1)) (z := nI (r0.length + 1 - 1)) rfl (nK_sub (by omega)) rfl ?_
                    refine w_m0 (pc1 := 162) (st1 := .long (v_K (.inl v)) :: _) rfl rfl (x_lle (k := k3) (e := r0.length + 1 - 1) hS (by omega) (by omega) (by rw [Nat.add_sub_cancel]; exact hs.2.1)) rfl ?_
                    refine w_p (pc1 := 163) rfl rfl ?_
                    refine w_m0 (pc1 := 166) (st1 := .ref (241 + k3) :: _) rfl rfl (x_gf (k := k) rfl hO rfl) rfl ?_
                    refine w_p (pc1 := 168) rfl rfl ?_
                    refine w_m0 (pc1 := 169) (st1 := .long (v_K (.inl w)) :: _) rfl rfl (x_lle (k := k3) (e := r0.length + 1) hS (by omega) (by omega) (hs.1)) rfl ?_
                    refine w_je (pc1 := 172) (vs := [.ref (241 + k), .int 14, .long (v_K (.inl v)), .long (v_K (.inl w))]) (rest := [.int (nI (r0.length + 1 - 1)), .ref (241 + k3)]) (st1 := [.long (o2K (u_2 g 14 (.inl v) (.inl w))), .int (nI (r0.length + 1 - 1)), .ref (241 + k3)]) (m_116_14 (d := d + 1) (sl := 0) hO) rfl rfl rfl (fun _ _ => rfl) rfl (by exact cl_v my_116 rfl rfl rfl (Nat.le_of_ble_eq_true rfl) rfl (x_obj hO) rfl (by decide) rfl rfl) (by rfl) (Nat.le_of_ble_eq_true rfl) (Nat.le_of_ble_eq_true rfl) rfl (by rfl) ?_
                    refine w_m0 (pc1 := 173) rfl rfl (x_ls (k := k3) (e := r0.length + 1 - 1) hS (by omega) (by omega)) rfl ?_
                    rw [show (t0.set k3 (sCell Q.length s)).set k3 (Sum.inl (1, Q.length, Sum.inr (Sum.inl (vp_updL s (r0.length + 1 - 1) (o2K (u_2 g 14 (.inl v) (.inl w))))))) = t0.set k3 (sCell Q.length (vp_updL s (r0.length + 1 - 1) (o2K (u_2 g 14 (.inl v) (.inl w))))) from List.set_set _]
                    obtain ⟨hO2, -, -, hS2⟩ := FO_s F0 (vp_updL s (r0.length + 1 - 1) (o2K (u_2 g 14 (.inl v) (.inl w))))
                    refine w_p (pc1 := 174) rfl rfl ?_
                    refine w_m0 (pc1 := 177) (st1 := .ref (241 + k3) :: _) rfl rfl (x_gf (k := k) rfl hO2 rfl) rfl ?_
                    refine w_p (pc1 := 179) rfl rfl ?_
                    refine w_p (pc1 := 180) (st1 := .int 1 :: _) rfl rfl ?_
                    refine w_isub (pc1 := 181) (u := nI (r0.length + 1)) (v := nI (1)) (z := nI (r0.length + 1 - 1)) rfl (nK_sub (by omega)) rfl ?_
                    refine w_m0 (pc1 := 182) (st1 := .long (o2K (u_2 g 14 (.inl v) (.inl w))) :: _) rfl rfl (x_lle (k := k3) (e := r0.length + 1 - 1) hS2 (by omega) (by omega) (upd_s)) rfl ?_
                    refine w_m0 (pc1 := 185) (st1 := .long (-9223372036854775807) :: _) rfl rfl rfl rfl ?_
                    refine w_p (pc1 := 186) rfl rfl ?_
                    refine w_f (a := 193) (b := 189) (lb_ne_f (by rw [hu]; rfl)) rfl rfl ?_
                    refine w_m0 (pc1 := 192) (st1 := .long (-9223372036854775807) :: _) rfl rfl rfl rfl ?_
                    refine w_r rfl rfl rfl (fun _ _ => rfl) rfl ?_
                    exact ⟨_, rfl, rfl, rfl⟩
                  | some z1 =>
                    show Wd _ _ _ _ _ (WK C t0 k3 Q.length sl (f_l g R N O l (z1 :: r0))) _
                    have hb : t_l w1 w2 w3 l ((z1 :: r0).map tyv) = some [b] := by
                      have : tyv z1 = true := by rw [u2_B (by unfold isB; decide)] at hu; cases hu; rfl
                      show t_l w1 w2 w3 l (tyv z1 :: r0.map tyv) = _
                      rw [this]
                      exact hb
                    refine w_p (pc1 := 8) rfl rfl ?_
                    refine w_p (pc1 := 9) rfl rfl ?_
                    refine w_m0 (pc1 := 12) (st1 := .ref (241 + k1) :: _) rfl rfl (x_gf (k := k) rfl hO rfl) rfl ?_
                    refine w_m0 (pc1 := 13) (st1 := .int (nI (Q.length)) :: _) rfl rfl (x_ln (k := k1) hA (by decide)) rfl ?_
                    refine w_f (a := 199) (b := 16) (bN_ge_f (a := pre.length) (b := Q.length) (by omega) (by omega) (by omega)) rfl rfl ?_
                    refine w_p (pc1 := 18) rfl rfl ?_
                    refine w_p (pc1 := 19) rfl rfl ?_
                    refine w_m0 (pc1 := 22) (st1 := .ref (241 + k2) :: _) rfl rfl (x_gf (k := k) rfl hO rfl) rfl ?_
                    refine w_m0 (pc1 := 23) (st1 := .int (nI (Q.length)) :: _) rfl rfl (x_ln (k := k2) hB (by decide)) rfl ?_
                    refine w_f (a := 199) (b := 26) (bN_ge_f (a := pre.length) (b := Q.length) (by omega) (by omega) (by omega)) rfl rfl ?_
                    refine w_p (pc1 := 27) rfl rfl ?_
                    refine w_m0 (pc1 := 30) (st1 := .ref (241 + k1) :: _) rfl rfl (x_gf (k := k) rfl hO rfl) rfl ?_
                    refine w_p (pc1 := 32) rfl rfl ?_
                    refine w_m0 (pc1 := 33) (st1 := .int 14 :: _) rfl rfl (x_ile (k := k1) (e := pre.length) hA (by omega) (by omega) (h1)) rfl ?_
                    refine w_p (pc1 := 35) (al1 := [(7, .int 14), (6, .int (nI (pre.length))), (5, .int (nI (r0.length + 1 + 1))), (0, .ref (241 + k)), (1, .ref 114), (2, .int (nI (p))), (3, .null), (4, .null)]) rfl rfl ?_
                    refine w_p (pc1 := 37) rfl rfl ?_
                    refine w_p (pc1 := 38) (st1 := .int 4 :: _) rfl rfl ?_
                    refine w_t (a := 86) (b := 41) rfl rfl rfl ?_
                    refine w_p (pc1 := 88) rfl rfl ?_
                    refine w_p (pc1 := 90) (st1 := .int 8 :: _) rfl rfl ?_
                    refine w_t (a := 129) (b := 93) rfl rfl rfl ?_
                    refine w_p (pc1 := 131) rfl rfl ?_
                    refine w_p (pc1 := 132) (st1 := .int 2 :: _) rfl rfl ?_
                    refine w_t (a := 139) (b := 135) (bN_ge_t (a := r0.length + 1 + 1) (b := 2) (by omega) (by omega) (by omega)) rfl rfl ?_
                    refine w_iinc (pc1 := 142) (u := nI (r0.length + 1 + 1)) (z := nI (r0.length + 1)) (al1 := [(5, .int (nI (r0.length + 1))), (7, .int 14), (6, .int (nI (pre.length))), (0, .ref (241 + k)), (1, .ref 114), (2, .int (nI (p))), (3, .null), (4, .null)]) rfl rfl rfl (nK_p.trans nK_s) rfl rfl ?_
                    refine w_p (pc1 := 143) rfl rfl ?_
                    refine w_m0 (pc1 := 146) (st1 := .ref (241 + k3) :: _) rfl rfl (x_gf (k := k) rfl hO rfl) rfl ?_
                    refine w_p (pc1 := 148) rfl rfl ?_
                    refine w_p (pc1 := 149) (st1 := .int 1 :: _) rfl rfl ?_
                    refine w_isub (pc1 := 150) (u := nI (r0.length + 1)) (v := nI (1)) (z := nI (r0.length + 1 - 1)) rfl (nK_sub (by omega)) rfl ?_
                    refine w_p (pc1 := 151) rfl rfl ?_
                    refine w_p (pc1 := 153) rfl rfl ?_
                    refine w_p (pc1 := 154) rfl rfl ?_
                    refine w_m0 (pc1 := 157) (st1 := .ref (241 + k3) :: _) rfl rfl (x_gf (k := k) rfl hO rfl) rfl ?_
                    refine w_p (pc1 := 159) rfl rfl ?_
                    refine w_p (pc1 := 160) (st1 := .int 1 :: _) rfl rfl ?_
                    refine w_isub (pc1 := 161) (u := nI (r0.length + 1)) (v := nI (1)) (z := nI (r0.length + 1 - 1)) rfl (nK_sub (by omega)) rfl ?_
                    refine w_m0 (pc1 := 162) (st1 := .long (v_K (.inl v)) :: _) rfl rfl (x_lle (k := k3) (e := r0.length + 1 - 1) hS (by omega) (by omega) (by rw [Nat.add_sub_cancel]; exact hs.2.1)) rfl ?_
                    refine w_p (pc1 := 163) rfl rfl ?_
                    refine w_m0 (pc1 := 166) (st1 := .ref (241 + k3) :: _) rfl rfl (x_gf (k := k) rfl hO rfl) rfl ?_
                    refine w_p (pc1 := 168) rfl rfl ?_
                    refine w_m0 (pc1 := 169) (st1 := .long (v_K (.inl w)) :: _) rfl rfl (x_lle (k := k3) (e := r0.length + 1) hS (by omega) (by omega) (hs.1)) rfl ?_
                    refine w_je (pc1 := 172) (vs := [.ref (241 + k), .int 14, .long (v_K (.inl v)), .long (v_K (.inl w))]) (rest := [.int (nI (r0.length + 1 - 1)), .ref (241 + k3)]) (st1 := [.long (o2K (u_2 g 14 (.inl v) (.inl w))), .int (nI (r0.length + 1 - 1)), .ref (241 + k3)]) (m_116_14 (d := d + 1) (sl := 0) hO) rfl rfl rfl (fun _ _ => rfl) rfl (by exact cl_v my_116 rfl rfl rfl (Nat.le_of_ble_eq_true rfl) rfl (x_obj hO) rfl (by decide) rfl rfl) (by rfl) (Nat.le_of_ble_eq_true rfl) (Nat.le_of_ble_eq_true rfl) rfl (by rfl) ?_
                    refine w_m0 (pc1 := 173) rfl rfl (x_ls (k := k3) (e := r0.length + 1 - 1) hS (by omega) (by omega)) rfl ?_
                    rw [show (t0.set k3 (sCell Q.length s)).set k3 (Sum.inl (1, Q.length, Sum.inr (Sum.inl (vp_updL s (r0.length + 1 - 1) (o2K (u_2 g 14 (.inl v) (.inl w))))))) = t0.set k3 (sCell Q.length (vp_updL s (r0.length + 1 - 1) (o2K (u_2 g 14 (.inl v) (.inl w))))) from List.set_set _]
                    obtain ⟨hO2, -, -, hS2⟩ := FO_s F0 (vp_updL s (r0.length + 1 - 1) (o2K (u_2 g 14 (.inl v) (.inl w))))
                    refine w_p (pc1 := 174) rfl rfl ?_
                    refine w_m0 (pc1 := 177) (st1 := .ref (241 + k3) :: _) rfl rfl (x_gf (k := k) rfl hO2 rfl) rfl ?_
                    refine w_p (pc1 := 179) rfl rfl ?_
                    refine w_p (pc1 := 180) (st1 := .int 1 :: _) rfl rfl ?_
                    refine w_isub (pc1 := 181) (u := nI (r0.length + 1)) (v := nI (1)) (z := nI (r0.length + 1 - 1)) rfl (nK_sub (by omega)) rfl ?_
                    refine w_m0 (pc1 := 182) (st1 := .long (o2K (u_2 g 14 (.inl v) (.inl w))) :: _) rfl rfl (x_lle (k := k3) (e := r0.length + 1 - 1) hS2 (by omega) (by omega) (upd_s)) rfl ?_
                    refine w_m0 (pc1 := 185) (st1 := .long (-9223372036854775807) :: _) rfl rfl rfl rfl ?_
                    refine w_p (pc1 := 186) rfl rfl ?_
                    refine w_t (a := 193) (b := 189) (lb_ne_t (by rw [hu]; exact v_K_un _)) rfl rfl ?_
                    refine w_iinc (pc1 := 196) (u := nI (pre.length)) (z := nI (pre.length + 1)) (al1 := [(6, .int (nI (pre.length + 1))), (5, .int (nI (r0.length + 1))), (7, .int 14), (0, .ref (241 + k)), (1, .ref 114), (2, .int (nI (p))), (3, .null), (4, .null)]) rfl rfl rfl nK_1 rfl rfl ?_
                    refine w_p (pc1 := 6) rfl rfl ?_
                    refine Wd_al (al := [(6, .int (nI (pre.length + 1))), (5, .int (nI (r0.length + 1))), (0, .ref (241 + k)), (1, .ref 114), (2, .int (nI (p))), (3, .null), (4, .null)]) (sba_p [0, 1, 3, 4, 5, 6, 7] rfl rfl) ?_
                    exact ih (z1 :: r0) _ hQ2 ⟨b, hb⟩ (show r0.length + 1 ≤ pre.length + 1 by omega) ⟨by rw [Nat.add_sub_cancel, upd_s, hu]; rfl, skR_u hs.2.2 (by omega)⟩
                · obtain rfl : a = 15 := e1
                  rw [fo_15]
                  cases hu : u_2 g 15 (.inl v) (.inl w) with
                  | none =>
                    show Wd _ _ _ _ _ (WK C t0 k3 Q.length sl none) _
                    refine w_p (pc1 := 8) rfl rfl ?_
                    refine w_p (pc1 := 9) rfl rfl ?_
                    refine w_m0 (pc1 := 12) (st1 := .ref (241 + k1) :: _) rfl rfl (x_gf (k := k) rfl hO rfl) rfl ?_
                    refine w_m0 (pc1 := 13) (st1 := .int (nI (Q.length)) :: _) rfl rfl (x_ln (k := k1) hA (by decide)) rfl ?_
                    refine w_f (a := 199) (b := 16) (bN_ge_f (a := pre.length) (b := Q.length) (by omega) (by omega) (by omega)) rfl rfl ?_
                    refine w_p (pc1 := 18) rfl rfl ?_
                    refine w_p (pc1 := 19) rfl rfl ?_
                    refine w_m0 (pc1 := 22) (st1 := .ref (241 + k2) :: _) rfl rfl (x_gf (k := k) rfl hO rfl) rfl ?_
                    refine w_m0 (pc1 := 23) (st1 := .int (nI (Q.length)) :: _) rfl rfl (x_ln (k := k2) hB (by decide)) rfl ?_
                    refine w_f (a := 199) (b := 26) (bN_ge_f (a := pre.length) (b := Q.length) (by omega) (by omega) (by omega)) rfl rfl ?_
                    refine w_p (pc1 := 27) rfl rfl ?_
                    refine w_m0 (pc1 := 30) (st1 := .ref (241 + k1) :: _) rfl rfl (x_gf (k := k) rfl hO rfl) rfl ?_
                    refine w_p (pc1 := 32) rfl rfl ?_
                    refine w_m0 (pc1 := 33) (st1 := .int 15 :: _) rfl rfl (x_ile (k := k1) (e := pre.length) hA (by omega) (by omega) (h1)) rfl ?_
                    refine w_p (pc1 := 35) (al1 := [(7, .int 15), (6, .int (nI (pre.length))), (5, .int (nI (r0.length + 1 + 1))), (0, .ref (241 + k)), (1, .ref 114), (2, .int (nI (p))), (3, .null), (4, .null)]) rfl rfl ?_
                    refine w_p (pc1 := 37) rfl rfl ?_
                    refine w_p (pc1 := 38) (st1 := .int 4 :: _) rfl rfl ?_
                    refine w_t (a := 86) (b := 41) rfl rfl rfl ?_
                    refine w_p (pc1 := 88) rfl rfl ?_
                    refine w_p (pc1 := 90) (st1 := .int 8 :: _) rfl rfl ?_
                    refine w_t (a := 129) (b := 93) rfl rfl rfl ?_
                    refine w_p (pc1 := 131) rfl rfl ?_
                    refine w_p (pc1 := 132) (st1 := .int 2 :: _) rfl rfl ?_
                    refine w_t (a := 139) (b := 135) (bN_ge_t (a := r0.length + 1 + 1) (b := 2) (by omega) (by omega) (by omega)) rfl rfl ?_
                    refine w_iinc (pc1 := 142) (u := nI (r0.length + 1 + 1)) (z := nI (r0.length + 1)) (al1 := [(5, .int (nI (r0.length + 1))), (7, .int 15), (6, .int (nI (pre.length))), (0, .ref (241 + k)), (1, .ref 114), (2, .int (nI (p))), (3, .null), (4, .null)]) rfl rfl rfl (nK_p.trans nK_s) rfl rfl ?_
                    refine w_p (pc1 := 143) rfl rfl ?_
                    refine w_m0 (pc1 := 146) (st1 := .ref (241 + k3) :: _) rfl rfl (x_gf (k := k) rfl hO rfl) rfl ?_
                    refine w_p (pc1 := 148) rfl rfl ?_
                    refine w_p (pc1 := 149) (st1 := .int 1 :: _) rfl rfl ?_
                    refine w_isub (pc1 := 150) (u := nI (r0.length + 1)) (v := nI (1)) (z := nI (r0.length + 1 - 1)) rfl (nK_sub (by omega)) rfl ?_
                    refine w_p (pc1 := 151) rfl rfl ?_
                    refine w_p (pc1 := 153) rfl rfl ?_
                    refine w_p (pc1 := 154) rfl rfl ?_
                    refine w_m0 (pc1 := 157) (st1 := .ref (241 + k3) :: _) rfl rfl (x_gf (k := k) rfl hO rfl) rfl ?_
                    refine w_p (pc1 := 159) rfl rfl ?_
                    refine w_p (pc1 := 160) (st1 := .int 1 :: _) rfl rfl ?_
                    refine w_isub (pc1 := 161) (u := nI (r0.length + 1)) (v := nI (1)) (z := nI (r0.length + 1 - 1)) rfl (nK_sub (by omega)) rfl ?_
                    refine w_m0 (pc1 := 162) (st1 := .long (v_K (.inl v)) :: _) rfl rfl (x_lle (k := k3) (e := r0.length + 1 - 1) hS (by omega) (by omega) (by rw [Nat.add_sub_cancel]; exact hs.2.1)) rfl ?_
                    refine w_p (pc1 := 163) rfl rfl ?_
                    refine w_m0 (pc1 := 166) (st1 := .ref (241 + k3) :: _) rfl rfl (x_gf (k := k) rfl hO rfl) rfl ?_
                    refine w_p (pc1 := 168) rfl rfl ?_
                    refine w_m0 (pc1 := 169) (st1 := .long (v_K (.inl w)) :: _) rfl rfl (x_lle (k := k3) (e := r0.length + 1) hS (by omega) (by omega) (hs.1)) rfl ?_
                    refine w_je (pc1 := 172) (vs := [.ref (241 + k), .int 15, .long (v_K (.inl v)), .long (v_K (.inl w))]) (rest := [.int (nI (r0.length + 1 - 1)), .ref (241 + k3)]) (st1 := [.long (o2K (u_2 g 15 (.inl v) (.inl w))), .int (nI (r0.length + 1 - 1)), .ref (241 + k3)]) (m_116_15 (d := d + 1) (sl := 0) hO) rfl rfl rfl (fun _ _ => rfl) rfl (by exact cl_v my_116 rfl rfl rfl (Nat.le_of_ble_eq_true rfl) rfl (x_obj hO) rfl (by decide) rfl rfl) (by rfl) (Nat.le_of_ble_eq_true rfl) (Nat.le_of_ble_eq_true rfl) rfl (by rfl) ?_
                    refine w_m0 (pc1 := 173) rfl rfl (x_ls (k := k3) (e := r0.length + 1 - 1) hS (by omega) (by omega)) rfl ?_
                    rw [show (t0.set k3 (sCell Q.length s)).set k3 (Sum.inl (1, Q.length, Sum.inr (Sum.inl (vp_updL s (r0.length + 1 - 1) (o2K (u_2 g 15 (.inl v) (.inl w))))))) = t0.set k3 (sCell Q.length (vp_updL s (r0.length + 1 - 1) (o2K (u_2 g 15 (.inl v) (.inl w))))) from List.set_set _]
                    obtain ⟨hO2, -, -, hS2⟩ := FO_s F0 (vp_updL s (r0.length + 1 - 1) (o2K (u_2 g 15 (.inl v) (.inl w))))
                    refine w_p (pc1 := 174) rfl rfl ?_
                    refine w_m0 (pc1 := 177) (st1 := .ref (241 + k3) :: _) rfl rfl (x_gf (k := k) rfl hO2 rfl) rfl ?_
                    refine w_p (pc1 := 179) rfl rfl ?_
                    refine w_p (pc1 := 180) (st1 := .int 1 :: _) rfl rfl ?_
                    refine w_isub (pc1 := 181) (u := nI (r0.length + 1)) (v := nI (1)) (z := nI (r0.length + 1 - 1)) rfl (nK_sub (by omega)) rfl ?_
                    refine w_m0 (pc1 := 182) (st1 := .long (o2K (u_2 g 15 (.inl v) (.inl w))) :: _) rfl rfl (x_lle (k := k3) (e := r0.length + 1 - 1) hS2 (by omega) (by omega) (upd_s)) rfl ?_
                    refine w_m0 (pc1 := 185) (st1 := .long (-9223372036854775807) :: _) rfl rfl rfl rfl ?_
                    refine w_p (pc1 := 186) rfl rfl ?_
                    refine w_f (a := 193) (b := 189) (lb_ne_f (by rw [hu]; rfl)) rfl rfl ?_
                    refine w_m0 (pc1 := 192) (st1 := .long (-9223372036854775807) :: _) rfl rfl rfl rfl ?_
                    refine w_r rfl rfl rfl (fun _ _ => rfl) rfl ?_
                    exact ⟨_, rfl, rfl, rfl⟩
                  | some z1 =>
                    show Wd _ _ _ _ _ (WK C t0 k3 Q.length sl (f_l g R N O l (z1 :: r0))) _
                    have hb : t_l w1 w2 w3 l ((z1 :: r0).map tyv) = some [b] := by
                      have : tyv z1 = true := by rw [u2_B (by unfold isB; decide)] at hu; cases hu; rfl
                      show t_l w1 w2 w3 l (tyv z1 :: r0.map tyv) = _
                      rw [this]
                      exact hb
                    refine w_p (pc1 := 8) rfl rfl ?_
                    refine w_p (pc1 := 9) rfl rfl ?_
                    refine w_m0 (pc1 := 12) (st1 := .ref (241 + k1) :: _) rfl rfl (x_gf (k := k) rfl hO rfl) rfl ?_
                    refine w_m0 (pc1 := 13) (st1 := .int (nI (Q.length)) :: _) rfl rfl (x_ln (k := k1) hA (by decide)) rfl ?_
                    refine w_f (a := 199) (b := 16) (bN_ge_f (a := pre.length) (b := Q.length) (by omega) (by omega) (by omega)) rfl rfl ?_
                    refine w_p (pc1 := 18) rfl rfl ?_
                    refine w_p (pc1 := 19) rfl rfl ?_
                    refine w_m0 (pc1 := 22) (st1 := .ref (241 + k2) :: _) rfl rfl (x_gf (k := k) rfl hO rfl) rfl ?_
                    refine w_m0 (pc1 := 23) (st1 := .int (nI (Q.length)) :: _) rfl rfl (x_ln (k := k2) hB (by decide)) rfl ?_
                    refine w_f (a := 199) (b := 26) (bN_ge_f (a := pre.length) (b := Q.length) (by omega) (by omega) (by omega)) rfl rfl ?_
                    refine w_p (pc1 := 27) rfl rfl ?_
                    refine w_m0 (pc1 := 30) (st1 := .ref (241 + k1) :: _) rfl rfl (x_gf (k := k) rfl hO rfl) rfl ?_
                    refine w_p (pc1 := 32) rfl rfl ?_
                    refine w_m0 (pc1 := 33) (st1 := .int 15 :: _) rfl rfl (x_ile (k := k1) (e := pre.length) hA (by omega) (by omega) (h1)) rfl ?_
                    refine w_p (pc1 := 35) (al1 := [(7, .int 15), (6, .int (nI (pre.length))), (5, .int (nI (r0.length + 1 + 1))), (0, .ref (241 + k)), (1, .ref 114), (2, .int (nI (p))), (3, .null), (4, .null)]) rfl rfl ?_
                    refine w_p (pc1 := 37) rfl rfl ?_
                    refine w_p (pc1 := 38) (st1 := .int 4 :: _) rfl rfl ?_
                    refine w_t (a := 86) (b := 41) rfl rfl rfl ?_
                    refine w_p (pc1 := 88) rfl rfl ?_
                    refine w_p (pc1 := 90) (st1 := .int 8 :: _) rfl rfl ?_
                    refine w_t (a := 129) (b := 93) rfl rfl rfl ?_
                    refine w_p (pc1 := 131) rfl rfl ?_
                    refine w_p (pc1 := 132) (st1 := .int 2 :: _) rfl rfl ?_
                    refine w_t (a := 139) (b := 135) (bN_ge_t (a := r0.length + 1 + 1) (b := 2) (by omega) (by omega) (by omega)) rfl rfl ?_
                    refine w_iinc (pc1 := 142) (u := nI (r0.length + 1 + 1)) (z := nI (r0.length + 1)) (al1 := [(5, .int (nI (r0.length + 1))), (7, .int 15), (6, .int (nI (pre.length))), (0, .ref (241 + k)), (1, .ref 114), (2, .int (nI (p))), (3, .null), (4, .null)]) rfl rfl rfl (nK_p.trans nK_s) rfl rfl ?_
                    refine w_p (pc1 := 143) rfl rfl ?_
                    refine w_m0 (pc1 := 146) (st1 := .ref (241 + k3) :: _) rfl rfl (x_gf (k := k) rfl hO rfl) rfl ?_
                    refine w_p (pc1 := 148) rfl rfl ?_
                    refine w_p (pc1 := 149) (st1 := .int 1 :: _) rfl rfl ?_
                    refine w_isub (pc1 := 150) (u := nI (r0.length + 1)) (v := nI (1)) (z := nI (r0.length + 1 - 1)) rfl (nK_sub (by omega)) rfl ?_
                    refine w_p (pc1 := 151) rfl rfl ?_
                    refine w_p (pc1 := 153) rfl rfl ?_
                    refine w_p (pc1 := 154) rfl rfl ?_
                    refine w_m0 (pc1 := 157) (st1 := .ref (241 + k3) :: _) rfl rfl (x_gf (k := k) rfl hO rfl) rfl ?_
                    refine w_p (pc1 := 159) rfl rfl ?_
                    refine w_p (pc1 := 160) (st1 := .int 1 :: _) rfl rfl ?_
                    refine w_isub (pc1 := 161) (u := nI (r0.length + 1)) (v := nI (1)) (z := nI (r0.length + 1 - 1)) rfl (nK_sub (by omega)) rfl ?_
                    refine w_m0 (pc1 := 162) (st1 := .long (v_K (.inl v)) :: _) rfl rfl (x_lle (k := k3) (e := r0.length + 1 - 1) hS (by omega) (by omega) (by rw [Nat.add_sub_cancel]; exact hs.2.1)) rfl ?_
                    refine w_p (pc1 := 163) rfl rfl ?_
                    refine w_m0 (pc1 := 166) (st1 := .ref (241 + k3) :: _) rfl rfl (x_gf (k := k) rfl hO rfl) rfl ?_
                    refine w_p (pc1 := 168) rfl rfl ?_
                    refine w_m0 (pc1 := 169) (st1 := .long (v_K (.inl w)) :: _) rfl rfl (x_lle (k := k3) (e := r0.length + 1) hS (by omega) (by omega) (hs.1)) rfl ?_
                    refine w_je (pc1 := 172) (vs := [.ref (241 + k), .int 15, .long (v_K (.inl v)), .long (v_K (.inl w))]) (rest := [.int (nI (r0.length + 1 - 1)), .ref (241 + k3)]) (st1 := [.long (o2K (u_2 g 15 (.inl v) (.inl w))), .int (nI (r0.length + 1 - 1)), .ref (241 + k3)]) (m_116_15 (d := d + 1) (sl := 0) hO) rfl rfl rfl (fun _ _ => rfl) rfl (by exact cl_v my_116 rfl rfl rfl (Nat.le_of_ble_eq_true rfl) rfl (x_obj hO) rfl (by decide) rfl rfl) (by rfl) (Nat.le_of_ble_eq_true rfl) (Nat.le_of_ble_eq_true rfl) rfl (by rfl) ?_
                    refine w_m0 (pc1 := 173) rfl rfl (x_ls (k := k3) (e := r0.length + 1 - 1) hS (by omega) (by omega)) rfl ?_
                    rw [show (t0.set k3 (sCell Q.length s)).set k3 (Sum.inl (1, Q.length, Sum.inr (Sum.inl (vp_updL s (r0.length + 1 - 1) (o2K (u_2 g 15 (.inl v) (.inl w))))))) = t0.set k3 (sCell Q.length (vp_updL s (r0.length + 1 - 1) (o2K (u_2 g 15 (.inl v) (.inl w))))) from List.set_set _]
                    obtain ⟨hO2, -, -, hS2⟩ := FO_s F0 (vp_updL s (r0.length + 1 - 1) (o2K (u_2 g 15 (.inl v) (.inl w))))
                    refine w_p (pc1 := 174) rfl rfl ?_
                    refine w_m0 (pc1 := 177) (st1 := .ref (241 + k3) :: _) rfl rfl (x_gf (k := k) rfl hO2 rfl) rfl ?_
                    refine w_p (pc1 := 179) rfl rfl ?_
                    refine w_p (pc1 := 180) (st1 := .int 1 :: _) rfl rfl ?_
                    refine w_isub (pc1 := 181) (u := nI (r0.length + 1)) (v := nI (1)) (z := nI (r0.length + 1 - 1)) rfl (nK_sub (by omega)) rfl ?_
                    refine w_m0 (pc1 := 182) (st1 := .long (o2K (u_2 g 15 (.inl v) (.inl w))) :: _) rfl rfl (x_lle (k := k3) (e := r0.length + 1 - 1) hS2 (by omega) (by omega) (upd_s)) rfl ?_
                    refine w_m0 (pc1 := 185) (st1 := .long (-9223372036854775807) :: _) rfl rfl rfl rfl ?_
                    refine w_p (pc1 := 186) rfl rfl ?_
                    refine w_t (a := 193) (b := 189) (lb_ne_t (by rw [hu]; exact v_K_un _)) rfl rfl ?_
                    refine w_iinc (pc1 := 196) (u := nI (pre.length)) (z := nI (pre.length + 1)) (al1 := [(6, .int (nI (pre.length + 1))), (5, .int (nI (r0.length + 1))), (7, .int 15), (0, .ref (241 + k)), (1, .ref 114), (2, .int (nI (p))), (3, .null), (4, .null)]) rfl rfl rfl nK_1 rfl rfl ?_
                    refine w_p (pc1 := 6) rfl rfl ?_
                    refine Wd_al (al := [(6, .int (nI (pre.length + 1))), (5, .int (nI (r0.length + 1))), (0, .ref (241 + k)), (1, .ref 114), (2, .int (nI (p))), (3, .null), (4, .null)]) (sba_p [0, 1, 3, 4, 5, 6, 7] rfl rfl) ?_
                    exact ih (z1 :: r0) _ hQ2 ⟨b, hb⟩ (show r0.length + 1 ≤ pre.length + 1 by omega) ⟨by rw [Nat.add_sub_cancel, upd_s, hu]; rfl, skR_u hs.2.2 (by omega)⟩
                · obtain rfl : a = 16 := e1
                  rw [fo_16]
                  cases hu : u_2 g 16 (.inl v) (.inl w) with
                  | none =>
                    show Wd _ _ _ _ _ (WK C t0 k3 Q.length sl none) _
                    refine w_p (pc1 := 8) rfl rfl ?_
                    refine w_p (pc1 := 9) rfl rfl ?_
                    refine w_m0 (pc1 := 12) (st1 := .ref (241 + k1) :: _) rfl rfl (x_gf (k := k) rfl hO rfl) rfl ?_
                    refine w_m0 (pc1 := 13) (st1 := .int (nI (Q.length)) :: _) rfl rfl (x_ln (k := k1) hA (by decide)) rfl ?_
                    refine w_f (a := 199) (b := 16) (bN_ge_f (a := pre.length) (b := Q.length) (by omega) (by omega) (by omega)) rfl rfl ?_
                    refine w_p (pc1 := 18) rfl rfl ?_
                    refine w_p (pc1 := 19) rfl rfl ?_
                    refine w_m0 (pc1 := 22) (st1 := .ref (241 + k2) :: _) rfl rfl (x_gf (k := k) rfl hO rfl) rfl ?_
                    refine w_m0 (pc1 := 23) (st1 := .int (nI (Q.length)) :: _) rfl rfl (x_ln (k := k2) hB (by decide)) rfl ?_
                    refine w_f (a := 199) (b := 26) (bN_ge_f (a := pre.length) (b := Q.length) (by omega) (by omega) (by omega)) rfl rfl ?_
                    refine w_p (pc1 := 27) rfl rfl ?_
                    refine w_m0 (pc1 := 30) (st1 := .ref (241 + k1) :: _) rfl rfl (x_gf (k := k) rfl hO rfl) rfl ?_
                    refine w_p (pc1 := 32) rfl rfl ?_
                    refine w_m0 (pc1 := 33) (st1 := .int 16 :: _) rfl rfl (x_ile (k := k1) (e := pre.length) hA (by omega) (by omega) (h1)) rfl ?_
                    refine w_p (pc1 := 35) (al1 := [(7, .int 16), (6, .int (nI (pre.length))), (5, .int (nI (r0.length + 1 + 1))), (0, .ref (241 + k)), (1, .ref 114), (2, .int (nI (p))), (3, .null), (4, .null)]) rfl rfl ?_
                    refine w_p (pc1 := 37) rfl rfl ?_
                    refine w_p (pc1 := 38) (st1 := .int 4 :: _) rfl rfl ?_
                    refine w_t (a := 86) (b := 41) rfl rfl rfl ?_
                    refine w_p (pc1 := 88) rfl rfl ?_
                    refine w_p (pc1 := 90) (st1 := .int 8 :: _) rfl rfl ?_
                    refine w_t (a := 129) (b := 93) rfl rfl rfl ?_
                    refine w_p (pc1 := 131) rfl rfl ?_
                    refine w_p (pc1 := 132) (st1 := .int 2 :: _) rfl rfl ?_
                    refine w_t (a := 139) (b := 135) (bN_ge_t (a := r0.length + 1 + 1) (b := 2) (by omega) (by omega) (by omega)) rfl rfl ?_
                    refine w_iinc (pc1 := 142) (u := nI (r0.length + 1 + 1)) (z := nI (r0.length + 1)) (al1 := [(5, .int (nI (r0.length + 1))), (7, .int 16), (6, .int (nI (pre.length))), (0, .ref (241 + k)), (1, .ref 114), (2, .int (nI (p))), (3, .null), (4, .null)]) rfl rfl rfl (nK_p.trans nK_s) rfl rfl ?_
                    refine w_p (pc1 := 143) rfl rfl ?_
                    refine w_m0 (pc1 := 146) (st1 := .ref (241 + k3) :: _) rfl rfl (x_gf (k := k) rfl hO rfl) rfl ?_
                    refine w_p (pc1 := 148) rfl rfl ?_
                    refine w_p (pc1 := 149) (st1 := .int 1 :: _) rfl rfl ?_
                    refine w_isub (pc1 := 150) (u := nI (r0.length + 1)) (v := nI (1)) (z := nI (r0.length + 1 - 1)) rfl (nK_sub (by omega)) rfl ?_
                    refine w_p (pc1 := 151) rfl rfl ?_
                    refine w_p (pc1 := 153) rfl rfl ?_
                    refine w_p (pc1 := 154) rfl rfl ?_
                    refine w_m0 (pc1 := 157) (st1 := .ref (241 + k3) :: _) rfl rfl (x_gf (k := k) rfl hO rfl) rfl ?_
                    refine w_p (pc1 := 159) rfl rfl ?_
                    refine w_p (pc1 := 160) (st1 := .int 1 :: _) rfl rfl ?_
                    refine w_isub (pc1 := 161) (u := nI (r0.length + 1)) (v := nI (1)) (z := nI (r0.length + 1 - 1)) rfl (nK_sub (by omega)) rfl ?_
                    refine w_m0 (pc1 := 162) (st1 := .long (v_K (.inl v)) :: _) rfl rfl (x_lle (k := k3) (e := r0.length + 1 - 1) hS (by omega) (by omega) (by rw [Nat.add_sub_cancel]; exact hs.2.1)) rfl ?_
                    refine w_p (pc1 := 163) rfl rfl ?_
                    refine w_m0 (pc1 := 166) (st1 := .ref (241 + k3) :: _) rfl rfl (x_gf (k := k) rfl hO rfl) rfl ?_
                    refine w_p (pc1 := 168) rfl rfl ?_
                    refine w_m0 (pc1 := 169) (st1 := .long (v_K (.inl w)) :: _) rfl rfl (x_lle (k := k3) (e := r0.length + 1) hS (by omega) (by omega) (hs.1)) rfl ?_
                    refine w_je (pc1 := 172) (vs := [.ref (241 + k), .int 16, .long (v_K (.inl v)), .long (v_K (.inl w))]) (rest := [.int (nI (r0.length + 1 - 1)), .ref (241 + k3)]) (st1 := [.long (o2K (u_2 g 16 (.inl v) (.inl w))), .int (nI (r0.length + 1 - 1)), .ref (241 + k3)]) (m_116_16 (d := d + 1) (sl := 0) hO) rfl rfl rfl (fun _ _ => rfl) rfl (by exact cl_v my_116 rfl rfl rfl (Nat.le_of_ble_eq_true rfl) rfl (x_obj hO) rfl (by decide) rfl rfl) (by rfl) (Nat.le_of_ble_eq_true rfl) (Nat.le_of_ble_eq_true rfl) rfl (by rfl) ?_
                    refine w_m0 (pc1 := 173) rfl rfl (x_ls (k := k3) (e := r0.length + 1 - 1) hS (by omega) (by omega)) rfl ?_
                    rw [show (t0.set k3 (sCell Q.length s)).set k3 (Sum.inl (1, Q.length, Sum.inr (Sum.inl (vp_updL s (r0.length + 1 - 1) (o2K (u_2 g 16 (.inl v) (.inl w))))))) = t0.set k3 (sCell Q.length (vp_updL s (r0.length + 1 - 1) (o2K (u_2 g 16 (.inl v) (.inl w))))) from List.set_set _]
                    obtain ⟨hO2, -, -, hS2⟩ := FO_s F0 (vp_updL s (r0.length + 1 - 1) (o2K (u_2 g 16 (.inl v) (.inl w))))
                    refine w_p (pc1 := 174) rfl rfl ?_
                    refine w_m0 (pc1 := 177) (st1 := .ref (241 + k3) :: _) rfl rfl (x_gf (k := k) rfl hO2 rfl) rfl ?_
                    refine w_p (pc1 := 179) rfl rfl ?_
                    refine w_p (pc1 := 180) (st1 := .int 1 :: _) rfl rfl ?_
                    refine w_isub (pc1 := 181) (u := nI (r0.length + 1)) (v := nI (1)) (z := nI (r0.length + 1 - 1)) rfl (nK_sub (by omega)) rfl ?_
                    refine w_m0 (pc1 := 182) (st1 := .long (o2K (u_2 g 16 (.inl v) (.inl w))) :: _) rfl rfl (x_lle (k := k3) (e := r0.length + 1 - 1) hS2 (by omega) (by omega) (upd_s)) rfl ?_
                    refine w_m0 (pc1 := 185) (st1 := .long (-9223372036854775807) :: _) rfl rfl rfl rfl ?_
                    refine w_p (pc1 := 186) rfl rfl ?_
                    refine w_f (a := 193) (b := 189) (lb_ne_f (by rw [hu]; rfl)) rfl rfl ?_
                    refine w_m0 (pc1 := 192) (st1 := .long (-9223372036854775807) :: _) rfl rfl rfl rfl ?_
                    refine w_r rfl rfl rfl (fun _ _ => rfl) rfl ?_
                    exact ⟨_, rfl, rfl, rfl⟩
                  | some z1 =>
                    show Wd _ _ _ _ _ (WK C t0 k3 Q.length sl (f_l g R N O l (z1 :: r0))) _
                    have hb : t_l w1 w2 w3 l ((z1 :: r0).map tyv) = some [b] := by
                      have : tyv z1 = true := by rw [u2_B (by unfold isB; decide)] at hu; cases hu; rfl
                      show t_l w1 w2 w3 l (tyv z1 :: r0.map tyv) = _
                      rw [this]
                      exact hb
                    refine w_p (pc1 := 8) rfl rfl ?_
                    refine w_p (pc1 := 9) rfl rfl ?_
                    refine w_m0 (pc1 := 12) (st1 := .ref (241 + k1) :: _) rfl rfl (x_gf (k := k) rfl hO rfl) rfl ?_
                    refine w_m0 (pc1 := 13) (st1 := .int (nI (Q.length)) :: _) rfl rfl (x_ln (k := k1) hA (by decide)) rfl ?_
                    refine w_f (a := 199) (b := 16) (bN_ge_f (a := pre.length) (b := Q.length) (by omega) (by omega) (by omega)) rfl rfl ?_
                    refine w_p (pc1 := 18) rfl rfl ?_
                    refine w_p (pc1 := 19) rfl rfl ?_
                    refine w_m0 (pc1 := 22) (st1 := .ref (241 + k2) :: _) rfl rfl (x_gf (k := k) rfl hO rfl) rfl ?_
                    refine w_m0 (pc1 := 23) (st1 := .int (nI (Q.length)) :: _) rfl rfl (x_ln (k := k2) hB (by decide)) rfl ?_
                    refine w_f (a := 199) (b := 26) (bN_ge_f (a := pre.length) (b := Q.length) (by omega) (by omega) (by omega)) rfl rfl ?_
                    refine w_p (pc1 := 27) rfl rfl ?_
                    refine w_m0 (pc1 := 30) (st1 := .ref (241 + k1) :: _) rfl rfl (x_gf (k := k) rfl hO rfl) rfl ?_
                    refine w_p (pc1 := 32) rfl rfl ?_
                    refine w_m0 (pc1 := 33) (st1 := .int 16 :: _) rfl rfl (x_ile (k := k1) (e := pre.length) hA (by omega) (by omega) (h1)) rfl ?_
                    refine w_p (pc1 := 35) (al1 := [(7, .int 16), (6, .int (nI (pre.length))), (5, .int (nI (r0.length + 1 + 1))), (0, .ref (241 + k)), (1, .ref 114), (2, .int (nI (p))), (3, .null), (4, .null)]) rfl rfl ?_
                    refine w_p (pc1 := 37) rfl rfl ?_
                    refine w_p (pc1 := 38) (st1 := .int 4 :: _) rfl rfl ?_
                    refine w_t (a := 86) (b := 41) rfl rfl rfl ?_
                    refine w_p (pc1 := 88) rfl rfl ?_
                    refine w_p (pc1 := 90) (st1 := .int 8 :: _) rfl rfl ?_
                    refine w_t (a := 129) (b := 93) rfl rfl rfl ?_
                    refine w_p (pc1 := 131) rfl rfl ?_
                    refine w_p (pc1 := 132) (st1 := .int 2 :: _) rfl rfl ?_
                    refine w_t (a := 139) (b := 135) (bN_ge_t (a := r0.length + 1 + 1) (b := 2) (by omega) (by omega) (by omega)) rfl rfl ?_
                    refine w_iinc (pc1 := 142) (u := nI (r0.length + 1 + 1)) (z := nI (r0.length + 1)) (al1 := [(5, .int (nI (r0.length + 1))), (7, .int 16), (6, .int (nI (pre.length))), (0, .ref (241 + k)), (1, .ref 114), (2, .int (nI (p))), (3, .null), (4, .null)]) rfl rfl rfl (nK_p.trans nK_s) rfl rfl ?_
                    refine w_p (pc1 := 143) rfl rfl ?_
                    refine w_m0 (pc1 := 146) (st1 := .ref (241 + k3) :: _) rfl rfl (x_gf (k := k) rfl hO rfl) rfl ?_
                    refine w_p (pc1 := 148) rfl rfl ?_
                    refine w_p (pc1 := 149) (st1 := .int 1 :: _) rfl rfl ?_
                    refine w_isub (pc1 := 150) (u := nI (r0.length + 1)) (v := nI (1)) (z := nI (r0.length + 1 - 1)) rfl (nK_sub (by omega)) rfl ?_
                    refine w_p (pc1 := 151) rfl rfl ?_
                    refine w_p (pc1 := 153) rfl rfl ?_
                    refine w_p (pc1 := 154) rfl rfl ?_
                    refine w_m0 (pc1 := 157) (st1 := .ref (241 + k3) :: _) rfl rfl (x_gf (k := k) rfl hO rfl) rfl ?_
                    refine w_p (pc1 := 159) rfl rfl ?_
                    refine w_p (pc1 := 160) (st1 := .int 1 :: _) rfl rfl ?_
                    refine w_isub (pc1 := 161) (u := nI (r0.length + 1)) (v := nI (1)) (z := nI (r0.length + 1 - 1)) rfl (nK_sub (by omega)) rfl ?_
                    refine w_m0 (pc1 := 162) (st1 := .long (v_K (.inl v)) :: _) rfl rfl (x_lle (k := k3) (e := r0.length + 1 - 1) hS (by omega) (by omega) (by rw [Nat.add_sub_cancel]; exact hs.2.1)) rfl ?_
                    refine w_p (pc1 := 163) rfl rfl ?_
                    refine w_m0 (pc1 := 166) (st1 := .ref (241 + k3) :: _) rfl rfl (x_gf (k := k) rfl hO rfl) rfl ?_
                    refine w_p (pc1 := 168) rfl rfl ?_
                    refine w_m0 (pc1 := 169) (st1 := .long (v_K (.inl w)) :: _) rfl rfl (x_lle (k := k3) (e := r0.length + 1) hS (by omega) (by omega) (hs.1)) rfl ?_
                    refine w_je (pc1 := 172) (vs := [.ref (241 + k), .int 16, .long (v_K (.inl v)), .long (v_K (.inl w))]) (rest := [.int (nI (r0.length + 1 - 1)), .ref (241 + k3)]) (st1 := [.long (o2K (u_2 g 16 (.inl v) (.inl w))), .int (nI (r0.length + 1 - 1)), .ref (241 + k3)]) (m_116_16 (d := d + 1) (sl := 0) hO) rfl rfl rfl (fun _ _ => rfl) rfl (by exact cl_v my_116 rfl rfl rfl (Nat.le_of_ble_eq_true rfl) rfl (x_obj hO) rfl (by decide) rfl rfl) (by rfl) (Nat.le_of_ble_eq_true rfl) (Nat.le_of_ble_eq_true rfl) rfl (by rfl) ?_
                    refine w_m0 (pc1 := 173) rfl rfl (x_ls (k := k3) (e := r0.length + 1 - 1) hS (by omega) (by omega)) rfl ?_
                    rw [show (t0.set k3 (sCell Q.length s)).set k3 (Sum.inl (1, Q.length, Sum.inr (Sum.inl (vp_updL s (r0.length + 1 - 1) (o2K (u_2 g 16 (.inl v) (.inl w))))))) = t0.set k3 (sCell Q.length (vp_updL s (r0.length + 1 - 1) (o2K (u_2 g 16 (.inl v) (.inl w))))) from List.set_set _]
                    obtain ⟨hO2, -, -, hS2⟩ := FO_s F0 (vp_updL s (r0.length + 1 - 1) (o2K (u_2 g 16 (.inl v) (.inl w))))
                    refine w_p (pc1 := 174) rfl rfl ?_
                    refine w_m0 (pc1 := 177) (st1 := .ref (241 + k3) :: _) rfl rfl (x_gf (k := k) rfl hO2 rfl) rfl ?_
                    refine w_p (pc1 := 179) rfl rfl ?_
                    refine w_p (pc1 := 180) (st1 := .int 1 :: _) rfl rfl ?_
                    refine w_isub (pc1 := 181) (u := nI (r0.length + 1)) (v := nI (1)) (z := nI (r0.length + 1 - 1)) rfl (nK_sub (by omega)) rfl ?_
                    refine w_m0 (pc1 := 182) (st1 := .long (o2K (u_2 g 16 (.inl v) (.inl w))) :: _) rfl rfl (x_lle (k := k3) (e := r0.length + 1 - 1) hS2 (by omega) (by omega) (upd_s)) rfl ?_
                    refine w_m0 (pc1 := 185) (st1 := .long (-9223372036854775807) :: _) rfl rfl rfl rfl ?_
                    refine w_p (pc1 := 186) rfl rfl ?_
                    refine w_t (a := 193) (b := 189) (lb_ne_t (by rw [hu]; exact v_K_un _)) rfl rfl ?_
                    refine w_iinc (pc1 := 196) (u := nI (pre.length)) (z := nI (pre.length + 1)) (al1 := [(6, .int (nI (pre.length + 1))), (5, .int (nI (r0.length + 1))), (7, .int 16), (0, .ref (241 + k)), (1, .ref 114), (2, .int (nI (p))), (3, .null), (4, .null)]) rfl rfl rfl nK_1 rfl rfl ?_
                    refine w_p (pc1 := 6) rfl rfl ?_
                    refine Wd_al (al := [(6, .int (nI (pre.length + 1))), (5, .int (nI (r0.length + 1))), (0, .ref (241 + k)), (1, .ref 114), (2, .int (nI (p))), (3, .null), (4, .null)]) (sba_p [0, 1, 3, 4, 5, 6, 7] rfl rfl) ?_
                    exact ih (z1 :: r0) _ hQ2 ⟨b, hb⟩ (show r0.length + 1 ≤ pre.length + 1 by omega) ⟨by rw [Nat.add_sub_cancel, upd_s, hu]; rfl, skR_u hs.2.2 (by omega)⟩
                · obtain rfl : a = 17 := e1
                  rw [fo_17]
                  cases hu : u_2 g 17 (.inl v) (.inl w) with
                  | none =>
                    show Wd _ _ _ _ _ (WK C t0 k3 Q.length sl none) _
                    refine w_p (pc1 := 8) rfl rfl ?_
                    refine w_p (pc1 := 9) rfl rfl ?_
                    refine w_m0 (pc1 := 12) (st1 := .ref (241 + k1) :: _) rfl rfl (x_gf (k := k) rfl hO rfl) rfl ?_
                    refine w_m0 (pc1 := 13) (st1 := .int (nI (Q.length)) :: _) rfl rfl (x_ln (k := k1) hA (by decide)) rfl ?_
                    refine w_f (a := 199) (b := 16) (bN_ge_f (a := pre.length) (b := Q.length) (by omega) (by omega) (by omega)) rfl rfl ?_
                    refine w_p (pc1 := 18) rfl rfl ?_
                    refine w_p (pc1 := 19) rfl rfl ?_
                    refine w_m0 (pc1 := 22) (st1 := .ref (241 + k2) :: _) rfl rfl (x_gf (k := k) rfl hO rfl) rfl ?_
                    refine w_m0 (pc1 := 23) (st1 := .int (nI (Q.length)) :: _) rfl rfl (x_ln (k := k2) hB (by decide)) rfl ?_
                    refine w_f (a := 199) (b := 26) (bN_ge_f (a := pre.length) (b := Q.length) (by omega) (by omega) (by omega)) rfl rfl ?_
                    refine w_p (pc1 := 27) rfl rfl ?_
                    refine w_m0 (pc1 := 30) (st1 := .ref (241 + k1) :: _) rfl rfl (x_gf (k := k) rfl hO rfl) rfl ?_
                    refine w_p (pc1 := 32) rfl rfl ?_
                    refine w_m0 (pc1 := 33) (st1 := .int 17 :: _) rfl rfl (x_ile (k := k1) (e := pre.length) hA (by omega) (by omega) (h1)) rfl ?_
                    refine w_p (pc1 := 35) (al1 := [(7, .int 17), (6, .int (nI (pre.length))), (5, .int (nI (r0.length + 1 + 1))), (0, .ref (241 + k)), (1, .ref 114), (2, .int (nI (p))), (3, .null), (4, .null)]) rfl rfl ?_
                    refine w_p (pc1 := 37) rfl rfl ?_
                    refine w_p (pc1 := 38) (st1 := .int 4 :: _) rfl rfl ?_
                    refine w_t (a := 86) (b := 41) rfl rfl rfl ?_
                    refine w_p (pc1 := 88) rfl rfl ?_
                    refine w_p (pc1 := 90) (st1 := .int 8 :: _) rfl rfl ?_
                    refine w_t (a := 129) (b := 93) rfl rfl rfl ?_
                    refine w_p (pc1 := 131) rfl rfl ?_
                    refine w_p (pc1 := 132) (st1 := .int 2 :: _) rfl rfl ?_
                    refine w_t (a := 139) (b := 135) (bN_ge_t (a := r0.length + 1 + 1) (b := 2) (by omega) (by omega) (by omega)) rfl rfl ?_
                    refine w_iinc (pc1 := 142) (u := nI (r0.length + 1 + 1)) (z := nI (r0.length + 1)) (al1 := [(5, .int (nI (r0.length + 1))), (7, .int 17), (6, .int (nI (pre.length))), (0, .ref (241 + k)), (1, .ref 114), (2, .int (nI (p))), (3, .null), (4, .null)]) rfl rfl rfl (nK_p.trans nK_s) rfl rfl ?_
                    refine w_p (pc1 := 143) rfl rfl ?_
                    refine w_m0 (pc1 := 146) (st1 := .ref (241 + k3) :: _) rfl rfl (x_gf (k := k) rfl hO rfl) rfl ?_
                    refine w_p (pc1 := 148) rfl rfl ?_
                    refine w_p (pc1 := 149) (st1 := .int 1 :: _) rfl rfl ?_
                    refine w_isub (pc1 := 150) (u := nI (r0.length + 1)) (v := nI (1)) (z := nI (r0.length + 1 - 1)) rfl (nK_sub (by omega)) rfl ?_
                    refine w_p (pc1 := 151) rfl rfl ?_
                    refine w_p (pc1 := 153) rfl rfl ?_
                    refine w_p (pc1 := 154) rfl rfl ?_
                    refine w_m0 (pc1 := 157) (st1 := .ref (241 + k3) :: _) rfl rfl (x_gf (k := k) rfl hO rfl) rfl ?_
                    refine w_p (pc1 := 159) rfl rfl ?_
                    refine w_p (pc1 := 160) (st1 := .int 1 :: _) rfl rfl ?_
                    refine w_isub (pc1 := 161) (u := nI (r0.length + 1)) (v := nI (1)) (z := nI (r0.length + 1 - 1)) rfl (nK_sub (by omega)) rfl ?_
                    refine w_m0 (pc1 := 162) (st1 := .long (v_K (.inl v)) :: _) rfl rfl (x_lle (k := k3) (e := r0.length + 1 - 1) hS (by omega) (by omega) (by rw [Nat.add_sub_cancel]; exact hs.2.1)) rfl ?_
                    refine w_p (pc1 := 163) rfl rfl ?_
                    refine w_m0 (pc1 := 166) (st1 := .ref (241 + k3) :: _) rfl rfl (x_gf (k := k) rfl hO rfl) rfl ?_
                    refine w_p (pc1 := 168) rfl rfl ?_
                    refine w_m0 (pc1 := 169) (st1 := .long (v_K (.inl w)) :: _) rfl rfl (x_lle (k := k3) (e := r0.length + 1) hS (by omega) (by omega) (hs.1)) rfl ?_
                    refine w_je (pc1 := 172) (vs := [.ref (241 + k), .int 17, .long (v_K (.inl v)), .long (v_K (.inl w))]) (rest := [.int (nI (r0.length + 1 - 1)), .ref (241 + k3)]) (st1 := [.long (o2K (u_2 g 17 (.inl v) (.inl w))), .int (nI (r0.length + 1 - 1)), .ref (241 + k3)]) (m_116_17 (d := d + 1) (sl := 0) hO) rfl rfl rfl (fun _ _ => rfl) rfl (by exact cl_v my_116 rfl rfl rfl (Nat.le_of_ble_eq_true rfl) rfl (x_obj hO) rfl (by decide) rfl rfl) (by rfl) (Nat.le_of_ble_eq_true rfl) (Nat.le_of_ble_eq_true rfl) rfl (by rfl) ?_
                    refine w_m0 (pc1 := 173) rfl rfl (x_ls (k := k3) (e := r0.length + 1 - 1) hS (by omega) (by omega)) rfl ?_
                    rw [show (t0.set k3 (sCell Q.length s)).set k3 (Sum.inl (1, Q.length, Sum.inr (Sum.inl (vp_updL s (r0.length + 1 - 1) (o2K (u_2 g 17 (.inl v) (.inl w))))))) = t0.set k3 (sCell Q.length (vp_updL s (r0.length + 1 - 1) (o2K (u_2 g 17 (.inl v) (.inl w))))) from List.set_set _]
                    obtain ⟨hO2, -, -, hS2⟩ := FO_s F0 (vp_updL s (r0.length + 1 - 1) (o2K (u_2 g 17 (.inl v) (.inl w))))
                    refine w_p (pc1 := 174) rfl rfl ?_
                    refine w_m0 (pc1 := 177) (st1 := .ref (241 + k3) :: _) rfl rfl (x_gf (k := k) rfl hO2 rfl) rfl ?_
                    refine w_p (pc1 := 179) rfl rfl ?_
                    refine w_p (pc1 := 180) (st1 := .int 1 :: _) rfl rfl ?_
                    refine w_isub (pc1 := 181) (u := nI (r0.length + 1)) (v := nI (1)) (z := nI (r0.length + 1 - 1)) rfl (nK_sub (by omega)) rfl ?_
                    refine w_m0 (pc1 := 182) (st1 := .long (o2K (u_2 g 17 (.inl v) (.inl w))) :: _) rfl rfl (x_lle (k := k3) (e := r0.length + 1 - 1) hS2 (by omega) (by omega) (upd_s)) rfl ?_
                    refine w_m0 (pc1 := 185) (st1 := .long (-9223372036854775807) :: _) rfl rfl rfl rfl ?_
                    refine w_p (pc1 := 186) rfl rfl ?_
                    refine w_f (a := 193) (b := 189) (lb_ne_f (by rw [hu]; rfl)) rfl rfl ?_
                    refine w_m0 (pc1 := 192) (st1 := .long (-9223372036854775807) :: _) rfl rfl rfl rfl ?_
                    refine w_r rfl rfl rfl (fun _ _ => rfl) rfl ?_
                    exact ⟨_, rfl, rfl, rfl⟩
                  | some z1 =>
                    show Wd _ _ _ _ _ (WK C t0 k3 Q.length sl (f_l g R N O l (z1 :: r0))) _
                    have hb : t_l w1 w2 w3 l ((z1 :: r0).map tyv) = some [b] := by
                      have : tyv z1 = true := by rw [u2_B (by unfold isB; decide)] at hu; cases hu; rfl
                      show t_l w1 w2 w3 l (tyv z1 :: r0.map tyv) = _
                      rw [this]
                      exact hb
                    refine w_p (pc1 := 8) rfl rfl ?_
                    refine w_p (pc1 := 9) rfl rfl ?_
                    refine w_m0 (pc1 := 12) (st1 := .ref (241 + k1) :: _) rfl rfl (x_gf (k := k) rfl hO rfl) rfl ?_
                    refine w_m0 (pc1 := 13) (st1 := .int (nI (Q.length)) :: _) rfl rfl (x_ln (k := k1) hA (by decide)) rfl ?_
                    refine w_f (a := 199) (b := 16) (bN_ge_f (a := pre.length) (b := Q.length) (by omega) (by omega) (by omega)) rfl rfl ?_
                    refine w_p (pc1 := 18) rfl rfl ?_
                    refine w_p (pc1 := 19) rfl rfl ?_
                    refine w_m0 (pc1 := 22) (st1 := .ref (241 + k2) :: _) rfl rfl (x_gf (k := k) rfl hO rfl) rfl ?_
                    refine w_m0 (pc1 := 23) (st1 := .int (nI (Q.length)) :: _) rfl rfl (x_ln (k := k2) hB (by decide)) rfl ?_
                    refine w_f (a := 199) (b := 26) (bN_ge_f (a := pre.length) (b := Q.length) (by omega) (by omega) (by omega)) rfl rfl ?_
                    refine w_p (pc1 := 27) rfl rfl ?_
                    refine w_m0 (pc1 := 30) (st1 := .ref (241 + k1) :: _) rfl rfl (x_gf (k := k) rfl hO rfl) rfl ?_
                    refine w_p (pc1 := 32) rfl rfl ?_
                    refine w_m0 (pc1 := 33) (st1 := .int 17 :: _) rfl rfl (x_ile (k := k1) (e := pre.length) hA (by omega) (by omega) (h1)) rfl ?_
                    refine w_p (pc1 := 35) (al1 := [(7, .int 17), (6, .int (nI (pre.length))), (5, .int (nI (r0.length + 1 + 1))), (0, .ref (241 + k)), (1, .ref 114), (2, .int (nI (p))), (3, .null), (4, .null)]) rfl rfl ?_
                    refine w_p (pc1 := 37) rfl rfl ?_
                    refine w_p (pc1 := 38) (st1 := .int 4 :: _) rfl rfl ?_
                    refine w_t (a := 86) (b := 41) rfl rfl rfl ?_
                    refine w_p (pc1 := 88) rfl rfl ?_
                    refine w_p (pc1 := 90) (st1 := .int 8 :: _) rfl rfl ?_
                    refine w_t (a := 129) (b := 93) rfl rfl rfl ?_
                    refine w_p (pc1 := 131) rfl rfl ?_
                    refine w_p (pc1 := 132) (st1 := .int 2 :: _) rfl rfl ?_
                    refine w_t (a := 139) (b := 135) (bN_ge_t (a := r0.length + 1 + 1) (b := 2) (by omega) (by omega) (by omega)) rfl rfl ?_
                    refine w_iinc (pc1 := 142) (u := nI (r0.length + 1 + 1)) (z := nI (r0.length + 1)) (al1 := [(5, .int (nI (r0.length + 1))), (7, .int 17), (6, .int (nI (pre.length))), (0, .ref (241 + k)), (1, .ref 114), (2, .int (nI (p))), (3, .null), (4, .null)]) rfl rfl rfl (nK_p.trans nK_s) rfl rfl ?_
                    refine w_p (pc1 := 143) rfl rfl ?_
                    refine w_m0 (pc1 := 146) (st1 := .ref (241 + k3) :: _) rfl rfl (x_gf (k := k) rfl hO rfl) rfl ?_
                    refine w_p (pc1 := 148) rfl rfl ?_
                    refine w_p (pc1 := 149) (st1 := .int 1 :: _) rfl rfl ?_
                    refine w_isub (pc1 := 150) (u := nI (r0.length + 1)) (v := nI (1)) (z := nI (r0.length + 1 - 1)) rfl (nK_sub (by omega)) rfl ?_
                    refine w_p (pc1 := 151) rfl rfl ?_
                    refine w_p (pc1 := 153) rfl rfl ?_
                    refine w_p (pc1 := 154) rfl rfl ?_
                    refine w_m0 (pc1 := 157) (st1 := .ref (241 + k3) :: _) rfl rfl (x_gf (k := k) rfl hO rfl) rfl ?_
                    refine w_p (pc1 := 159) rfl rfl ?_
                    refine w_p (pc1 := 160) (st1 := .int 1 :: _) rfl rfl ?_
                    refine w_isub (pc1 := 161) (u := nI (r0.length + 1)) (v := nI (1)) (z := nI (r0.length + 1 - 1)) rfl (nK_sub (by omega)) rfl ?_
                    refine w_m0 (pc1 := 162) (st1 := .long (v_K (.inl v)) :: _) rfl rfl (x_lle (k := k3) (e := r0.length + 1 - 1) hS (by omega) (by omega) (by rw [Nat.add_sub_cancel]; exact hs.2.1)) rfl ?_
                    refine w_p (pc1 := 163) rfl rfl ?_
                    refine w_m0 (pc1 := 166) (st1 := .ref (241 + k3) :: _) rfl rfl (x_gf (k := k) rfl hO rfl) rfl ?_
                    refine w_p (pc1 := 168) rfl rfl ?_
                    refine w_m0 (pc1 := 169) (st1 := .long (v_K (.inl w)) :: _) rfl rfl (x_lle (k := k3) (e := r0.length + 1) hS (by omega) (by omega) (hs.1)) rfl ?_
                    refine w_je (pc1 := 172) (vs := [.ref (241 + k), .int 17, .long (v_K (.inl v)), .long (v_K (.inl w))]) (rest := [.int (nI (r0.length + 1 - 1)), .ref (241 + k3)]) (st1 := [.long (o2K (u_2 g 17 (.inl v) (.inl w))), .int (nI (r0.length + 1 - 1)), .ref (241 + k3)]) (m_116_17 (d := d + 1) (sl := 0) hO) rfl rfl rfl (fun _ _ => rfl) rfl (by exact cl_v my_116 rfl rfl rfl (Nat.le_of_ble_eq_true rfl) rfl (x_obj hO) rfl (by decide) rfl rfl) (by rfl) (Nat.le_of_ble_eq_true rfl) (Nat.le_of_ble_eq_true rfl) rfl (by rfl) ?_
                    refine w_m0 (pc1 := 173) rfl rfl (x_ls (k := k3) (e := r0.length + 1 - 1) hS (by omega) (by omega)) rfl ?_
                    rw [show (t0.set k3 (sCell Q.length s)).set k3 (Sum.inl (1, Q.length, Sum.inr (Sum.inl (vp_updL s (r0.length + 1 - 1) (o2K (u_2 g 17 (.inl v) (.inl w))))))) = t0.set k3 (sCell Q.length (vp_updL s (r0.length + 1 - 1) (o2K (u_2 g 17 (.inl v) (.inl w))))) from List.set_set _]
                    obtain ⟨hO2, -, -, hS2⟩ := FO_s F0 (vp_updL s (r0.length + 1 - 1) (o2K (u_2 g 17 (.inl v) (.inl w))))
                    refine w_p (pc1 := 174) rfl rfl ?_
                    refine w_m0 (pc1 := 177) (st1 := .ref (241 + k3) :: _) rfl rfl (x_gf (k := k) rfl hO2 rfl) rfl ?_
                    refine w_p (pc1 := 179) rfl rfl ?_
                    refine w_p (pc1 := 180) (st1 := .int 1 :: _) rfl rfl ?_
                    refine w_isub (pc1 := 181) (u := nI (r0.length + 1)) (v := nI (1)) (z := nI (r0.length + 1 - 1)) rfl (nK_sub (by omega)) rfl ?_
                    refine w_m0 (pc1 := 182) (st1 := .long (o2K (u_2 g 17 (.inl v) (.inl w))) :: _) rfl rfl (x_lle (k := k3) (e := r0.length + 1 - 1) hS2 (by omega) (by omega) (upd_s)) rfl ?_
                    refine w_m0 (pc1 := 185) (st1 := .long (-9223372036854775807) :: _) rfl rfl rfl rfl ?_
                    refine w_p (pc1 := 186) rfl rfl ?_
                    refine w_t (a := 193) (b := 189) (lb_ne_t (by rw [hu]; exact v_K_un _)) rfl rfl ?_
                    refine w_iinc (pc1 := 196) (u := nI (pre.length)) (z := nI (pre.length + 1)) (al1 := [(6, .int (nI (pre.length + 1))), (5, .int (nI (r0.length + 1))), (7, .int 17), (0, .ref (241 + k)), (1, .ref 114), (2, .int (nI (p))), (3, .null), (4, .null)]) rfl rfl rfl nK_1 rfl rfl ?_
                    refine w_p (pc1 := 6) rfl rfl ?_
                    refine Wd_al (al := [(6, .int (nI (pre.length + 1))), (5, .int (nI (r0.length + 1))), (0, .ref (241 + k)), (1, .ref 114), (2, .int (nI (p))), (3, .null), (4, .null)]) (sba_p [0, 1, 3, 4, 5, 6, 7] rfl rfl) ?_
                    exact ih (z1 :: r0) _ hQ2 ⟨b, hb⟩ (show r0.length + 1 ≤ pre.length + 1 by omega) ⟨by rw [Nat.add_sub_cancel, upd_s, hu]; rfl, skR_u hs.2.2 (by omega)⟩
                · obtain rfl : a = 18 := e1
                  rw [fo_18]
                  cases hu : u_2 g 18 (.inl v) (.inl w) with
                  | none =>
                    show Wd _ _ _ _ _ (WK C t0 k3 Q.length sl none) _
                    refine w_p (pc1 := 8) rfl rfl ?_
                    refine w_p (pc1 := 9) rfl rfl ?_
                    refine w_m0 (pc1 := 12) (st1 := .ref (241 + k1) :: _) rfl rfl (x_gf (k := k) rfl hO rfl) rfl ?_
                    refine w_m0 (pc1 := 13) (st1 := .int (nI (Q.length)) :: _) rfl rfl (x_ln (k := k1) hA (by decide)) rfl ?_
                    refine w_f (a := 199) (b := 16) (bN_ge_f (a := pre.length) (b := Q.length) (by omega) (by omega) (by omega)) rfl rfl ?_
                    refine w_p (pc1 := 18) rfl rfl ?_
                    refine w_p (pc1 := 19) rfl rfl ?_
                    refine w_m0 (pc1 := 22) (st1 := .ref (241 + k2) :: _) rfl rfl (x_gf (k := k) rfl hO rfl) rfl ?_
                    refine w_m0 (pc1 := 23) (st1 := .int (nI (Q.length)) :: _) rfl rfl (x_ln (k := k2) hB (by decide)) rfl ?_
                    refine w_f (a := 199) (b := 26) (bN_ge_f (a := pre.length) (b := Q.length) (by omega) (by omega) (by omega)) rfl rfl ?_
                    refine w_p (pc1 := 27) rfl rfl ?_
                    refine w_m0 (pc1 := 30) (st1 := .ref (241 + k1) :: _) rfl rfl (x_gf (k := k) rfl hO rfl) rfl ?_
                    refine w_p (pc1 := 32) rfl rfl ?_
                    refine w_m0 (pc1 := 33) (st1 := .int 18 :: _) rfl rfl (x_ile (k := k1) (e := pre.length) hA (by omega) (by omega) (h1)) rfl ?_
                    refine w_p (pc1 := 35) (al1 := [(7, .int 18), (6, .int (nI (pre.length))), (5, .int (nI (r0.length + 1 + 1))), (0, .ref (241 + k)), (1, .ref 114), (2, .int (nI (p))), (3, .null), (4, .null)]) rfl rfl ?_
                    refine w_p (pc1 := 37) rfl rfl ?_
                    refine w_p (pc1 := 38) (st1 := .int 4 :: _) rfl rfl ?_
                    refine w_t (a := 86) (b := 41) rfl rfl rfl ?_
                    refine w_p (pc1 := 88) rfl rfl ?_
                    refine w_p (pc1 := 90) (st1 := .int 8 :: _) rfl rfl ?_
                    refine w_t (a := 129) (b := 93) rfl rfl rfl ?_
                    refine w_p (pc1 := 131) rfl rfl ?_
                    refine w_p (pc1 := 132) (st1 := .int 2 :: _) rfl rfl ?_
                    refine w_t (a := 139) (b := 135) (bN_ge_t (a := r0.length + 1 + 1) (b := 2) (by omega) (by omega) (by omega)) rfl rfl ?_
                    refine w_iinc (pc1 := 142) (u := nI (r0.length + 1 + 1)) (z := nI (r0.length + 1)) (al1 := [(5, .int (nI (r0.length + 1))), (7, .int 18), (6, .int (nI (pre.length))), (0, .ref (241 + k)), (1, .ref 114), (2, .int (nI (p))), (3, .null), (4, .null)]) rfl rfl rfl (nK_p.trans nK_s) rfl rfl ?_
                    refine w_p (pc1 := 143) rfl rfl ?_
                    refine w_m0 (pc1 := 146) (st1 := .ref (241 + k3) :: _) rfl rfl (x_gf (k := k) rfl hO rfl) rfl ?_
                    refine w_p (pc1 := 148) rfl rfl ?_
                    refine w_p (pc1 := 149) (st1 := .int 1 :: _) rfl rfl ?_
                    refine w_isub (pc1 := 150) (u := nI (r0.length + 1)) (v := nI (1)) (z := nI (r0.length + 1 - 1)) rfl (nK_sub (by omega)) rfl ?_
                    refine w_p (pc1 := 151) rfl rfl ?_
                    refine w_p (pc1 := 153) rfl rfl ?_
                    refine w_p (pc1 := 154) rfl rfl ?_
                    refine w_m0 (pc1 := 157) (st1 := .ref (241 + k3) :: _) rfl rfl (x_gf (k := k) rfl hO rfl) rfl ?_
                    refine w_p (pc1 := 159) rfl rfl ?_
                    refine w_p (pc1 := 160) (st1 := .int 1 :: _) rfl rfl ?_
                    refine w_isub (pc1 := 161) (u := nI (r0.length + 1)) (v := nI (1)) (z := nI (r0.length + 1 - 1)) rfl (nK_sub (by omega)) rfl ?_
                    refine w_m0 (pc1 := 162) (st1 := .long (v_K (.inl v)) :: _) rfl rfl (x_lle (k := k3) (e := r0.length + 1 - 1) hS (by omega) (by omega) (by rw [Nat.add_sub_cancel]; exact hs.2.1)) rfl ?_
                    refine w_p (pc1 := 163) rfl rfl ?_
                    refine w_m0 (pc1 := 166) (st1 := .ref (241 + k3) :: _) rfl rfl (x_gf (k := k) rfl hO rfl) rfl ?_
                    refine w_p (pc1 := 168) rfl rfl ?_
                    refine w_m0 (pc1 := 169) (st1 := .long (v_K (.inl w)) :: _) rfl rfl (x_lle (k := k3) (e := r0.length + 1) hS (by omega) (by omega) (hs.1)) rfl ?_
                    refine w_je (pc1 := 172) (vs := [.ref (241 + k), .int 18, .long (v_K (.inl v)), .long (v_K (.inl w))]) (rest := [.int (nI (r0.length + 1 - 1)), .ref (241 + k3)]) (st1 := [.long (o2K (u_2 g 18 (.inl v) (.inl w))), .int (nI (r0.length + 1 - 1)), .ref (241 + k3)]) (m_116_18 (d := d + 1) (sl := 0) hO) rfl rfl rfl (fun _ _ => rfl) rfl (by exact cl_v my_116 rfl rfl rfl (Nat.le_of_ble_eq_true rfl) rfl (x_obj hO) rfl (by decide) rfl rfl) (by rfl) (Nat.le_of_ble_eq_true rfl) (Nat.le_of_ble_eq_true rfl) rfl (by rfl) ?_
                    refine w_m0 (pc1 := 173) rfl rfl (x_ls (k := k3) (e := r0.length + 1 - 1) hS (by omega) (by omega)) rfl ?_
                    rw [show (t0.set k3 (sCell Q.length s)).set k3 (Sum.inl (1, Q.length, Sum.inr (Sum.inl (vp_updL s (r0.length + 1 - 1) (o2K (u_2 g 18 (.inl v) (.inl w))))))) = t0.set k3 (sCell Q.length (vp_updL s (r0.length + 1 - 1) (o2K (u_2 g 18 (.inl v) (.inl w))))) from List.set_set _]
                    obtain ⟨hO2, -, -, hS2⟩ := FO_s F0 (vp_updL s (r0.length + 1 - 1) (o2K (u_2 g 18 (.inl v) (.inl w))))
                    refine w_p (pc1 := 174) rfl rfl ?_
                    refine w_m0 (pc1 := 177) (st1 := .ref (241 + k3) :: _) rfl rfl (x_gf (k := k) rfl hO2 rfl) rfl ?_
                    refine w_p (pc1 := 179) rfl rfl ?_
                    refine w_p (pc1 := 180) (st1 := .int 1 :: _) rfl rfl ?_
                    refine w_isub (pc1 := 181) (u := nI (r0.length + 1)) (v := nI (1)) (z := nI (r0.length + 1 - 1)) rfl (nK_sub (by omega)) rfl ?_
                    refine w_m0 (pc1 := 182) (st1 := .long (o2K (u_2 g 18 (.inl v) (.inl w))) :: _) rfl rfl (x_lle (k := k3) (e := r0.length + 1 - 1) hS2 (by omega) (by omega) (upd_s)) rfl ?_
                    refine w_m0 (pc1 := 185) (st1 := .long (-9223372036854775807) :: _) rfl rfl rfl rfl ?_
                    refine w_p (pc1 := 186) rfl rfl ?_
                    refine w_f (a := 193) (b := 189) (lb_ne_f (by rw [hu]; rfl)) rfl rfl ?_
                    refine w_m0 (pc1 := 192) (st1 := .long (-9223372036854775807) :: _) rfl rfl rfl rfl ?_
                    refine w_r rfl rfl rfl (fun _ _ => rfl) rfl ?_
                    exact ⟨_, rfl, rfl, rfl⟩
                  | some z1 =>
                    show Wd _ _ _ _ _ (WK C t0 k3 Q.length sl (f_l g R N O l (z1 :: r0))) _
                    have hb : t_l w1 w2 w3 l ((z1 :: r0).map tyv) = some [b] := by
                      have : tyv z1 = true := by rw [u2_B (by unfold isB; decide)] at hu; cases hu; rfl
                      show t_l w1 w2 w3 l (tyv z1 :: r0.map tyv) = _
                      rw [this]
                      exact hb
                    refine w_p (pc1 := 8) rfl rfl ?_
                    refine w_p (pc1 := 9) rfl rfl ?_
                    refine w_m0 (pc1 := 12) (st1 := .ref (241 + k1) :: _) rfl rfl (x_gf (k := k) rfl hO rfl) rfl ?_
                    refine w_m0 (pc1 := 13) (st1 := .int (nI (Q.length)) :: _) rfl rfl (x_ln (k := k1) hA (by decide)) rfl ?_
                    refine w_f (a := 199) (b := 16) (bN_ge_f (a := pre.length) (b := Q.length) (by omega) (by omega) (by omega)) rfl rfl ?_
                    refine w_p (pc1 := 18) rfl rfl ?_
                    refine w_p (pc1 := 19) rfl rfl ?_
                    refine w_m0 (pc1 := 22) (st1 := .ref (241 + k2) :: _) rfl rfl (x_gf (k := k) rfl hO rfl) rfl ?_
                    refine w_m0 (pc1 := 23) (st1 := .int (nI (Q.length)) :: _) rfl rfl (x_ln (k := k2) hB (by decide)) rfl ?_
                    refine w_f (a := 199) (b := 26) (bN_ge_f (a := pre.length) (b := Q.length) (by omega) (by omega) (by omega)) rfl rfl ?_
                    refine w_p (pc1 := 27) rfl rfl ?_
                    refine w_m0 (pc1 := 30) (st1 := .ref (241 + k1) :: _) rfl rfl (x_gf (k := k) rfl hO rfl) rfl ?_
                    refine w_p (pc1 := 32) rfl rfl ?_
                    refine w_m0 (pc1 := 33) (st1 := .int 18 :: _) rfl rfl (x_ile (k := k1) (e := pre.length) hA (by omega) (by omega) (h1)) rfl ?_
                    refine w_p (pc1 := 35) (al1 := [(7, .int 18), (6, .int (nI (pre.length))), (5, .int (nI (r0.length + 1 + 1))), (0, .ref (241 + k)), (1, .ref 114), (2, .int (nI (p))), (3, .null), (4, .null)]) rfl rfl ?_
                    refine w_p (pc1 := 37) rfl rfl ?_
                    refine w_p (pc1 := 38) (st1 := .int 4 :: _) rfl rfl ?_
                    refine w_t (a := 86) (b := 41) rfl rfl rfl ?_
                    refine w_p (pc1 := 88) rfl rfl ?_
                    refine w_p (pc1 := 90) (st1 := .int 8 :: _) rfl rfl ?_
                    refine w_t (a := 129) (b := 93) rfl rfl rfl ?_
                    refine w_p (pc1 := 131) rfl rfl ?_
                    refine w_p (pc1 := 132) (st1 := .int 2 :: _) rfl rfl ?_
                    refine w_t (a := 139) (b := 135) (bN_ge_t (a := r0.length + 1 + 1) (b := 2) (by omega) (by omega) (by omega)) rfl rfl ?_
                    refine w_iinc (pc1 := 142) (u := nI (r0.length + 1 + 1)) (z := nI (r0.length + 1)) (al1 := [(5, .int (nI (r0.length + 1))), (7, .int 18), (6, .int (nI (pre.length))), (0, .ref (241 + k)), (1, .ref 114), (2, .int (nI (p))), (3, .null), (4, .null)]) rfl rfl rfl (nK_p.trans nK_s) rfl rfl ?_
                    refine w_p (pc1 := 143) rfl rfl ?_
                    refine w_m0 (pc1 := 146) (st1 := .ref (241 + k3) :: _) rfl rfl (x_gf (k := k) rfl hO rfl) rfl ?_
                    refine w_p (pc1 := 148) rfl rfl ?_
                    refine w_p (pc1 := 149) (st1 := .int 1 :: _) rfl rfl ?_
                    refine w_isub (pc1 := 150) (u := nI (r0.length + 1)) (v := nI (1)) (z := nI (r0.length + 1 - 1)) rfl (nK_sub (by omega)) rfl ?_
                    refine w_p (pc1 := 151) rfl rfl ?_
                    refine w_p (pc1 := 153) rfl rfl ?_
                    refine w_p (pc1 := 154) rfl rfl ?_
                    refine w_m0 (pc1 := 157) (st1 := .ref (241 + k3) :: _) rfl rfl (x_gf (k := k) rfl hO rfl) rfl ?_
                    refine w_p (pc1 := 159) rfl rfl ?_
                    refine w_p (pc1 := 160) (st1 := .int 1 :: _) rfl rfl ?_
                    refine w_isub (pc1 := 161) (u := nI (r0.length + 1)) (v := nI (1)) (z := nI (r0.length + 1 - 1)) rfl (nK_sub (by omega)) rfl ?_
                    refine w_m0 (pc1 := 162) (st1 := .long (v_K (.inl v)) :: _) rfl rfl (x_lle (k := k3) (e := r0.length + 1 - 1) hS (by omega) (by omega) (by rw [Nat.add_sub_cancel]; exact hs.2.1)) rfl ?_
                    refine w_p (pc1 := 163) rfl rfl ?_
                    refine w_m0 (pc1 := 166) (st1 := .ref (241 + k3) :: _) rfl rfl (x_gf (k := k) rfl hO rfl) rfl ?_
                    refine w_p (pc1 := 168) rfl rfl ?_
                    refine w_m0 (pc1 := 169) (st1 := .long (v_K (.inl w)) :: _) rfl rfl (x_lle (k := k3) (e := r0.length + 1) hS (by omega) (by omega) (hs.1)) rfl ?_
                    refine w_je (pc1 := 172) (vs := [.ref (241 + k), .int 18, .long (v_K (.inl v)), .long (v_K (.inl w))]) (rest := [.int (nI (r0.length + 1 - 1)), .ref (241 + k3)]) (st1 := [.long (o2K (u_2 g 18 (.inl v) (.inl w))), .int (nI (r0.length + 1 - 1)), .ref (241 + k3)]) (m_116_18 (d := d + 1) (sl := 0) hO) rfl rfl rfl (fun _ _ => rfl) rfl (by exact cl_v my_116 rfl rfl rfl (Nat.le_of_ble_eq_true rfl) rfl (x_obj hO) rfl (by decide) rfl rfl) (by rfl) (Nat.le_of_ble_eq_true rfl) (Nat.le_of_ble_eq_true rfl) rfl (by rfl) ?_
                    refine w_m0 (pc1 := 173) rfl rfl (x_ls (k := k3) (e := r0.length + 1 - 1) hS (by omega) (by omega)) rfl ?_
                    rw [show (t0.set k3 (sCell Q.length s)).set k3 (Sum.inl (1, Q.length, Sum.inr (Sum.inl (vp_updL s (r0.length + 1 - 1) (o2K (u_2 g 18 (.inl v) (.inl w))))))) = t0.set k3 (sCell Q.length (vp_updL s (r0.length + 1 - 1) (o2K (u_2 g 18 (.inl v) (.inl w))))) from List.set_set _]
                    obtain ⟨hO2, -, -, hS2⟩ := FO_s F0 (vp_updL s (r0.length + 1 - 1) (o2K (u_2 g 18 (.inl v) (.inl w))))
                    refine w_p (pc1 := 174) rfl rfl ?_
                    refine w_m0 (pc1 := 177) (st1 := .ref (241 + k3) :: _) rfl rfl (x_gf (k := k) rfl hO2 rfl) rfl ?_
                    refine w_p (pc1 := 179) rfl rfl ?_
                    refine w_p (pc1 := 180) (st1 := .int 1 :: _) rfl rfl ?_
                    refine w_isub (pc1 := 181) (u := nI (r0.length + 1)) (v := nI (1)) (z := nI (r0.length + 1 - 1)) rfl (nK_sub (by omega)) rfl ?_
                    refine w_m0 (pc1 := 182) (st1 := .long (o2K (u_2 g 18 (.inl v) (.inl w))) :: _) rfl rfl (x_lle (k := k3) (e := r0.length + 1 - 1) hS2 (by omega) (by omega) (upd_s)) rfl ?_
                    refine w_m0 (pc1 := 185) (st1 := .long (-9223372036854775807) :: _) rfl rfl rfl rfl ?_
                    refine w_p (pc1 := 186) rfl rfl ?_
                    refine w_t (a := 193) (b := 189) (lb_ne_t (by rw [hu]; exact v_K_un _)) rfl rfl ?_
                    refine w_iinc (pc1 := 196) (u := nI (pre.length)) (z := nI (pre.length + 1)) (al1 := [(6, .int (nI (pre.length + 1))), (5, .int (nI (r0.length + 1))), (7, .int 18), (0, .ref (241 + k)), (1, .ref 114), (2, .int (nI (p))), (3, .null), (4, .null)]) rfl rfl rfl nK_1 rfl rfl ?_
                    refine w_p (pc1 := 6) rfl rfl ?_
                    refine Wd_al (al := [(6, .int (nI (pre.length + 1))), (5, .int (nI (r0.length + 1))), (0, .ref (241 + k)), (1, .ref 114), (2, .int (nI (p))), (3, .null), (4, .null)]) (sba_p [0, 1, 3, 4, 5, 6, 7] rfl rfl) ?_
                    exact ih (z1 :: r0) _ hQ2 ⟨b, hb⟩ (show r0.length + 1 ≤ pre.length + 1 by omega) ⟨by rw [Nat.add_sub_cancel, upd_s, hu]; rfl, skR_u hs.2.2 (by omega)⟩
    · cases st with
      | nil => cases er
      | cons w0 r1 => cases r1 with
        | nil => cases w0 <;> cases er
        | cons v0 r0 =>
          have hp : r0.length + 1 + 1 ≤ pre.length := hp
          cases w0 with
          | inl z => cases er
          | inr w => cases v0 with
            | inl z => cases er
            | inr v =>
              have er : r0.map tyv = r := by cases er; rfl
              subst er
              subst e2
              rcases hr with e1 | e1
              · obtain rfl : a = 19 := e1
                rw [fo_19]
                cases hu : u_2 g 19 (.inr v) (.inr w) with
                | none =>
                  show Wd _ _ _ _ _ (WK C t0 k3 Q.length sl none) _
                  refine w_p (pc1 := 8) rfl rfl ?_
                  refine w_p (pc1 := 9) rfl rfl ?_
                  refine w_m0 (pc1 := 12) (st1 := .ref (241 + k1) :: _) rfl rfl (x_gf (k := k) rfl hO rfl) rfl ?_
                  refine w_m0 (pc1 := 13) (st1 := .int (nI (Q.length)) :: _) rfl rfl (x_ln (k := k1) hA (by decide)) rfl ?_
                  refine w_f (a := 199) (b := 16) (bN_ge_f (a := pre.length) (b := Q.length) (by omega) (by omega) (by omega)) rfl rfl ?_
                  refine w_p (pc1 := 18) rfl rfl ?_
                  refine w_p (pc1 := 19) rfl rfl ?_
                  refine w_m0 (pc1 := 22) (st1 := .ref (241 + k2) :: _) rfl rfl (x_gf (k := k) rfl hO rfl) rfl ?_
                  refine w_m0 (pc1 := 23) (st1 := .int (nI (Q.length)) :: _) rfl rfl (x_ln (k := k2) hB (by decide)) rfl ?_
                  refine w_f (a := 199) (b := 26) (bN_ge_f (a := pre.length) (b := Q.length) (by omega) (by omega) (by omega)) rfl rfl ?_
                  refine w_p (pc1 := 27) rfl rfl ?_
                  refine w_m0 (pc1 := 30) (st1 := .ref (241 + k1) :: _) rfl rfl (x_gf (k := k) rfl hO rfl) rfl ?_
                  refine w_p (pc1 := 32) rfl rfl ?_
                  refine w_m0 (pc1 := 33) (st1 := .int 19 :: _) rfl rfl (x_ile (k := k1) (e := pre.length) hA (by omega) (by omega) (h1)) rfl ?_
                  refine w_p (pc1 := 35) (al1 := [(7, .int 19), (6, .int (nI (pre.length))), (5, .int (nI (r0.length + 1 + 1))), (0, .ref (241 + k)), (1, .ref 114), (2, .int (nI (p))), (3, .null), (4, .null)]) rfl rfl ?_
                  refine w_p (pc1 := 37) rfl rfl ?_
                  refine w_p (pc1 := 38) (st1 := .int 4 :: _) rfl rfl ?_
                  refine w_t (a := 86) (b := 41) rfl rfl rfl ?_
                  refine w_p (pc1 := 88) rfl rfl ?_
                  refine w_p (pc1 := 90) (st1 := .int 8 :: _) rfl rfl ?_
                  refine w_t (a := 129) (b := 93) rfl rfl rfl ?_
                  refine w_p (pc1 := 131) rfl rfl ?_
                  refine w_p (pc1 := 132) (st1 := .int 2 :: _) rfl rfl ?_
                  refine w_t (a := 139) (b := 135) (bN_ge_t (a := r0.length + 1 + 1) (b := 2) (by omega) (by omega) (by omega)) rfl rfl ?_
                  refine w_iinc (pc1 := 142) (u := nI (r0.length + 1 + 1)) (z := nI (r0.length + 1)) (al1 := [(5, .int (nI (r0.length + 1))), (7, .int 19), (6, .int (nI (pre.length))), (0, .ref (241 + k)), (1, .ref 114), (2, .int (nI (p))), (3, .null), (4, .null)]) rfl rfl rfl (nK_p.trans nK_s) rfl rfl ?_
                  refine w_p (pc1 := 143) rfl rfl ?_
                  refine w_m0 (pc1 := 146) (st1 := .ref (241 + k3) :: _) rfl rfl (x_gf (k := k) rfl hO rfl) rfl ?_
                  refine w_p (pc1 := 148) rfl rfl ?_
                  refine w_p (pc1 := 149) (st1 := .int 1 :: _) rfl rfl ?_
                  refine w_isub (pc1 := 150) (u := nI (r0.length + 1)) (v := nI (1)) (z := nI (r0.length + 1 - 1)) rfl (nK_sub (by omega)) rfl ?_
                  refine w_p (pc1 := 151) rfl rfl ?_
                  refine w_p (pc1 := 153) rfl rfl ?_
                  refine w_p (pc1 := 154) rfl rfl ?_
                  refine w_m0 (pc1 := 157) (st1 := .ref (241 + k3) :: _) rfl rfl (x_gf (k := k) rfl hO rfl) rfl ?_
                  refine w_p (pc1 := 159) rfl rfl ?_
                  refine w_p (pc1 := 160) (st1 := .int 1 :: _) rfl rfl ?_
                  refine w_isub (pc1 := 161) (u := nI (r0.length + 1)) (v := nI (1)) (z := nI (r0.length + 1 - 1)) rfl (nK_sub (by omega)) rfl ?_
                  refine w_m0 (pc1 := 162) (st1 := .long (v_K (.inr v)) :: _) rfl rfl (x_lle (k := k3) (e := r0.length + 1 - 1) hS (by omega) (by omega) (by rw [Nat.add_sub_cancel]; exact hs.2.1)) rfl ?_
                  refine w_p (pc1 := 163) rfl rfl ?_
                  refine w_m0 (pc1 := 166) (st1 := .ref (241 + k3) :: _) rfl rfl (x_gf (k := k) rfl hO rfl) rfl ?_
                  refine w_p (pc1 := 168) rfl rfl ?_
                  refine w_m0 (pc1 := 169) (st1 := .long (v_K (.inr w)) :: _) rfl rfl (x_lle (k := k3) (e := r0.length + 1) hS (by omega) (by omega) (hs.1)) rfl ?_
                  refine w_je (pc1 := 172) (vs := [.ref (241 + k), .int 19, .long (v_K (.inr v)), .long (v_K (.inr w))]) (rest := [.int (nI (r0.length + 1 - 1)), .ref (241 + k3)]) (st1 := [.long (o2K (u_2 g 19 (.inr v) (.inr w))), .int (nI (r0.length + 1 - 1)), .ref (241 + k3)]) (m_116_19 (d := d + 1) (sl := 0) hO) rfl rfl rfl (fun _ _ => rfl) rfl (by exact cl_v my_116 rfl rfl rfl (Nat.le_of_ble_eq_true rfl) rfl (x_obj hO) rfl (by decide) rfl rfl) (by rfl) (Nat.le_of_ble_eq_true rfl) (Nat.le_of_ble_eq_true rfl) rfl (by rfl) ?_
                  refine w_m0 (pc1 := 173) rfl rfl (x_ls (k := k3) (e := r0.length + 1 - 1) hS (by omega) (by omega)) rfl ?_
                  rw [show (t0.set k3 (sCell Q.length s)).set k3 (Sum.inl (1, Q.length, Sum.inr (Sum.inl (vp_updL s (r0.length + 1 - 1) (o2K (u_2 g 19 (.inr v) (.inr w))))))) = t0.set k3 (sCell Q.length (vp_updL s (r0.length + 1 - 1) (o2K (u_2 g 19 (.inr v) (.inr w))))) from List.set_set _]
                  obtain ⟨hO2, -, -, hS2⟩ := FO_s F0 (vp_updL s (r0.length + 1 - 1) (o2K (u_2 g 19 (.inr v) (.inr w))))
                  refine w_p (pc1 := 174) rfl rfl ?_
                  refine w_m0 (pc1 := 177) (st1 := .ref (241 + k3) :: _) rfl rfl (x_gf (k := k) rfl hO2 rfl) rfl ?_
                  refine w_p (pc1 := 179) rfl rfl ?_
                  refine w_p (pc1 := 180) (st1 := .int 1 :: _) rfl rfl ?_
                  refine w_isub (pc1 := 181) (u := nI (r0.length + 1)) (v := nI (1)) (z := nI (r0.length + 1 - 1)) rfl (nK_sub (by omega)) rfl ?_
                  refine w_m0 (pc1 := 182) (st1 := .long (o2K (u_2 g 19 (.inr v) (.inr w))) :: _) rfl rfl (x_lle (k := k3) (e := r0.length + 1 - 1) hS2 (by omega) (by omega) (upd_s)) rfl ?_
                  refine w_m0 (pc1 := 185) (st1 := .long (-9223372036854775807) :: _) rfl rfl rfl rfl ?_
                  refine w_p (pc1 := 186) rfl rfl ?_
                  refine w_f (a := 193) (b := 189) (lb_ne_f (by rw [hu]; rfl)) rfl rfl ?_
                  refine w_m0 (pc1 := 192) (st1 := .long (-9223372036854775807) :: _) rfl rfl rfl rfl ?_
                  refine w_r rfl rfl rfl (fun _ _ => rfl) rfl ?_
                  exact ⟨_, rfl, rfl, rfl⟩
                | some z1 =>
                  show Wd _ _ _ _ _ (WK C t0 k3 Q.length sl (f_l g R N O l (z1 :: r0))) _
                  have hb : t_l w1 w2 w3 l ((z1 :: r0).map tyv) = some [b] := by
                    have : tyv z1 = true := by cases hu; rfl
                    show t_l w1 w2 w3 l (tyv z1 :: r0.map tyv) = _
                    rw [this]
                    exact hb
                  refine w_p (pc1 := 8) rfl rfl ?_
                  refine w_p (pc1 := 9) rfl rfl ?_
                  refine w_m0 (pc1 := 12) (st1 := .ref (241 + k1) :: _) rfl rfl (x_gf (k := k) rfl hO rfl) rfl ?_
                  refine w_m0 (pc1 := 13) (st1 := .int (nI (Q.length)) :: _) rfl rfl (x_ln (k := k1) hA (by decide)) rfl ?_
                  refine w_f (a := 199) (b := 16) (bN_ge_f (a := pre.length) (b := Q.length) (by omega) (by omega) (by omega)) rfl rfl ?_
                  refine w_p (pc1 := 18) rfl rfl ?_
                  refine w_p (pc1 := 19) rfl rfl ?_
                  refine w_m0 (pc1 := 22) (st1 := .ref (241 + k2) :: _) rfl rfl (x_gf (k := k) rfl hO rfl) rfl ?_
                  refine w_m0 (pc1 := 23) (st1 := .int (nI (Q.length)) :: _) rfl rfl (x_ln (k := k2) hB (by decide)) rfl ?_
                  refine w_f (a := 199) (b := 26) (bN_ge_f (a := pre.length) (b := Q.length) (by omega) (by omega) (by omega)) rfl rfl ?_
                  refine w_p (pc1 := 27) rfl rfl ?_
                  refine w_m0 (pc1 := 30) (st1 := .ref (241 + k1) :: _) rfl rfl (x_gf (k := k) rfl hO rfl) rfl ?_
                  refine w_p (pc1 := 32) rfl rfl ?_
                  refine w_m0 (pc1 := 33) (st1 := .int 19 :: _) rfl rfl (x_ile (k := k1) (e := pre.length) hA (by omega) (by omega) (h1)) rfl ?_
                  refine w_p (pc1 := 35) (al1 := [(7, .int 19), (6, .int (nI (pre.length))), (5, .int (nI (r0.length + 1 + 1))), (0, .ref (241 + k)), (1, .ref 114), (2, .int (nI (p))), (3, .null), (4, .null)]) rfl rfl ?_
                  refine w_p (pc1 := 37) rfl rfl ?_
                  refine w_p (pc1 := 38) (st1 := .int 4 :: _) rfl rfl ?_
                  refine w_t (a := 86) (b := 41) rfl rfl rfl ?_
                  refine w_p (pc1 := 88) rfl rfl ?_
                  refine w_p (pc1 := 90) (st1 := .int 8 :: _) rfl rfl ?_
                  refine w_t (a := 129) (b := 93) rfl rfl rfl ?_
                  refine w_p (pc1 := 131) rfl rfl ?_
                  refine w_p (pc1 := 132) (st1 := .int 2 :: _) rfl rfl ?_
                  refine w_t (a := 139) (b := 135) (bN_ge_t (a := r0.length + 1 + 1) (b := 2) (by omega) (by omega) (by omega)) rfl rfl ?_
                  refine w_iinc (pc1 := 142) (u := nI (r0.length + 1 + 1)) (z := nI (r0.length + 1)) (al1 := [(5, .int (nI (r0.length + 1))), (7, .int 19), (6, .int (nI (pre.length))), (0, .ref (241 + k)), (1, .ref 114), (2, .int (nI (p))), (3, .null), (4, .null)]) rfl rfl rfl (nK_p.trans nK_s) rfl rfl ?_
                  refine w_p (pc1 := 143) rfl rfl ?_
                  refine w_m0 (pc1 := 146) (st1 := .ref (241 + k3) :: _) rfl rfl (x_gf (k := k) rfl hO rfl) rfl ?_
                  refine w_p (pc1 := 148) rfl rfl ?_
                  refine w_p (pc1 := 149) (st1 := .int 1 :: _) rfl rfl ?_
                  refine w_isub (pc1 := 150) (u := nI (r0.length + 1)) (v := nI (1)) (z := nI (r0.length + 1 - 1)) rfl (nK_sub (by omega)) rfl ?_
                  refine w_p (pc1 := 151) rfl rfl ?_
                  refine w_p (pc1 := 153) rfl rfl ?_
                  refine w_p (pc1 := 154) rfl rfl ?_
                  refine w_m0 (pc1 := 157) (st1 := .ref (241 + k3) :: _) rfl rfl (x_gf (k := k) rfl hO rfl) rfl ?_
                  refine w_p (pc1 := 159) rfl rfl ?_
                  refine w_p (pc1 := 160) (st1 := .int 1 :: _) rfl rfl ?_
                  refine w_isub (pc1 := 161) (u := nI (r0.length + 1)) (v := nI (1)) (z := nI (r0.length + 1 - 1)) rfl (nK_sub (by omega)) rfl ?_
                  refine w_m0 (pc1 := 162) (st1 := .long (v_K (.inr v)) :: _) rfl rfl (x_lle (k := k3) (e := r0.length + 1 - 1) hS (by omega) (by omega) (by rw [Nat.add_sub_cancel]; exact hs.2.1)) rfl ?_
                  refine w_p (pc1 := 163) rfl rfl ?_
                  refine w_m0 (pc1 := 166) (st1 := .ref (241 + k3) :: _) rfl rfl (x_gf (k := k) rfl hO rfl) rfl ?_
                  refine w_p (pc1 := 168) rfl rfl ?_
                  refine w_m0 (pc1 := 169) (st1 := .long (v_K (.inr w)) :: _) rfl rfl (x_lle (k := k3) (e := r0.length + 1) hS (by omega) (by omega) (hs.1)) rfl ?_
                  refine w_je (pc1 := 172) (vs := [.ref (241 + k), .int 19, .long (v_K (.inr v)), .long (v_K (.inr w))]) (rest := [.int (nI (r0.length + 1 - 1)), .ref (241 + k3)]) (st1 := [.long (o2K (u_2 g 19 (.inr v) (.inr w))), .int (nI (r0.length + 1 - 1)), .ref (241 + k3)]) (m_116_19 (d := d + 1) (sl := 0) hO) rfl rfl rfl (fun _ _ => rfl) rfl (by exact cl_v my_116 rfl rfl rfl (Nat.le_of_ble_eq_true rfl) rfl (x_obj hO) rfl (by decide) rfl rfl) (by rfl) (Nat.le_of_ble_eq_true rfl) (Nat.le_of_ble_eq_true rfl) rfl (by rfl) ?_
                  refine w_m0 (pc1 := 173) rfl rfl (x_ls (k := k3) (e := r0.length + 1 - 1) hS (by omega) (by omega)) rfl ?_
                  rw [show (t0.set k3 (sCell Q.length s)).set k3 (Sum.inl (1, Q.length, Sum.inr (Sum.inl (vp_updL s (r0.length + 1 - 1) (o2K (u_2 g 19 (.inr v) (.inr w))))))) = t0.set k3 (sCell Q.length (vp_updL s (r0.length + 1 - 1) (o2K (u_2 g 19 (.inr v) (.inr w))))) from List.set_set _]
                  obtain ⟨hO2, -, -, hS2⟩ := FO_s F0 (vp_updL s (r0.length + 1 - 1) (o2K (u_2 g 19 (.inr v) (.inr w))))
                  refine w_p (pc1 := 174) rfl rfl ?_
                  refine w_m0 (pc1 := 177) (st1 := .ref (241 + k3) :: _) rfl rfl (x_gf (k := k) rfl hO2 rfl) rfl ?_
                  refine w_p (pc1 := 179) rfl rfl ?_
                  refine w_p (pc1 := 180) (st1 := .int 1 :: _) rfl rfl ?_
                  refine w_isub (pc1 := 181) (u := nI (r0.length + 1)) (v := nI (1)) (z := nI (r0.length + 1 - 1)) rfl (nK_sub (by omega)) rfl ?_
                  refine w_m0 (pc1 := 182) (st1 := .long (o2K (u_2 g 19 (.inr v) (.inr w))) :: _) rfl rfl (x_lle (k := k3) (e := r0.length + 1 - 1) hS2 (by omega) (by omega) (upd_s)) rfl ?_
                  refine w_m0 (pc1 := 185) (st1 := .long (-9223372036854775807) :: _) rfl rfl rfl rfl ?_
                  refine w_p (pc1 := 186) rfl rfl ?_
                  refine w_t (a := 193) (b := 189) (lb_ne_t (by rw [hu]; exact v_K_un _)) rfl rfl ?_
                  refine w_iinc (pc1 := 196) (u := nI (pre.length)) (z := nI (pre.length + 1)) (al1 := [(6, .int (nI (pre.length + 1))), (5, .int (nI (r0.length + 1))), (7, .int 19), (0, .ref (241 + k)), (1, .ref 114), (2, .int (nI (p))), (3, .null), (4, .null)]) rfl rfl rfl nK_1 rfl rfl ?_
                  refine w_p (pc1 := 6) rfl rfl ?_
                  refine Wd_al (al := [(6, .int (nI (pre.length + 1))), (5, .int (nI (r0.length + 1))), (0, .ref (241 + k)), (1, .ref 114), (2, .int (nI (p))), (3, .null), (4, .null)]) (sba_p [0, 1, 3, 4, 5, 6, 7] rfl rfl) ?_
                  exact ih (z1 :: r0) _ hQ2 ⟨b, hb⟩ (show r0.length + 1 ≤ pre.length + 1 by omega) ⟨by rw [Nat.add_sub_cancel, upd_s, hu]; rfl, skR_u hs.2.2 (by omega)⟩
              · obtain rfl : a = 20 := e1
                rw [fo_20]
                cases hu : u_2 g 20 (.inr v) (.inr w) with
                | none =>
                  show Wd _ _ _ _ _ (WK C t0 k3 Q.length sl none) _
                  refine w_p (pc1 := 8) rfl rfl ?_
                  refine w_p (pc1 := 9) rfl rfl ?_
                  refine w_m0 (pc1 := 12) (st1 := .ref (241 + k1) :: _) rfl rfl (x_gf (k := k) rfl hO rfl) rfl ?_
                  refine w_m0 (pc1 := 13) (st1 := .int (nI (Q.length)) :: _) rfl rfl (x_ln (k := k1) hA (by decide)) rfl ?_
                  refine w_f (a := 199) (b := 16) (bN_ge_f (a := pre.length) (b := Q.length) (by omega) (by omega) (by omega)) rfl rfl ?_
                  refine w_p (pc1 := 18) rfl rfl ?_
                  refine w_p (pc1 := 19) rfl rfl ?_
                  refine w_m0 (pc1 := 22) (st1 := .ref (241 + k2) :: _) rfl rfl (x_gf (k := k) rfl hO rfl) rfl ?_
                  refine w_m0 (pc1 := 23) (st1 := .int (nI (Q.length)) :: _) rfl rfl (x_ln (k := k2) hB (by decide)) rfl ?_
                  refine w_f (a := 199) (b := 26) (bN_ge_f (a := pre.length) (b := Q.length) (by omega) (by omega) (by omega)) rfl rfl ?_
                  refine w_p (pc1 := 27) rfl rfl ?_
                  refine w_m0 (pc1 := 30) (st1 := .ref (241 + k1) :: _) rfl rfl (x_gf (k := k) rfl hO rfl) rfl ?_
                  refine w_p (pc1 := 32) rfl rfl ?_
                  refine w_m0 (pc1 := 33) (st1 := .int 20 :: _) rfl rfl (x_ile (k := k1) (e := pre.length) hA (by omega) (by omega) (h1)) rfl ?_
                  refine w_p (pc1 := 35) (al1 := [(7, .int 20), (6, .int (nI (pre.length))), (5, .int (nI (r0.length + 1 + 1))), (0, .ref (241 + k)), (1, .ref 114), (2, .int (nI (p))), (3, .null), (4, .null)]) rfl rfl ?_
                  refine w_p (pc1 := 37) rfl rfl ?_
                  refine w_p (pc1 := 38) (st1 := .int 4 :: _) rfl rfl ?_
                  refine w_t (a := 86) (b := 41) rfl rfl rfl ?_
                  refine w_p (pc1 := 88) rfl rfl ?_
                  refine w_p (pc1 := 90) (st1 := .int 8 :: _) rfl rfl ?_
                  refine w_t (a := 129) (b := 93) rfl rfl rfl ?_
                  refine w_p (pc1 := 131) rfl rfl ?_
                  refine w_p (pc1 := 132) (st1 := .int 2 :: _) rfl rfl ?_
                  refine w_t (a := 139) (b := 135) (bN_ge_t (a := r0.length + 1 + 1) (b := 2) (by omega) (by omega) (by omega)) rfl rfl ?_
                  refine w_iinc (pc1 := 142) (u := nI (r0.length + 1 + 1)) (z := nI (r0.length + 1)) (al1 := [(5, .int (nI (r0.length + 1))), (7, .int 20), (6, .int (nI (pre.length))), (0, .ref (241 + k)), (1, .ref 114), (2, .int (nI (p))), (3, .null), (4, .null)]) rfl rfl rfl (nK_p.trans nK_s) rfl rfl ?_
                  refine w_p (pc1 := 143) rfl rfl ?_
                  refine w_m0 (pc1 := 146) (st1 := .ref (241 + k3) :: _) rfl rfl (x_gf (k := k) rfl hO rfl) rfl ?_
                  refine w_p (pc1 := 148) rfl rfl ?_
                  refine w_p (pc1 := 149) (st1 := .int 1 :: _) rfl rfl ?_
                  refine w_isub (pc1 := 150) (u := nI (r0.length + 1)) (v := nI (1)) (z := nI (r0.length + 1 - 1)) rfl (nK_sub (by omega)) rfl ?_
                  refine w_p (pc1 := 151) rfl rfl ?_
                  refine w_p (pc1 := 153) rfl rfl ?_
                  refine w_p (pc1 := 154) rfl rfl ?_
                  refine w_m0 (pc1 := 157) (st1 := .ref (241 + k3) :: _) rfl rfl (x_gf (k := k) rfl hO rfl) rfl ?_
                  refine w_p (pc1 := 159) rfl rfl ?_
                  refine w_p (pc1 := 160) (st1 := .int 1 :: _) rfl rfl ?_
                  refine w_isub (pc1 := 161) (u := nI (r0.length + 1)) (v := nI (1)) (z := nI (r0.length + 1 - 1)) rfl (nK_sub (by omega)) rfl ?_
                  refine w_m0 (pc1 := 162) (st1 := .long (v_K (.inr v)) :: _) rfl rfl (x_lle (k := k3) (e := r0.length + 1 - 1) hS (by omega) (by omega) (by rw [Nat.add_sub_cancel]; exact hs.2.1)) rfl ?_
                  refine w_p (pc1 := 163) rfl rfl ?_
                  refine w_m0 (pc1 := 166) (st1 := .ref (241 + k3) :: _) rfl rfl (x_gf (k := k) rfl hO rfl) rfl ?_
                  refine w_p (pc1 := 168) rfl rfl ?_
                  refine w_m0 (pc1 := 169) (st1 := .long (v_K (.inr w)) :: _) rfl rfl (x_lle (k := k3) (e := r0.length + 1) hS (by omega) (by omega) (hs.1)) rfl ?_
                  refine w_je (pc1 := 172) (vs := [.ref (241 + k), .int 20, .long (v_K (.inr v)), .long (v_K (.inr w))]) (rest := [.int (nI (r0.length + 1 - 1)), .ref (241 + k3)]) (st1 := [.long (o2K (u_2 g 20 (.inr v) (.inr w))), .int (nI (r0.length + 1 - 1)), .ref (241 + k3)]) (m_116_20 (d := d + 1) (sl := 0) hO) rfl rfl rfl (fun _ _ => rfl) rfl (by exact cl_v my_116 rfl rfl rfl (Nat.le_of_ble_eq_true rfl) rfl (x_obj hO) rfl (by decide) rfl rfl) (by rfl) (Nat.le_of_ble_eq_true rfl) (Nat.le_of_ble_eq_true rfl) rfl (by rfl) ?_
                  refine w_m0 (pc1 := 173) rfl rfl (x_ls (k := k3) (e := r0.length + 1 - 1) hS (by omega) (by omega)) rfl ?_
                  rw [show (t0.set k3 (sCell Q.length s)).set k3 (Sum.inl (1, Q.length, Sum.inr (Sum.inl (vp_updL s (r0.length + 1 - 1) (o2K (u_2 g 20 (.inr v) (.inr w))))))) = t0.set k3 (sCell Q.length (vp_updL s (r0.length + 1 - 1) (o2K (u_2 g 20 (.inr v) (.inr w))))) from List.set_set _]
                  obtain ⟨hO2, -, -, hS2⟩ := FO_s F0 (vp_updL s (r0.length + 1 - 1) (o2K (u_2 g 20 (.inr v) (.inr w))))
                  refine w_p (pc1 := 174) rfl rfl ?_
                  refine w_m0 (pc1 := 177) (st1 := .ref (241 + k3) :: _) rfl rfl (x_gf (k := k) rfl hO2 rfl) rfl ?_
                  refine w_p (pc1 := 179) rfl rfl ?_
                  refine w_p (pc1 := 180) (st1 := .int 1 :: _) rfl rfl ?_
                  refine w_isub (pc1 := 181) (u := nI (r0.length + 1)) (v := nI (1)) (z := nI (r0.length + 1 - 1)) rfl (nK_sub (by omega)) rfl ?_
                  refine w_m0 (pc1 := 182) (st1 := .long (o2K (u_2 g 20 (.inr v) (.inr w))) :: _) rfl rfl (x_lle (k := k3) (e := r0.length + 1 - 1) hS2 (by omega) (by omega) (upd_s)) rfl ?_
                  refine w_m0 (pc1 := 185) (st1 := .long (-9223372036854775807) :: _) rfl rfl rfl rfl ?_
                  refine w_p (pc1 := 186) rfl rfl ?_
                  refine w_f (a := 193) (b := 189) (lb_ne_f (by rw [hu]; rfl)) rfl rfl ?_
                  refine w_m0 (pc1 := 192) (st1 := .long (-9223372036854775807) :: _) rfl rfl rfl rfl ?_
                  refine w_r rfl rfl rfl (fun _ _ => rfl) rfl ?_
                  exact ⟨_, rfl, rfl, rfl⟩
                | some z1 =>
                  show Wd _ _ _ _ _ (WK C t0 k3 Q.length sl (f_l g R N O l (z1 :: r0))) _
                  have hb : t_l w1 w2 w3 l ((z1 :: r0).map tyv) = some [b] := by
                    have : tyv z1 = true := by cases hu; rfl
                    show t_l w1 w2 w3 l (tyv z1 :: r0.map tyv) = _
                    rw [this]
                    exact hb
                  refine w_p (pc1 := 8) rfl rfl ?_
                  refine w_p (pc1 := 9) rfl rfl ?_
                  refine w_m0 (pc1 := 12) (st1 := .ref (241 + k1) :: _) rfl rfl (x_gf (k := k) rfl hO rfl) rfl ?_
                  refine w_m0 (pc1 := 13) (st1 := .int (nI (Q.length)) :: _) rfl rfl (x_ln (k := k1) hA (by decide)) rfl ?_
                  refine w_f (a := 199) (b := 16) (bN_ge_f (a := pre.length) (b := Q.length) (by omega) (by omega) (by omega)) rfl rfl ?_
                  refine w_p (pc1 := 18) rfl rfl ?_
                  refine w_p (pc1 := 19) rfl rfl ?_
                  refine w_m0 (pc1 := 22) (st1 := .ref (241 + k2) :: _) rfl rfl (x_gf (k := k) rfl hO rfl) rfl ?_
                  refine w_m0 (pc1 := 23) (st1 := .int (nI (Q.length)) :: _) rfl rfl (x_ln (k := k2) hB (by decide)) rfl ?_
                  refine w_f (a := 199) (b := 26) (bN_ge_f (a := pre.length) (b := Q.length) (by omega) (by omega) (by omega)) rfl rfl ?_
                  refine w_p (pc1 := 27) rfl rfl ?_
                  refine w_m0 (pc1 := 30) (st1 := .ref (241 + k1) :: _) rfl rfl (x_gf (k := k) rfl hO rfl) rfl ?_
                  refine w_p (pc1 := 32) rfl rfl ?_
                  refine w_m0 (pc1 := 33) (st1 := .int 20 :: _) rfl rfl (x_ile (k := k1) (e := pre.length) hA (by omega) (by omega) (h1)) rfl ?_
                  refine w_p (pc1 := 35) (al1 := [(7, .int 20), (6, .int (nI (pre.length))), (5, .int (nI (r0.length + 1 + 1))), (0, .ref (241 + k)), (1, .ref 114), (2, .int (nI (p))), (3, .null), (4, .null)]) rfl rfl ?_
                  refine w_p (pc1 := 37) rfl rfl ?_
                  refine w_p (pc1 := 38) (st1 := .int 4 :: _) rfl rfl ?_
                  refine w_t (a := 86) (b := 41) rfl rfl rfl ?_
                  refine w_p (pc1 := 88) rfl rfl ?_
                  refine w_p (pc1 := 90) (st1 := .int 8 :: _) rfl rfl ?_
                  refine w_t (a := 129) (b := 93) rfl rfl rfl ?_
                  refine w_p (pc1 := 131) rfl rfl ?_
                  refine w_p (pc1 := 132) (st1 := .int 2 :: _) rfl rfl ?_
                  refine w_t (a := 139) (b := 135) (bN_ge_t (a := r0.length + 1 + 1) (b := 2) (by omega) (by omega) (by omega)) rfl rfl ?_
                  refine w_iinc (pc1 := 142) (u := nI (r0.length + 1 + 1)) (z := nI (r0.length + 1)) (al1 := [(5, .int (nI (r0.length + 1))), (7, .int 20), (6, .int (nI (pre.length))), (0, .ref (241 + k)), (1, .ref 114), (2, .int (nI (p))), (3, .null), (4, .null)]) rfl rfl rfl (nK_p.trans nK_s) rfl rfl ?_
                  refine w_p (pc1 := 143) rfl rfl ?_
                  refine w_m0 (pc1 := 146) (st1 := .ref (241 + k3) :: _) rfl rfl (x_gf (k := k) rfl hO rfl) rfl ?_
                  refine w_p (pc1 := 148) rfl rfl ?_
                  refine w_p (pc1 := 149) (st1 := .int 1 :: _) rfl rfl ?_
                  refine w_isub (pc1 := 150) (u := nI (r0.length + 1)) (v := nI (1)) (z := nI (r0.length + 1 - 1)) rfl (nK_sub (by omega)) rfl ?_
                  refine w_p (pc1 := 151) rfl rfl ?_
                  refine w_p (pc1 := 153) rfl rfl ?_
                  refine w_p (pc1 := 154) rfl rfl ?_
                  refine w_m0 (pc1 := 157) (st1 := .ref (241 + k3) :: _) rfl rfl (x_gf (k := k) rfl hO rfl) rfl ?_
                  refine w_p (pc1 := 159) rfl rfl ?_
                  refine w_p (pc1 := 160) (st1 := .int 1 :: _) rfl rfl ?_
                  refine w_isub (pc1 := 161) (u := nI (r0.length + 1)) (v := nI (1)) (z := nI (r0.length + 1 - 1)) rfl (nK_sub (by omega)) rfl ?_
                  refine w_m0 (pc1 := 162) (st1 := .long (v_K (.inr v)) :: _) rfl rfl (x_lle (k := k3) (e := r0.length + 1 - 1) hS (by omega) (by omega) (by rw [Nat.add_sub_cancel]; exact hs.2.1)) rfl ?_
                  refine w_p (pc1 := 163) rfl rfl ?_
                  refine w_m0 (pc1 := 166) (st1 := .ref (241 + k3) :: _) rfl rfl (x_gf (k := k) rfl hO rfl) rfl ?_
                  refine w_p (pc1 := 168) rfl rfl ?_
                  refine w_m0 (pc1 := 169) (st1 := .long (v_K (.inr w)) :: _) rfl rfl (x_lle (k := k3) (e := r0.length + 1) hS (by omega) (by omega) (hs.1)) rfl ?_
                  refine w_je (pc1 := 172) (vs := [.ref (241 + k), .int 20, .long (v_K (.inr v)), .long (v_K (.inr w))]) (rest := [.int (nI (r0.length + 1 - 1)), .ref (241 + k3)]) (st1 := [.long (o2K (u_2 g 20 (.inr v) (.inr w))), .int (nI (r0.length + 1 - 1)), .ref (241 + k3)]) (m_116_20 (d := d + 1) (sl := 0) hO) rfl rfl rfl (fun _ _ => rfl) rfl (by exact cl_v my_116 rfl rfl rfl (Nat.le_of_ble_eq_true rfl) rfl (x_obj hO) rfl (by decide) rfl rfl) (by rfl) (Nat.le_of_ble_eq_true rfl) (Nat.le_of_ble_eq_true rfl) rfl (by rfl) ?_
                  refine w_m0 (pc1 := 173) rfl rfl (x_ls (k := k3) (e := r0.length + 1 - 1) hS (by omega) (by omega)) rfl ?_
                  rw [show (t0.set k3 (sCell Q.length s)).set k3 (Sum.inl (1, Q.length, Sum.inr (Sum.inl (vp_updL s (r0.length + 1 - 1) (o2K (u_2 g 20 (.inr v) (.inr w))))))) = t0.set k3 (sCell Q.length (vp_updL s (r0.length + 1 - 1) (o2K (u_2 g 20 (.inr v) (.inr w))))) from List.set_set _]
                  obtain ⟨hO2, -, -, hS2⟩ := FO_s F0 (vp_updL s (r0.length + 1 - 1) (o2K (u_2 g 20 (.inr v) (.inr w))))
                  refine w_p (pc1 := 174) rfl rfl ?_
                  refine w_m0 (pc1 := 177) (st1 := .ref (241 + k3) :: _) rfl rfl (x_gf (k := k) rfl hO2 rfl) rfl ?_
                  refine w_p (pc1 := 179) rfl rfl ?_
                  refine w_p (pc1 := 180) (st1 := .int 1 :: _) rfl rfl ?_
                  refine w_isub (pc1 := 181) (u := nI (r0.length + 1)) (v := nI (1)) (z := nI (r0.length + 1 - 1)) rfl (nK_sub (by omega)) rfl ?_
                  refine w_m0 (pc1 := 182) (st1 := .long (o2K (u_2 g 20 (.inr v) (.inr w))) :: _) rfl rfl (x_lle (k := k3) (e := r0.length + 1 - 1) hS2 (by omega) (by omega) (upd_s)) rfl ?_
                  refine w_m0 (pc1 := 185) (st1 := .long (-9223372036854775807) :: _) rfl rfl rfl rfl ?_
                  refine w_p (pc1 := 186) rfl rfl ?_
                  refine w_t (a := 193) (b := 189) (lb_ne_t (by rw [hu]; exact v_K_un _)) rfl rfl ?_
                  refine w_iinc (pc1 := 196) (u := nI (pre.length)) (z := nI (pre.length + 1)) (al1 := [(6, .int (nI (pre.length + 1))), (5, .int (nI (r0.length + 1))), (7, .int 20), (0, .ref (241 + k)), (1, .ref 114), (2, .int (nI (p))), (3, .null), (4, .null)]) rfl rfl rfl nK_1 rfl rfl ?_
                  refine w_p (pc1 := 6) rfl rfl ?_
                  refine Wd_al (al := [(6, .int (nI (pre.length + 1))), (5, .int (nI (r0.length + 1))), (0, .ref (241 + k)), (1, .ref 114), (2, .int (nI (p))), (3, .null), (4, .null)]) (sba_p [0, 1, 3, 4, 5, 6, 7] rfl rfl) ?_
                  exact ih (z1 :: r0) _ hQ2 ⟨b, hb⟩ (show r0.length + 1 ≤ pre.length + 1 by omega) ⟨by rw [Nat.add_sub_cancel, upd_s, hu]; rfl, skR_u hs.2.2 (by omega)⟩
set_option maxRecDepth 100000 in
theorem m_112n (F0 : FO t0 k k1 k2 k3 Q (ck g) s0) (h6 : Q.length ≤ 600) (hE : envK C p .null .null w1 w2 w3 R N O) {b : Bool} (ht : t_l w1 w2 w3 Q [] = some [b]) : Wd L xs (d + 3) y_112 (0, [(0, .ref (241 + k)), (1, .ref 114), (2, .int (nI p)), (3, .null), (4, .null)], [], MH C t0, sl) (WK C t0 k3 Q.length sl (f_l g R N O Q [])) nX := by
  have e0 : t0.set k3 (sCell Q.length s0) = t0 := tl_id F0.2.2.2
  refine w_p (pc1 := 1) (st1 := .int 0 :: _) rfl rfl ?_
  refine w_p (pc1 := 3) (al1 := [(5, .int 0), (0, .ref (241 + k)), (1, .ref 114), (2, .int (nI (p))), (3, .null), (4, .null)]) rfl rfl ?_
  refine w_p (pc1 := 4) (st1 := .int 0 :: _) rfl rfl ?_
  refine w_p (pc1 := 6) (al1 := [(6, .int 0), (5, .int 0), (0, .ref (241 + k)), (1, .ref 114), (2, .int (nI (p))), (3, .null), (4, .null)]) rfl rfl ?_
  have := lp_112n (L := L) (xs := xs) (d := d) (sl := sl) F0 h6 hE Q [] [] s0 rfl ⟨b, ht⟩ (Nat.le_refl _) trivial
  rw [e0] at this
  exact this
set_option maxRecDepth 100000 in
theorem lp_112r (F0 : FO t0 k k1 k2 k3 Q (ck g) s0) (h6 : Q.length ≤ 600) (hE : envK C p (.ref (kN + 100)) (.ref (kO + 100)) w1 w2 w3 R N O) : ∀ (l pre : List op_T) (st : List tv_T) (s : Nat → Int64), pre ++ l = Q → (∃ b, t_l w1 w2 w3 l (st.map tyv) = some [b]) → st.length ≤ pre.length → skR s st → Wd L xs (d + 3) y_112 (6, [(6, .int (nI (pre.length))), (5, .int (nI (st.length))), (0, .ref (241 + k)), (1, .ref 114), (2, .int (nI (p))), (3, .ref (kN + 100)), (4, .ref (kO + 100))], [], MH C (t0.set k3 (sCell Q.length s)), sl) (WK C t0 k3 Q.length sl (f_l g R N O l st)) nX
  | [], pre, st, s, hQ, ht, hp, hs => by
    rw [List.append_nil] at hQ
    subst hQ
    obtain ⟨hO, ⟨fa, hA, hfa⟩, ⟨fb, hB, hfb⟩, hS⟩ := FO_s F0 s
    obtain ⟨b, hb⟩ := ht
    have hb : some (st.map tyv) = some [b] := hb
    cases st with
    | nil => cases hb
    | cons v r =>
      cases r with
      | cons u r => cases hb
      | nil =>
        have hs1 : s 0 = v_K v := hs.1
        show Wd _ _ _ _ _ (WK C t0 k3 pre.length sl (some [v])) _
        refine w_p (pc1 := 8) rfl rfl ?_
        refine w_p (pc1 := 9) rfl rfl ?_
        refine w_m0 (pc1 := 12) (st1 := .ref (241 + k1) :: _) rfl rfl (x_gf (k := k) rfl hO rfl) rfl ?_
        refine w_m0 (pc1 := 13) (st1 := .int (nI (pre.length)) :: _) rfl rfl (x_ln (k := k1) hA (by decide)) rfl ?_
        refine w_t (a := 199) (b := 16) (bN_ge_t (a := pre.length) (b := pre.length) (by omega) (by omega) (by omega)) rfl rfl ?_
        refine w_p (pc1 := 201) rfl rfl ?_
        refine w_p (pc1 := 202) (st1 := .int 1 :: _) rfl rfl ?_
        refine w_t (a := 211) (b := 205) (bN_ge_t (a := 1) (b := 1) (by omega) (by omega) (by omega)) rfl rfl ?_
        refine w_p (pc1 := 212) rfl rfl ?_
        refine w_m0 (pc1 := 215) (st1 := .ref (241 + k3) :: _) rfl rfl (x_gf (k := k) rfl hO rfl) rfl ?_
        refine w_p (pc1 := 216) (st1 := .int 0 :: _) rfl rfl ?_
        refine w_m0 (pc1 := 217) (st1 := .long (v_K v) :: _) rfl rfl (x_lle (k := k3) (e := 0) hS (by omega) (by (have : 1 ≤ pre.length := hp; omega)) (hs1)) rfl ?_
        refine w_r rfl rfl rfl (fun _ _ => rfl) rfl ?_
        exact ⟨s, rfl, rfl, rfl⟩
  | q :: l, pre, st, s, hQ, ht, hp, hs => by
    have hq : Q[pre.length]? = some q := by
      rw [← hQ, List.getElem?_append_right (Nat.le_refl _), Nat.sub_self]
      rfl
    have hlt : pre.length < Q.length := (List.getElem?_eq_some_iff.mp hq).1
    have hQ2 : (pre ++ [q]) ++ l = Q := by rw [← hQ, List.append_assoc]; rfl
    have hpl : (pre ++ [q]).length = pre.length + 1 := by rw [List.length_append, List.length_singleton]
    obtain ⟨hO, ⟨fa, hA, hfa⟩, ⟨fb, hB, hfb⟩, hS⟩ := FO_s F0 s
    have h1 := hfa _ _ hq
    have h2 := hfb _ _ hq
    obtain ⟨b, hb⟩ := ht
    replace hb : (t_1 w1 w2 w3 q (st.map tyv)).bind (t_l w1 w2 w3 l) = some [b] := hb
    cases hT : t_1 w1 w2 w3 q (st.map tyv) with
    | none => rw [hT] at hb; cases hb
    | some T1 =>
    rw [hT] at hb
    replace hb : t_l w1 w2 w3 l T1 = some [b] := hb
    have ih := lp_112r F0 h6 hE l (pre ++ [q])
    rw [hpl] at ih
    obtain ⟨a, cc⟩ := q
    show Wd _ _ _ _ _ (WK C t0 k3 Q.length sl ((f_1 g R N O (a, cc) st).bind (f_l g R N O l))) _
    have h1 : fa pre.length = a := h1
    have h2 : fb pre.length = cc := h2
    rcases t_1c hT with ⟨e1, e2⟩ | ⟨e1, e2⟩ | ⟨e1, e3, e2⟩ | ⟨e1, e3, e2⟩ | ⟨e1, e3, e2⟩ | ⟨r, er, hr⟩ | ⟨r, er, e1, e2⟩ | ⟨r, er, hr⟩ | ⟨r, er, hr, e2⟩
    · obtain rfl : a = 0 := e1
      subst e2
      rw [fo_0]
      show Wd _ _ _ _ _ (WK C t0 k3 Q.length sl (f_l g R N O l (.inl (some cc) :: st))) _
      refine w_p (pc1 := 8) rfl rfl ?_
      refine w_p (pc1 := 9) rfl rfl ?_
      refine w_m0 (pc1 := 12) (st1 := .ref (241 + k1) :: _) rfl rfl (x_gf (k := k) rfl hO rfl) rfl ?_
      refine w_m0 (pc1 := 13) (st1 := .int (nI (Q.length)) :: _) rfl rfl (x_ln (k := k1) hA (by decide)) rfl ?_
      refine w_f (a := 199) (b := 16) (bN_ge_f (a := pre.length) (b := Q.length) (by omega) (by omega) (by omega)) rfl rfl ?_
      refine w_p (pc1 := 18) rfl rfl ?_
      refine w_p (pc1 := 19) rfl rfl ?_
      refine w_m0 (pc1 := 22) (st1 := .ref (241 + k2) :: _) rfl rfl (x_gf (k := k) rfl hO rfl) rfl ?_
      refine w_m0 (pc1 := 23) (st1 := .int (nI (Q.length)) :: _) rfl rfl (x_ln (k := k2) hB (by decide)) rfl ?_
      refine w_f (a := 199) (b := 26) (bN_ge_f (a := pre.length) (b := Q.length) (by omega) (by omega) (by omega)) rfl rfl ?_
      refine w_p (pc1 := 27) rfl rfl ?_
      refine w_m0 (pc1 := 30) (st1 := .ref (241 + k1) :: _) rfl rfl (x_gf (k := k) rfl hO rfl) rfl ?_
      refine w_p (pc1 := 32) rfl rfl ?_
      refine w_m0 (pc1 := 33) (st1 := .int 0 :: _) rfl rfl (x_ile (k := k1) (e := pre.length) hA (by omega) (by omega) (h1)) rfl ?_
      refine w_p (pc1 := 35) (al1 := [(7, .int 0), (6, .int (nI (pre.length))), (5, .int (nI (st.length))), (0, .ref (241 + k)), (1, .ref 114), (2, .int (nI (p))), (3, .ref (kN + 100)), (4, .ref (kO + 100))]) rfl rfl ?_
      refine w_p (pc1 := 37) rfl rfl ?_
      refine w_p (pc1 := 38) (st1 := .int 4 :: _) rfl rfl ?_
      refine w_f (a := 86) (b := 41) rfl rfl rfl ?_
      refine w_p (pc1 := 43) rfl rfl ?_
      refine w_p (pc1 := 44) rfl rfl ?_
      refine w_m0 (pc1 := 47) (st1 := .ref (241 + k3) :: _) rfl rfl (x_gf (k := k) rfl hO rfl) rfl ?_
      refine w_m0 (pc1 := 48) (st1 := .int (nI (Q.length)) :: _) rfl rfl (x_ln (k := k3) hS (by decide)) rfl ?_
      refine w_t (a := 55) (b := 51) (bN_lt_t (a := st.length) (b := Q.length) (by omega) (by omega) (by omega)) rfl rfl ?_
      refine w_p (pc1 := 56) rfl rfl ?_
      refine w_m0 (pc1 := 59) (st1 := .ref (241 + k3) :: _) rfl rfl (x_gf (k := k) rfl hO rfl) rfl ?_
      refine w_p (pc1 := 61) rfl rfl ?_
      refine w_p (pc1 := 62) rfl rfl ?_
      refine w_p (pc1 := 64) rfl rfl ?_
      refine w_p (pc1 := 65) rfl rfl ?_
      refine w_m0 (pc1 := 68) (st1 := .ref (241 + k2) :: _) rfl rfl (x_gf (k := k) rfl hO rfl) rfl ?_
      refine w_p (pc1 := 70) rfl rfl ?_
      refine w_m0 (pc1 := 71) (st1 := .int (cc) :: _) rfl rfl (x_ile (k := k2) (e := pre.length) hB (by omega) (by omega) (h2)) rfl ?_
      refine w_p (pc1 := 72) rfl rfl ?_
      refine w_p (pc1 := 73) rfl rfl ?_
      refine w_p (pc1 := 74) rfl rfl ?_
      refine w_p (pc1 := 76) rfl rfl ?_
      refine w_je (pc1 := 79) (vs := [.ref (241 + k), .int 0, .int (cc), .ref 114, .int (nI (p)), .ref (kN + 100), .ref (kO + 100)]) (rest := [.int (nI (st.length)), .ref (241 + k3)]) (st1 := [.long (v_K (.inl (some cc))), .int (nI (st.length)), .ref (241 + k3)]) (m_113_0 (d := d + 1) (sl := 0)) rfl rfl rfl (fun _ _ => rfl) rfl (by exact cl_v my_113 rfl rfl rfl (Nat.le_of_ble_eq_true rfl) rfl (x_obj hO) rfl (by decide) rfl rfl) (by rfl) (Nat.le_of_ble_eq_true rfl) (Nat.le_of_ble_eq_true rfl) rfl (by rfl) ?_
      refine w_m0 (pc1 := 80) rfl rfl (x_ls (k := k3) (e := st.length) hS (by omega) (by omega)) rfl ?_
      rw [show (t0.set k3 (sCell Q.length s)).set k3 (Sum.inl (1, Q.length, Sum.inr (Sum.inl (vp_updL s st.length (v_K (.inl (some cc))))))) = t0.set k3 (sCell Q.length (vp_updL s st.length (v_K (.inl (some cc))))) from List.set_set _]
      refine w_iinc (pc1 := 83) (u := nI (st.length)) (z := nI (st.length + 1)) (al1 := [(5, .int (nI (st.length + 1))), (7, .int 0), (6, .int (nI (pre.length))), (0, .ref (241 + k)), (1, .ref 114), (2, .int (nI (p))), (3, .ref (kN + 100)), (4, .ref (kO + 100))]) rfl rfl rfl nK_1 rfl rfl ?_
      refine w_p (pc1 := 193) rfl rfl ?_
      refine w_iinc (pc1 := 196) (u := nI (pre.length)) (z := nI (pre.length + 1)) (al1 := [(6, .int (nI (pre.length + 1))), (5, .int (nI (st.length + 1))), (7, .int 0), (0, .ref (241 + k)), (1, .ref 114), (2, .int (nI (p))), (3, .ref (kN + 100)), (4, .ref (kO + 100))]) rfl rfl rfl nK_1 rfl rfl ?_
      refine w_p (pc1 := 6) rfl rfl ?_
      refine Wd_al (al := [(6, .int (nI (pre.length + 1))), (5, .int (nI (st.length + 1))), (0, .ref (241 + k)), (1, .ref 114), (2, .int (nI (p))), (3, .ref (kN + 100)), (4, .ref (kO + 100))]) (sba_p [0, 1, 3, 4, 5, 6, 7] rfl rfl) ?_
      exact ih (.inl (some cc) :: st) _ hQ2 ⟨b, hb⟩ (Nat.succ_le_succ hp) ⟨upd_s, skR_u hs (Nat.le_refl _)⟩
    · obtain rfl : a = 1 := e1
      subst e2
      rw [fo_1]
      show Wd _ _ _ _ _ (WK C t0 k3 Q.length sl (f_l g R N O l (.inl none :: st))) _
      refine w_p (pc1 := 8) rfl rfl ?_
      refine w_p (pc1 := 9) rfl rfl ?_
      refine w_m0 (pc1 := 12) (st1 := .ref (241 + k1) :: _) rfl rfl (x_gf (k := k) rfl hO rfl) rfl ?_
      refine w_m0 (pc1 := 13) (st1 := .int (nI (Q.length)) :: _) rfl rfl (x_ln (k := k1) hA (by decide)) rfl ?_
      refine w_f (a := 199) (b := 16) (bN_ge_f (a := pre.length) (b := Q.length) (by omega) (by omega) (by omega)) rfl rfl ?_
      refine w_p (pc1 := 18) rfl rfl ?_
      refine w_p (pc1 := 19) rfl rfl ?_
      refine w_m0 (pc1 := 22) (st1 := .ref (241 + k2) :: _) rfl rfl (x_gf (k := k) rfl hO rfl) rfl ?_
      refine w_m0 (pc1 := 23) (st1 := .int (nI (Q.length)) :: _) rfl rfl (x_ln (k := k2) hB (by decide)) rfl ?_
      refine w_f (a := 199) (b := 26) (bN_ge_f (a := pre.length) (b := Q.length) (by omega) (by omega) (by omega)) rfl rfl ?_
      refine w_p (pc1 := 27) rfl rfl ?_
      refine w_m0 (pc1 := 30) (st1 := .ref (241 + k1) :: _) rfl rfl (x_gf (k := k) rfl hO rfl) rfl ?_
      refine w_p (pc1 := 32) rfl rfl ?_
      refine w_m0 (pc1 := 33) (st1 := .int 1 :: _) rfl rfl (x_ile (k := k1) (e := pre.length) hA (by omega) (by omega) (h1)) rfl ?_
      refine w_p (pc1 := 35) (al1 := [(7, .int 1), (6, .int (nI (pre.length))), (5, .int (nI (st.length))), (0, .ref (241 + k)), (1, .ref 114), (2, .int (nI (p))), (3, .ref (kN + 100)), (4, .ref (kO + 100))]) rfl rfl ?_
      refine w_p (pc1 := 37) rfl rfl ?_
      refine w_p (pc1 := 38) (st1 := .int 4 :: _) rfl rfl ?_
      refine w_f (a := 86) (b := 41) rfl rfl rfl ?_
      refine w_p (pc1 := 43) rfl rfl ?_
      refine w_p (pc1 := 44) rfl rfl ?_
      refine w_m0 (pc1 := 47) (st1 := .ref (241 + k3) :: _) rfl rfl (x_gf (k := k) rfl hO rfl) rfl ?_
      refine w_m0 (pc1 := 48) (st1 := .int (nI (Q.length)) :: _) rfl rfl (x_ln (k := k3) hS (by decide)) rfl ?_
      refine w_t (a := 55) (b := 51) (bN_lt_t (a := st.length) (b := Q.length) (by omega) (by omega) (by omega)) rfl rfl ?_
      refine w_p (pc1 := 56) rfl rfl ?_
      refine w_m0 (pc1 := 59) (st1 := .ref (241 + k3) :: _) rfl rfl (x_gf (k := k) rfl hO rfl) rfl ?_
      refine w_p (pc1 := 61) rfl rfl ?_
      refine w_p (pc1 := 62) rfl rfl ?_
      refine w_p (pc1 := 64) rfl rfl ?_
      refine w_p (pc1 := 65) rfl rfl ?_
      refine w_m0 (pc1 := 68) (st1 := .ref (241 + k2) :: _) rfl rfl (x_gf (k := k) rfl hO rfl) rfl ?_
      refine w_p (pc1 := 70) rfl rfl ?_
      refine w_m0 (pc1 := 71) (st1 := .int (cc) :: _) rfl rfl (x_ile (k := k2) (e := pre.length) hB (by omega) (by omega) (h2)) rfl ?_
      refine w_p (pc1 := 72) rfl rfl ?_
      refine w_p (pc1 := 73) rfl rfl ?_
      refine w_p (pc1 := 74) rfl rfl ?_
      refine w_p (pc1 := 76) rfl rfl ?_
      refine w_je (pc1 := 79) (vs := [.ref (241 + k), .int 1, .int (cc), .ref 114, .int (nI (p)), .ref (kN + 100), .ref (kO + 100)]) (rest := [.int (nI (st.length)), .ref (241 + k3)]) (st1 := [.long (v_K (.inl none)), .int (nI (st.length)), .ref (241 + k3)]) (m_113_1 (d := d + 1) (sl := 0)) rfl rfl rfl (fun _ _ => rfl) rfl (by exact cl_v my_113 rfl rfl rfl (Nat.le_of_ble_eq_true rfl) rfl (x_obj hO) rfl (by decide) rfl rfl) (by rfl) (Nat.le_of_ble_eq_true rfl) (Nat.le_of_ble_eq_true rfl) rfl (by rfl) ?_
      refine w_m0 (pc1 := 80) rfl rfl (x_ls (k := k3) (e := st.length) hS (by omega) (by omega)) rfl ?_
      rw [show (t0.set k3 (sCell Q.length s)).set k3 (Sum.inl (1, Q.length, Sum.inr (Sum.inl (vp_updL s st.length (v_K (.inl none)))))) = t0.set k3 (sCell Q.length (vp_updL s st.length (v_K (.inl none)))) from List.set_set _]
      refine w_iinc (pc1 := 83) (u := nI (st.length)) (z := nI (st.length + 1)) (al1 := [(5, .int (nI (st.length + 1))), (7, .int 1), (6, .int (nI (pre.length))), (0, .ref (241 + k)), (1, .ref 114), (2, .int (nI (p))), (3, .ref (kN + 100)), (4, .ref (kO + 100))]) rfl rfl rfl nK_1 rfl rfl ?_
      refine w_p (pc1 := 193) rfl rfl ?_
      refine w_iinc (pc1 := 196) (u := nI (pre.length)) (z := nI (pre.length + 1)) (al1 := [(6, .int (nI (pre.length + 1))), (5, .int (nI (st.length + 1))), (7, .int 1), (0, .ref (241 + k)), (1, .ref 114), (2, .int (nI (p))), (3, .ref (kN + 100)), (4, .ref (kO + 100))]) rfl rfl rfl nK_1 rfl rfl ?_
      refine w_p (pc1 := 6) rfl rfl ?_
      refine Wd_al (al := [(6, .int (nI (pre.length + 1))), (5, .int (nI (st.length + 1))), (0, .ref (241 + k)), (1, .ref 114), (2, .int (nI (p))), (3, .ref (kN + 100)), (4, .ref (kO + 100))]) (sba_p [0, 1, 3, 4, 5, 6, 7] rfl rfl) ?_
      exact ih (.inl none :: st) _ hQ2 ⟨b, hb⟩ (Nat.succ_le_succ hp) ⟨upd_s, skR_u hs (Nat.le_refl _)⟩
    · obtain rfl : a = 2 := e1
      subst e2
      obtain ⟨e3, e4⟩ := e3
      rw [fo_2]
      generalize cc.toNatClampNeg = m at *
      subst e3
      have hv := hE.1.2 m e4
      have hlw := hE.1.1
      show Wd _ _ _ _ _ (WK C t0 k3 Q.length sl (f_l g R N O l (.inl (R m) :: st))) _
      have hm := m_113_2 (L := L) (xs := xs) (C := C) (t := t0.set k3 (sCell Q.length s)) (d := d + 1) (sl := 0) (n := 241 + k) (p := p) (c := m) (vc := .ref (kN + 100)) (vd := .ref (kO + 100)) (by omega)
      rw [hv] at hm
      refine w_p (pc1 := 8) rfl rfl ?_
      refine w_p (pc1 := 9) rfl rfl ?_
      refine w_m0 (pc1 := 12) (st1 := .ref (241 + k1) :: _) rfl rfl (x_gf (k := k) rfl hO rfl) rfl ?_
      refine w_m0 (pc1 := 13) (st1 := .int (nI (Q.length)) :: _) rfl rfl (x_ln (k := k1) hA (by decide)) rfl ?_
      refine w_f (a := 199) (b := 16) (bN_ge_f (a := pre.length) (b := Q.length) (by omega) (by omega) (by omega)) rfl rfl ?_
      refine w_p (pc1 := 18) rfl rfl ?_
      refine w_p (pc1 := 19) rfl rfl ?_
      refine w_m0 (pc1 := 22) (st1 := .ref (241 + k2) :: _) rfl rfl (x_gf (k := k) rfl hO rfl) rfl ?_
      refine w_m0 (pc1 := 23) (st1 := .int (nI (Q.length)) :: _) rfl rfl (x_ln (k := k2) hB (by decide)) rfl ?_
      refine w_f (a := 199) (b := 26) (bN_ge_f (a := pre.length) (b := Q.length) (by omega) (by omega) (by omega)) rfl rfl ?_
      refine w_p (pc1 := 27) rfl rfl ?_
      refine w_m0 (pc1 := 30) (st1 := .ref (241 + k1) :: _) rfl rfl (x_gf (k := k) rfl hO rfl) rfl ?_
      refine w_p (pc1 := 32) rfl rfl ?_
      refine w_m0 (pc1 := 33) (st1 := .int 2 :: _) rfl rfl (x_ile (k := k1) (e := pre.length) hA (by omega) (by omega) (h1)) rfl ?_
      refine w_p (pc1 := 35) (al1 := [(7, .int 2), (6, .int (nI (pre.length))), (5, .int (nI (st.length))), (0, .ref (241 + k)), (1, .ref 114), (2, .int (nI (p))), (3, .ref (kN + 100)), (4, .ref (kO + 100))]) rfl rfl ?_
      refine w_p (pc1 := 37) rfl rfl ?_
      refine w_p (pc1 := 38) (st1 := .int 4 :: _) rfl rfl ?_
      refine w_f (a := 86) (b := 41) rfl rfl rfl ?_
      refine w_p (pc1 := 43) rfl rfl ?_
      refine w_p (pc1 := 44) rfl rfl ?_
      refine w_m0 (pc1 := 47) (st1 := .ref (241 + k3) :: _) rfl rfl (x_gf (k := k) rfl hO rfl) rfl ?_
      refine w_m0 (pc1 := 48) (st1 := .int (nI (Q.length)) :: _) rfl rfl (x_ln (k := k3) hS (by decide)) rfl ?_
      refine w_t (a := 55) (b := 51) (bN_lt_t (a := st.length) (b := Q.length) (by omega) (by omega) (by omega)) rfl rfl ?_
      refine w_p (pc1 := 56) rfl rfl ?_
      refine w_m0 (pc1 := 59) (st1 := .ref (241 + k3) :: _) rfl rfl (x_gf (k := k) rfl hO rfl) rfl ?_
      refine w_p (pc1 := 61) rfl rfl ?_
      refine w_p (pc1 := 62) rfl rfl ?_
      refine w_p (pc1 := 64) rfl rfl ?_
      refine w_p (pc1 := 65) rfl rfl ?_
      refine w_m0 (pc1 := 68) (st1 := .ref (241 + k2) :: _) rfl rfl (x_gf (k := k) rfl hO rfl) rfl ?_
      refine w_p (pc1 := 70) rfl rfl ?_
      refine w_m0 (pc1 := 71) (st1 := .int (nI (m)) :: _) rfl rfl (x_ile (k := k2) (e := pre.length) hB (by omega) (by omega) (h2)) rfl ?_
      refine w_p (pc1 := 72) rfl rfl ?_
      refine w_p (pc1 := 73) rfl rfl ?_
      refine w_p (pc1 := 74) rfl rfl ?_
      refine w_p (pc1 := 76) rfl rfl ?_
      refine w_je (pc1 := 79) (vs := [.ref (241 + k), .int 2, .int (nI (m)), .ref 114, .int (nI (p)), .ref (kN + 100), .ref (kO + 100)]) (rest := [.int (nI (st.length)), .ref (241 + k3)]) (st1 := [.long (v_K (.inl (R m))), .int (nI (st.length)), .ref (241 + k3)]) (hm) rfl rfl rfl (fun _ _ => rfl) rfl (by exact cl_v my_113 rfl rfl rfl (Nat.le_of_ble_eq_true rfl) rfl (x_obj hO) rfl (by decide) rfl rfl) (by rfl) (Nat.le_of_ble_eq_true rfl) (Nat.le_of_ble_eq_true rfl) rfl (by rfl) ?_
      refine w_m0 (pc1 := 80) rfl rfl (x_ls (k := k3) (e := st.length) hS (by omega) (by omega)) rfl ?_
      rw [show (t0.set k3 (sCell Q.length s)).set k3 (Sum.inl (1, Q.length, Sum.inr (Sum.inl (vp_updL s st.length (v_K (.inl (R m))))))) = t0.set k3 (sCell Q.length (vp_updL s st.length (v_K (.inl (R m))))) from List.set_set _]
      refine w_iinc (pc1 := 83) (u := nI (st.length)) (z := nI (st.length + 1)) (al1 := [(5, .int (nI (st.length + 1))), (7, .int 2), (6, .int (nI (pre.length))), (0, .ref (241 + k)), (1, .ref 114), (2, .int (nI (p))), (3, .ref (kN + 100)), (4, .ref (kO + 100))]) rfl rfl rfl nK_1 rfl rfl ?_
      refine w_p (pc1 := 193) rfl rfl ?_
      refine w_iinc (pc1 := 196) (u := nI (pre.length)) (z := nI (pre.length + 1)) (al1 := [(6, .int (nI (pre.length + 1))), (5, .int (nI (st.length + 1))), (7, .int 2), (0, .ref (241 + k)), (1, .ref 114), (2, .int (nI (p))), (3, .ref (kN + 100)), (4, .ref (kO + 100))]) rfl rfl rfl nK_1 rfl rfl ?_
      refine w_p (pc1 := 6) rfl rfl ?_
      refine Wd_al (al := [(6, .int (nI (pre.length + 1))), (5, .int (nI (st.length + 1))), (0, .ref (241 + k)), (1, .ref 114), (2, .int (nI (p))), (3, .ref (kN + 100)), (4, .ref (kO + 100))]) (sba_p [0, 1, 3, 4, 5, 6, 7] rfl rfl) ?_
      exact ih (.inl (R m) :: st) _ hQ2 ⟨b, hb⟩ (Nat.succ_le_succ hp) ⟨upd_s, skR_u hs (Nat.le_refl _)⟩
    · obtain rfl : a = 3 := e1
      subst e2
      obtain ⟨e3, e4⟩ := e3
      rw [fo_3]
      generalize cc.toNatClampNeg = m at *
      subst e3
      obtain ⟨kn, ln, hkn, hsk, hw6, hv⟩ := hE.2.1 (by omega)
      obtain rfl : kN = kn := by have h9 : kN + 100 = kn + 100 := Value.ref.inj hkn; omega
      replace hv := hv m e4
      show Wd _ _ _ _ _ (WK C t0 k3 Q.length sl (f_l g R N O l (.inl (N m) :: st))) _
      have hm := m_113_3 (L := L) (xs := xs) (C := C) (t := t0.set k3 (sCell Q.length s)) (d := d + 1) (sl := 0) (n := 241 + k) (c := m) (va := .ref 114) (vb := .int (nI p)) (vd := .ref (kO + 100)) hsk (by omega)
      rw [hv] at hm
      refine w_p (pc1 := 8) rfl rfl ?_
      refine w_p (pc1 := 9) rfl rfl ?_
      refine w_m0 (pc1 := 12) (st1 := .ref (241 + k1) :: _) rfl rfl (x_gf (k := k) rfl hO rfl) rfl ?_
      refine w_m0 (pc1 := 13) (st1 := .int (nI (Q.length)) :: _) rfl rfl (x_ln (k := k1) hA (by decide)) rfl ?_
      refine w_f (a := 199) (b := 16) (bN_ge_f (a := pre.length) (b := Q.length) (by omega) (by omega) (by omega)) rfl rfl ?_
      refine w_p (pc1 := 18) rfl rfl ?_
      refine w_p (pc1 := 19) rfl rfl ?_
      refine w_m0 (pc1 := 22) (st1 := .ref (241 + k2) :: _) rfl rfl (x_gf (k := k) rfl hO rfl) rfl ?_
      refine w_m0 (pc1 := 23) (st1 := .int (nI (Q.length)) :: _) rfl rfl (x_ln (k := k2) hB (by decide)) rfl ?_
      refine w_f (a := 199) (b := 26) (bN_ge_f (a := pre.length) (b := Q.length) (by omega) (by omega) (by omega)) rfl rfl ?_
      refine w_p (pc1 := 27) rfl rfl ?_
      refine w_m0 (pc1 := 30) (st1 := .ref (241 + k1) :: _) rfl rfl (x_gf (k := k) rfl hO rfl) rfl ?_
      refine w_p (pc1 := 32) rfl rfl ?_
      refine w_m0 (pc1 := 33) (st1 := .int 3 :: _) rfl rfl (x_ile (k := k1) (e := pre.length) hA (by omega) (by omega) (h1)) rfl ?_
      refine w_p (pc1 := 35) (al1 := [(7, .int 3), (6, .int (nI (pre.length))), (5, .int (nI (st.length))), (0, .ref (241 + k)), (1, .ref 114), (2, .int (nI (p))), (3, .ref (kN + 100)), (4, .ref (kO + 100))]) rfl rfl ?_
      refine w_p (pc1 := 37) rfl rfl ?_
      refine w_p (pc1 := 38) (st1 := .int 4 :: _) rfl rfl ?_
      refine w_f (a := 86) (b := 41) rfl rfl rfl ?_
      refine w_p (pc1 := 43) rfl rfl ?_
      refine w_p (pc1 := 44) rfl rfl ?_
      refine w_m0 (pc1 := 47) (st1 := .ref (241 + k3) :: _) rfl rfl (x_gf (k := k) rfl hO rfl) rfl ?_
      refine w_m0 (pc1 := 48) (st1 := .int (nI (Q.length)) :: _) rfl rfl (x_ln (k := k3) hS (by decide)) rfl ?_
      refine w_t (a := 55) (b := 51) (bN_lt_t (a := st.length) (b := Q.length) (by omega) (by omega) (by omega)) rfl rfl ?_
      refine w_p (pc1 := 56) rfl rfl ?_
      refine w_m0 (pc1 := 59) (st1 := .ref (241 + k3) :: _) rfl rfl (x_gf (k := k) rfl hO rfl) rfl ?_
      refine w_p (pc1 := 61) rfl rfl ?_
      refine w_p (pc1 := 62) rfl rfl ?_
      refine w_p (pc1 := 64) rfl rfl ?_
      refine w_p (pc1 := 65) rfl rfl ?_
      refine w_m0 (pc1 := 68) (st1 := .ref (241 + k2) :: _) rfl rfl (x_gf (k := k) rfl hO rfl) rfl ?_
      refine w_p (pc1 := 70) rfl rfl ?_
      refine w_m0 (pc1 := 71) (st1 := .int (nI (m)) :: _) rfl rfl (x_ile (k := k2) (e := pre.length) hB (by omega) (by omega) (h2)) rfl ?_
      refine w_p (pc1 := 72) rfl rfl ?_
      refine w_p (pc1 := 73) rfl rfl ?_
      refine w_p (pc1 := 74) rfl rfl ?_
      refine w_p (pc1 := 76) rfl rfl ?_
      refine w_je (pc1 := 79) (vs := [.ref (241 + k), .int 3, .int (nI (m)), .ref 114, .int (nI (p)), .ref (kN + 100), .ref (kO + 100)]) (rest := [.int (nI (st.length)), .ref (241 + k3)]) (st1 := [.long (v_K (.inl (N m))), .int (nI (st.length)), .ref (241 + k3)]) (hm) rfl rfl rfl (fun _ _ => rfl) rfl (by exact cl_v my_113 rfl rfl rfl (Nat.le_of_ble_eq_true rfl) rfl (x_obj hO) rfl (by decide) rfl rfl) (by rfl) (Nat.le_of_ble_eq_true rfl) (Nat.le_of_ble_eq_true rfl) rfl (by rfl) ?_
      refine w_m0 (pc1 := 80) rfl rfl (x_ls (k := k3) (e := st.length) hS (by omega) (by omega)) rfl ?_
      rw [show (t0.set k3 (sCell Q.length s)).set k3 (Sum.inl (1, Q.length, Sum.inr (Sum.inl (vp_updL s st.length (v_K (.inl (N m))))))) = t0.set k3 (sCell Q.length (vp_updL s st.length (v_K (.inl (N m))))) from List.set_set _]
      refine w_iinc (pc1 := 83) (u := nI (st.length)) (z := nI (st.length + 1)) (al1 := [(5, .int (nI (st.length + 1))), (7, .int 3), (6, .int (nI (pre.length))), (0, .ref (241 + k)), (1, .ref 114), (2, .int (nI (p))), (3, .ref (kN + 100)), (4, .ref (kO + 100))]) rfl rfl rfl nK_1 rfl rfl ?_
      refine w_p (pc1 := 193) rfl rfl ?_
      refine w_iinc (pc1 := 196) (u := nI (pre.length)) (z := nI (pre.length + 1)) (al1 := [(6, .int (nI (pre.length + 1))), (5, .int (nI (st.length + 1))), (7, .int 3), (0, .ref (241 + k)), (1, .ref 114), (2, .int (nI (p))), (3, .ref (kN + 100)), (4, .ref (kO + 100))]) rfl rfl rfl nK_1 rfl rfl ?_
      refine w_p (pc1 := 6) rfl rfl ?_
      refine Wd_al (al := [(6, .int (nI (pre.length + 1))), (5, .int (nI (st.length + 1))), (0, .ref (241 + k)), (1, .ref 114), (2, .int (nI (p))), (3, .ref (kN + 100)), (4, .ref (kO + 100))]) (sba_p [0, 1, 3, 4, 5, 6, 7] rfl rfl) ?_
      exact ih (.inl (N m) :: st) _ hQ2 ⟨b, hb⟩ (Nat.succ_le_succ hp) ⟨upd_s, skR_u hs (Nat.le_refl _)⟩
    · obtain rfl : a = 4 := e1
      subst e2
      obtain ⟨e3, e4⟩ := e3
      rw [fo_4]
      generalize cc.toNatClampNeg = m at *
      subst e3
      obtain ⟨kn, ln, hkn, hsk, hw6, hv⟩ := hE.2.2 (by omega)
      obtain rfl : kO = kn := by have h9 : kO + 100 = kn + 100 := Value.ref.inj hkn; omega
      replace hv := hv m e4
      show Wd _ _ _ _ _ (WK C t0 k3 Q.length sl (f_l g R N O l (.inl (O m) :: st))) _
      have hm := m_113_4 (L := L) (xs := xs) (C := C) (t := t0.set k3 (sCell Q.length s)) (d := d + 1) (sl := 0) (n := 241 + k) (c := m) (va := .ref 114) (vb := .int (nI p)) (vc := .ref (kN + 100)) hsk (by omega)
      rw [hv] at hm
      refine w_p (pc1 := 8) rfl rfl ?_
      refine w_p (pc1 := 9) rfl rfl ?_
      refine w_m0 (pc1 := 12) (st1 := .ref (241 + k1) :: _) rfl rfl (x_gf (k := k) rfl hO rfl) rfl ?_
      refine w_m0 (pc1 := 13) (st1 := .int (nI (Q.length)) :: _) rfl rfl (x_ln (k := k1) hA (by decide)) rfl ?_
      refine w_f (a := 199) (b := 16) (bN_ge_f (a := pre.length) (b := Q.length) (by omega) (by omega) (by omega)) rfl rfl ?_
      refine w_p (pc1 := 18) rfl rfl ?_
      refine w_p (pc1 := 19) rfl rfl ?_
      refine w_m0 (pc1 := 22) (st1 := .ref (241 + k2) :: _) rfl rfl (x_gf (k := k) rfl hO rfl) rfl ?_
      refine w_m0 (pc1 := 23) (st1 := .int (nI (Q.length)) :: _) rfl rfl (x_ln (k := k2) hB (by decide)) rfl ?_
      refine w_f (a := 199) (b := 26) (bN_ge_f (a := pre.length) (b := Q.length) (by omega) (by omega) (by omega)) rfl rfl ?_
      refine w_p (pc1 := 27) rfl rfl ?_
      refine w_m0 (pc1 := 30) (st1 := .ref (241 + k1) :: _) rfl rfl (x_gf (k := k) rfl hO rfl) rfl ?_
      refine w_p (pc1 := 32) rfl rfl ?_
      refine w_m0 (pc1 := 33) (st1 := .int 4 :: _) rfl rfl (x_ile (k := k1) (e := pre.length) hA (by omega) (by omega) (h1)) rfl ?_
      refine w_p (pc1 := 35) (al1 := [(7, .int 4), (6, .int (nI (pre.length))), (5, .int (nI (st.length))), (0, .ref (241 + k)), (1, .ref 114), (2, .int (nI (p))), (3, .ref (kN + 100)), (4, .ref (kO + 100))]) rfl rfl ?_
      refine w_p (pc1 := 37) rfl rfl ?_
      refine w_p (pc1 := 38) (st1 := .int 4 :: _) rfl rfl ?_
      refine w_f (a := 86) (b := 41) rfl rfl rfl ?_
      refine w_p (pc1 := 43) rfl rfl ?_
      refine w_p (pc1 := 44) rfl rfl ?_
      refine w_m0 (pc1 := 47) (st1 := .ref (241 + k3) :: _) rfl rfl (x_gf (k := k) rfl hO rfl) rfl ?_
      refine w_m0 (pc1 := 48) (st1 := .int (nI (Q.length)) :: _) rfl rfl (x_ln (k := k3) hS (by decide)) rfl ?_
      refine w_t (a := 55) (b := 51) (bN_lt_t (a := st.length) (b := Q.length) (by omega) (by omega) (by omega)) rfl rfl ?_
      refine w_p (pc1 := 56) rfl rfl ?_
      refine w_m0 (pc1 := 59) (st1 := .ref (241 + k3) :: _) rfl rfl (x_gf (k := k) rfl hO rfl) rfl ?_
      refine w_p (pc1 := 61) rfl rfl ?_
      refine w_p (pc1 := 62) rfl rfl ?_
      refine w_p (pc1 := 64) rfl rfl ?_
      refine w_p (pc1 := 65) rfl rfl ?_
      refine w_m0 (pc1 := 68) (st1 := .ref (241 + k2) :: _) rfl rfl (x_gf (k := k) rfl hO rfl) rfl ?_
      refine w_p (pc1 := 70) rfl rfl ?_
      refine w_m0 (pc1 := 71) (st1 := .int (nI (m)) :: _) rfl rfl (x_ile (k := k2) (e := pre.length) hB (by omega) (by omega) (h2)) rfl ?_
      refine w_p (pc1 := 72) rfl rfl ?_
      refine w_p (pc1 := 73) rfl rfl ?_
      refine w_p (pc1 := 74) rfl rfl ?_
      refine w_p (pc1 := 76) rfl rfl ?_
      refine w_je (pc1 := 79) (vs := [.ref (241 + k), .int 4, .int (nI (m)), .ref 114, .int (nI (p)), .ref (kN + 100), .ref (kO + 100)]) (rest := [.int (nI (st.length)), .ref (241 + k3)]) (st1 := [.long (v_K (.inl (O m))), .int (nI (st.length)), .ref (241 + k3)]) (hm) rfl rfl rfl (fun _ _ => rfl) rfl (by exact cl_v my_113 rfl rfl rfl (Nat.le_of_ble_eq_true rfl) rfl (x_obj hO) rfl (by decide) rfl rfl) (by rfl) (Nat.le_of_ble_eq_true rfl) (Nat.le_of_ble_eq_true rfl) rfl (by rfl) ?_
      refine w_m0 (pc1 := 80) rfl rfl (x_ls (k := k3) (e := st.length) hS (by omega) (by omega)) rfl ?_
      rw [show (t0.set k3 (sCell Q.length s)).set k3 (Sum.inl (1, Q.length, Sum.inr (Sum.inl (vp_updL s st.length (v_K (.inl (O m))))))) = t0.set k3 (sCell Q.length (vp_updL s st.length (v_K (.inl (O m))))) from List.set_set _]
      refine w_iinc (pc1 := 83) (u := nI (st.length)) (z := nI (st.length + 1)) (al1 := [(5, .int (nI (st.length + 1))), (7, .int 4), (6, .int (nI (pre.length))), (0, .ref (241 + k)), (1, .ref 114), (2, .int (nI (p))), (3, .ref (kN + 100)), (4, .ref (kO + 100))]) rfl rfl rfl nK_1 rfl rfl ?_
      refine w_p (pc1 := 193) rfl rfl ?_
      refine w_iinc (pc1 := 196) (u := nI (pre.length)) (z := nI (pre.length + 1)) (al1 := [(6, .int (nI (pre.length + 1))), (5, .int (nI (st.length + 1))), (7, .int 4), (0, .ref (241 + k)), (1, .ref 114), (2, .int (nI (p))), (3, .ref (kN + 100)), (4, .ref (kO + 100))]) rfl rfl rfl nK_1 rfl rfl ?_
      refine w_p (pc1 := 6) rfl rfl ?_
      refine Wd_al (al := [(6, .int (nI (pre.length + 1))), (5, .int (nI (st.length + 1))), (0, .ref (241 + k)), (1, .ref 114), (2, .int (nI (p))), (3, .ref (kN + 100)), (4, .ref (kO + 100))]) (sba_p [0, 1, 3, 4, 5, 6, 7] rfl rfl) ?_
      exact ih (.inl (O m) :: st) _ hQ2 ⟨b, hb⟩ (Nat.succ_le_succ hp) ⟨upd_s, skR_u hs (Nat.le_refl _)⟩
    · cases st with
      | nil => cases er
      | cons v0 r0 =>
        have hp : r0.length + 1 ≤ pre.length := hp
        cases v0 with
        | inr z => cases er
        | inl z =>
          have er : r0.map tyv = r := by cases er; rfl
          subst er
          rcases hr with ⟨e1, e2⟩ | ⟨e1, e2⟩
          · obtain rfl : a = 5 := e1
            subst e2
            rw [fo_5]
            show Wd _ _ _ _ _ (WK C t0 k3 Q.length sl (f_l g R N O l (u_1 5 (.inl z) :: r0))) _
            refine w_p (pc1 := 8) rfl rfl ?_
            refine w_p (pc1 := 9) rfl rfl ?_
            refine w_m0 (pc1 := 12) (st1 := .ref (241 + k1) :: _) rfl rfl (x_gf (k := k) rfl hO rfl) rfl ?_
            refine w_m0 (pc1 := 13) (st1 := .int (nI (Q.length)) :: _) rfl rfl (x_ln (k := k1) hA (by decide)) rfl ?_
            refine w_f (a := 199) (b := 16) (bN_ge_f (a := pre.length) (b := Q.length) (by omega) (by omega) (by omega)) rfl rfl ?_
            refine w_p (pc1 := 18) rfl rfl ?_
            refine w_p (pc1 := 19) rfl rfl ?_
            refine w_m0 (pc1 := 22) (st1 := .ref (241 + k2) :: _) rfl rfl (x_gf (k := k) rfl hO rfl) rfl ?_
            refine w_m0 (pc1 := 23) (st1 := .int (nI (Q.length)) :: _) rfl rfl (x_ln (k := k2) hB (by decide)) rfl ?_
            refine w_f (a := 199) (b := 26) (bN_ge_f (a := pre.length) (b := Q.length) (by omega) (by omega) (by omega)) rfl rfl ?_
            refine w_p (pc1 := 27) rfl rfl ?_
            refine w_m0 (pc1 := 30) (st1 := .ref (241 + k1) :: _) rfl rfl (x_gf (k := k) rfl hO rfl) rfl ?_
            refine w_p (pc1 := 32) rfl rfl ?_
            refine w_m0 (pc1 := 33) (st1 := .int 5 :: _) rfl rfl (x_ile (k := k1) (e := pre.length) hA (by omega) (by omega) (h1)) rfl ?_
            refine w_p (pc1 := 35) (al1 := [(7, .int 5), (6, .int (nI (pre.length))), (5, .int (nI (r0.length + 1))), (0, .ref (241 + k)), (1, .ref 114), (2, .int (nI (p))), (3, .ref (kN + 100)), (4, .ref (kO + 100))]) rfl rfl ?_
            refine w_p (pc1 := 37) rfl rfl ?_
            refine w_p (pc1 := 38) (st1 := .int 4 :: _) rfl rfl ?_
            refine w_t (a := 86) (b := 41) rfl rfl rfl ?_
            refine w_p (pc1 := 88) rfl rfl ?_
            refine w_p (pc1 := 90) (st1 := .int 8 :: _) rfl rfl ?_
            refine w_f (a := 129) (b := 93) rfl rfl rfl ?_
            refine w_p (pc1 := 95) rfl rfl ?_
            refine w_p (pc1 := 96) (st1 := .int 1 :: _) rfl rfl ?_
            refine w_t (a := 103) (b := 99) (bN_ge_t (a := r0.length + 1) (b := 1) (by omega) (by omega) (by omega)) rfl rfl ?_
            refine w_p (pc1 := 104) rfl rfl ?_
            refine w_m0 (pc1 := 107) (st1 := .ref (241 + k3) :: _) rfl rfl (x_gf (k := k) rfl hO rfl) rfl ?_
            refine w_p (pc1 := 109) rfl rfl ?_
            refine w_p (pc1 := 110) (st1 := .int 1 :: _) rfl rfl ?_
            refine w_isub (pc1 := 111) (u := nI (r0.length + 1)) (v := nI (1)) (z := nI (r0.length + 1 - 1)) rfl (nK_sub (by omega)) rfl ?_
            refine w_p (pc1 := 113) rfl rfl ?_
            refine w_p (pc1 := 114) rfl rfl ?_
            refine w_m0 (pc1 := 117) (st1 := .ref (241 + k3) :: _) rfl rfl (x_gf (k := k) rfl hO rfl) rfl ?_
            refine w_p (pc1 := 119) rfl rfl ?_
            refine w_p (pc1 := 120) (st1 := .int 1 :: _) rfl rfl ?_
            refine w_isub (pc1 := 121) (u := nI (r0.length + 1)) (v := nI (1)) (z := nI (r0.length + 1 - 1)) rfl (nK_sub (by omega)) rfl ?_
            refine w_m0 (pc1 := 122) (st1 := .long (v_K (.inl z)) :: _) rfl rfl (x_lle (k := k3) (e := r0.length + 1 - 1) hS (by omega) (by omega) (by rw [Nat.add_sub_cancel]; exact hs.1)) rfl ?_
            refine w_je (pc1 := 125) (vs := [.int 5, .long (v_K (.inl z))]) (rest := [.int (nI (r0.length + 1 - 1)), .ref (241 + k3)]) (st1 := [.long (v_K (u_1 5 (.inl z))), .int (nI (r0.length + 1 - 1)), .ref (241 + k3)]) (m_115_5 (d := d + 2) (sl := 0)) rfl rfl rfl (fun _ _ => rfl) rfl (by exact cl_s my_115 rfl rfl rfl (Nat.le_of_ble_eq_true rfl) rfl rfl) (by rfl) (Nat.le_of_ble_eq_true rfl) (Nat.le_of_ble_eq_true rfl) rfl (by rfl) ?_
            refine w_m0 (pc1 := 126) rfl rfl (x_ls (k := k3) (e := r0.length + 1 - 1) hS (by omega) (by omega)) rfl ?_
            rw [show (t0.set k3 (sCell Q.length s)).set k3 (Sum.inl (1, Q.length, Sum.inr (Sum.inl (vp_updL s (r0.length + 1 - 1) (v_K (u_1 5 (.inl z))))))) = t0.set k3 (sCell Q.length (vp_updL s (r0.length + 1 - 1) (v_K (u_1 5 (.inl z))))) from List.set_set _]
            refine w_p (pc1 := 193) rfl rfl ?_
            refine w_iinc (pc1 := 196) (u := nI (pre.length)) (z := nI (pre.length + 1)) (al1 := [(6, .int (nI (pre.length + 1))), (7, .int 5), (5, .int (nI (r0.length + 1))), (0, .ref (241 + k)), (1, .ref 114), (2, .int (nI (p))), (3, .ref (kN + 100)), (4, .ref (kO + 100))]) rfl rfl rfl nK_1 rfl rfl ?_
            refine w_p (pc1 := 6) rfl rfl ?_
            refine Wd_al (al := [(6, .int (nI (pre.length + 1))), (5, .int (nI (r0.length + 1))), (0, .ref (241 + k)), (1, .ref 114), (2, .int (nI (p))), (3, .ref (kN + 100)), (4, .ref (kO + 100))]) (sba_p [0, 2, 3, 4, 5, 6, 7] rfl rfl) ?_
            exact ih (u_1 5 (.inl z) :: r0) _ hQ2 ⟨b, hb⟩ (Nat.le_succ_of_le hp) ⟨by rw [Nat.add_sub_cancel]; exact upd_s, skR_u hs.2 (by omega)⟩
          · subst e2
            rcases e1 with e1 | e1
            · obtain rfl : a = 7 := e1
              rw [fo_7]
              show Wd _ _ _ _ _ (WK C t0 k3 Q.length sl (f_l g R N O l (u_1 7 (.inl z) :: r0))) _
              refine w_p (pc1 := 8) rfl rfl ?_
              refine w_p (pc1 := 9) rfl rfl ?_
              refine w_m0 (pc1 := 12) (st1 := .ref (241 + k1) :: _) rfl rfl (x_gf (k := k) rfl hO rfl) rfl ?_
              refine w_m0 (pc1 := 13) (st1 := .int (nI (Q.length)) :: _) rfl rfl (x_ln (k := k1) hA (by decide)) rfl ?_
              refine w_f (a := 199) (b := 16) (bN_ge_f (a := pre.length) (b := Q.length) (by omega) (by omega) (by omega)) rfl rfl ?_
              refine w_p (pc1 := 18) rfl rfl ?_
              refine w_p (pc1 := 19) rfl rfl ?_
              refine w_m0 (pc1 := 22) (st1 := .ref (241 + k2) :: _) rfl rfl (x_gf (k := k) rfl hO rfl) rfl ?_
              refine w_m0 (pc1 := 23) (st1 := .int (nI (Q.length)) :: _) rfl rfl (x_ln (k := k2) hB (by decide)) rfl ?_
              refine w_f (a := 199) (b := 26) (bN_ge_f (a := pre.length) (b := Q.length) (by omega) (by omega) (by omega)) rfl rfl ?_
              refine w_p (pc1 := 27) rfl rfl ?_
              refine w_m0 (pc1 := 30) (st1 := .ref (241 + k1) :: _) rfl rfl (x_gf (k := k) rfl hO rfl) rfl ?_
              refine w_p (pc1 := 32) rfl rfl ?_
              refine w_m0 (pc1 := 33) (st1 := .int 7 :: _) rfl rfl (x_ile (k := k1) (e := pre.length) hA (by omega) (by omega) (h1)) rfl ?_
              refine w_p (pc1 := 35) (al1 := [(7, .int 7), (6, .int (nI (pre.length))), (5, .int (nI (r0.length + 1))), (0, .ref (241 + k)), (1, .ref 114), (2, .int (nI (p))), (3, .ref (kN + 100)), (4, .ref (kO + 100))]) rfl rfl ?_
              refine w_p (pc1 := 37) rfl rfl ?_
              refine w_p (pc1 := 38) (st1 := .int 4 :: _) rfl rfl ?_
              refine w_t (a := 86) (b := 41) rfl rfl rfl ?_
              refine w_p (pc1 := 88) rfl rfl ?_
              refine w_p (pc1 := 90) (st1 := .int 8 :: _) rfl rfl ?_
              refine w_f (a := 129) (b := 93) rfl rfl rfl ?_
              refine w_p (pc1 := 95) rfl rfl ?_
              refine w_p (pc1 := 96) (st1 := .int 1 :: _) rfl rfl ?_
              refine w_t (a := 103) (b := 99) (bN_ge_t (a := r0.length + 1) (b := 1) (by omega) (by omega) (by omega)) rfl rfl ?_
              refine w_p (pc1 := 104) rfl rfl ?_
              refine w_m0 (pc1 := 107) (st1 := .ref (241 + k3) :: _) rfl rfl (x_gf (k := k) rfl hO rfl) rfl ?_
              refine w_p (pc1 := 109) rfl rfl ?_
              refine w_p (pc1 := 110) (st1 := .int 1 :: _) rfl rfl ?_
              refine w_isub (pc1 := 111) (u := nI (r0.length + 1)) (v := nI (1)) (z := nI (r0.length + 1 - 1)) rfl (nK_sub (by omega)) rfl ?_
              refine w_p (pc1 := 113) rfl rfl ?_
              refine w_p (pc1 := 114) rfl rfl ?_
              refine w_m0 (pc1 := 117) (st1 := .ref (241 + k3) :: _) rfl rfl (x_gf (k := k) rfl hO rfl) rfl ?_
              refine w_p (pc1 := 119) rfl rfl ?_
              refine w_p (pc1 := 120) (st1 := .int 1 :: _) rfl rfl ?_
              refine w_isub (pc1 := 121) (u := nI (r0.length + 1)) (v := nI (1)) (z := nI (r0.length + 1 - 1)) rfl (nK_sub (by omega)) rfl ?_
              refine w_m0 (pc1 := 122) (st1 := .long (v_K (.inl z)) :: _) rfl rfl (x_lle (k := k3) (e := r0.length + 1 - 1) hS (by omega) (by omega) (by rw [Nat.add_sub_cancel]; exact hs.1)) rfl ?_
              refine w_je (pc1 := 125) (vs := [.int 7, .long (v_K (.inl z))]) (rest := [.int (nI (r0.length + 1 - 1)), .ref (241 + k3)]) (st1 := [.long (v_K (u_1 7 (.inl z))), .int (nI (r0.length + 1 - 1)), .ref (241 + k3)]) (m_115_7 (d := d + 2) (sl := 0)) rfl rfl rfl (fun _ _ => rfl) rfl (by exact cl_s my_115 rfl rfl rfl (Nat.le_of_ble_eq_true rfl) rfl rfl) (by rfl) (Nat.le_of_ble_eq_true rfl) (Nat.le_of_ble_eq_true rfl) rfl (by rfl) ?_
              refine w_m0 (pc1 := 126) rfl rfl (x_ls (k := k3) (e := r0.length + 1 - 1) hS (by omega) (by omega)) rfl ?_
              rw [show (t0.set k3 (sCell Q.length s)).set k3 (Sum.inl (1, Q.length, Sum.inr (Sum.inl (vp_updL s (r0.length + 1 - 1) (v_K (u_1 7 (.inl z))))))) = t0.set k3 (sCell Q.length (vp_updL s (r0.length + 1 - 1) (v_K (u_1 7 (.inl z))))) from List.set_set _]
              refine w_p (pc1 := 193) rfl rfl ?_
              refine w_iinc (pc1 := 196) (u := nI (pre.length)) (z := nI (pre.length + 1)) (al1 := [(6, .int (nI (pre.length + 1))), (7, .int 7), (5, .int (nI (r0.length + 1))), (0, .ref (241 + k)), (1, .ref 114), (2, .int (nI (p))), (3, .ref (kN + 100)), (4, .ref (kO + 100))]) rfl rfl rfl nK_1 rfl rfl ?_
              refine w_p (pc1 := 6) rfl rfl ?_
              refine Wd_al (al := [(6, .int (nI (pre.length + 1))), (5, .int (nI (r0.length + 1))), (0, .ref (241 + k)), (1, .ref 114), (2, .int (nI (p))), (3, .ref (kN + 100)), (4, .ref (kO + 100))]) (sba_p [0, 2, 3, 4, 5, 6, 7] rfl rfl) ?_
              exact ih (u_1 7 (.inl z) :: r0) _ hQ2 ⟨b, hb⟩ (Nat.le_succ_of_le hp) ⟨by rw [Nat.add_sub_cancel]; exact upd_s, skR_u hs.2 (by omega)⟩
            · obtain rfl : a = 8 := e1
              rw [fo_8]
              show Wd _ _ _ _ _ (WK C t0 k3 Q.length sl (f_l g R N O l (u_1 8 (.inl z) :: r0))) _
              refine w_p (pc1 := 8) rfl rfl ?_
              refine w_p (pc1 := 9) rfl rfl ?_
              refine w_m0 (pc1 := 12) (st1 := .ref (241 + k1) :: _) rfl rfl (x_gf (k := k) rfl hO rfl) rfl ?_
              refine w_m0 (pc1 := 13) (st1 := .int (nI (Q.length)) :: _) rfl rfl (x_ln (k := k1) hA (by decide)) rfl ?_
              refine w_f (a := 199) (b := 16) (bN_ge_f (a := pre.length) (b := Q.length) (by omega) (by omega) (by omega)) rfl rfl ?_
              refine w_p (pc1 := 18) rfl rfl ?_
              refine w_p (pc1 := 19) rfl rfl ?_
              refine w_m0 (pc1 := 22) (st1 := .ref (241 + k2) :: _) rfl rfl (x_gf (k := k) rfl hO rfl) rfl ?_
              refine w_m0 (pc1 := 23) (st1 := .int (nI (Q.length)) :: _) rfl rfl (x_ln (k := k2) hB (by decide)) rfl ?_
              refine w_f (a := 199) (b := 26) (bN_ge_f (a := pre.length) (b := Q.length) (by omega) (by omega) (by omega)) rfl rfl ?_
              refine w_p (pc1 := 27) rfl rfl ?_
              refine w_m0 (pc1 := 30) (st1 := .ref (241 + k1) :: _) rfl rfl (x_gf (k := k) rfl hO rfl) rfl ?_
              refine w_p (pc1 := 32) rfl rfl ?_
              refine w_m0 (pc1 := 33) (st1 := .int 8 :: _) rfl rfl (x_ile (k := k1) (e := pre.length) hA (by omega) (by omega) (h1)) rfl ?_
              refine w_p (pc1 := 35) (al1 := [(7, .int 8), (6, .int (nI (pre.length))), (5, .int (nI (r0.length + 1))), (0, .ref (241 + k)), (1, .ref 114), (2, .int (nI (p))), (3, .ref (kN + 100)), (4, .ref (kO + 100))]) rfl rfl ?_
              refine w_p (pc1 := 37) rfl rfl ?_
              refine w_p (pc1 := 38) (st1 := .int 4 :: _) rfl rfl ?_
              refine w_t (a := 86) (b := 41) rfl rfl rfl ?_
              refine w_p (pc1 := 88) rfl rfl ?_
              refine w_p (pc1 := 90) (st1 := .int 8 :: _) rfl rfl ?_
              refine w_f (a := 129) (b := 93) rfl rfl rfl ?_
              refine w_p (pc1 := 95) rfl rfl ?_
              refine w_p (pc1 := 96) (st1 := .int 1 :: _) rfl rfl ?_
              refine w_t (a := 103) (b := 99) (bN_ge_t (a := r0.length + 1) (b := 1) (by omega) (by omega) (by omega)) rfl rfl ?_
              refine w_p (pc1 := 104) rfl rfl ?_
              refine w_m0 (pc1 := 107) (st1 := .ref (241 + k3) :: _) rfl rfl (x_gf (k := k) rfl hO rfl) rfl ?_
              refine w_p (pc1 := 109) rfl rfl ?_
              refine w_p (pc1 := 110) (st1 := .int 1 :: _) rfl rfl ?_
              refine w_isub (pc1 := 111) (u := nI (r0.length + 1)) (v := nI (1)) (z := nI (r0.length + 1 - 1)) rfl (nK_sub (by omega)) rfl ?_
              refine w_p (pc1 := 113) rfl rfl ?_
              refine w_p (pc1 := 114) rfl rfl ?_
              refine w_m0 (pc1 := 117) (st1 := .ref (241 + k3) :: _) rfl rfl (x_gf (k := k) rfl hO rfl) rfl ?_
              refine w_p (pc1 := 119) rfl rfl ?_
              refine w_p (pc1 := 120) (st1 := .int 1 :: _) rfl rfl ?_
              refine w_isub (pc1 := 121) (u := nI (r0.length + 1)) (v := nI (1)) (z := nI (r0.length + 1 - 1)) rfl (nK_sub (by omega)) rfl ?_
              refine w_m0 (pc1 := 122) (st1 := .long (v_K (.inl z)) :: _) rfl rfl (x_lle (k := k3) (e := r0.length + 1 - 1) hS (by omega) (by omega) (by rw [Nat.add_sub_cancel]; exact hs.1)) rfl ?_
              refine w_je (pc1 := 125) (vs := [.int 8, .long (v_K (.inl z))]) (rest := [.int (nI (r0.length + 1 - 1)), .ref (241 + k3)]) (st1 := [.long (v_K (u_1 8 (.inl z))), .int (nI (r0.length + 1 - 1)), .ref (241 + k3)]) (m_115_8 (d := d + 2) (sl := 0)) rfl rfl rfl (fun _ _ => rfl) rfl (by exact cl_s my_115 rfl rfl rfl (Nat.le_of_ble_eq_true rfl) rfl rfl) (by rfl) (Nat.le_of_ble_eq_true rfl) (Nat.le_of_ble_eq_true rfl) rfl (by rfl) ?_
              refine w_m0 (pc1 := 126) rfl rfl (x_ls (k := k3) (e := r0.length + 1 - 1) hS (by omega) (by omega)) rfl ?_
              rw [show (t0.set k3 (sCell Q.length s)).set k3 (Sum.inl (1, Q.length, Sum.inr (Sum.inl (vp_updL s (r0.length + 1 - 1) (v_K (u_1 8 (.inl z))))))) = t0.set k3 (sCell Q.length (vp_updL s (r0.length + 1 - 1) (v_K (u_1 8 (.inl z))))) from List.set_set _]
              refine w_p (pc1 := 193) rfl rfl ?_
              refine w_iinc (pc1 := 196) (u := nI (pre.length)) (z := nI (pre.length + 1)) (al1 := [(6, .int (nI (pre.length + 1))), (7, .int 8), (5, .int (nI (r0.length + 1))), (0, .ref (241 + k)), (1, .ref 114), (2, .int (nI (p))), (3, .ref (kN + 100)), (4, .ref (kO + 100))]) rfl rfl rfl nK_1 rfl rfl ?_
              refine w_p (pc1 := 6) rfl rfl ?_
              refine Wd_al (al := [(6, .int (nI (pre.length + 1))), (5, .int (nI (r0.length + 1))), (0, .ref (241 + k)), (1, .ref 114), (2, .int (nI (p))), (3, .ref (kN + 100)), (4, .ref (kO + 100))]) (sba_p [0, 2, 3, 4, 5, 6, 7] rfl rfl) ?_
              exact ih (u_1 8 (.inl z) :: r0) _ hQ2 ⟨b, hb⟩ (Nat.le_succ_of_le hp) ⟨by rw [Nat.add_sub_cancel]; exact upd_s, skR_u hs.2 (by omega)⟩
    · cases st with
      | nil => cases er
      | cons v0 r0 =>
        have hp : r0.length + 1 ≤ pre.length := hp
        cases v0 with
        | inl z => cases er
        | inr z =>
          have er : r0.map tyv = r := by cases er; rfl
          subst er
          obtain rfl : a = 6 := e1
          subst e2
          rw [fo_6]
          show Wd _ _ _ _ _ (WK C t0 k3 Q.length sl (f_l g R N O l (u_1 6 (.inr z) :: r0))) _
          refine w_p (pc1 := 8) rfl rfl ?_
          refine w_p (pc1 := 9) rfl rfl ?_
          refine w_m0 (pc1 := 12) (st1 := .ref (241 + k1) :: _) rfl rfl (x_gf (k := k) rfl hO rfl) rfl ?_
          refine w_m0 (pc1 := 13) (st1 := .int (nI (Q.length)) :: _) rfl rfl (x_ln (k := k1) hA (by decide)) rfl ?_
          refine w_f (a := 199) (b := 16) (bN_ge_f (a := pre.length) (b := Q.length) (by omega) (by omega) (by omega)) rfl rfl ?_
          refine w_p (pc1 := 18) rfl rfl ?_
          refine w_p (pc1 := 19) rfl rfl ?_
          refine w_m0 (pc1 := 22) (st1 := .ref (241 + k2) :: _) rfl rfl (x_gf (k := k) rfl hO rfl) rfl ?_
          refine w_m0 (pc1 := 23) (st1 := .int (nI (Q.length)) :: _) rfl rfl (x_ln (k := k2) hB (by decide)) rfl ?_
          refine w_f (a := 199) (b := 26) (bN_ge_f (a := pre.length) (b := Q.length) (by omega) (by omega) (by omega)) rfl rfl ?_
          refine w_p (pc1 := 27) rfl rfl ?_
          refine w_m0 (pc1 := 30) (st1 := .ref (241 + k1) :: _) rfl rfl (x_gf (k := k) rfl hO rfl) rfl ?_
          refine w_p (pc1 := 32) rfl rfl ?_
          refine w_m0 (pc1 := 33) (st1 := .int 6 :: _) rfl rfl (x_ile (k := k1) (e := pre.length) hA (by omega) (by omega) (h1)) rfl ?_
          refine w_p (pc1 := 35) (al1 := [(7, .int 6), (6, .int (nI (pre.length))), (5, .int (nI (r0.length + 1))), (0, .ref (241 + k)), (1, .ref 114), (2, .int (nI (p))), (3, .ref (kN + 100)), (4, .ref (kO + 100))]) rfl rfl ?_
          refine w_p (pc1 := 37) rfl rfl ?_
          refine w_p (pc1 := 38) (st1 := .int 4 :: _) rfl rfl ?_
          refine w_t (a := 86) (b := 41) rfl rfl rfl ?_
          refine w_p (pc1 := 88) rfl rfl ?_
          refine w_p (pc1 := 90) (st1 := .int 8 :: _) rfl rfl ?_
          refine w_f (a := 129) (b := 93) rfl rfl rfl ?_
          refine w_p (pc1 := 95) rfl rfl ?_
          refine w_p (pc1 := 96) (st1 := .int 1 :: _) rfl rfl ?_
          refine w_t (a := 103) (b := 99) (bN_ge_t (a := r0.length + 1) (b := 1) (by omega) (by omega) (by omega)) rfl rfl ?_
          refine w_p (pc1 := 104) rfl rfl ?_
          refine w_m0 (pc1 := 107) (st1 := .ref (241 + k3) :: _) rfl rfl (x_gf (k := k) rfl hO rfl) rfl ?_
          refine w_p (pc1 := 109) rfl rfl ?_
          refine w_p (pc1 := 110) (st1 := .int 1 :: _) rfl rfl ?_
          refine w_isub (pc1 := 111) (u := nI (r0.length + 1)) (v := nI (1)) (z := nI (r0.length + 1 - 1)) rfl (nK_sub (by omega)) rfl ?_
          refine w_p (pc1 := 113) rfl rfl ?_
          refine w_p (pc1 := 114) rfl rfl ?_
          refine w_m0 (pc1 := 117) (st1 := .ref (241 + k3) :: _) rfl rfl (x_gf (k := k) rfl hO rfl) rfl ?_
          refine w_p (pc1 := 119) rfl rfl ?_
          refine w_p (pc1 := 120) (st1 := .int 1 :: _) rfl rfl ?_
          refine w_isub (pc1 := 121) (u := nI (r0.length + 1)) (v := nI (1)) (z := nI (r0.length + 1 - 1)) rfl (nK_sub (by omega)) rfl ?_
          refine w_m0 (pc1 := 122) (st1 := .long (v_K (.inr z)) :: _) rfl rfl (x_lle (k := k3) (e := r0.length + 1 - 1) hS (by omega) (by omega) (by rw [Nat.add_sub_cancel]; exact hs.1)) rfl ?_
          refine w_je (pc1 := 125) (vs := [.int 6, .long (v_K (.inr z))]) (rest := [.int (nI (r0.length + 1 - 1)), .ref (241 + k3)]) (st1 := [.long (v_K (u_1 6 (.inr z))), .int (nI (r0.length + 1 - 1)), .ref (241 + k3)]) (m_115_6 (d := d + 2) (sl := 0)) rfl rfl rfl (fun _ _ => rfl) rfl (by exact cl_s my_115 rfl rfl rfl (Nat.le_of_ble_eq_true rfl) rfl rfl) (by rfl) (Nat.le_of_ble_eq_true rfl) (Nat.le_of_ble_eq_true rfl) rfl (by rfl) ?_
          refine w_m0 (pc1 := 126) rfl rfl (x_ls (k := k3) (e := r0.length + 1 - 1) hS (by omega) (by omega)) rfl ?_
          rw [show (t0.set k3 (sCell Q.length s)).set k3 (Sum.inl (1, Q.length, Sum.inr (Sum.inl (vp_updL s (r0.length + 1 - 1) (v_K (u_1 6 (.inr z))))))) = t0.set k3 (sCell Q.length (vp_updL s (r0.length + 1 - 1) (v_K (u_1 6 (.inr z))))) from List.set_set _]
          refine w_p (pc1 := 193) rfl rfl ?_
          refine w_iinc (pc1 := 196) (u := nI (pre.length)) (z := nI (pre.length + 1)) (al1 := [(6, .int (nI (pre.length + 1))), (7, .int 6), (5, .int (nI (r0.length + 1))), (0, .ref (241 + k)), (1, .ref 114), (2, .int (nI (p))), (3, .ref (kN + 100)), (4, .ref (kO + 100))]) rfl rfl rfl nK_1 rfl rfl ?_
          refine w_p (pc1 := 6) rfl rfl ?_
          refine Wd_al (al := [(6, .int (nI (pre.length + 1))), (5, .int (nI (r0.length + 1))), (0, .ref (241 + k)), (1, .ref 114), (2, .int (nI (p))), (3, .ref (kN + 100)), (4, .ref (kO + 100))]) (sba_p [0, 2, 3, 4, 5, 6, 7] rfl rfl) ?_
          exact ih (u_1 6 (.inr z) :: r0) _ hQ2 ⟨b, hb⟩ (Nat.le_succ_of_le hp) ⟨by rw [Nat.add_sub_cancel]; exact upd_s, skR_u hs.2 (by omega)⟩
    · cases st with
      | nil => cases er
      | cons w0 r1 => cases r1 with
        | nil => cases w0 <;> cases er
        | cons v0 r0 =>
          have hp : r0.length + 1 + 1 ≤ pre.length := hp
          cases w0 with
          | inr z => cases er
          | inl w => cases v0 with
            | inr z => cases er
            | inl v =>
              have er : r0.map tyv = r := by cases er; rfl
              subst er
              rcases hr with ⟨e1, e2⟩ | ⟨e1, e2⟩
              · subst e2
                rcases e1 with e1 | e1 | e1 | e1
                · obtain rfl : a = 9 := e1
                  rw [fo_9]
                  cases hu : u_2 g 9 (.inl v) (.inl w) with
                  | none =>
                    show Wd _ _ _ _ _ (WK C t0 k3 Q.length sl none) _
                    refine w_p (pc1 := 8) rfl rfl ?_
                    refine w_p (pc1 := 9) rfl rfl ?_
                    refine w_m0 (pc1 := 12) (st1 := .ref (241 + k1) :: _) rfl rfl (x_gf (k := k) rfl hO rfl) rfl ?_
                    refine w_m0 (pc1 := 13) (st1 := .int (nI (Q.length)) :: _) rfl rfl (x_ln (k := k1) hA (by decide)) rfl ?_
                    refine w_f (a := 199) (b := 16) (bN_ge_f (a := pre.length) (b := Q.length) (by omega) (by omega) (by omega)) rfl rfl ?_
                    refine w_p (pc1 := 18) rfl rfl ?_
                    refine w_p (pc1 := 19) rfl rfl ?_
                    refine w_m0 (pc1 := 22) (st1 := .ref (241 + k2) :: _) rfl rfl (x_gf (k := k) rfl hO rfl) rfl ?_
                    refine w_m0 (pc1 := 23) (st1 := .int (nI (Q.length)) :: _) rfl rfl (x_ln (k := k2) hB (by decide)) rfl ?_
                    refine w_f (a := 199) (b := 26) (bN_ge_f (a := pre.length) (b := Q.length) (by omega) (by omega) (by omega)) rfl rfl ?_
                    refine w_p (pc1 := 27) rfl rfl ?_
                    refine w_m0 (pc1 := 30) (st1 := .ref (241 + k1) :: _) rfl rfl (x_gf (k := k) rfl hO rfl) rfl ?_
                    refine w_p (pc1 := 32) rfl rfl ?_
                    refine w_m0 (pc1 := 33) (st1 := .int 9 :: _) rfl rfl (x_ile (k := k1) (e := pre.length) hA (by omega) (by omega) (h1)) rfl ?_
                    refine w_p (pc1 := 35) (al1 := [(7, .int 9), (6, .int (nI (pre.length))), (5, .int (nI (r0.length + 1 + 1))), (0, .ref (241 + k)), (1, .ref 114), (2, .int (nI (p))), (3, .ref (kN + 100)), (4, .ref (kO + 100))]) rfl rfl ?_
                    refine w_p (pc1 := 37) rfl rfl ?_
                    refine w_p (pc1 := 38) (st1 := .int 4 :: _) rfl rfl ?_
                    refine w_t (a := 86) (b := 41) rfl rfl rfl ?_
                    refine w_p (pc1 := 88) rfl rfl ?_
                    refine w_p (pc1 := 90) (st1 := .int 8 :: _) rfl rfl ?_
                    refine w_t (a := 129) (b := 93) rfl rfl rfl ?_
                    refine w_p (pc1 := 131) rfl rfl ?_
                    refine w_p (pc1 := 132) (st1 := .int 2 :: _) rfl rfl ?_
                    refine w_t (a := 139) (b := 135) (bN_ge_t (a := r0.length + 1 + 1) (b := 2) (by omega) (by omega) (by omega)) rfl rfl ?_
                    refine w_iinc (pc1 := 142) (u := nI (r0.length + 1 + 1)) (z := nI (r0.length + 1)) (al1 := [(5, .int (nI (r0.length + 1))), (7, .int 9), (6, .int (nI (pre.length))), (0, .ref (241 + k)), (1, .ref 114), (2, .int (nI (p))), (3, .ref (kN + 100)), (4, .ref (kO + 100))]) rfl rfl rfl (nK_p.trans nK_s) rfl rfl ?_
                    refine w_p (pc1 := 143) rfl rfl ?_
                    refine w_m0 (pc1 := 146) (st1 := .ref (241 + k3) :: _) rfl rfl (x_gf (k := k) rfl hO rfl) rfl ?_
                    refine w_p (pc1 := 148) rfl rfl ?_
                    refine w_p (pc1 := 149) (st1 := .int 1 :: _) rfl rfl ?_
                    refine w_isub (pc1 := 150) (u := nI (r0.length + 1)) (v := nI (1)) (z := nI (r0.length + 1 - 1)) rfl (nK_sub (by omega)) rfl ?_
                    refine w_p (pc1 := 151) rfl rfl ?_
                    refine w_p (pc1 := 153) rfl rfl ?_
                    refine w_p (pc1 := 154) rfl rfl ?_
                    refine w_m0 (pc1 := 157) (st1 := .ref (241 + k3) :: _) rfl rfl (x_gf (k := k) rfl hO rfl) rfl ?_
                    refine w_p (pc1 := 159) rfl rfl ?_
                    refine w_p (pc1 := 160) (st1 := .int 1 :: _) rfl rfl ?_
                    refine w_isub (pc1 := 161) (u := nI (r0.length + 1)) (v := nI (1)) (z := nI (r0.length + 1 - 1)) rfl (nK_sub (by omega)) rfl ?_
                    refine w_m0 (pc1 := 162) (st1 := .long (v_K (.inl v)) :: _) rfl rfl (x_lle (k := k3) (e := r0.length + 1 - 1) hS (by omega) (by omega) (by rw [Nat.add_sub_cancel]; exact hs.2.1)) rfl ?_
                    refine w_p (pc1 := 163) rfl rfl ?_
                    refine w_m0 (pc1 := 166) (st1 := .ref (241 + k3) :: _) rfl rfl (x_gf (k := k) rfl hO rfl) rfl ?_
                    refine w_p (pc1 := 168) rfl rfl ?_
                    refine w_m0 (pc1 := 169) (st1 := .long (v_K (.inl w)) :: _) rfl rfl (x_lle (k := k3) (e := r0.length + 1) hS (by omega) (by omega) (hs.1)) rfl ?_
                    refine w_je (pc1 := 172) (vs := [.ref (241 + k), .int 9, .long (v_K (.inl v)), .long (v_K (.inl w))]) (rest := [.int (nI (r0.length + 1 - 1)), .ref (241 + k3)]) (st1 := [.long (o2K (u_2 g 9 (.inl v) (.inl w))), .int (nI (r0.length + 1 - 1)), .ref (241 + k3)]) (m_116_9 (d := d + 1) (sl := 0) hO) rfl rfl rfl (fun _ _ => rfl) rfl (by exact cl_v my_116 rfl rfl rfl (Nat.le_of_ble_eq_true rfl) rfl (x_obj hO) rfl (by decide) rfl rfl) (by rfl) (Nat.le_of_ble_eq_true rfl) (Nat.le_of_ble_eq_true rfl) rfl (by rfl) ?_
                    refine w_m0 (pc1 := 173) rfl rfl (x_ls (k := k3) (e := r0.length + 1 - 1) hS (by omega) (by omega)) rfl ?_
                    rw [show (t0.set k3 (sCell Q.length s)).set k3 (Sum.inl (1, Q.length, Sum.inr (Sum.inl (vp_updL s (r0.length + 1 - 1) (o2K (u_2 g 9 (.inl v) (.inl w))))))) = t0.set k3 (sCell Q.length (vp_updL s (r0.length + 1 - 1) (o2K (u_2 g 9 (.inl v) (.inl w))))) from List.set_set _]
                    obtain ⟨hO2, -, -, hS2⟩ := FO_s F0 (vp_updL s (r0.length + 1 - 1) (o2K (u_2 g 9 (.inl v) (.inl w))))
                    refine w_p (pc1 := 174) rfl rfl ?_
                    refine w_m0 (pc1 := 177) (st1 := .ref (241 + k3) :: _) rfl rfl (x_gf (k := k) rfl hO2 rfl) rfl ?_
                    refine w_p (pc1 := 179) rfl rfl ?_
                    refine w_p (pc1 := 180) (st1 := .int 1 :: _) rfl rfl ?_
                    refine w_isub (pc1 := 181) (u := nI (r0.length + 1)) (v := nI (1)) (z := nI (r0.length + 1 - 1)) rfl (nK_sub (by omega)) rfl ?_
                    refine w_m0 (pc1 := 182) (st1 := .long (o2K (u_2 g 9 (.inl v) (.inl w))) :: _) rfl rfl (x_lle (k := k3) (e := r0.length + 1 - 1) hS2 (by omega) (by omega) (upd_s)) rfl ?_
                    refine w_m0 (pc1 := 185) (st1 := .long (-9223372036854775807) :: _) rfl rfl rfl rfl ?_
                    refine w_p (pc1 := 186) rfl rfl ?_
                    refine w_f (a := 193) (b := 189) (lb_ne_f (by rw [hu]; rfl)) rfl rfl ?_
                    refine w_m0 (pc1 := 192) (st1 := .long (-9223372036854775807) :: _) rfl rfl rfl rfl ?_
                    refine w_r rfl rfl rfl (fun _ _ => rfl) rfl ?_
                    exact ⟨_, rfl, rfl, rfl⟩
                  | some z1 =>
                    show Wd _ _ _ _ _ (WK C t0 k3 Q.length sl (f_l g R N O l (z1 :: r0))) _
                    have hb : t_l w1 w2 w3 l ((z1 :: r0).map tyv) = some [b] := by
                      have : tyv z1 = false := by rw [u2_A (by unfold isA; decide), Option.map_eq_some_iff] at hu; obtain ⟨q, _, rfl⟩ := hu; rfl
                      show t_l w1 w2 w3 l (tyv z1 :: r0.map tyv) = _
                      rw [this]
                      exact hb
                    refine w_p (pc1 := 8) rfl rfl ?_
                    refine w_p (pc1 := 9) rfl rfl ?_
                    refine w_m0 (pc1 := 12) (st1 := .ref (241 + k1) :: _) rfl rfl (x_gf (k := k) rfl hO rfl) rfl ?_
                    refine w_m0 (pc1 := 13) (st1 := .int (nI (Q.length)) :: _) rfl rfl (x_ln (k := k1) hA (by decide)) rfl ?_
                    refine w_f (a := 199) (b := 16) (bN_ge_f (a := pre.length) (b := Q.length) (by omega) (by omega) (by omega)) rfl rfl ?_
                    refine w_p (pc1 := 18) rfl rfl ?_
                    refine w_p (pc1 := 19) rfl rfl ?_
                    refine w_m0 (pc1 := 22) (st1 := .ref (241 + k2) :: _) rfl rfl (x_gf (k := k) rfl hO rfl) rfl ?_
                    refine w_m0 (pc1 := 23) (st1 := .int (nI (Q.length)) :: _) rfl rfl (x_ln (k := k2) hB (by decide)) rfl ?_
                    refine w_f (a := 199) (b := 26) (bN_ge_f (a := pre.length) (b := Q.length) (by omega) (by omega) (by omega)) rfl rfl ?_
                    refine w_p (pc1 := 27) rfl rfl ?_
                    refine w_m0 (pc1 := 30) (st1 := .ref (241 + k1) :: _) rfl rfl (x_gf (k := k) rfl hO rfl) rfl ?_
                    refine w_p (pc1 := 32) rfl rfl ?_
                    refine w_m0 (pc1 := 33) (st1 := .int 9 :: _) rfl rfl (x_ile (k := k1) (e := pre.length) hA (by omega) (by omega) (h1)) rfl ?_
                    refine w_p (pc1 := 35) (al1 := [(7, .int 9), (6, .int (nI (pre.length))), (5, .int (nI (r0.length + 1 + 1))), (0, .ref (241 + k)), (1, .ref 114), (2, .int (nI (p))), (3, .ref (kN + 100)), (4, .ref (kO + 100))]) rfl rfl ?_
                    refine w_p (pc1 := 37) rfl rfl ?_
                    refine w_p (pc1 := 38) (st1 := .int 4 :: _) rfl rfl ?_
                    refine w_t (a := 86) (b := 41) rfl rfl rfl ?_
                    refine w_p (pc1 := 88) rfl rfl ?_
                    refine w_p (pc1 := 90) (st1 := .int 8 :: _) rfl rfl ?_
                    refine w_t (a := 129) (b := 93) rfl rfl rfl ?_
                    refine w_p (pc1 := 131) rfl rfl ?_
                    refine w_p (pc1 := 132) (st1 := .int 2 :: _) rfl rfl ?_
                    refine w_t (a := 139) (b := 135) (bN_ge_t (a := r0.length + 1 + 1) (b := 2) (by omega) (by omega) (by omega)) rfl rfl ?_
                    refine w_iinc (pc1 := 142) (u := nI (r0.length + 1 + 1)) (z := nI (r0.length + 1)) (al1 := [(5, .int (nI (r0.length + 1))), (7, .int 9), (6, .int (nI (pre.length))), (0, .ref (241 + k)), (1, .ref 114), (2, .int (nI (p))), (3, .ref (kN + 100)), (4, .ref (kO + 100))]) rfl rfl rfl (nK_p.trans nK_s) rfl rfl ?_
                    refine w_p (pc1 := 143) rfl rfl ?_
                    refine w_m0 (pc1 := 146) (st1 := .ref (241 + k3) :: _) rfl rfl (x_gf (k := k) rfl hO rfl) rfl ?_
                    refine w_p (pc1 := 148) rfl rfl ?_
                    refine w_p (pc1 := 149) (st1 := .int 1 :: _) rfl rfl ?_
                    refine w_isub (pc1 := 150) (u := nI (r0.length + 1)) (v := nI (1)) (z := nI (r0.length + 1 - 1)) rfl (nK_sub (by omega)) rfl ?_
                    refine w_p (pc1 := 151) rfl rfl ?_
                    refine w_p (pc1 := 153) rfl rfl ?_
                    refine w_p (pc1 := 154) rfl rfl ?_
                    refine w_m0 (pc1 := 157) (st1 := .ref (241 + k3) :: _) rfl rfl (x_gf (k := k) rfl hO rfl) rfl ?_
                    refine w_p (pc1 := 159) rfl rfl ?_
                    refine w_p (pc1 := 160) (st1 := .int 1 :: _) rfl rfl ?_
                    refine w_isub (pc1 := 161) (u := nI (r0.length + 1)) (v := nI (1)) (z := nI (r0.length + 1 - 1)) rfl (nK_sub (by omega)) rfl ?_
                    refine w_m0 (pc1 := 162) (st1 := .long (v_K (.inl v)) :: _) rfl rfl (x_lle (k := k3) (e := r0.length + 1 - 1) hS (by omega) (by omega) (by rw [Nat.add_sub_cancel]; exact hs.2.1)) rfl ?_
                    refine w_p (pc1 := 163) rfl rfl ?_
                    refine w_m0 (pc1 := 166) (st1 := .ref (241 + k3) :: _) rfl rfl (x_gf (k := k) rfl hO rfl) rfl ?_
                    refine w_p (pc1 := 168) rfl rfl ?_
                    refine w_m0 (pc1 := 169) (st1 := .long (v_K (.inl w)) :: _) rfl rfl (x_lle (k := k3) (e := r0.length + 1) hS (by omega) (by omega) (hs.1)) rfl ?_
                    refine w_je (pc1 := 172) (vs := [.ref (241 + k), .int 9, .long (v_K (.inl v)), .long (v_K (.inl w))]) (rest := [.int (nI (r0.length + 1 - 1)), .ref (241 + k3)]) (st1 := [.long (o2K (u_2 g 9 (.inl v) (.inl w))), .int (nI (r0.length + 1 - 1)), .ref (241 + k3)]) (m_116_9 (d := d + 1) (sl := 0) hO) rfl rfl rfl (fun _ _ => rfl) rfl (by exact cl_v my_116 rfl rfl rfl (Nat.le_of_ble_eq_true rfl) rfl (x_obj hO) rfl (by decide) rfl rfl) (by rfl) (Nat.le_of_ble_eq_true rfl) (Nat.le_of_ble_eq_true rfl) rfl (by rfl) ?_
                    refine w_m0 (pc1 := 173) rfl rfl (x_ls (k := k3) (e := r0.length + 1 - 1) hS (by omega) (by omega)) rfl ?_
                    rw [show (t0.set k3 (sCell Q.length s)).set k3 (Sum.inl (1, Q.length, Sum.inr (Sum.inl (vp_updL s (r0.length + 1 - 1) (o2K (u_2 g 9 (.inl v) (.inl w))))))) = t0.set k3 (sCell Q.length (vp_updL s (r0.length + 1 - 1) (o2K (u_2 g 9 (.inl v) (.inl w))))) from List.set_set _]
                    obtain ⟨hO2, -, -, hS2⟩ := FO_s F0 (vp_updL s (r0.length + 1 - 1) (o2K (u_2 g 9 (.inl v) (.inl w))))
                    refine w_p (pc1 := 174) rfl rfl ?_
                    refine w_m0 (pc1 := 177) (st1 := .ref (241 + k3) :: _) rfl rfl (x_gf (k := k) rfl hO2 rfl) rfl ?_
                    refine w_p (pc1 := 179) rfl rfl ?_
                    refine w_p (pc1 := 180) (st1 := .int 1 :: _) rfl rfl ?_
                    refine w_isub (pc1 := 181) (u := nI (r0.length + 1)) (v := nI (1)) (z := nI (r0.length + 1 - 1)) rfl (nK_sub (by omega)) rfl ?_
                    refine w_m0 (pc1 := 182) (st1 := .long (o2K (u_2 g 9 (.inl v) (.inl w))) :: _) rfl rfl (x_lle (k := k3) (e := r0.length + 1 - 1) hS2 (by omega) (by omega) (upd_s)) rfl ?_
                    refine w_m0 (pc1 := 185) (st1 := .long (-9223372036854775807) :: _) rfl rfl rfl rfl ?_
                    refine w_p (pc1 := 186) rfl rfl ?_
                    refine w_t (a := 193) (b := 189) (lb_ne_t (by rw [hu]; exact v_K_un _)) rfl rfl ?_
                    refine w_iinc (pc1 := 196) (u := nI (pre.length)) (z := nI (pre.length + 1)) (al1 := [(6, .int (nI (pre.length + 1))), (5, .int (nI (r0.length + 1))), (7, .int 9), (0, .ref (241 + k)), (1, .ref 114), (2, .int (nI (p))), (3, .ref (kN + 100)), (4, .ref (kO + 100))]) rfl rfl rfl nK_1 rfl rfl ?_
                    refine w_p (pc1 := 6) rfl rfl ?_
                    refine Wd_al (al := [(6, .int (nI (pre.length + 1))), (5, .int (nI (r0.length + 1))), (0, .ref (241 + k)), (1, .ref 114), (2, .int (nI (p))), (3, .ref (kN + 100)), (4, .ref (kO + 100))]) (sba_p [0, 1, 3, 4, 5, 6, 7] rfl rfl) ?_
                    exact ih (z1 :: r0) _ hQ2 ⟨b, hb⟩ (show r0.length + 1 ≤ pre.length + 1 by omega) ⟨by rw [Nat.add_sub_cancel, upd_s, hu]; rfl, skR_u hs.2.2 (by omega)⟩
                · obtain rfl : a = 10 := e1
                  rw [fo_10]
                  cases hu : u_2 g 10 (.inl v) (.inl w) with
                  | none =>
                    show Wd _ _ _ _ _ (WK C t0 k3 Q.length sl none) _
                    refine w_p (pc1 := 8) rfl rfl ?_
                    refine w_p (pc1 := 9) rfl rfl ?_
                    refine w_m0 (pc1 := 12) (st1 := .ref (241 + k1) :: _) rfl rfl (x_gf (k := k) rfl hO rfl) rfl ?_
                    refine w_m0 (pc1 := 13) (st1 := .int (nI (Q.length)) :: _) rfl rfl (x_ln (k := k1) hA (by decide)) rfl ?_
                    refine w_f (a := 199) (b := 16) (bN_ge_f (a := pre.length) (b := Q.length) (by omega) (by omega) (by omega)) rfl rfl ?_
                    refine w_p (pc1 := 18) rfl rfl ?_
                    refine w_p (pc1 := 19) rfl rfl ?_
                    refine w_m0 (pc1 := 22) (st1 := .ref (241 + k2) :: _) rfl rfl (x_gf (k := k) rfl hO rfl) rfl ?_
                    refine w_m0 (pc1 := 23) (st1 := .int (nI (Q.length)) :: _) rfl rfl (x_ln (k := k2) hB (by decide)) rfl ?_
                    refine w_f (a := 199) (b := 26) (bN_ge_f (a := pre.length) (b := Q.length) (by omega) (by omega) (by omega)) rfl rfl ?_
                    refine w_p (pc1 := 27) rfl rfl ?_
                    refine w_m0 (pc1 := 30) (st1 := .ref (241 + k1) :: _) rfl rfl (x_gf (k := k) rfl hO rfl) rfl ?_
                    refine w_p (pc1 := 32) rfl rfl ?_
                    refine w_m0 (pc1 := 33) (st1 := .int 10 :: _) rfl rfl (x_ile (k := k1) (e := pre.length) hA (by omega) (by omega) (h1)) rfl ?_
                    refine w_p (pc1 := 35) (al1 := [(7, .int 10), (6, .int (nI (pre.length))), (5, .int (nI (r0.length + 1 + 1))), (0, .ref (241 + k)), (1, .ref 114), (2, .int (nI (p))), (3, .ref (kN + 100)), (4, .ref (kO + 100))]) rfl rfl ?_
                    refine w_p (pc1 := 37) rfl rfl ?_
                    refine w_p (pc1 := 38) (st1 := .int 4 :: _) rfl rfl ?_
                    refine w_t (a := 86) (b := 41) rfl rfl rfl ?_
                    refine w_p (pc1 := 88) rfl rfl ?_
                    refine w_p (pc1 := 90) (st1 := .int 8 :: _) rfl rfl ?_
                    refine w_t (a := 129) (b := 93) rfl rfl rfl ?_
                    refine w_p (pc1 := 131) rfl rfl ?_
                    refine w_p (pc1 := 132) (st1 := .int 2 :: _) rfl rfl ?_
                    refine w_t (a := 139) (b := 135) (bN_ge_t (a := r0.length + 1 + 1) (b := 2) (by omega) (by omega) (by omega)) rfl rfl ?_
                    refine w_iinc (pc1 := 142) (u := nI (r0.length + 1 + 1)) (z := nI (r0.length + 1)) (al1 := [(5, .int (nI (r0.length + 1))), (7, .int 10), (6, .int (nI (pre.length))), (0, .ref (241 + k)), (1, .ref 114), (2, .int (nI (p))), (3, .ref (kN + 100)), (4, .ref (kO + 100))]) rfl rfl rfl (nK_p.trans nK_s) rfl rfl ?_
                    refine w_p (pc1 := 143) rfl rfl ?_
                    refine w_m0 (pc1 := 146) (st1 := .ref (241 + k3) :: _) rfl rfl (x_gf (k := k) rfl hO rfl) rfl ?_
                    refine w_p (pc1 := 148) rfl rfl ?_
                    refine w_p (pc1 := 149) (st1 := .int 1 :: _) rfl rfl ?_
                    refine w_isub (pc1 := 150) (u := nI (r0.length + 1)) (v := nI (1)) (z := nI (r0.length + 1 - 1)) rfl (nK_sub (by omega)) rfl ?_
                    refine w_p (pc1 := 151) rfl rfl ?_
                    refine w_p (pc1 := 153) rfl rfl ?_
                    refine w_p (pc1 := 154) rfl rfl ?_
                    refine w_m0 (pc1 := 157) (st1 := .ref (241 + k3) :: _) rfl rfl (x_gf (k := k) rfl hO rfl) rfl ?_
                    refine w_p (pc1 := 159) rfl rfl ?_
                    refine w_p (pc1 := 160) (st1 := .int 1 :: _) rfl rfl ?_
                    refine w_isub (pc1 := 161) (u := nI (r0.length + 1)) (v := nI (1)) (z := nI (r0.length + 1 - 1)) rfl (nK_sub (by omega)) rfl ?_
                    refine w_m0 (pc1 := 162) (st1 := .long (v_K (.inl v)) :: _) rfl rfl (x_lle (k := k3) (e := r0.length + 1 - 1) hS (by omega) (by omega) (by rw [Nat.add_sub_cancel]; exact hs.2.1)) rfl ?_
                    refine w_p (pc1 := 163) rfl rfl ?_
                    refine w_m0 (pc1 := 166) (st1 := .ref (241 + k3) :: _) rfl rfl (x_gf (k := k) rfl hO rfl) rfl ?_
                    refine w_p (pc1 := 168) rfl rfl ?_
                    refine w_m0 (pc1 := 169) (st1 := .long (v_K (.inl w)) :: _) rfl rfl (x_lle (k := k3) (e := r0.length + 1) hS (by omega) (by omega) (hs.1)) rfl ?_
                    refine w_je (pc1 := 172) (vs := [.ref (241 + k), .int 10, .long (v_K (.inl v)), .long (v_K (.inl w))]) (rest := [.int (nI (r0.length + 1 - 1)), .ref (241 + k3)]) (st1 := [.long (o2K (u_2 g 10 (.inl v) (.inl w))), .int (nI (r0.length + 1 - 1)), .ref (241 + k3)]) (m_116_10 (d := d + 1) (sl := 0) hO) rfl rfl rfl (fun _ _ => rfl) rfl (by exact cl_v my_116 rfl rfl rfl (Nat.le_of_ble_eq_true rfl) rfl (x_obj hO) rfl (by decide) rfl rfl) (by rfl) (Nat.le_of_ble_eq_true rfl) (Nat.le_of_ble_eq_true rfl) rfl (by rfl) ?_
                    refine w_m0 (pc1 := 173) rfl rfl (x_ls (k := k3) (e := r0.length + 1 - 1) hS (by omega) (by omega)) rfl ?_
                    rw [show (t0.set k3 (sCell Q.length s)).set k3 (Sum.inl (1, Q.length, Sum.inr (Sum.inl (vp_updL s (r0.length + 1 - 1) (o2K (u_2 g 10 (.inl v) (.inl w))))))) = t0.set k3 (sCell Q.length (vp_updL s (r0.length + 1 - 1) (o2K (u_2 g 10 (.inl v) (.inl w))))) from List.set_set _]
                    obtain ⟨hO2, -, -, hS2⟩ := FO_s F0 (vp_updL s (r0.length + 1 - 1) (o2K (u_2 g 10 (.inl v) (.inl w))))
                    refine w_p (pc1 := 174) rfl rfl ?_
                    refine w_m0 (pc1 := 177) (st1 := .ref (241 + k3) :: _) rfl rfl (x_gf (k := k) rfl hO2 rfl) rfl ?_
                    refine w_p (pc1 := 179) rfl rfl ?_
                    refine w_p (pc1 := 180) (st1 := .int 1 :: _) rfl rfl ?_
                    refine w_isub (pc1 := 181) (u := nI (r0.length + 1)) (v := nI (1)) (z := nI (r0.length + 1 - 1)) rfl (nK_sub (by omega)) rfl ?_
                    refine w_m0 (pc1 := 182) (st1 := .long (o2K (u_2 g 10 (.inl v) (.inl w))) :: _) rfl rfl (x_lle (k := k3) (e := r0.length + 1 - 1) hS2 (by omega) (by omega) (upd_s)) rfl ?_
                    refine w_m0 (pc1 := 185) (st1 := .long (-9223372036854775807) :: _) rfl rfl rfl rfl ?_
                    refine w_p (pc1 := 186) rfl rfl ?_
                    refine w_f (a := 193) (b := 189) (lb_ne_f (by rw [hu]; rfl)) rfl rfl ?_
                    refine w_m0 (pc1 := 192) (st1 := .long (-9223372036854775807) :: _) rfl rfl rfl rfl ?_
                    refine w_r rfl rfl rfl (fun _ _ => rfl) rfl ?_
                    exact ⟨_, rfl, rfl, rfl⟩
                  | some z1 =>
                    show Wd _ _ _ _ _ (WK C t0 k3 Q.length sl (f_l g R N O l (z1 :: r0))) _
                    have hb : t_l w1 w2 w3 l ((z1 :: r0).map tyv) = some [b] := by
                      have : tyv z1 = false := by rw [u2_A (by unfold isA; decide), Option.map_eq_some_iff] at hu; obtain ⟨q, _, rfl⟩ := hu; rfl
                      show t_l w1 w2 w3 l (tyv z1 :: r0.map tyv) = _
                      rw [this]
                      exact hb
                    refine w_p (pc1 := 8) rfl rfl ?_
                    refine w_p (pc1 := 9) rfl rfl ?_
                    refine w_m0 (pc1 := 12) (st1 := .ref (241 + k1) :: _) rfl rfl (x_gf (k := k) rfl hO rfl) rfl ?_
                    refine w_m0 (pc1 := 13) (st1 := .int (nI (Q.length)) :: _) rfl rfl (x_ln (k := k1) hA (by decide)) rfl ?_
                    refine w_f (a := 199) (b := 16) (bN_ge_f (a := pre.length) (b := Q.length) (by omega) (by omega) (by omega)) rfl rfl ?_
                    refine w_p (pc1 := 18) rfl rfl ?_
                    refine w_p (pc1 := 19) rfl rfl ?_
                    refine w_m0 (pc1 := 22) (st1 := .ref (241 + k2) :: _) rfl rfl (x_gf (k := k) rfl hO rfl) rfl ?_
                    refine w_m0 (pc1 := 23) (st1 := .int (nI (Q.length)) :: _) rfl rfl (x_ln (k := k2) hB (by decide)) rfl ?_
                    refine w_f (a := 199) (b := 26) (bN_ge_f (a := pre.length) (b := Q.length) (by omega) (by omega) (by omega)) rfl rfl ?_
                    refine w_p (pc1 := 27) rfl rfl ?_
                    refine w_m0 (pc1 := 30) (st1 := .ref (241 + k1) :: _) rfl rfl (x_gf (k := k) rfl hO rfl) rfl ?_
                    refine w_p (pc1 := 32) rfl rfl ?_
                    refine w_m0 (pc1 := 33) (st1 := .int 10 :: _) rfl rfl (x_ile (k := k1) (e := pre.length) hA (by omega) (by omega) (h1)) rfl ?_
                    refine w_p (pc1 := 35) (al1 := [(7, .int 10), (6, .int (nI (pre.length))), (5, .int (nI (r0.length + 1 + 1))), (0, .ref (241 + k)), (1, .ref 114), (2, .int (nI (p))), (3, .ref (kN + 100)), (4, .ref (kO + 100))]) rfl rfl ?_
                    refine w_p (pc1 := 37) rfl rfl ?_
                    refine w_p (pc1 := 38) (st1 := .int 4 :: _) rfl rfl ?_
                    refine w_t (a := 86) (b := 41) rfl rfl rfl ?_
                    refine w_p (pc1 := 88) rfl rfl ?_
                    refine w_p (pc1 := 90) (st1 := .int 8 :: _) rfl rfl ?_
                    refine w_t (a := 129) (b := 93) rfl rfl rfl ?_
                    refine w_p (pc1 := 131) rfl rfl ?_
                    refine w_p (pc1 := 132) (st1 := .int 2 :: _) rfl rfl ?_
                    refine w_t (a := 139) (b := 135) (bN_ge_t (a := r0.length + 1 + 1) (b := 2) (by omega) (by omega) (by omega)) rfl rfl ?_
                    refine w_iinc (pc1 := 142) (u := nI (r0.length + 1 + 1)) (z := nI (r0.length + 1)) (al1 := [(5, .int (nI (r0.length + 1))), (7, .int 10), (6, .int (nI (pre.length))), (0, .ref (241 + k)), (1, .ref 114), (2, .int (nI (p))), (3, .ref (kN + 100)), (4, .ref (kO + 100))]) rfl rfl rfl (nK_p.trans nK_s) rfl rfl ?_
                    refine w_p (pc1 := 143) rfl rfl ?_
                    refine w_m0 (pc1 := 146) (st1 := .ref (241 + k3) :: _) rfl rfl (x_gf (k := k) rfl hO rfl) rfl ?_
                    refine w_p (pc1 := 148) rfl rfl ?_
                    refine w_p (pc1 := 149) (st1 := .int 1 :: _) rfl rfl ?_
                    refine w_isub (pc1 := 150) (u := nI (r0.length + 1)) (v := nI (1)) (z := nI (r0.length + 1 - 1)) rfl (nK_sub (by omega)) rfl ?_
                    refine w_p (pc1 := 151) rfl rfl ?_
                    refine w_p (pc1 := 153) rfl rfl ?_
                    refine w_p (pc1 := 154) rfl rfl ?_
                    refine w_m0 (pc1 := 157) (st1 := .ref (241 + k3) :: _) rfl rfl (x_gf (k := k) rfl hO rfl) rfl ?_
                    refine w_p (pc1 := 159) rfl rfl ?_
                    refine w_p (pc1 := 160) (st1 := .int 1 :: _) rfl rfl ?_
                    refine w_isub (pc1 := 161) (u := nI (r0.length + 1)) (v := nI (1)) (z := nI (r0.length + 1 - 1)) rfl (nK_sub (by omega)) rfl ?_
                    refine w_m0 (pc1 := 162) (st1 := .long (v_K (.inl v)) :: _) rfl rfl (x_lle (k := k3) (e := r0.length + 1 - 1) hS (by omega) (by omega) (by rw [Nat.add_sub_cancel]; exact hs.2.1)) rfl ?_
                    refine w_p (pc1 := 163) rfl rfl ?_
                    refine w_m0 (pc1 := 166) (st1 := .ref (241 + k3) :: _) rfl rfl (x_gf (k := k) rfl hO rfl) rfl ?_
                    refine w_p (pc1 := 168) rfl rfl ?_
                    refine w_m0 (pc1 := 169) (st1 := .long (v_K (.inl w)) :: _) rfl rfl (x_lle (k := k3) (e := r0.length + 1) hS (by omega) (by omega) (hs.1)) rfl ?_
                    refine w_je (pc1 := 172) (vs := [.ref (241 + k), .int 10, .long (v_K (.inl v)), .long (v_K (.inl w))]) (rest := [.int (nI (r0.length + 1 - 1)), .ref (241 + k3)]) (st1 := [.long (o2K (u_2 g 10 (.inl v) (.inl w))), .int (nI (r0.length + 1 - 1)), .ref (241 + k3)]) (m_116_10 (d := d + 1) (sl := 0) hO) rfl rfl rfl (fun _ _ => rfl) rfl (by exact cl_v my_116 rfl rfl rfl (Nat.le_of_ble_eq_true rfl) rfl (x_obj hO) rfl (by decide) rfl rfl) (by rfl) (Nat.le_of_ble_eq_true rfl) (Nat.le_of_ble_eq_true rfl) rfl (by rfl) ?_
                    refine w_m0 (pc1 := 173) rfl rfl (x_ls (k := k3) (e := r0.length + 1 - 1) hS (by omega) (by omega)) rfl ?_
                    rw [show (t0.set k3 (sCell Q.length s)).set k3 (Sum.inl (1, Q.length, Sum.inr (Sum.inl (vp_updL s (r0.length + 1 - 1) (o2K (u_2 g 10 (.inl v) (.inl w))))))) = t0.set k3 (sCell Q.length (vp_updL s (r0.length + 1 - 1) (o2K (u_2 g 10 (.inl v) (.inl w))))) from List.set_set _]
                    obtain ⟨hO2, -, -, hS2⟩ := FO_s F0 (vp_updL s (r0.length + 1 - 1) (o2K (u_2 g 10 (.inl v) (.inl w))))
                    refine w_p (pc1 := 174) rfl rfl ?_
                    refine w_m0 (pc1 := 177) (st1 := .ref (241 + k3) :: _) rfl rfl (x_gf (k := k) rfl hO2 rfl) rfl ?_
                    refine w_p (pc1 := 179) rfl rfl ?_
                    refine w_p (pc1 := 180) (st1 := .int 1 :: _) rfl rfl ?_
                    refine w_isub (pc1 := 181) (u := nI (r0.length + 1)) (v := nI (1)) (z := nI (r0.length + 1 - 1)) rfl (nK_sub (by omega)) rfl ?_
                    refine w_m0 (pc1 := 182) (st1 := .long (o2K (u_2 g 10 (.inl v) (.inl w))) :: _) rfl rfl (x_lle (k := k3) (e := r0.length + 1 - 1) hS2 (by omega) (by omega) (upd_s)) rfl ?_
                    refine w_m0 (pc1 := 185) (st1 := .long (-9223372036854775807) :: _) rfl rfl rfl rfl ?_
                    refine w_p (pc1 := 186) rfl rfl ?_
                    refine w_t (a := 193) (b := 189) (lb_ne_t (by rw [hu]; exact v_K_un _)) rfl rfl ?_
                    refine w_iinc (pc1 := 196) (u := nI (pre.length)) (z := nI (pre.length + 1)) (al1 := [(6, .int (nI (pre.length + 1))), (5, .int (nI (r0.length + 1))), (7, .int 10), (0, .ref (241 + k)), (1, .ref 114), (2, .int (nI (p))), (3, .ref (kN + 100)), (4, .ref (kO + 100))]) rfl rfl rfl nK_1 rfl rfl ?_
                    refine w_p (pc1 := 6) rfl rfl ?_
                    refine Wd_al (al := [(6, .int (nI (pre.length + 1))), (5, .int (nI (r0.length + 1))), (0, .ref (241 + k)), (1, .ref 114), (2, .int (nI (p))), (3, .ref (kN + 100)), (4, .ref (kO + 100))]) (sba_p [0, 1, 3, 4, 5, 6, 7] rfl rfl) ?_
                    exact ih (z1 :: r0) _ hQ2 ⟨b, hb⟩ (show r0.length + 1 ≤ pre.length + 1 by omega) ⟨by rw [Nat.add_sub_cancel, upd_s, hu]; rfl, skR_u hs.2.2 (by omega)⟩
                · obtain rfl : a = 11 := e1
                  rw [fo_11]
                  cases hu : u_2 g 11 (.inl v) (.inl w) with
                  | none =>
                    show Wd _ _ _ _ _ (WK C t0 k3 Q.length sl none) _
                    refine w_p (pc1 := 8) rfl rfl ?_
                    refine w_p (pc1 := 9) rfl rfl ?_
                    refine w_m0 (pc1 := 12) (st1 := .ref (241 + k1) :: _) rfl rfl (x_gf (k := k) rfl hO rfl) rfl ?_
                    refine w_m0 (pc1 := 13) (st1 := .int (nI (Q.length)) :: _) rfl rfl (x_ln (k := k1) hA (by decide)) rfl ?_
                    refine w_f (a := 199) (b := 16) (bN_ge_f (a := pre.length) (b := Q.length) (by omega) (by omega) (by omega)) rfl rfl ?_
                    refine w_p (pc1 := 18) rfl rfl ?_
                    refine w_p (pc1 := 19) rfl rfl ?_
                    refine w_m0 (pc1 := 22) (st1 := .ref (241 + k2) :: _) rfl rfl (x_gf (k := k) rfl hO rfl) rfl ?_
                    refine w_m0 (pc1 := 23) (st1 := .int (nI (Q.length)) :: _) rfl rfl (x_ln (k := k2) hB (by decide)) rfl ?_
                    refine w_f (a := 199) (b := 26) (bN_ge_f (a := pre.length) (b := Q.length) (by omega) (by omega) (by omega)) rfl rfl ?_
                    refine w_p (pc1 := 27) rfl rfl ?_
                    refine w_m0 (pc1 := 30) (st1 := .ref (241 + k1) :: _) rfl rfl (x_gf (k := k) rfl hO rfl) rfl ?_
                    refine w_p (pc1 := 32) rfl rfl ?_
                    refine w_m0 (pc1 := 33) (st1 := .int 11 :: _) rfl rfl (x_ile (k := k1) (e := pre.length) hA (by omega) (by omega) (h1)) rfl ?_
                    refine w_p (pc1 := 35) (al1 := [(7, .int 11), (6, .int (nI (pre.length))), (5, .int (nI (r0.length + 1 + 1))), (0, .ref (241 + k)), (1, .ref 114), (2, .int (nI (p))), (3, .ref (kN + 100)), (4, .ref (kO + 100))]) rfl rfl ?_
                    refine w_p (pc1 := 37) rfl rfl ?_
                    refine w_p (pc1 := 38) (st1 := .int 4 :: _) rfl rfl ?_
                    refine w_t (a := 86) (b := 41) rfl rfl rfl ?_
                    refine w_p (pc1 := 88) rfl rfl ?_
                    refine w_p (pc1 := 90) (st1 := .int 8 :: _) rfl rfl ?_
                    refine w_t (a := 129) (b := 93) rfl rfl rfl ?_
                    refine w_p (pc1 := 131) rfl rfl ?_
                    refine w_p (pc1 := 132) (st1 := .int 2 :: _) rfl rfl ?_
                    refine w_t (a := 139) (b := 135) (bN_ge_t (a := r0.length + 1 + 1) (b := 2) (by omega) (by omega) (by omega)) rfl rfl ?_
                    refine w_iinc (pc1 := 142) (u := nI (r0.length + 1 + 1)) (z := nI (r0.length + 1)) (al1 := [(5, .int (nI (r0.length + 1))), (7, .int 11), (6, .int (nI (pre.length))), (0, .ref (241 + k)), (1, .ref 114), (2, .int (nI (p))), (3, .ref (kN + 100)), (4, .ref (kO + 100))]) rfl rfl rfl (nK_p.trans nK_s) rfl rfl ?_
                    refine w_p (pc1 := 143) rfl rfl ?_
                    refine w_m0 (pc1 := 146) (st1 := .ref (241 + k3) :: _) rfl rfl (x_gf (k := k) rfl hO rfl) rfl ?_
                    refine w_p (pc1 := 148) rfl rfl ?_
                    refine w_p (pc1 := 149) (st1 := .int 1 :: _) rfl rfl ?_
                    refine w_isub (pc1 := 150) (u := nI (r0.length + 1)) (v := nI (1)) (z := nI (r0.length + 1 - 1)) rfl (nK_sub (by omega)) rfl ?_
                    refine w_p (pc1 := 151) rfl rfl ?_
                    refine w_p (pc1 := 153) rfl rfl ?_
                    refine w_p (pc1 := 154) rfl rfl ?_
                    refine w_m0 (pc1 := 157) (st1 := .ref (241 + k3) :: _) rfl rfl (x_gf (k := k) rfl hO rfl) rfl ?_
                    refine w_p (pc1 := 159) rfl rfl ?_
                    refine w_p (pc1 := 160) (st1 := .int 1 :: _) rfl rfl ?_
                    refine w_isub (pc1 := 161) (u := nI (r0.length + 1)) (v := nI (1)) (z := nI (r0.length + 1 - 1)) rfl (nK_sub (by omega)) rfl ?_
                    refine w_m0 (pc1 := 162) (st1 := .long (v_K (.inl v)) :: _) rfl rfl (x_lle (k := k3) (e := r0.length + 1 - 1) hS (by omega) (by omega) (by rw [Nat.add_sub_cancel]; exact hs.2.1)) rfl ?_
                    refine w_p (pc1 := 163) rfl rfl ?_
                    refine w_m0 (pc1 := 166) (st1 := .ref (241 + k3) :: _) rfl rfl (x_gf (k := k) rfl hO rfl) rfl ?_
                    refine w_p (pc1 := 168) rfl rfl ?_
                    refine w_m0 (pc1 := 169) (st1 := .long (v_K (.inl w)) :: _) rfl rfl (x_lle (k := k3) (e := r0.length + 1) hS (by omega) (by omega) (hs.1)) rfl ?_
                    refine w_je (pc1 := 172) (vs := [.ref (241 + k), .int 11, .long (v_K (.inl v)), .long (v_K (.inl w))]) (rest := [.int (nI (r0.length + 1 - 1)), .ref (241 + k3)]) (st1 := [.long (o2K (u_2 g 11 (.inl v) (.inl w))), .int (nI (r0.length + 1 - 1)), .ref (241 + k3)]) (m_116_11 (d := d + 1) (sl := 0) hO) rfl rfl rfl (fun _ _ => rfl) rfl (by exact cl_v my_116 rfl rfl rfl (Nat.le_of_ble_eq_true rfl) rfl (x_obj hO) rfl (by decide) rfl rfl) (by rfl) (Nat.le_of_ble_eq_true rfl) (Nat.le_of_ble_eq_true rfl) rfl (by rfl) ?_
                    refine w_m0 (pc1 := 173) rfl rfl (x_ls (k := k3) (e := r0.length + 1 - 1) hS (by omega) (by omega)) rfl ?_
                    rw [show (t0.set k3 (sCell Q.length s)).set k3 (Sum.inl (1, Q.length, Sum.inr (Sum.inl (vp_updL s (r0.length + 1 - 1) (o2K (u_2 g 11 (.inl v) (.inl w))))))) = t0.set k3 (sCell Q.length (vp_updL s (r0.length + 1 - 1) (o2K (u_2 g 11 (.inl v) (.inl w))))) from List.set_set _]
                    obtain ⟨hO2, -, -, hS2⟩ := FO_s F0 (vp_updL s (r0.length + 1 - 1) (o2K (u_2 g 11 (.inl v) (.inl w))))
                    refine w_p (pc1 := 174) rfl rfl ?_
                    refine w_m0 (pc1 := 177) (st1 := .ref (241 + k3) :: _) rfl rfl (x_gf (k := k) rfl hO2 rfl) rfl ?_
                    refine w_p (pc1 := 179) rfl rfl ?_
                    refine w_p (pc1 := 180) (st1 := .int 1 :: _) rfl rfl ?_
                    refine w_isub (pc1 := 181) (u := nI (r0.length + 1)) (v := nI (1)) (z := nI (r0.length + 1 - 1)) rfl (nK_sub (by omega)) rfl ?_
                    refine w_m0 (pc1 := 182) (st1 := .long (o2K (u_2 g 11 (.inl v) (.inl w))) :: _) rfl rfl (x_lle (k := k3) (e := r0.length + 1 - 1) hS2 (by omega) (by omega) (upd_s)) rfl ?_
                    refine w_m0 (pc1 := 185) (st1 := .long (-9223372036854775807) :: _) rfl rfl rfl rfl ?_
                    refine w_p (pc1 := 186) rfl rfl ?_
                    refine w_f (a := 193) (b := 189) (lb_ne_f (by rw [hu]; rfl)) rfl rfl ?_
                    refine w_m0 (pc1 := 192) (st1 := .long (-9223372036854775807) :: _) rfl rfl rfl rfl ?_
                    refine w_r rfl rfl rfl (fun _ _ => rfl) rfl ?_
                    exact ⟨_, rfl, rfl, rfl⟩
                  | some z1 =>
                    show Wd _ _ _ _ _ (WK C t0 k3 Q.length sl (f_l g R N O l (z1 :: r0))) _
                    have hb : t_l w1 w2 w3 l ((z1 :: r0).map tyv) = some [b] := by
                      have : tyv z1 = false := by rw [u2_A (by unfold isA; decide), Option.map_eq_some_iff] at hu; obtain ⟨q, _, rfl⟩ := hu; rfl
                      show t_l w1 w2 w3 l (tyv z1 :: r0.map tyv) = _
                      rw [this]
                      exact hb
                    refine w_p (pc1 := 8) rfl rfl ?_
                    refine w_p (pc1 := 9) rfl rfl ?_
                    refine w_m0 (pc1 := 12) (st1 := .ref (241 + k1) :: _) rfl rfl (x_gf (k := k) rfl hO rfl) rfl ?_
                    refine w_m0 (pc1 := 13) (st1 := .int (nI (Q.length)) :: _) rfl rfl (x_ln (k := k1) hA (by decide)) rfl ?_
                    refine w_f (a := 199) (b := 16) (bN_ge_f (a := pre.length) (b := Q.length) (by omega) (by omega) (by omega)) rfl rfl ?_
                    refine w_p (pc1 := 18) rfl rfl ?_
                    refine w_p (pc1 := 19) rfl rfl ?_
                    refine w_m0 (pc1 := 22) (st1 := .ref (241 + k2) :: _) rfl rfl (x_gf (k := k) rfl hO rfl) rfl ?_
                    refine w_m0 (pc1 := 23) (st1 := .int (nI (Q.length)) :: _) rfl rfl (x_ln (k := k2) hB (by decide)) rfl ?_
                    refine w_f (a := 199) (b := 26) (bN_ge_f (a := pre.length) (b := Q.length) (by omega) (by omega) (by omega)) rfl rfl ?_
                    refine w_p (pc1 := 27) rfl rfl ?_
                    refine w_m0 (pc1 := 30) (st1 := .ref (241 + k1) :: _) rfl rfl (x_gf (k := k) rfl hO rfl) rfl ?_
                    refine w_p (pc1 := 32) rfl rfl ?_
                    refine w_m0 (pc1 := 33) (st1 := .int 11 :: _) rfl rfl (x_ile (k := k1) (e := pre.length) hA (by omega) (by omega) (h1)) rfl ?_
                    refine w_p (pc1 := 35) (al1 := [(7, .int 11), (6, .int (nI (pre.length))), (5, .int (nI (r0.length + 1 + 1))), (0, .ref (241 + k)), (1, .ref 114), (2, .int (nI (p))), (3, .ref (kN + 100)), (4, .ref (kO + 100))]) rfl rfl ?_
                    refine w_p (pc1 := 37) rfl rfl ?_
                    refine w_p (pc1 := 38) (st1 := .int 4 :: _) rfl rfl ?_
                    refine w_t (a := 86) (b := 41) rfl rfl rfl ?_
                    refine w_p (pc1 := 88) rfl rfl ?_
                    refine w_p (pc1 := 90) (st1 := .int 8 :: _) rfl rfl ?_
                    refine w_t (a := 129) (b := 93) rfl rfl rfl ?_
                    refine w_p (pc1 := 131) rfl rfl ?_
                    refine w_p (pc1 := 132) (st1 := .int 2 :: _) rfl rfl ?_
                    refine w_t (a := 139) (b := 135) (bN_ge_t (a := r0.length + 1 + 1) (b := 2) (by omega) (by omega) (by omega)) rfl rfl ?_
                    refine w_iinc (pc1 := 142) (u := nI (r0.length + 1 + 1)) (z := nI (r0.length + 1)) (al1 := [(5, .int (nI (r0.length + 1))), (7, .int 11), (6, .int (nI (pre.length))), (0, .ref (241 + k)), (1, .ref 114), (2, .int (nI (p))), (3, .ref (kN + 100)), (4, .ref (kO + 100))]) rfl rfl rfl (nK_p.trans nK_s) rfl rfl ?_
                    refine w_p (pc1 := 143) rfl rfl ?_
                    refine w_m0 (pc1 := 146) (st1 := .ref (241 + k3) :: _) rfl rfl (x_gf (k := k) rfl hO rfl) rfl ?_
                    refine w_p (pc1 := 148) rfl rfl ?_
                    refine w_p (pc1 := 149) (st1 := .int 1 :: _) rfl rfl ?_
                    refine w_isub (pc1 := 150) (u := nI (r0.length + 1)) (v := nI (1)) (z := nI (r0.length + 1 - 1)) rfl (nK_sub (by omega)) rfl ?_
                    refine w_p (pc1 := 151) rfl rfl ?_
                    refine w_p (pc1 := 153) rfl rfl ?_
                    refine w_p (pc1 := 154) rfl rfl ?_
                    refine w_m0 (pc1 := 157) (st1 := .ref (241 + k3) :: _) rfl rfl (x_gf (k := k) rfl hO rfl) rfl ?_
                    refine w_p (pc1 := 159) rfl rfl ?_
                    refine w_p (pc1 := 160) (st1 := .int 1 :: _) rfl rfl ?_
                    refine w_isub (pc1 := 161) (u := nI (r0.length + 1)) (v := nI (1)) (z := nI (r0.length + 1 - 1)) rfl (nK_sub (by omega)) rfl ?_
                    refine w_m0 (pc1 := 162) (st1 := .long (v_K (.inl v)) :: _) rfl rfl (x_lle (k := k3) (e := r0.length + 1 - 1) hS (by omega) (by omega) (by rw [Nat.add_sub_cancel]; exact hs.2.1)) rfl ?_
                    refine w_p (pc1 := 163) rfl rfl ?_
                    refine w_m0 (pc1 := 166) (st1 := .ref (241 + k3) :: _) rfl rfl (x_gf (k := k) rfl hO rfl) rfl ?_
                    refine w_p (pc1 := 168) rfl rfl ?_
                    refine w_m0 (pc1 := 169) (st1 := .long (v_K (.inl w)) :: _) rfl rfl (x_lle (k := k3) (e := r0.length + 1) hS (by omega) (by omega) (hs.1)) rfl ?_
                    refine w_je (pc1 := 172) (vs := [.ref (241 + k), .int 11, .long (v_K (.inl v)), .long (v_K (.inl w))]) (rest := [.int (nI (r0.length + 1 - 1)), .ref (241 + k3)]) (st1 := [.long (o2K (u_2 g 11 (.inl v) (.inl w))), .int (nI (r0.length + 1 - 1)), .ref (241 + k3)]) (m_116_11 (d := d + 1) (sl := 0) hO) rfl rfl rfl (fun _ _ => rfl) rfl (by exact cl_v my_116 rfl rfl rfl (Nat.le_of_ble_eq_true rfl) rfl (x_obj hO) rfl (by decide) rfl rfl) (by rfl) (Nat.le_of_ble_eq_true rfl) (Nat.le_of_ble_eq_true rfl) rfl (by rfl) ?_
                    refine w_m0 (pc1 := 173) rfl rfl (x_ls (k := k3) (e := r0.length + 1 - 1) hS (by omega) (by omega)) rfl ?_
                    rw [show (t0.set k3 (sCell Q.length s)).set k3 (Sum.inl (1, Q.length, Sum.inr (Sum.inl (vp_updL s (r0.length + 1 - 1) (o2K (u_2 g 11 (.inl v) (.inl w))))))) = t0.set k3 (sCell Q.length (vp_updL s (r0.length + 1 - 1) (o2K (u_2 g 11 (.inl v) (.inl w))))) from List.set_set _]
                    obtain ⟨hO2, -, -, hS2⟩ := FO_s F0 (vp_updL s (r0.length + 1 - 1) (o2K (u_2 g 11 (.inl v) (.inl w))))
                    refine w_p (pc1 := 174) rfl rfl ?_
                    refine w_m0 (pc1 := 177) (st1 := .ref (241 + k3) :: _) rfl rfl (x_gf (k := k) rfl hO2 rfl) rfl ?_
                    refine w_p (pc1 := 179) rfl rfl ?_
                    refine w_p (pc1 := 180) (st1 := .int 1 :: _) rfl rfl ?_
                    refine w_isub (pc1 := 181) (u := nI (r0.length + 1)) (v := nI (1)) (z := nI (r0.length + 1 - 1)) rfl (nK_sub (by omega)) rfl ?_
                    refine w_m0 (pc1 := 182) (st1 := .long (o2K (u_2 g 11 (.inl v) (.inl w))) :: _) rfl rfl (x_lle (k := k3) (e := r0.length + 1 - 1) hS2 (by omega) (by omega) (upd_s)) rfl ?_
                    refine w_m0 (pc1 := 185) (st1 := .long (-9223372036854775807) :: _) rfl rfl rfl rfl ?_
                    refine w_p (pc1 := 186) rfl rfl ?_
                    refine w_t (a := 193) (b := 189) (lb_ne_t (by rw [hu]; exact v_K_un _)) rfl rfl ?_
                    refine w_iinc (pc1 := 196) (u := nI (pre.length)) (z := nI (pre.length + 1)) (al1 := [(6, .int (nI (pre.length + 1))), (5, .int (nI (r0.length + 1))), (7, .int 11), (0, .ref (241 + k)), (1, .ref 114), (2, .int (nI (p))), (3, .ref (kN + 100)), (4, .ref (kO + 100))]) rfl rfl rfl nK_1 rfl rfl ?_
                    refine w_p (pc1 := 6) rfl rfl ?_
                    refine Wd_al (al := [(6, .int (nI (pre.length + 1))), (5, .int (nI (r0.length + 1))), (0, .ref (241 + k)), (1, .ref 114), (2, .int (nI (p))), (3, .ref (kN + 100)), (4, .ref (kO + 100))]) (sba_p [0, 1, 3, 4, 5, 6, 7] rfl rfl) ?_
                    exact ih (z1 :: r0) _ hQ2 ⟨b, hb⟩ (show r0.length + 1 ≤ pre.length + 1 by omega) ⟨by rw [Nat.add_sub_cancel, upd_s, hu]; rfl, skR_u hs.2.2 (by omega)⟩
                · obtain rfl : a = 12 := e1
                  rw [fo_12]
                  cases hu : u_2 g 12 (.inl v) (.inl w) with
                  | none =>
                    show Wd _ _ _ _ _ (WK C t0 k3 Q.length sl none) _
                    refine w_p (pc1 := 8) rfl rfl ?_
                    refine w_p (pc1 := 9) rfl rfl ?_
                    refine w_m0 (pc1 := 12) (st1 := .ref (241 + k1) :: _) rfl rfl (x_gf (k := k) rfl hO rfl) rfl ?_
                    refine w_m0 (pc1 := 13) (st1 := .int (nI (Q.length)) :: _) rfl rfl (x_ln (k := k1) hA (by decide)) rfl ?_
                    refine w_f (a := 199) (b := 16) (bN_ge_f (a := pre.length) (b := Q.length) (by omega) (by omega) (by omega)) rfl rfl ?_
                    refine w_p (pc1 := 18) rfl rfl ?_
                    refine w_p (pc1 := 19) rfl rfl ?_
                    refine w_m0 (pc1 := 22) (st1 := .ref (241 + k2) :: _) rfl rfl (x_gf (k := k) rfl hO rfl) rfl ?_
                    refine w_m0 (pc1 := 23) (st1 := .int (nI (Q.length)) :: _) rfl rfl (x_ln (k := k2) hB (by decide)) rfl ?_
                    refine w_f (a := 199) (b := 26) (bN_ge_f (a := pre.length) (b := Q.length) (by omega) (by omega) (by omega)) rfl rfl ?_
                    refine w_p (pc1 := 27) rfl rfl ?_
                    refine w_m0 (pc1 := 30) (st1 := .ref (241 + k1) :: _) rfl rfl (x_gf (k := k) rfl hO rfl) rfl ?_
                    refine w_p (pc1 := 32) rfl rfl ?_
                    refine w_m0 (pc1 := 33) (st1 := .int 12 :: _) rfl rfl (x_ile (k := k1) (e := pre.length) hA (by omega) (by omega) (h1)) rfl ?_
                    refine w_p (pc1 := 35) (al1 := [(7, .int 12), (6, .int (nI (pre.length))), (5, .int (nI (r0.length + 1 + 1))), (0, .ref (241 + k)), (1, .ref 114), (2, .int (nI (p))), (3, .ref (kN + 100)), (4, .ref (kO + 100))]) rfl rfl ?_
                    refine w_p (pc1 := 37) rfl rfl ?_
                    refine w_p (pc1 := 38) (st1 := .int 4 :: _) rfl rfl ?_
                    refine w_t (a := 86) (b := 41) rfl rfl rfl ?_
                    refine w_p (pc1 := 88) rfl rfl ?_
                    refine w_p (pc1 := 90) (st1 := .int 8 :: _) rfl rfl ?_
                    refine w_t (a := 129) (b := 93) rfl rfl rfl ?_
                    refine w_p (pc1 := 131) rfl rfl ?_
                    refine w_p (pc1 := 132) (st1 := .int 2 :: _) rfl rfl ?_
                    refine w_t (a := 139) (b := 135) (bN_ge_t (a := r0.length + 1 + 1) (b := 2) (by omega) (by omega) (by omega)) rfl rfl ?_
                    refine w_iinc (pc1 := 142) (u := nI (r0.length + 1 + 1)) (z := nI (r0.length + 1)) (al1 := [(5, .int (nI (r0.length + 1))), (7, .int 12), (6, .int (nI (pre.length))), (0, .ref (241 + k)), (1, .ref 114), (2, .int (nI (p))), (3, .ref (kN + 100)), (4, .ref (kO + 100))]) rfl rfl rfl (nK_p.trans nK_s) rfl rfl ?_
                    refine w_p (pc1 := 143) rfl rfl ?_
                    refine w_m0 (pc1 := 146) (st1 := .ref (241 + k3) :: _) rfl rfl (x_gf (k := k) rfl hO rfl) rfl ?_
                    refine w_p (pc1 := 148) rfl rfl ?_
                    refine w_p (pc1 := 149) (st1 := .int 1 :: _) rfl rfl ?_
                    refine w_isub (pc1 := 150) (u := nI (r0.length + 1)) (v := nI (1)) (z := nI (r0.length + 1 - 1)) rfl (nK_sub (by omega)) rfl ?_
                    refine w_p (pc1 := 151) rfl rfl ?_
                    refine w_p (pc1 := 153) rfl rfl ?_
                    refine w_p (pc1 := 154) rfl rfl ?_
                    refine w_m0 (pc1 := 157) (st1 := .ref (241 + k3) :: _) rfl rfl (x_gf (k := k) rfl hO rfl) rfl ?_
                    refine w_p (pc1 := 159) rfl rfl ?_
                    refine w_p (pc1 := 160) (st1 := .int 1 :: _) rfl rfl ?_
                    refine w_isub (pc1 := 161) (u := nI (r0.length + 1)) (v := nI (1)) (z := nI (r0.length + 1 - 1)) rfl (nK_sub (by omega)) rfl ?_
                    refine w_m0 (pc1 := 162) (st1 := .long (v_K (.inl v)) :: _) rfl rfl (x_lle (k := k3) (e := r0.length + 1 - 1) hS (by omega) (by omega) (by rw [Nat.add_sub_cancel]; exact hs.2.1)) rfl ?_
                    refine w_p (pc1 := 163) rfl rfl ?_
                    refine w_m0 (pc1 := 166) (st1 := .ref (241 + k3) :: _) rfl rfl (x_gf (k := k) rfl hO rfl) rfl ?_
                    refine w_p (pc1 := 168) rfl rfl ?_
                    refine w_m0 (pc1 := 169) (st1 := .long (v_K (.inl w)) :: _) rfl rfl (x_lle (k := k3) (e := r0.length + 1) hS (by omega) (by omega) (hs.1)) rfl ?_
                    refine w_je (pc1 := 172) (vs := [.ref (241 + k), .int 12, .long (v_K (.inl v)), .long (v_K (.inl w))]) (rest := [.int (nI (r0.length + 1 - 1)), .ref (241 + k3)]) (st1 := [.long (o2K (u_2 g 12 (.inl v) (.inl w))), .int (nI (r0.length + 1 - 1)), .ref (241 + k3)]) (m_116_12 (d := d + 1) (sl := 0) hO) rfl rfl rfl (fun _ _ => rfl) rfl (by exact cl_v my_116 rfl rfl rfl (Nat.le_of_ble_eq_true rfl) rfl (x_obj hO) rfl (by decide) rfl rfl) (by rfl) (Nat.le_of_ble_eq_true rfl) (Nat.le_of_ble_eq_true rfl) rfl (by rfl) ?_
                    refine w_m0 (pc1 := 173) rfl rfl (x_ls (k := k3) (e := r0.length + 1 - 1) hS (by omega) (by omega)) rfl ?_
                    rw [show (t0.set k3 (sCell Q.length s)).set k3 (Sum.inl (1, Q.length, Sum.inr (Sum.inl (vp_updL s (r0.length + 1 - 1) (o2K (u_2 g 12 (.inl v) (.inl w))))))) = t0.set k3 (sCell Q.length (vp_updL s (r0.length + 1 - 1) (o2K (u_2 g 12 (.inl v) (.inl w))))) from List.set_set _]
                    obtain ⟨hO2, -, -, hS2⟩ := FO_s F0 (vp_updL s (r0.length + 1 - 1) (o2K (u_2 g 12 (.inl v) (.inl w))))
                    refine w_p (pc1 := 174) rfl rfl ?_
                    refine w_m0 (pc1 := 177) (st1 := .ref (241 + k3) :: _) rfl rfl (x_gf (k := k) rfl hO2 rfl) rfl ?_
                    refine w_p (pc1 := 179) rfl rfl ?_
                    refine w_p (pc1 := 180) (st1 := .int 1 :: _) rfl rfl ?_
                    refine w_isub (pc1 := 181) (u := nI (r0.length + 1)) (v := nI (1)) (z := nI (r0.length + 1 - 1)) rfl (nK_sub (by omega)) rfl ?_
                    refine w_m0 (pc1 := 182) (st1 := .long (o2K (u_2 g 12 (.inl v) (.inl w))) :: _) rfl rfl (x_lle (k := k3) (e := r0.length + 1 - 1) hS2 (by omega) (by omega) (upd_s)) rfl ?_
                    refine w_m0 (pc1 := 185) (st1 := .long (-9223372036854775807) :: _) rfl rfl rfl rfl ?_
                    refine w_p (pc1 := 186) rfl rfl ?_
                    refine w_f (a := 193) (b := 189) (lb_ne_f (by rw [hu]; rfl)) rfl rfl ?_
                    refine w_m0 (pc1 := 192) (st1 := .long (-9223372036854775807) :: _) rfl rfl rfl rfl ?_
                    refine w_r rfl rfl rfl (fun _ _ => rfl) rfl ?_
                    exact ⟨_, rfl, rfl, rfl⟩
                  | some z1 =>
                    show Wd _ _ _ _ _ (WK C t0 k3 Q.length sl (f_l g R N O l (z1 :: r0))) _
                    have hb : t_l w1 w2 w3 l ((z1 :: r0).map tyv) = some [b] := by
                      have : tyv z1 = false := by rw [u2_A (by unfold isA; decide), Option.map_eq_some_iff] at hu; obtain ⟨q, _, rfl⟩ := hu; rfl
                      show t_l w1 w2 w3 l (tyv z1 :: r0.map tyv) = _
                      rw [this]
                      exact hb
                    refine w_p (pc1 := 8) rfl rfl ?_
                    refine w_p (pc1 := 9) rfl rfl ?_
                    refine w_m0 (pc1 := 12) (st1 := .ref (241 + k1) :: _) rfl rfl (x_gf (k := k) rfl hO rfl) rfl ?_
                    refine w_m0 (pc1 := 13) (st1 := .int (nI (Q.length)) :: _) rfl rfl (x_ln (k := k1) hA (by decide)) rfl ?_
                    refine w_f (a := 199) (b := 16) (bN_ge_f (a := pre.length) (b := Q.length) (by omega) (by omega) (by omega)) rfl rfl ?_
                    refine w_p (pc1 := 18) rfl rfl ?_
                    refine w_p (pc1 := 19) rfl rfl ?_
                    refine w_m0 (pc1 := 22) (st1 := .ref (241 + k2) :: _) rfl rfl (x_gf (k := k) rfl hO rfl) rfl ?_
                    refine w_m0 (pc1 := 23) (st1 := .int (nI (Q.length)) :: _) rfl rfl (x_ln (k := k2) hB (by decide)) rfl ?_
                    refine w_f (a := 199) (b := 26) (bN_ge_f (a := pre.length) (b := Q.length) (by omega) (by omega) (by omega)) rfl rfl ?_
                    refine w_p (pc1 := 27) rfl rfl ?_
                    refine w_m0 (pc1 := 30) (st1 := .ref (241 + k1) :: _) rfl rfl (x_gf (k := k) rfl hO rfl) rfl ?_
                    refine w_p (pc1 := 32) rfl rfl ?_
                    refine w_m0 (pc1 := 33) (st1 := .int 12 :: _) rfl rfl (x_ile (k := k1) (e := pre.length) hA (by omega) (by omega) (h1)) rfl ?_
                    refine w_p (pc1 := 35) (al1 := [(7, .int 12), (6, .int (nI (pre.length))), (5, .int (nI (r0.length + 1 + 1))), (0, .ref (241 + k)), (1, .ref 114), (2, .int (nI (p))), (3, .ref (kN + 100)), (4, .ref (kO + 100))]) rfl rfl ?_
                    refine w_p (pc1 := 37) rfl rfl ?_
                    refine w_p (pc1 := 38) (st1 := .int 4 :: _) rfl rfl ?_
                    refine w_t (a := 86) (b := 41) rfl rfl rfl ?_
                    refine w_p (pc1 := 88) rfl rfl ?_
                    refine w_p (pc1 := 90) (st1 := .int 8 :: _) rfl rfl ?_
                    refine w_t (a := 129) (b := 93) rfl rfl rfl ?_
                    refine w_p (pc1 := 131) rfl rfl ?_
                    refine w_p (pc1 := 132) (st1 := .int 2 :: _) rfl rfl ?_
                    refine w_t (a := 139) (b := 135) (bN_ge_t (a := r0.length + 1 + 1) (b := 2) (by omega) (by omega) (by omega)) rfl rfl ?_
                    refine w_iinc (pc1 := 142) (u := nI (r0.length + 1 + 1)) (z := nI (r0.length + 1)) (al1 := [(5, .int (nI (r0.length + 1))), (7, .int 12), (6, .int (nI (pre.length))), (0, .ref (241 + k)), (1, .ref 114), (2, .int (nI (p))), (3, .ref (kN + 100)), (4, .ref (kO + 100))]) rfl rfl rfl (nK_p.trans nK_s) rfl rfl ?_
                    refine w_p (pc1 := 143) rfl rfl ?_
                    refine w_m0 (pc1 := 146) (st1 := .ref (241 + k3) :: _) rfl rfl (x_gf (k := k) rfl hO rfl) rfl ?_
                    refine w_p (pc1 := 148) rfl rfl ?_
                    refine w_p (pc1 := 149) (st1 := .int 1 :: _) rfl rfl ?_
                    refine w_isub (pc1 := 150) (u := nI (r0.length + 1)) (v := nI (1)) (z := nI (r0.length + 1 - 1)) rfl (nK_sub (by omega)) rfl ?_
                    refine w_p (pc1 := 151) rfl rfl ?_
                    refine w_p (pc1 := 153) rfl rfl ?_
                    refine w_p (pc1 := 154) rfl rfl ?_
                    refine w_m0 (pc1 := 157) (st1 := .ref (241 + k3) :: _) rfl rfl (x_gf (k := k) rfl hO rfl) rfl ?_
                    refine w_p (pc1 := 159) rfl rfl ?_
                    refine w_p (pc1 := 160) (st1 := .int 1 :: _) rfl rfl ?_
                    refine w_isub (pc1 := 161) (u := nI (r0.length + 1)) (v := nI (1)) (z := nI (r0.length + 1 - 1)) rfl (nK_sub (by omega)) rfl ?_
                    refine w_m0 (pc1 := 162) (st1 := .long (v_K (.inl v)) :: _) rfl rfl (x_lle (k := k3) (e := r0.length + 1 - 1) hS (by omega) (by omega) (by rw [Nat.add_sub_cancel]; exact hs.2.1)) rfl ?_
                    refine w_p (pc1 := 163) rfl rfl ?_
                    refine w_m0 (pc1 := 166) (st1 := .ref (241 + k3) :: _) rfl rfl (x_gf (k := k) rfl hO rfl) rfl ?_
                    refine w_p (pc1 := 168) rfl rfl ?_
                    refine w_m0 (pc1 := 169) (st1 := .long (v_K (.inl w)) :: _) rfl rfl (x_lle (k := k3) (e := r0.length + 1) hS (by omega) (by omega) (hs.1)) rfl ?_
                    refine w_je (pc1 := 172) (vs := [.ref (241 + k), .int 12, .long (v_K (.inl v)), .long (v_K (.inl w))]) (rest := [.int (nI (r0.length + 1 - 1)), .ref (241 + k3)]) (st1 := [.long (o2K (u_2 g 12 (.inl v) (.inl w))), .int (nI (r0.length + 1 - 1)), .ref (241 + k3)]) (m_116_12 (d := d + 1) (sl := 0) hO) rfl rfl rfl (fun _ _ => rfl) rfl (by exact cl_v my_116 rfl rfl rfl (Nat.le_of_ble_eq_true rfl) rfl (x_obj hO) rfl (by decide) rfl rfl) (by rfl) (Nat.le_of_ble_eq_true rfl) (Nat.le_of_ble_eq_true rfl) rfl (by rfl) ?_
                    refine w_m0 (pc1 := 173) rfl rfl (x_ls (k := k3) (e := r0.length + 1 - 1) hS (by omega) (by omega)) rfl ?_
                    rw [show (t0.set k3 (sCell Q.length s)).set k3 (Sum.inl (1, Q.length, Sum.inr (Sum.inl (vp_updL s (r0.length + 1 - 1) (o2K (u_2 g 12 (.inl v) (.inl w))))))) = t0.set k3 (sCell Q.length (vp_updL s (r0.length + 1 - 1) (o2K (u_2 g 12 (.inl v) (.inl w))))) from List.set_set _]
                    obtain ⟨hO2, -, -, hS2⟩ := FO_s F0 (vp_updL s (r0.length + 1 - 1) (o2K (u_2 g 12 (.inl v) (.inl w))))
                    refine w_p (pc1 := 174) rfl rfl ?_
                    refine w_m0 (pc1 := 177) (st1 := .ref (241 + k3) :: _) rfl rfl (x_gf (k := k) rfl hO2 rfl) rfl ?_
                    refine w_p (pc1 := 179) rfl rfl ?_
                    refine w_p (pc1 := 180) (st1 := .int 1 :: _) rfl rfl ?_
                    refine w_isub (pc1 := 181) (u := nI (r0.length + 1)) (v := nI (1)) (z := nI (r0.length + 1 - 1)) rfl (nK_sub (by omega)) rfl ?_
                    refine w_m0 (pc1 := 182) (st1 := .long (o2K (u_2 g 12 (.inl v) (.inl w))) :: _) rfl rfl (x_lle (k := k3) (e := r0.length + 1 - 1) hS2 (by omega) (by omega) (upd_s)) rfl ?_
                    refine w_m0 (pc1 := 185) (st1 := .long (-9223372036854775807) :: _) rfl rfl rfl rfl ?_
                    refine w_p (pc1 := 186) rfl rfl ?_
                    refine w_t (a := 193) (b := 189) (lb_ne_t (by rw [hu]; exact v_K_un _)) rfl rfl ?_
                    refine w_iinc (pc1 := 196) (u := nI (pre.length)) (z := nI (pre.length + 1)) (al1 := [(6, .int (nI (pre.length + 1))), (5, .int (nI (r0.length + 1))), (7, .int 12), (0, .ref (241 + k)), (1, .ref 114), (2, .int (nI (p))), (3, .ref (kN + 100)), (4, .ref (kO + 100))]) rfl rfl rfl nK_1 rfl rfl ?_
                    refine w_p (pc1 := 6) rfl rfl ?_
                    refine Wd_al (al := [(6, .int (nI (pre.length + 1))), (5, .int (nI (r0.length + 1))), (0, .ref (241 + k)), (1, .ref 114), (2, .int (nI (p))), (3, .ref (kN + 100)), (4, .ref (kO + 100))]) (sba_p [0, 1, 3, 4, 5, 6, 7] rfl rfl) ?_
                    exact ih (z1 :: r0) _ hQ2 ⟨b, hb⟩ (show r0.length + 1 ≤ pre.length + 1 by omega) ⟨by rw [Nat.add_sub_cancel, upd_s, hu]; rfl, skR_u hs.2.2 (by omega)⟩
              · subst e2
                rcases e1 with e1 | e1 | e1 | e1 | e1 | e1
                · obtain rfl : a = 13 := e1
                  rw [fo_13]
                  cases hu : u_2 g 13 (.inl v) (.inl w) with
                  | none =>
                    show Wd _ _ _ _ _ (WK C t0 k3 Q.length sl none) _
                    refine w_p (pc1 := 8) rfl rfl ?_
                    refine w_p (pc1 := 9) rfl rfl ?_
                    refine w_m0 (pc1 := 12) (st1 := .ref (241 + k1) :: _) rfl rfl (x_gf (k := k) rfl hO rfl) rfl ?_
                    refine w_m0 (pc1 := 13) (st1 := .int (nI (Q.length)) :: _) rfl rfl (x_ln (k := k1) hA (by decide)) rfl ?_
                    refine w_f (a := 199) (b := 16) (bN_ge_f (a := pre.length) (b := Q.length) (by omega) (by omega) (by omega)) rfl rfl ?_
                    refine w_p (pc1 := 18) rfl rfl ?_
                    refine w_p (pc1 := 19) rfl rfl ?_
                    refine w_m0 (pc1 := 22) (st1 := .ref (241 + k2) :: _) rfl rfl (x_gf (k := k) rfl hO rfl) rfl ?_
                    refine w_m0 (pc1 := 23) (st1 := .int (nI (Q.length)) :: _) rfl rfl (x_ln (k := k2) hB (by decide)) rfl ?_
                    refine w_f (a := 199) (b := 26) (bN_ge_f (a := pre.length) (b := Q.length) (by omega) (by omega) (by omega)) rfl rfl ?_
                    refine w_p (pc1 := 27) rfl rfl ?_
                    refine w_m0 (pc1 := 30) (st1 := .ref (241 + k1) :: _) rfl rfl (x_gf (k := k) rfl hO rfl) rfl ?_
                    refine w_p (pc1 := 32) rfl rfl ?_
                    refine w_m0 (pc1 := 33) (st1 := .int 13 :: _) rfl rfl (x_ile (k := k1) (e := pre.length) hA (by omega) (by omega) (h1)) rfl ?_
                    refine w_p (pc1 := 35) (al1 := [(7, .int 13), (6, .int (nI (pre.length))), (5, .int (nI (r0.length + 1 + 1))), (0, .ref (241 + k)), (1, .ref 114), (2, .int (nI (p))), (3, .ref (kN + 100)), (4, .ref (kO + 100))]) rfl rfl ?_
                    refine w_p (pc1 := 37) rfl rfl ?_
                    refine w_p (pc1 := 38) (st1 := .int 4 :: _) rfl rfl ?_
                    refine w_t (a := 86) (b := 41) rfl rfl rfl ?_
                    refine w_p (pc1 := 88) rfl rfl ?_
                    refine w_p (pc1 := 90) (st1 := .int 8 :: _) rfl rfl ?_
                    refine w_t (a := 129) (b := 93) rfl rfl rfl ?_
                    refine w_p (pc1 := 131) rfl rfl ?_
                    refine w_p (pc1 := 132) (st1 := .int 2 :: _) rfl rfl ?_
                    refine w_t (a := 139) (b := 135) (bN_ge_t (a := r0.length + 1 + 1) (b := 2) (by omega) (by omega) (by omega)) rfl rfl ?_
                    refine w_iinc (pc1 := 142) (u := nI (r0.length + 1 + 1)) (z := nI (r0.length + 1)) (al1 := [(5, .int (nI (r0.length + 1))), (7, .int 13), (6, .int (nI (pre.length))), (0, .ref (241 + k)), (1, .ref 114), (2, .int (nI (p))), (3, .ref (kN + 100)), (4, .ref (kO + 100))]) rfl rfl rfl (nK_p.trans nK_s) rfl rfl ?_
                    refine w_p (pc1 := 143) rfl rfl ?_
                    refine w_m0 (pc1 := 146) (st1 := .ref (241 + k3) :: _) rfl rfl (x_gf (k := k) rfl hO rfl) rfl ?_
                    refine w_p (pc1 := 148) rfl rfl ?_
                    refine w_p (pc1 := 149) (st1 := .int 1 :: _) rfl rfl ?_
                    refine w_isub (pc1 := 150) (u := nI (r0.length + 1)) (v := nI (1)) (z := nI (r0.length + 1 - 1)) rfl (nK_sub (by omega)) rfl ?_
                    refine w_p (pc1 := 151) rfl rfl ?_
                    refine w_p (pc1 := 153) rfl rfl ?_
                    refine w_p (pc1 := 154) rfl rfl ?_
                    refine w_m0 (pc1 := 157) (st1 := .ref (241 + k3) :: _) rfl rfl (x_gf (k := k) rfl hO rfl) rfl ?_
                    refine w_p (pc1 := 159) rfl rfl ?_
                    refine w_p (pc1 := 160) (st1 := .int 1 :: _) rfl rfl ?_
                    refine w_isub (pc1 := 161) (u := nI (r0.length + 1)) (v := nI (1)) (z := nI (r0.length + 1 - 1)) rfl (nK_sub (by omega)) rfl ?_
                    refine w_m0 (pc1 := 162) (st1 := .long (v_K (.inl v)) :: _) rfl rfl (x_lle (k := k3) (e := r0.length + 1 - 1) hS (by omega) (by omega) (by rw [Nat.add_sub_cancel]; exact hs.2.1)) rfl ?_
                    refine w_p (pc1 := 163) rfl rfl ?_
                    refine w_m0 (pc1 := 166) (st1 := .ref (241 + k3) :: _) rfl rfl (x_gf (k := k) rfl hO rfl) rfl ?_
                    refine w_p (pc1 := 168) rfl rfl ?_
                    refine w_m0 (pc1 := 169) (st1 := .long (v_K (.inl w)) :: _) rfl rfl (x_lle (k := k3) (e := r0.length + 1) hS (by omega) (by omega) (hs.1)) rfl ?_
                    refine w_je (pc1 := 172) (vs := [.ref (241 + k), .int 13, .long (v_K (.inl v)), .long (v_K (.inl w))]) (rest := [.int (nI (r0.length + 1 - 1)), .ref (241 + k3)]) (st1 := [.long (o2K (u_2 g 13 (.inl v) (.inl w))), .int (nI (r0.length + 1 - 1)), .ref (241 + k3)]) (m_116_13 (d := d + 1) (sl := 0) hO) rfl rfl rfl (fun _ _ => rfl) rfl (by exact cl_v my_116 rfl rfl rfl (Nat.le_of_ble_eq_true rfl) rfl (x_obj hO) rfl (by decide) rfl rfl) (by rfl) (Nat.le_of_ble_eq_true rfl) (Nat.le_of_ble_eq_true rfl) rfl (by rfl) ?_
                    refine w_m0 (pc1 := 173) rfl rfl (x_ls (k := k3) (e := r0.length + 1 - 1) hS (by omega) (by omega)) rfl ?_
                    rw [show (t0.set k3 (sCell Q.length s)).set k3 (Sum.inl (1, Q.length, Sum.inr (Sum.inl (vp_updL s (r0.length + 1 - 1) (o2K (u_2 g 13 (.inl v) (.inl w))))))) = t0.set k3 (sCell Q.length (vp_updL s (r0.length + 1 - 1) (o2K (u_2 g 13 (.inl v) (.inl w))))) from List.set_set _]
                    obtain ⟨hO2, -, -, hS2⟩ := FO_s F0 (vp_updL s (r0.length + 1 - 1) (o2K (u_2 g 13 (.inl v) (.inl w))))
                    refine w_p (pc1 := 174) rfl rfl ?_
                    refine w_m0 (pc1 := 177) (st1 := .ref (241 + k3) :: _) rfl rfl (x_gf (k := k) rfl hO2 rfl) rfl ?_
                    refine w_p (pc1 := 179) rfl rfl ?_
                    refine w_p (pc1 := 180) (st1 := .int 1 :: _) rfl rfl ?_
                    refine w_isub (pc1 := 181) (u := nI (r0.length + 1)) (v := nI (1)) (z := nI (r0.length + 1 - 1)) rfl (nK_sub (by omega)) rfl ?_
                    refine w_m0 (pc1 := 182) (st1 := .long (o2K (u_2 g 13 (.inl v) (.inl w))) :: _) rfl rfl (x_lle (k := k3) (e := r0.length + 1 - 1) hS2 (by omega) (by omega) (upd_s)) rfl ?_
                    refine w_m0 (pc1 := 185) (st1 := .long (-9223372036854775807) :: _) rfl rfl rfl rfl ?_
                    refine w_p (pc1 := 186) rfl rfl ?_
                    refine w_f (a := 193) (b := 189) (lb_ne_f (by rw [hu]; rfl)) rfl rfl ?_
                    refine w_m0 (pc1 := 192) (st1 := .long (-9223372036854775807) :: _) rfl rfl rfl rfl ?_
                    refine w_r rfl rfl rfl (fun _ _ => rfl) rfl ?_
                    exact ⟨_, rfl, rfl, rfl⟩
                  | some z1 =>
                    show Wd _ _ _ _ _ (WK C t0 k3 Q.length sl (f_l g R N O l (z1 :: r0))) _
                    have hb : t_l w1 w2 w3 l ((z1 :: r0).map tyv) = some [b] := by
                      have : tyv z1 = true := by rw [u2_B (by unfold isB; decide)] at hu; cases hu; rfl
                      show t_l w1 w2 w3 l (tyv z1 :: r0.map tyv) = _
                      rw [this]
                      exact hb
                    refine w_p (pc1 := 8) rfl rfl ?_
                    refine w_p (pc1 := 9) rfl rfl ?_
                    refine w_m0 (pc1 := 12) (st1 := .ref (241 + k1) :: _) rfl rfl (x_gf (k := k) rfl hO rfl) rfl ?_
                    refine w_m0 (pc1 := 13) (st1 := .int (nI (Q.length)) :: _) rfl rfl (x_ln (k := k1) hA (by decide)) rfl ?_
                    refine w_f (a := 199) (b := 16) (bN_ge_f (a := pre.length) (b := Q.length) (by omega) (by omega) (by omega)) rfl rfl ?_
                    refine w_p (pc1 := 18) rfl rfl ?_
                    refine w_p (pc1 := 19) rfl rfl ?_
                    refine w_m0 (pc1 := 22) (st1 := .ref (241 + k2) :: _) rfl rfl (x_gf (k := k) rfl hO rfl) rfl ?_
                    refine w_m0 (pc1 := 23) (st1 := .int (nI (Q.length)) :: _) rfl rfl (x_ln (k := k2) hB (by decide)) rfl ?_
                    refine w_f (a := 199) (b := 26) (bN_ge_f (a := pre.length) (b := Q.length) (by omega) (by omega) (by omega)) rfl rfl ?_
                    refine w_p (pc1 := 27) rfl rfl ?_
                    refine w_m0 (pc1 := 30) (st1 := .ref (241 + k1) :: _) rfl rfl (x_gf (k := k) rfl hO rfl) rfl ?_
                    refine w_p (pc1 := 32) rfl rfl ?_
                    refine w_m0 (pc1 := 33) (st1 := .int 13 :: _) rfl rfl (x_ile (k := k1) (e := pre.length) hA (by omega) (by omega) (h1)) rfl ?_
                    refine w_p (pc1 := 35) (al1 := [(7, .int 13), (6, .int (nI (pre.length))), (5, .int (nI (r0.length + 1 + 1))), (0, .ref (241 + k)), (1, .ref 114), (2, .int (nI (p))), (3, .ref (kN + 100)), (4, .ref (kO + 100))]) rfl rfl ?_
                    refine w_p (pc1 := 37) rfl rfl ?_
                    refine w_p (pc1 := 38) (st1 := .int 4 :: _) rfl rfl ?_
                    refine w_t (a := 86) (b := 41) rfl rfl rfl ?_
                    refine w_p (pc1 := 88) rfl rfl ?_
                    refine w_p (pc1 := 90) (st1 := .int 8 :: _) rfl rfl ?_
                    refine w_t (a := 129) (b := 93) rfl rfl rfl ?_
                    refine w_p (pc1 := 131) rfl rfl ?_
                    refine w_p (pc1 := 132) (st1 := .int 2 :: _) rfl rfl ?_
                    refine w_t (a := 139) (b := 135) (bN_ge_t (a := r0.length + 1 + 1) (b := 2) (by omega) (by omega) (by omega)) rfl rfl ?_
                    refine w_iinc (pc1 := 142) (u := nI (r0.length + 1 + 1)) (z := nI (r0.length + 1)) (al1 := [(5, .int (nI (r0.length + 1))), (7, .int 13), (6, .int (nI (pre.length))), (0, .ref (241 + k)), (1, .ref 114), (2, .int (nI (p))), (3, .ref (kN + 100)), (4, .ref (kO + 100))]) rfl rfl rfl (nK_p.trans nK_s) rfl rfl ?_
                    refine w_p (pc1 := 143) rfl rfl ?_
                    refine w_m0 (pc1 := 146) (st1 := .ref (241 + k3) :: _) rfl rfl (x_gf (k := k) rfl hO rfl) rfl ?_
                    refine w_p (pc1 := 148) rfl rfl ?_
                    refine w_p (pc1 := 149) (st1 := .int 1 :: _) rfl rfl ?_
                    refine w_isub (pc1 := 150) (u := nI (r0.length + 1)) (v := nI (1)) (z := nI (r0.length + 1 - 1)) rfl (nK_sub (by omega)) rfl ?_
                    refine w_p (pc1 := 151) rfl rfl ?_
                    refine w_p (pc1 := 153) rfl rfl ?_
                    refine w_p (pc1 := 154) rfl rfl ?_
                    refine w_m0 (pc1 := 157) (st1 := .ref (241 + k3) :: _) rfl rfl (x_gf (k := k) rfl hO rfl) rfl ?_
                    refine w_p (pc1 := 159) rfl rfl ?_
                    refine w_p (pc1 := 160) (st1 := .int 1 :: _) rfl rfl ?_
                    refine w_isub (pc1 := 161) (u := nI (r0.length + 1)) (v := nI (1)) (z := nI (r0.length + 1 - 1)) rfl (nK_sub (by omega)) rfl ?_
                    refine w_m0 (pc1 := 162) (st1 := .long (v_K (.inl v)) :: _) rfl rfl (x_lle (k := k3) (e := r0.length + 1 - 1) hS (by omega) (by omega) (by rw [Nat.add_sub_cancel]; exact hs.2.1)) rfl ?_
                    refine w_p (pc1 := 163) rfl rfl ?_
                    refine w_m0 (pc1 := 166) (st1 := .ref (241 + k3) :: _) rfl rfl (x_gf (k := k) rfl hO rfl) rfl ?_
                    refine w_p (pc1 := 168) rfl rfl ?_
                    refine w_m0 (pc1 := 169) (st1 := .long (v_K (.inl w)) :: _) rfl rfl (x_lle (k := k3) (e := r0.length + 1) hS (by omega) (by omega) (hs.1)) rfl ?_
                    refine w_je (pc1 := 172) (vs := [.ref (241 + k), .int 13, .long (v_K (.inl v)), .long (v_K (.inl w))]) (rest := [.int (nI (r0.length + 1 - 1)), .ref (241 + k3)]) (st1 := [.long (o2K (u_2 g 13 (.inl v) (.inl w))), .int (nI (r0.length + 1 - 1)), .ref (241 + k3)]) (m_116_13 (d := d + 1) (sl := 0) hO) rfl rfl rfl (fun _ _ => rfl) rfl (by exact cl_v my_116 rfl rfl rfl (Nat.le_of_ble_eq_true rfl) rfl (x_obj hO) rfl (by decide) rfl rfl) (by rfl) (Nat.le_of_ble_eq_true rfl) (Nat.le_of_ble_eq_true rfl) rfl (by rfl) ?_
                    refine w_m0 (pc1 := 173) rfl rfl (x_ls (k := k3) (e := r0.length + 1 - 1) hS (by omega) (by omega)) rfl ?_
                    rw [show (t0.set k3 (sCell Q.length s)).set k3 (Sum.inl (1, Q.length, Sum.inr (Sum.inl (vp_updL s (r0.length + 1 - 1) (o2K (u_2 g 13 (.inl v) (.inl w))))))) = t0.set k3 (sCell Q.length (vp_updL s (r0.length + 1 - 1) (o2K (u_2 g 13 (.inl v) (.inl w))))) from List.set_set _]
                    obtain ⟨hO2, -, -, hS2⟩ := FO_s F0 (vp_updL s (r0.length + 1 - 1) (o2K (u_2 g 13 (.inl v) (.inl w))))
                    refine w_p (pc1 := 174) rfl rfl ?_
                    refine w_m0 (pc1 := 177) (st1 := .ref (241 + k3) :: _) rfl rfl (x_gf (k := k) rfl hO2 rfl) rfl ?_
                    refine w_p (pc1 := 179) rfl rfl ?_
                    refine w_p (pc1 := 180) (st1 := .int 1 :: _) rfl rfl ?_
                    refine w_isub (pc1 := 181) (u := nI (r0.length + 1)) (v := nI (1)) (z := nI (r0.length + 1 - 1)) rfl (nK_sub (by omega)) rfl ?_
                    refine w_m0 (pc1 := 182) (st1 := .long (o2K (u_2 g 13 (.inl v) (.inl w))) :: _) rfl rfl (x_lle (k := k3) (e := r0.length + 1 - 1) hS2 (by omega) (by omega) (upd_s)) rfl ?_
                    refine w_m0 (pc1 := 185) (st1 := .long (-9223372036854775807) :: _) rfl rfl rfl rfl ?_
                    refine w_p (pc1 := 186) rfl rfl ?_
                    refine w_t (a := 193) (b := 189) (lb_ne_t (by rw [hu]; exact v_K_un _)) rfl rfl ?_
                    refine w_iinc (pc1 := 196) (u := nI (pre.length)) (z := nI (pre.length + 1)) (al1 := [(6, .int (nI (pre.length + 1))), (5, .int (nI (r0.length + 1))), (7, .int 13), (0, .ref (241 + k)), (1, .ref 114), (2, .int (nI (p))), (3, .ref (kN + 100)), (4, .ref (kO + 100))]) rfl rfl rfl nK_1 rfl rfl ?_
                    refine w_p (pc1 := 6) rfl rfl ?_
                    refine Wd_al (al := [(6, .int (nI (pre.length + 1))), (5, .int (nI (r0.length + 1))), (0, .ref (241 + k)), (1, .ref 114), (2, .int (nI (p))), (3, .ref (kN + 100)), (4, .ref (kO + 100))]) (sba_p [0, 1, 3, 4, 5, 6, 7] rfl rfl) ?_
                    exact ih (z1 :: r0) _ hQ2 ⟨b, hb⟩ (show r0.length + 1 ≤ pre.length + 1 by omega) ⟨by rw [Nat.add_sub_cancel, upd_s, hu]; rfl, skR_u hs.2.2 (by omega)⟩
                · obtain rfl : a = 14 := e1
                  rw [fo_14]
                  cases hu : u_2 g 14 (.inl v) (.inl w) with
                  | none =>
                    show Wd _ _ _ _ _ (WK C t0 k3 Q.length sl none) _
                    refine w_p (pc1 := 8) rfl rfl ?_
                    refine w_p (pc1 := 9) rfl rfl ?_
                    refine w_m0 (pc1 := 12) (st1 := .ref (241 + k1) :: _) rfl rfl (x_gf (k := k) rfl hO rfl) rfl ?_
                    refine w_m0 (pc1 := 13) (st1 := .int (nI (Q.length)) :: _) rfl rfl (x_ln (k := k1) hA (by decide)) rfl ?_
                    refine w_f (a := 199) (b := 16) (bN_ge_f (a := pre.length) (b := Q.length) (by omega) (by omega) (by omega)) rfl rfl ?_
                    refine w_p (pc1 := 18) rfl rfl ?_
                    refine w_p (pc1 := 19) rfl rfl ?_
                    refine w_m0 (pc1 := 22) (st1 := .ref (241 + k2) :: _) rfl rfl (x_gf (k := k) rfl hO rfl) rfl ?_
                    refine w_m0 (pc1 := 23) (st1 := .int (nI (Q.length)) :: _) rfl rfl (x_ln (k := k2) hB (by decide)) rfl ?_
                    refine w_f (a := 199) (b := 26) (bN_ge_f (a := pre.length) (b := Q.length) (by omega) (by omega) (by omega)) rfl rfl ?_
                    refine w_p (pc1 := 27) rfl rfl ?_
                    refine w_m0 (pc1 := 30) (st1 := .ref (241 + k1) :: _) rfl rfl (x_gf (k := k) rfl hO rfl) rfl ?_
                    refine w_p (pc1 := 32) rfl rfl ?_
                    refine w_m0 (pc1 := 33) (st1 := .int 14 :: _) rfl rfl (x_ile (k := k1) (e := pre.length) hA (by omega) (by omega) (h1)) rfl ?_
                    refine w_p (pc1 := 35) (al1 := [(7, .int 14), (6, .int (nI (pre.length))), (5, .int (nI (r0.length + 1 + 1))), (0, .ref (241 + k)), (1, .ref 114), (2, .int (nI (p))), (3, .ref (kN + 100)), (4, .ref (kO + 100))]) rfl rfl ?_
                    refine w_p (pc1 := 37) rfl rfl ?_
                    refine w_p (pc1 := 38) (st1 := .int 4 :: _) rfl rfl ?_
                    refine w_t (a := 86) (b := 41) rfl rfl rfl ?_
                    refine w_p (pc1 := 88) rfl rfl ?_
                    refine w_p (pc1 := 90) (st1 := .int 8 :: _) rfl rfl ?_
                    refine w_t (a := 129) (b := 93) rfl rfl rfl ?_
                    refine w_p (pc1 := 131) rfl rfl ?_
                    refine w_p (pc1 := 132) (st1 := .int 2 :: _) rfl rfl ?_
                    refine w_t (a := 139) (b := 135) (bN_ge_t (a := r0.length + 1 + 1) (b := 2) (by omega) (by omega) (by omega)) rfl rfl ?_
                    refine w_iinc (pc1 := 142) (u := nI (r0.length + 1 + 1)) (z := nI (r0.length + 1)) (al1 := [(5, .int (nI (r0.length + 1))), (7, .int 14), (6, .int (nI (pre.length))), (0, .ref (241 + k)), (1, .ref 114), (2, .int (nI (p))), (3, .ref (kN + 100)), (4, .ref (kO + 100))]) rfl rfl rfl (nK_p.trans nK_s) rfl rfl ?_
                    refine w_p (pc1 := 143) rfl rfl ?_
                    refine w_m0 (pc1 := 146) (st1 := .ref (241 + k3) :: _) rfl rfl (x_gf (k := k) rfl hO rfl) rfl ?_
                    refine w_p (pc1 := 148) rfl rfl ?_
                    refine w_p (pc1 := 149) (st1 := .int 1 :: _) rfl rfl ?_
                    refine w_isub (pc1 := 150) (u := nI (r0.length + 1)) (v := nI (1)) (z := nI (r0.length + 1 - 1)) rfl (nK_sub (by omega)) rfl ?_
                    refine w_p (pc1 := 151) rfl rfl ?_
                    refine w_p (pc1 := 153) rfl rfl ?_
                    refine w_p (pc1 := 154) rfl rfl ?_
                    refine w_m0 (pc1 := 157) (st1 := .ref (241 + k3) :: _) rfl rfl (x_gf (k := k) rfl hO rfl) rfl ?_
                    refine w_p (pc1 := 159) rfl rfl ?_
                    refine w_p (pc1 := 160) (st1 := .int 1 :: _) rfl rfl ?_
                    refine w_isub (pc1 := 161) (u := nI (r0.length + 1)) (v := nI (1)) (z := nI (r0.length + 1 - 1)) rfl (nK_sub (by omega)) rfl ?_
                    refine w_m0 (pc1 := 162) (st1 := .long (v_K (.inl v)) :: _) rfl rfl (x_lle (k := k3) (e := r0.length + 1 - 1) hS (by omega) (by omega) (by rw [Nat.add_sub_cancel]; exact hs.2.1)) rfl ?_
                    refine w_p (pc1 := 163) rfl rfl ?_
                    refine w_m0 (pc1 := 166) (st1 := .ref (241 + k3) :: _) rfl rfl (x_gf (k := k) rfl hO rfl) rfl ?_
                    refine w_p (pc1 := 168) rfl rfl ?_
                    refine w_m0 (pc1 := 169) (st1 := .long (v_K (.inl w)) :: _) rfl rfl (x_lle (k := k3) (e := r0.length + 1) hS (by omega) (by omega) (hs.1)) rfl ?_
                    refine w_je (pc1 := 172) (vs := [.ref (241 + k), .int 14, .long (v_K (.inl v)), .long (v_K (.inl w))]) (rest := [.int (nI (r0.length + 1 - 1)), .ref (241 + k3)]) (st1 := [.long (o2K (u_2 g 14 (.inl v) (.inl w))), .int (nI (r0.length + 1 - 1)), .ref (241 + k3)]) (m_116_14 (d := d + 1) (sl := 0) hO) rfl rfl rfl (fun _ _ => rfl) rfl (by exact cl_v my_116 rfl rfl rfl (Nat.le_of_ble_eq_true rfl) rfl (x_obj hO) rfl (by decide) rfl rfl) (by rfl) (Nat.le_of_ble_eq_true rfl) (Nat.le_of_ble_eq_true rfl) rfl (by rfl) ?_
                    refine w_m0 (pc1 := 173) rfl rfl (x_ls (k := k3) (e := r0.length + 1 - 1) hS (by omega) (by omega)) rfl ?_
                    rw [show (t0.set k3 (sCell Q.length s)).set k3 (Sum.inl (1, Q.length, Sum.inr (Sum.inl (vp_updL s (r0.length + 1 - 1) (o2K (u_2 g 14 (.inl v) (.inl w))))))) = t0.set k3 (sCell Q.length (vp_updL s (r0.length + 1 - 1) (o2K (u_2 g 14 (.inl v) (.inl w))))) from List.set_set _]
                    obtain ⟨hO2, -, -, hS2⟩ := FO_s F0 (vp_updL s (r0.length + 1 - 1) (o2K (u_2 g 14 (.inl v) (.inl w))))
                    refine w_p (pc1 := 174) rfl rfl ?_
                    refine w_m0 (pc1 := 177) (st1 := .ref (241 + k3) :: _) rfl rfl (x_gf (k := k) rfl hO2 rfl) rfl ?_
                    refine w_p (pc1 := 179) rfl rfl ?_
                    refine w_p (pc1 := 180) (st1 := .int 1 :: _) rfl rfl ?_
                    refine w_isub (pc1 := 181) (u := nI (r0.length + 1)) (v := nI (1)) (z := nI (r0.length + 1 - 1)) rfl (nK_sub (by omega)) rfl ?_
                    refine w_m0 (pc1 := 182) (st1 := .long (o2K (u_2 g 14 (.inl v) (.inl w))) :: _) rfl rfl (x_lle (k := k3) (e := r0.length + 1 - 1) hS2 (by omega) (by omega) (upd_s)) rfl ?_
                    refine w_m0 (pc1 := 185) (st1 := .long (-9223372036854775807) :: _) rfl rfl rfl rfl ?_
                    refine w_p (pc1 := 186) rfl rfl ?_
                    refine w_f (a := 193) (b := 189) (lb_ne_f (by rw [hu]; rfl)) rfl rfl ?_
                    refine w_m0 (pc1 := 192) (st1 := .long (-9223372036854775807) :: _) rfl rfl rfl rfl ?_
                    refine w_r rfl rfl rfl (fun _ _ => rfl) rfl ?_
                    exact ⟨_, rfl, rfl, rfl⟩
                  | some z1 =>
                    show Wd _ _ _ _ _ (WK C t0 k3 Q.length sl (f_l g R N O l (z1 :: r0))) _
                    have hb : t_l w1 w2 w3 l ((z1 :: r0).map tyv) = some [b] := by
                      have : tyv z1 = true := by rw [u2_B (by unfold isB; decide)] at hu; cases hu; rfl
                      show t_l w1 w2 w3 l (tyv z1 :: r0.map tyv) = _
                      rw [this]
                      exact hb
                    refine w_p (pc1 := 8) rfl rfl ?_
                    refine w_p (pc1 := 9) rfl rfl ?_
                    refine w_m0 (pc1 := 12) (st1 := .ref (241 + k1) :: _) rfl rfl (x_gf (k := k) rfl hO rfl) rfl ?_
                    refine w_m0 (pc1 := 13) (st1 := .int (nI (Q.length)) :: _) rfl rfl (x_ln (k := k1) hA (by decide)) rfl ?_
                    refine w_f (a := 199) (b := 16) (bN_ge_f (a := pre.length) (b := Q.length) (by omega) (by omega) (by omega)) rfl rfl ?_
                    refine w_p (pc1 := 18) rfl rfl ?_
                    refine w_p (pc1 := 19) rfl rfl ?_
                    refine w_m0 (pc1 := 22) (st1 := .ref (241 + k2) :: _) rfl rfl (x_gf (k := k) rfl hO rfl) rfl ?_
                    refine w_m0 (pc1 := 23) (st1 := .int (nI (Q.length)) :: _) rfl rfl (x_ln (k := k2) hB (by decide)) rfl ?_
                    refine w_f (a := 199) (b := 26) (bN_ge_f (a := pre.length) (b := Q.length) (by omega) (by omega) (by omega)) rfl rfl ?_
                    refine w_p (pc1 := 27) rfl rfl ?_
                    refine w_m0 (pc1 := 30) (st1 := .ref (241 + k1) :: _) rfl rfl (x_gf (k := k) rfl hO rfl) rfl ?_
                    refine w_p (pc1 := 32) rfl rfl ?_
                    refine w_m0 (pc1 := 33) (st1 := .int 14 :: _) rfl rfl (x_ile (k := k1) (e := pre.length) hA (by omega) (by omega) (h1)) rfl ?_
                    refine w_p (pc1 := 35) (al1 := [(7, .int 14), (6, .int (nI (pre.length))), (5, .int (nI (r0.length + 1 + 1))), (0, .ref (241 + k)), (1, .ref 114), (2, .int (nI (p))), (3, .ref (kN + 100)), (4, .ref (kO + 100))]) rfl rfl ?_
                    refine w_p (pc1 := 37) rfl rfl ?_
                    refine w_p (pc1 := 38) (st1 := .int 4 :: _) rfl rfl ?_
                    refine w_t (a := 86) (b := 41) rfl rfl rfl ?_
                    refine w_p (pc1 := 88) rfl rfl ?_
                    refine w_p (pc1 := 90) (st1 := .int 8 :: _) rfl rfl ?_
                    refine w_t (a := 129) (b := 93) rfl rfl rfl ?_
                    refine w_p (pc1 := 131) rfl rfl ?_
                    refine w_p (pc1 := 132) (st1 := .int 2 :: _) rfl rfl ?_
                    refine w_t (a := 139) (b := 135) (bN_ge_t (a := r0.length + 1 + 1) (b := 2) (by omega) (by omega) (by omega)) rfl rfl ?_
                    refine w_iinc (pc1 := 142) (u := nI (r0.length + 1 + 1)) (z := nI (r0.length + 1)) (al1 := [(5, .int (nI (r0.length + 1))), (7, .int 14), (6, .int (nI (pre.length))), (0, .ref (241 + k)), (1, .ref 114), (2, .int (nI (p))), (3, .ref (kN + 100)), (4, .ref (kO + 100))]) rfl rfl rfl (nK_p.trans nK_s) rfl rfl ?_
                    refine w_p (pc1 := 143) rfl rfl ?_
                    refine w_m0 (pc1 := 146) (st1 := .ref (241 + k3) :: _) rfl rfl (x_gf (k := k) rfl hO rfl) rfl ?_
                    refine w_p (pc1 := 148) rfl rfl ?_
                    refine w_p (pc1 := 149) (st1 := .int 1 :: _) rfl rfl ?_
                    refine w_isub (pc1 := 150) (u := nI (r0.length + 1)) (v := nI (1)) (z := nI (r0.length + 1 - 1)) rfl (nK_sub (by omega)) rfl ?_
                    refine w_p (pc1 := 151) rfl rfl ?_
                    refine w_p (pc1 := 153) rfl rfl ?_
                    refine w_p (pc1 := 154) rfl rfl ?_
                    refine w_m0 (pc1 := 157) (st1 := .ref (241 + k3) :: _) rfl rfl (x_gf (k := k) rfl hO rfl) rfl ?_
                    refine w_p (pc1 := 159) rfl rfl ?_
                    refine w_p (pc1 := 160) (st1 := .int 1 :: _) rfl rfl ?_
                    refine w_isub (pc1 := 161) (u := nI (r0.length + 1)) (v := nI (1)) (z := nI (r0.length + 1 - 1)) rfl (nK_sub (by omega)) rfl ?_
                    refine w_m0 (pc1 := 162) (st1 := .long (v_K (.inl v)) :: _) rfl rfl (x_lle (k := k3) (e := r0.length + 1 - 1) hS (by omega) (by omega) (by rw [Nat.add_sub_cancel]; exact hs.2.1)) rfl ?_
                    refine w_p (pc1 := 163) rfl rfl ?_
                    refine w_m0 (pc1 := 166) (st1 := .ref (241 + k3) :: _) rfl rfl (x_gf (k := k) rfl hO rfl) rfl ?_
                    refine w_p (pc1 := 168) rfl rfl ?_
                    refine w_m0 (pc1 := 169) (st1 := .long (v_K (.inl w)) :: _) rfl rfl (x_lle (k := k3) (e := r0.length + 1) hS (by omega) (by omega) (hs.1)) rfl ?_
                    refine w_je (pc1 := 172) (vs := [.ref (241 + k), .int 14, .long (v_K (.inl v)), .long (v_K (.inl w))]) (rest := [.int (nI (r0.length + 1 - 1)), .ref (241 + k3)]) (st1 := [.long (o2K (u_2 g 14 (.inl v) (.inl w))), .int (nI (r0.length + 1 - 1)), .ref (241 + k3)]) (m_116_14 (d := d + 1) (sl := 0) hO) rfl rfl rfl (fun _ _ => rfl) rfl (by exact cl_v my_116 rfl rfl rfl (Nat.le_of_ble_eq_true rfl) rfl (x_obj hO) rfl (by decide) rfl rfl) (by rfl) (Nat.le_of_ble_eq_true rfl) (Nat.le_of_ble_eq_true rfl) rfl (by rfl) ?_
                    refine w_m0 (pc1 := 173) rfl rfl (x_ls (k := k3) (e := r0.length + 1 - 1) hS (by omega) (by omega)) rfl ?_
                    rw [show (t0.set k3 (sCell Q.length s)).set k3 (Sum.inl (1, Q.length, Sum.inr (Sum.inl (vp_updL s (r0.length + 1 - 1) (o2K (u_2 g 14 (.inl v) (.inl w))))))) = t0.set k3 (sCell Q.length (vp_updL s (r0.length + 1 - 1) (o2K (u_2 g 14 (.inl v) (.inl w))))) from List.set_set _]
                    obtain ⟨hO2, -, -, hS2⟩ := FO_s F0 (vp_updL s (r0.length + 1 - 1) (o2K (u_2 g 14 (.inl v) (.inl w))))
                    refine w_p (pc1 := 174) rfl rfl ?_
                    refine w_m0 (pc1 := 177) (st1 := .ref (241 + k3) :: _) rfl rfl (x_gf (k := k) rfl hO2 rfl) rfl ?_
                    refine w_p (pc1 := 179) rfl rfl ?_
                    refine w_p (pc1 := 180) (st1 := .int 1 :: _) rfl rfl ?_
                    refine w_isub (pc1 := 181) (u := nI (r0.length + 1)) (v := nI (1)) (z := nI (r0.length + 1 - 1)) rfl (nK_sub (by omega)) rfl ?_
                    refine w_m0 (pc1 := 182) (st1 := .long (o2K (u_2 g 14 (.inl v) (.inl w))) :: _) rfl rfl (x_lle (k := k3) (e := r0.length + 1 - 1) hS2 (by omega) (by omega) (upd_s)) rfl ?_
                    refine w_m0 (pc1 := 185) (st1 := .long (-9223372036854775807) :: _) rfl rfl rfl rfl ?_
                    refine w_p (pc1 := 186) rfl rfl ?_
                    refine w_t (a := 193) (b := 189) (lb_ne_t (by rw [hu]; exact v_K_un _)) rfl rfl ?_
                    refine w_iinc (pc1 := 196) (u := nI (pre.length)) (z := nI (pre.length + 1)) (al1 := [(6, .int (nI (pre.length + 1))), (5, .int (nI (r0.length + 1))), (7, .int 14), (0, .ref (241 + k)), (1, .ref 114), (2, .int (nI (p))), (3, .ref (kN + 100)), (4, .ref (kO + 100))]) rfl rfl rfl nK_1 rfl rfl ?_
                    refine w_p (pc1 := 6) rfl rfl ?_
                    refine Wd_al (al := [(6, .int (nI (pre.length + 1))), (5, .int (nI (r0.length + 1))), (0, .ref (241 + k)), (1, .ref 114), (2, .int (nI (p))), (3, .ref (kN + 100)), (4, .ref (kO + 100))]) (sba_p [0, 1, 3, 4, 5, 6, 7] rfl rfl) ?_
                    exact ih (z1 :: r0) _ hQ2 ⟨b, hb⟩ (show r0.length + 1 ≤ pre.length + 1 by omega) ⟨by rw [Nat.add_sub_cancel, upd_s, hu]; rfl, skR_u hs.2.2 (by omega)⟩
                · obtain rfl : a = 15 := e1
                  rw [fo_15]
                  cases hu : u_2 g 15 (.inl v) (.inl w) with
                  | none =>
                    show Wd _ _ _ _ _ (WK C t0 k3 Q.length sl none) _
                    refine w_p (pc1 := 8) rfl rfl ?_
                    refine w_p (pc1 := 9) rfl rfl ?_
                    refine w_m0 (pc1 := 12) (st1 := .ref (241 + k1) :: _) rfl rfl (x_gf (k := k) rfl hO rfl) rfl ?_
                    refine w_m0 (pc1 := 13) (st1 := .int (nI (Q.length)) :: _) rfl rfl (x_ln (k := k1) hA (by decide)) rfl ?_
                    refine w_f (a := 199) (b := 16) (bN_ge_f (a := pre.length) (b := Q.length) (by omega) (by omega) (by omega)) rfl rfl ?_
                    refine w_p (pc1 := 18) rfl rfl ?_
                    refine w_p (pc1 := 19) rfl rfl ?_
                    refine w_m0 (pc1 := 22) (st1 := .ref (241 + k2) :: _) rfl rfl (x_gf (k := k) rfl hO rfl) rfl ?_
                    refine w_m0 (pc1 := 23) (st1 := .int (nI (Q.length)) :: _) rfl rfl (x_ln (k := k2) hB (by decide)) rfl ?_
                    refine w_f (a := 199) (b := 26) (bN_ge_f (a := pre.length) (b := Q.length) (by omega) (by omega) (by omega)) rfl rfl ?_
                    refine w_p (pc1 := 27) rfl rfl ?_
                    refine w_m0 (pc1 := 30) (st1 := .ref (241 + k1) :: _) rfl rfl (x_gf (k := k) rfl hO rfl) rfl ?_
                    refine w_p (pc1 := 32) rfl rfl ?_
                    refine w_m0 (pc1 := 33) (st1 := .int 15 :: _) rfl rfl (x_ile (k := k1) (e := pre.length) hA (by omega) (by omega) (h1)) rfl ?_
                    refine w_p (pc1 := 35) (al1 := [(7, .int 15), (6, .int (nI (pre.length))), (5, .int (nI (r0.length + 1 + 1))), (0, .ref (241 + k)), (1, .ref 114), (2, .int (nI (p))), (3, .ref (kN + 100)), (4, .ref (kO + 100))]) rfl rfl ?_
                    refine w_p (pc1 := 37) rfl rfl ?_
                    refine w_p (pc1 := 38) (st1 := .int 4 :: _) rfl rfl ?_
                    refine w_t (a := 86) (b := 41) rfl rfl rfl ?_
                    refine w_p (pc1 := 88) rfl rfl ?_
                    refine w_p (pc1 := 90) (st1 := .int 8 :: _) rfl rfl ?_
                    refine w_t (a := 129) (b := 93) rfl rfl rfl ?_
                    refine w_p (pc1 := 131) rfl rfl ?_
                    refine w_p (pc1 := 132) (st1 := .int 2 :: _) rfl rfl ?_
                    refine w_t (a := 139) (b := 135) (bN_ge_t (a := r0.length + 1 + 1) (b := 2) (by omega) (by omega) (by omega)) rfl rfl ?_
                    refine w_iinc (pc1 := 142) (u := nI (r0.length + 1 + 1)) (z := nI (r0.length + 1)) (al1 := [(5, .int (nI (r0.length + 1))), (7, .int 15), (6, .int (nI (pre.length))), (0, .ref (241 + k)), (1, .ref 114), (2, .int (nI (p))), (3, .ref (kN + 100)), (4, .ref (kO + 100))]) rfl rfl rfl (nK_p.trans nK_s) rfl rfl ?_
                    refine w_p (pc1 := 143) rfl rfl ?_
                    refine w_m0 (pc1 := 146) (st1 := .ref (241 + k3) :: _) rfl rfl (x_gf (k := k) rfl hO rfl) rfl ?_
                    refine w_p (pc1 := 148) rfl rfl ?_
                    refine w_p (pc1 := 149) (st1 := .int 1 :: _) rfl rfl ?_
                    refine w_isub (pc1 := 150) (u := nI (r0.length + 1)) (v := nI (1)) (z := nI (r0.length + 1 - 1)) rfl (nK_sub (by omega)) rfl ?_
                    refine w_p (pc1 := 151) rfl rfl ?_
                    refine w_p (pc1 := 153) rfl rfl ?_
                    refine w_p (pc1 := 154) rfl rfl ?_
                    refine w_m0 (pc1 := 157) (st1 := .ref (241 + k3) :: _) rfl rfl (x_gf (k := k) rfl hO rfl) rfl ?_
                    refine w_p (pc1 := 159) rfl rfl ?_
                    refine w_p (pc1 := 160) (st1 := .int 1 :: _) rfl rfl ?_
                    refine w_isub (pc1 := 161) (u := nI (r0.length + 1)) (v := nI (1)) (z := nI (r0.length + 1 - 1)) rfl (nK_sub (by omega)) rfl ?_
                    refine w_m0 (pc1 := 162) (st1 := .long (v_K (.inl v)) :: _) rfl rfl (x_lle (k := k3) (e := r0.length + 1 - 1) hS (by omega) (by omega) (by rw [Nat.add_sub_cancel]; exact hs.2.1)) rfl ?_
                    refine w_p (pc1 := 163) rfl rfl ?_
                    refine w_m0 (pc1 := 166) (st1 := .ref (241 + k3) :: _) rfl rfl (x_gf (k := k) rfl hO rfl) rfl ?_
                    refine w_p (pc1 := 168) rfl rfl ?_
                    refine w_m0 (pc1 := 169) (st1 := .long (v_K (.inl w)) :: _) rfl rfl (x_lle (k := k3) (e := r0.length + 1) hS (by omega) (by omega) (hs.1)) rfl ?_
                    refine w_je (pc1 := 172) (vs := [.ref (241 + k), .int 15, .long (v_K (.inl v)), .long (v_K (.inl w))]) (rest := [.int (nI (r0.length + 1 - 1)), .ref (241 + k3)]) (st1 := [.long (o2K (u_2 g 15 (.inl v) (.inl w))), .int (nI (r0.length + 1 - 1)), .ref (241 + k3)]) (m_116_15 (d := d + 1) (sl := 0) hO) rfl rfl rfl (fun _ _ => rfl) rfl (by exact cl_v my_116 rfl rfl rfl (Nat.le_of_ble_eq_true rfl) rfl (x_obj hO) rfl (by decide) rfl rfl) (by rfl) (Nat.le_of_ble_eq_true rfl) (Nat.le_of_ble_eq_true rfl) rfl (by rfl) ?_
                    refine w_m0 (pc1 := 173) rfl rfl (x_ls (k := k3) (e := r0.length + 1 - 1) hS (by omega) (by omega)) rfl ?_
                    rw [show (t0.set k3 (sCell Q.length s)).set k3 (Sum.inl (1, Q.length, Sum.inr (Sum.inl (vp_updL s (r0.length + 1 - 1) (o2K (u_2 g 15 (.inl v) (.inl w))))))) = t0.set k3 (sCell Q.length (vp_updL s (r0.length + 1 - 1) (o2K (u_2 g 15 (.inl v) (.inl w))))) from List.set_set _]
                    obtain ⟨hO2, -, -, hS2⟩ := FO_s F0 (vp_updL s (r0.length + 1 - 1) (o2K (u_2 g 15 (.inl v) (.inl w))))
                    refine w_p (pc1 := 174) rfl rfl ?_
                    refine w_m0 (pc1 := 177) (st1 := .ref (241 + k3) :: _) rfl rfl (x_gf (k := k) rfl hO2 rfl) rfl ?_
                    refine w_p (pc1 := 179) rfl rfl ?_
                    refine w_p (pc1 := 180) (st1 := .int 1 :: _) rfl rfl ?_
                    refine w_isub (pc1 := 181) (u := nI (r0.length + 1)) (v := nI (1)) (z := nI (r0.length + 1 - 1)) rfl (nK_sub (by omega)) rfl ?_
                    refine w_m0 (pc1 := 182) (st1 := .long (o2K (u_2 g 15 (.inl v) (.inl w))) :: _) rfl rfl (x_lle (k := k3) (e := r0.length + 1 - 1) hS2 (by omega) (by omega) (upd_s)) rfl ?_
                    refine w_m0 (pc1 := 185) (st1 := .long (-9223372036854775807) :: _) rfl rfl rfl rfl ?_
                    refine w_p (pc1 := 186) rfl rfl ?_
                    refine w_f (a := 193) (b := 189) (lb_ne_f (by rw [hu]; rfl)) rfl rfl ?_
                    refine w_m0 (pc1 := 192) (st1 := .long (-9223372036854775807) :: _) rfl rfl rfl rfl ?_
                    refine w_r rfl rfl rfl (fun _ _ => rfl) rfl ?_
                    exact ⟨_, rfl, rfl, rfl⟩
                  | some z1 =>
                    show Wd _ _ _ _ _ (WK C t0 k3 Q.length sl (f_l g R N O l (z1 :: r0))) _
                    have hb : t_l w1 w2 w3 l ((z1 :: r0).map tyv) = some [b] := by
                      have : tyv z1 = true := by rw [u2_B (by unfold isB; decide)] at hu; cases hu; rfl
                      show t_l w1 w2 w3 l (tyv z1 :: r0.map tyv) = _
                      rw [this]
                      exact hb
                    refine w_p (pc1 := 8) rfl rfl ?_
                    refine w_p (pc1 := 9) rfl rfl ?_
                    refine w_m0 (pc1 := 12) (st1 := .ref (241 + k1) :: _) rfl rfl (x_gf (k := k) rfl hO rfl) rfl ?_
                    refine w_m0 (pc1 := 13) (st1 := .int (nI (Q.length)) :: _) rfl rfl (x_ln (k := k1) hA (by decide)) rfl ?_
                    refine w_f (a := 199) (b := 16) (bN_ge_f (a := pre.length) (b := Q.length) (by omega) (by omega) (by omega)) rfl rfl ?_
                    refine w_p (pc1 := 18) rfl rfl ?_
                    refine w_p (pc1 := 19) rfl rfl ?_
                    refine w_m0 (pc1 := 22) (st1 := .ref (241 + k2) :: _) rfl rfl (x_gf (k := k) rfl hO rfl) rfl ?_
                    refine w_m0 (pc1 := 23) (st1 := .int (nI (Q.length)) :: _) rfl rfl (x_ln (k := k2) hB (by decide)) rfl ?_
                    refine w_f (a := 199) (b := 26) (bN_ge_f (a := pre.length) (b := Q.length) (by omega) (by omega) (by omega)) rfl rfl ?_
                    refine w_p (pc1 := 27) rfl rfl ?_
                    refine w_m0 (pc1 := 30) (st1 := .ref (241 + k1) :: _) rfl rfl (x_gf (k := k) rfl hO rfl) rfl ?_
                    refine w_p (pc1 := 32) rfl rfl ?_
                    refine w_m0 (pc1 := 33) (st1 := .int 15 :: _) rfl rfl (x_ile (k := k1) (e := pre.length) hA (by omega) (by omega) (h1)) rfl ?_
                    refine w_p (pc1 := 35) (al1 := [(7, .int 15), (6, .int (nI (pre.length))), (5, .int (nI (r0.length + 1 + 1))), (0, .ref (241 + k)), (1, .ref 114), (2, .int (nI (p))), (3, .ref (kN + 100)), (4, .ref (kO + 100))]) rfl rfl ?_
                    refine w_p (pc1 := 37) rfl rfl ?_
                    refine w_p (pc1 := 38) (st1 := .int 4 :: _) rfl rfl ?_
                    refine w_t (a := 86) (b := 41) rfl rfl rfl ?_
                    refine w_p (pc1 := 88) rfl rfl ?_
                    refine w_p (pc1 := 90) (st1 := .int 8 :: _) rfl rfl ?_
                    refine w_t (a := 129) (b := 93) rfl rfl rfl ?_
                    refine w_p (pc1 := 131) rfl rfl ?_
                    refine w_p (pc1 := 132) (st1 := .int 2 :: _) rfl rfl ?_
                    refine w_t (a := 139) (b := 135) (bN_ge_t (a := r0.length + 1 + 1) (b := 2) (by omega) (by omega) (by omega)) rfl rfl ?_
                    refine w_iinc (pc1 := 142) (u := nI (r0.length + 1 + 1)) (z := nI (r0.length + 1)) (al1 := [(5, .int (nI (r0.length + 1))), (7, .int 15), (6, .int (nI (pre.length))), (0, .ref (241 + k)), (1, .ref 114), (2, .int (nI (p))), (3, .ref (kN + 100)), (4, .ref (kO + 100))]) rfl rfl rfl (nK_p.trans nK_s) rfl rfl ?_
                    refine w_p (pc1 := 143) rfl rfl ?_
                    refine w_m0 (pc1 := 146) (st1 := .ref (241 + k3) :: _) rfl rfl (x_gf (k := k) rfl hO rfl) rfl ?_
                    refine w_p (pc1 := 148) rfl rfl ?_
                    refine w_p (pc1 := 149) (st1 := .int 1 :: _) rfl rfl ?_
                    refine w_isub (pc1 := 150) (u := nI (r0.length + 1)) (v := nI (1)) (z := nI (r0.length + 1 - 1)) rfl (nK_sub (by omega)) rfl ?_
                    refine w_p (pc1 := 151) rfl rfl ?_
                    refine w_p (pc1 := 153) rfl rfl ?_
                    refine w_p (pc1 := 154) rfl rfl ?_
                    refine w_m0 (pc1 := 157) (st1 := .ref (241 + k3) :: _) rfl rfl (x_gf (k := k) rfl hO rfl) rfl ?_
                    refine w_p (pc1 := 159) rfl rfl ?_
                    refine w_p (pc1 := 160) (st1 := .int 1 :: _) rfl rfl ?_
                    refine w_isub (pc1 := 161) (u := nI (r0.length + 1)) (v := nI (1)) (z := nI (r0.length + 1 - 1)) rfl (nK_sub (by omega)) rfl ?_
                    refine w_m0 (pc1 := 162) (st1 := .long (v_K (.inl v)) :: _) rfl rfl (x_lle (k := k3) (e := r0.length + 1 - 1) hS (by omega) (by omega) (by rw [Nat.add_sub_cancel]; exact hs.2.1)) rfl ?_
                    refine w_p (pc1 := 163) rfl rfl ?_
                    refine w_m0 (pc1 := 166) (st1 := .ref (241 + k3) :: _) rfl rfl (x_gf (k := k) rfl hO rfl) rfl ?_
                    refine w_p (pc1 := 168) rfl rfl ?_
                    refine w_m0 (pc1 := 169) (st1 := .long (v_K (.inl w)) :: _) rfl rfl (x_lle (k := k3) (e := r0.length + 1) hS (by omega) (by omega) (hs.1)) rfl ?_
                    refine w_je (pc1 := 172) (vs := [.ref (241 + k), .int 15, .long (v_K (.inl v)), .long (v_K (.inl w))]) (rest := [.int (nI (r0.length + 1 - 1)), .ref (241 + k3)]) (st1 := [.long (o2K (u_2 g 15 (.inl v) (.inl w))), .int (nI (r0.length + 1 - 1)), .ref (241 + k3)]) (m_116_15 (d := d + 1) (sl := 0) hO) rfl rfl rfl (fun _ _ => rfl) rfl (by exact cl_v my_116 rfl rfl rfl (Nat.le_of_ble_eq_true rfl) rfl (x_obj hO) rfl (by decide) rfl rfl) (by rfl) (Nat.le_of_ble_eq_true rfl) (Nat.le_of_ble_eq_true rfl) rfl (by rfl) ?_
                    refine w_m0 (pc1 := 173) rfl rfl (x_ls (k := k3) (e := r0.length + 1 - 1) hS (by omega) (by omega)) rfl ?_
                    rw [show (t0.set k3 (sCell Q.length s)).set k3 (Sum.inl (1, Q.length, Sum.inr (Sum.inl (vp_updL s (r0.length + 1 - 1) (o2K (u_2 g 15 (.inl v) (.inl w))))))) = t0.set k3 (sCell Q.length (vp_updL s (r0.length + 1 - 1) (o2K (u_2 g 15 (.inl v) (.inl w))))) from List.set_set _]
                    obtain ⟨hO2, -, -, hS2⟩ := FO_s F0 (vp_updL s (r0.length + 1 - 1) (o2K (u_2 g 15 (.inl v) (.inl w))))
                    refine w_p (pc1 := 174) rfl rfl ?_
                    refine w_m0 (pc1 := 177) (st1 := .ref (241 + k3) :: _) rfl rfl (x_gf (k := k) rfl hO2 rfl) rfl ?_
                    refine w_p (pc1 := 179) rfl rfl ?_
                    refine w_p (pc1 := 180) (st1 := .int 1 :: _) rfl rfl ?_
                    refine w_isub (pc1 := 181) (u := nI (r0.length + 1)) (v := nI (1)) (z := nI (r0.length + 1 - 1)) rfl (nK_sub (by omega)) rfl ?_
                    refine w_m0 (pc1 := 182) (st1 := .long (o2K (u_2 g 15 (.inl v) (.inl w))) :: _) rfl rfl (x_lle (k := k3) (e := r0.length + 1 - 1) hS2 (by omega) (by omega) (upd_s)) rfl ?_
                    refine w_m0 (pc1 := 185) (st1 := .long (-9223372036854775807) :: _) rfl rfl rfl rfl ?_
                    refine w_p (pc1 := 186) rfl rfl ?_
                    refine w_t (a := 193) (b := 189) (lb_ne_t (by rw [hu]; exact v_K_un _)) rfl rfl ?_
                    refine w_iinc (pc1 := 196) (u := nI (pre.length)) (z := nI (pre.length + 1)) (al1 := [(6, .int (nI (pre.length + 1))), (5, .int (nI (r0.length + 1))), (7, .int 15), (0, .ref (241 + k)), (1, .ref 114), (2, .int (nI (p))), (3, .ref (kN + 100)), (4, .ref (kO + 100))]) rfl rfl rfl nK_1 rfl rfl ?_
                    refine w_p (pc1 := 6) rfl rfl ?_
                    refine Wd_al (al := [(6, .int (nI (pre.length + 1))), (5, .int (nI (r0.length + 1))), (0, .ref (241 + k)), (1, .ref 114), (2, .int (nI (p))), (3, .ref (kN + 100)), (4, .ref (kO + 100))]) (sba_p [0, 1, 3, 4, 5, 6, 7] rfl rfl) ?_
                    exact ih (z1 :: r0) _ hQ2 ⟨b, hb⟩ (show r0.length + 1 ≤ pre.length + 1 by omega) ⟨by rw [Nat.add_sub_cancel, upd_s, hu]; rfl, skR_u hs.2.2 (by omega)⟩
                · obtain rfl : a = 16 := e1
                  rw [fo_16]
                  cases hu : u_2 g 16 (.inl v) (.inl w) with
                  | none =>
                    show Wd _ _ _ _ _ (WK C t0 k3 Q.length sl none) _
                    refine w_p (pc1 := 8) rfl rfl ?_
                    refine w_p (pc1 := 9) rfl rfl ?_
                    refine w_m0 (pc1 := 12) (st1 := .ref (241 + k1) :: _) rfl rfl (x_gf (k := k) rfl hO rfl) rfl ?_
                    refine w_m0 (pc1 := 13) (st1 := .int (nI (Q.length)) :: _) rfl rfl (x_ln (k := k1) hA (by decide)) rfl ?_
                    refine w_f (a := 199) (b := 16) (bN_ge_f (a := pre.length) (b := Q.length) (by omega) (by omega) (by omega)) rfl rfl ?_
                    refine w_p (pc1 := 18) rfl rfl ?_
                    refine w_p (pc1 := 19) rfl rfl ?_
                    refine w_m0 (pc1 := 22) (st1 := .ref (241 + k2) :: _) rfl rfl (x_gf (k := k) rfl hO rfl) rfl ?_
                    refine w_m0 (pc1 := 23) (st1 := .int (nI (Q.length)) :: _) rfl rfl (x_ln (k := k2) hB (by decide)) rfl ?_
                    refine w_f (a := 199) (b := 26) (bN_ge_f (a := pre.length) (b := Q.length) (by omega) (by omega) (by omega)) rfl rfl ?_
                    refine w_p (pc1 := 27) rfl rfl ?_
                    refine w_m0 (pc1 := 30) (st1 := .ref (241 + k1) :: _) rfl rfl (x_gf (k := k) rfl hO rfl) rfl ?_
                    refine w_p (pc1 := 32) rfl rfl ?_
                    refine w_m0 (pc1 := 33) (st1 := .int 16 :: _) rfl rfl (x_ile (k := k1) (e := pre.length) hA (by omega) (by omega) (h1)) rfl ?_
                    refine w_p (pc1 := 35) (al1 := [(7, .int 16), (6, .int (nI (pre.length))), (5, .int (nI (r0.length + 1 + 1))), (0, .ref (241 + k)), (1, .ref 114), (2, .int (nI (p))), (3, .ref (kN + 100)), (4, .ref (kO + 100))]) rfl rfl ?_
                    refine w_p (pc1 := 37) rfl rfl ?_
                    refine w_p (pc1 := 38) (st1 := .int 4 :: _) rfl rfl ?_
                    refine w_t (a := 86) (b := 41) rfl rfl rfl ?_
                    refine w_p (pc1 := 88) rfl rfl ?_
                    refine w_p (pc1 := 90) (st1 := .int 8 :: _) rfl rfl ?_
                    refine w_t (a := 129) (b := 93) rfl rfl rfl ?_
                    refine w_p (pc1 := 131) rfl rfl ?_
                    refine w_p (pc1 := 132) (st1 := .int 2 :: _) rfl rfl ?_
                    refine w_t (a := 139) (b := 135) (bN_ge_t (a := r0.length + 1 + 1) (b := 2) (by omega) (by omega) (by omega)) rfl rfl ?_
                    refine w_iinc (pc1 := 142) (u := nI (r0.length + 1 + 1)) (z := nI (r0.length + 1)) (al1 := [(5, .int (nI (r0.length + 1))), (7, .int 16), (6, .int (nI (pre.length))), (0, .ref (241 + k)), (1, .ref 114), (2, .int (nI (p))), (3, .ref (kN + 100)), (4, .ref (kO + 100))]) rfl rfl rfl (nK_p.trans nK_s) rfl rfl ?_
                    refine w_p (pc1 := 143) rfl rfl ?_
                    refine w_m0 (pc1 := 146) (st1 := .ref (241 + k3) :: _) rfl rfl (x_gf (k := k) rfl hO rfl) rfl ?_
                    refine w_p (pc1 := 148) rfl rfl ?_
                    refine w_p (pc1 := 149) (st1 := .int 1 :: _) rfl rfl ?_
                    refine w_isub (pc1 := 150) (u := nI (r0.length + 1)) (v := nI (1)) (z := nI (r0.length + 1 - 1)) rfl (nK_sub (by omega)) rfl ?_
                    refine w_p (pc1 := 151) rfl rfl ?_
                    refine w_p (pc1 := 153) rfl rfl ?_
                    refine w_p (pc1 := 154) rfl rfl ?_
                    refine w_m0 (pc1 := 157) (st1 := .ref (241 + k3) :: _) rfl rfl (x_gf (k := k) rfl hO rfl) rfl ?_
                    refine w_p (pc1 := 159) rfl rfl ?_
                    refine w_p (pc1 := 160) (st1 := .int 1 :: _) rfl rfl ?_
                    refine w_isub (pc1 := 161) (u := nI (r0.length + 1)) (v := nI (1)) (z := nI (r0.length + 1 - 1)) rfl (nK_sub (by omega)) rfl ?_
                    refine w_m0 (pc1 := 162) (st1 := .long (v_K (.inl v)) :: _) rfl rfl (x_lle (k := k3) (e := r0.length + 1 - 1) hS (by omega) (by omega) (by rw [Nat.add_sub_cancel]; exact hs.2.1)) rfl ?_
                    refine w_p (pc1 := 163) rfl rfl ?_
                    refine w_m0 (pc1 := 166) (st1 := .ref (241 + k3) :: _) rfl rfl (x_gf (k := k) rfl hO rfl) rfl ?_
                    refine w_p (pc1 := 168) rfl rfl ?_
                    refine w_m0 (pc1 := 169) (st1 := .long (v_K (.inl w)) :: _) rfl rfl (x_lle (k := k3) (e := r0.length + 1) hS (by omega) (by omega) (hs.1)) rfl ?_
                    refine w_je (pc1 := 172) (vs := [.ref (241 + k), .int 16, .long (v_K (.inl v)), .long (v_K (.inl w))]) (rest := [.int (nI (r0.length + 1 - 1)), .ref (241 + k3)]) (st1 := [.long (o2K (u_2 g 16 (.inl v) (.inl w))), .int (nI (r0.length + 1 - 1)), .ref (241 + k3)]) (m_116_16 (d := d + 1) (sl := 0) hO) rfl rfl rfl (fun _ _ => rfl) rfl (by exact cl_v my_116 rfl rfl rfl (Nat.le_of_ble_eq_true rfl) rfl (x_obj hO) rfl (by decide) rfl rfl) (by rfl) (Nat.le_of_ble_eq_true rfl) (Nat.le_of_ble_eq_true rfl) rfl (by rfl) ?_
                    refine w_m0 (pc1 := 173) rfl rfl (x_ls (k := k3) (e := r0.length + 1 - 1) hS (by omega) (by omega)) rfl ?_
                    rw [show (t0.set k3 (sCell Q.length s)).set k3 (Sum.inl (1, Q.length, Sum.inr (Sum.inl (vp_updL s (r0.length + 1 - 1) (o2K (u_2 g 16 (.inl v) (.inl w))))))) = t0.set k3 (sCell Q.length (vp_updL s (r0.length + 1 - 1) (o2K (u_2 g 16 (.inl v) (.inl w))))) from List.set_set _]
                    obtain ⟨hO2, -, -, hS2⟩ := FO_s F0 (vp_updL s (r0.length + 1 - 1) (o2K (u_2 g 16 (.inl v) (.inl w))))
                    refine w_p (pc1 := 174) rfl rfl ?_
                    refine w_m0 (pc1 := 177) (st1 := .ref (241 + k3) :: _) rfl rfl (x_gf (k := k) rfl hO2 rfl) rfl ?_
                    refine w_p (pc1 := 179) rfl rfl ?_
                    refine w_p (pc1 := 180) (st1 := .int 1 :: _) rfl rfl ?_
                    refine w_isub (pc1 := 181) (u := nI (r0.length + 1)) (v := nI (1)) (z := nI (r0.length + 1 - 1)) rfl (nK_sub (by omega)) rfl ?_
                    refine w_m0 (pc1 := 182) (st1 := .long (o2K (u_2 g 16 (.inl v) (.inl w))) :: _) rfl rfl (x_lle (k := k3) (e := r0.length + 1 - 1) hS2 (by omega) (by omega) (upd_s)) rfl ?_
                    refine w_m0 (pc1 := 185) (st1 := .long (-9223372036854775807) :: _) rfl rfl rfl rfl ?_
                    refine w_p (pc1 := 186) rfl rfl ?_
                    refine w_f (a := 193) (b := 189) (lb_ne_f (by rw [hu]; rfl)) rfl rfl ?_
                    refine w_m0 (pc1 := 192) (st1 := .long (-9223372036854775807) :: _) rfl rfl rfl rfl ?_
                    refine w_r rfl rfl rfl (fun _ _ => rfl) rfl ?_
                    exact ⟨_, rfl, rfl, rfl⟩
                  | some z1 =>
                    show Wd _ _ _ _ _ (WK C t0 k3 Q.length sl (f_l g R N O l (z1 :: r0))) _
                    have hb : t_l w1 w2 w3 l ((z1 :: r0).map tyv) = some [b] := by
                      have : tyv z1 = true := by rw [u2_B (by unfold isB; decide)] at hu; cases hu; rfl
                      show t_l w1 w2 w3 l (tyv z1 :: r0.map tyv) = _
                      rw [this]
                      exact hb
                    refine w_p (pc1 := 8) rfl rfl ?_
                    refine w_p (pc1 := 9) rfl rfl ?_
                    refine w_m0 (pc1 := 12) (st1 := .ref (241 + k1) :: _) rfl rfl (x_gf (k := k) rfl hO rfl) rfl ?_
                    refine w_m0 (pc1 := 13) (st1 := .int (nI (Q.length)) :: _) rfl rfl (x_ln (k := k1) hA (by decide)) rfl ?_
                    refine w_f (a := 199) (b := 16) (bN_ge_f (a := pre.length) (b := Q.length) (by omega) (by omega) (by omega)) rfl rfl ?_
                    refine w_p (pc1 := 18) rfl rfl ?_
                    refine w_p (pc1 := 19) rfl rfl ?_
                    refine w_m0 (pc1 := 22) (st1 := .ref (241 + k2) :: _) rfl rfl (x_gf (k := k) rfl hO rfl) rfl ?_
                    refine w_m0 (pc1 := 23) (st1 := .int (nI (Q.length)) :: _) rfl rfl (x_ln (k := k2) hB (by decide)) rfl ?_
                    refine w_f (a := 199) (b := 26) (bN_ge_f (a := pre.length) (b := Q.length) (by omega) (by omega) (by omega)) rfl rfl ?_
                    refine w_p (pc1 := 27) rfl rfl ?_
                    refine w_m0 (pc1 := 30) (st1 := .ref (241 + k1) :: _) rfl rfl (x_gf (k := k) rfl hO rfl) rfl ?_
                    refine w_p (pc1 := 32) rfl rfl ?_
                    refine w_m0 (pc1 := 33) (st1 := .int 16 :: _) rfl rfl (x_ile (k := k1) (e := pre.length) hA (by omega) (by omega) (h1)) rfl ?_
                    refine w_p (pc1 := 35) (al1 := [(7, .int 16), (6, .int (nI (pre.length))), (5, .int (nI (r0.length + 1 + 1))), (0, .ref (241 + k)), (1, .ref 114), (2, .int (nI (p))), (3, .ref (kN + 100)), (4, .ref (kO + 100))]) rfl rfl ?_
                    refine w_p (pc1 := 37) rfl rfl ?_
                    refine w_p (pc1 := 38) (st1 := .int 4 :: _) rfl rfl ?_
                    refine w_t (a := 86) (b := 41) rfl rfl rfl ?_
                    refine w_p (pc1 := 88) rfl rfl ?_
                    refine w_p (pc1 := 90) (st1 := .int 8 :: _) rfl rfl ?_
                    refine w_t (a := 129) (b := 93) rfl rfl rfl ?_
                    refine w_p (pc1 := 131) rfl rfl ?_
                    refine w_p (pc1 := 132) (st1 := .int 2 :: _) rfl rfl ?_
                    refine w_t (a := 139) (b := 135) (bN_ge_t (a := r0.length + 1 + 1) (b := 2) (by omega) (by omega) (by omega)) rfl rfl ?_
                    refine w_iinc (pc1 := 142) (u := nI (r0.length + 1 + 1)) (z := nI (r0.length + 1)) (al1 := [(5, .int (nI (r0.length + 1))), (7, .int 16), (6, .int (nI (pre.length))), (0, .ref (241 + k)), (1, .ref 114), (2, .int (nI (p))), (3, .ref (kN + 100)), (4, .ref (kO + 100))]) rfl rfl rfl (nK_p.trans nK_s) rfl rfl ?_
                    refine w_p (pc1 := 143) rfl rfl ?_
                    refine w_m0 (pc1 := 146) (st1 := .ref (241 + k3) :: _) rfl rfl (x_gf (k := k) rfl hO rfl) rfl ?_
                    refine w_p (pc1 := 148) rfl rfl ?_
                    refine w_p (pc1 := 149) (st1 := .int 1 :: _) rfl rfl ?_
                    refine w_isub (pc1 := 150) (u := nI (r0.length + 1)) (v := nI (1)) (z := nI (r0.length + 1 - 1)) rfl (nK_sub (by omega)) rfl ?_
                    refine w_p (pc1 := 151) rfl rfl ?_
                    refine w_p (pc1 := 153) rfl rfl ?_
                    refine w_p (pc1 := 154) rfl rfl ?_
                    refine w_m0 (pc1 := 157) (st1 := .ref (241 + k3) :: _) rfl rfl (x_gf (k := k) rfl hO rfl) rfl ?_
                    refine w_p (pc1 := 159) rfl rfl ?_
                    refine w_p (pc1 := 160) (st1 := .int 1 :: _) rfl rfl ?_
                    refine w_isub (pc1 := 161) (u := nI (r0.length + 1)) (v := nI (1)) (z := nI (r0.length + 1 - 1)) rfl (nK_sub (by omega)) rfl ?_
                    refine w_m0 (pc1 := 162) (st1 := .long (v_K (.inl v)) :: _) rfl rfl (x_lle (k := k3) (e := r0.length + 1 - 1) hS (by omega) (by omega) (by rw [Nat.add_sub_cancel]; exact hs.2.1)) rfl ?_
                    refine w_p (pc1 := 163) rfl rfl ?_
                    refine w_m0 (pc1 := 166) (st1 := .ref (241 + k3) :: _) rfl rfl (x_gf (k := k) rfl hO rfl) rfl ?_
                    refine w_p (pc1 := 168) rfl rfl ?_
                    refine w_m0 (pc1 := 169) (st1 := .long (v_K (.inl w)) :: _) rfl rfl (x_lle (k := k3) (e := r0.length + 1) hS (by omega) (by omega) (hs.1)) rfl ?_
                    refine w_je (pc1 := 172) (vs := [.ref (241 + k), .int 16, .long (v_K (.inl v)), .long (v_K (.inl w))]) (rest := [.int (nI (r0.length + 1 - 1)), .ref (241 + k3)]) (st1 := [.long (o2K (u_2 g 16 (.inl v) (.inl w))), .int (nI (r0.length + 1 - 1)), .ref (241 + k3)]) (m_116_16 (d := d + 1) (sl := 0) hO) rfl rfl rfl (fun _ _ => rfl) rfl (by exact cl_v my_116 rfl rfl rfl (Nat.le_of_ble_eq_true rfl) rfl (x_obj hO) rfl (by decide) rfl rfl) (by rfl) (Nat.le_of_ble_eq_true rfl) (Nat.le_of_ble_eq_true rfl) rfl (by rfl) ?_
                    refine w_m0 (pc1 := 173) rfl rfl (x_ls (k := k3) (e := r0.length + 1 - 1) hS (by omega) (by omega)) rfl ?_
                    rw [show (t0.set k3 (sCell Q.length s)).set k3 (Sum.inl (1, Q.length, Sum.inr (Sum.inl (vp_updL s (r0.length + 1 - 1) (o2K (u_2 g 16 (.inl v) (.inl w))))))) = t0.set k3 (sCell Q.length (vp_updL s (r0.length + 1 - 1) (o2K (u_2 g 16 (.inl v) (.inl w))))) from List.set_set _]
                    obtain ⟨hO2, -, -, hS2⟩ := FO_s F0 (vp_updL s (r0.length + 1 - 1) (o2K (u_2 g 16 (.inl v) (.inl w))))
                    refine w_p (pc1 := 174) rfl rfl ?_
                    refine w_m0 (pc1 := 177) (st1 := .ref (241 + k3) :: _) rfl rfl (x_gf (k := k) rfl hO2 rfl) rfl ?_
                    refine w_p (pc1 := 179) rfl rfl ?_
                    refine w_p (pc1 := 180) (st1 := .int 1 :: _) rfl rfl ?_
                    refine w_isub (pc1 := 181) (u := nI (r0.length + 1)) (v := nI (1)) (z := nI (r0.length + 1 - 1)) rfl (nK_sub (by omega)) rfl ?_
                    refine w_m0 (pc1 := 182) (st1 := .long (o2K (u_2 g 16 (.inl v) (.inl w))) :: _) rfl rfl (x_lle (k := k3) (e := r0.length + 1 - 1) hS2 (by omega) (by omega) (upd_s)) rfl ?_
                    refine w_m0 (pc1 := 185) (st1 := .long (-9223372036854775807) :: _) rfl rfl rfl rfl ?_
                    refine w_p (pc1 := 186) rfl rfl ?_
                    refine w_t (a := 193) (b := 189) (lb_ne_t (by rw [hu]; exact v_K_un _)) rfl rfl ?_
                    refine w_iinc (pc1 := 196) (u := nI (pre.length)) (z := nI (pre.length + 1)) (al1 := [(6, .int (nI (pre.length + 1))), (5, .int (nI (r0.length + 1))), (7, .int 16), (0, .ref (241 + k)), (1, .ref 114), (2, .int (nI (p))), (3, .ref (kN + 100)), (4, .ref (kO + 100))]) rfl rfl rfl nK_1 rfl rfl ?_
                    refine w_p (pc1 := 6) rfl rfl ?_
                    refine Wd_al (al := [(6, .int (nI (pre.length + 1))), (5, .int (nI (r0.length + 1))), (0, .ref (241 + k)), (1, .ref 114), (2, .int (nI (p))), (3, .ref (kN + 100)), (4, .ref (kO + 100))]) (sba_p [0, 1, 3, 4, 5, 6, 7] rfl rfl) ?_
                    exact ih (z1 :: r0) _ hQ2 ⟨b, hb⟩ (show r0.length + 1 ≤ pre.length + 1 by omega) ⟨by rw [Nat.add_sub_cancel, upd_s, hu]; rfl, skR_u hs.2.2 (by omega)⟩
                · obtain rfl : a = 17 := e1
                  rw [fo_17]
                  cases hu : u_2 g 17 (.inl v) (.inl w) with
                  | none =>
                    show Wd _ _ _ _ _ (WK C t0 k3 Q.length sl none) _
                    refine w_p (pc1 := 8) rfl rfl ?_
                    refine w_p (pc1 := 9) rfl rfl ?_
                    refine w_m0 (pc1 := 12) (st1 := .ref (241 + k1) :: _) rfl rfl (x_gf (k := k) rfl hO rfl) rfl ?_
                    refine w_m0 (pc1 := 13) (st1 := .int (nI (Q.length)) :: _) rfl rfl (x_ln (k := k1) hA (by decide)) rfl ?_
                    refine w_f (a := 199) (b := 16) (bN_ge_f (a := pre.length) (b := Q.length) (by omega) (by omega) (by omega)) rfl rfl ?_
                    refine w_p (pc1 := 18) rfl rfl ?_
                    refine w_p (pc1 := 19) rfl rfl ?_
                    refine w_m0 (pc1 := 22) (st1 := .ref (241 + k2) :: _) rfl rfl (x_gf (k := k) rfl hO rfl) rfl ?_
                    refine w_m0 (pc1 := 23) (st1 := .int (nI (Q.length)) :: _) rfl rfl (x_ln (k := k2) hB (by decide)) rfl ?_
                    refine w_f (a := 199) (b := 26) (bN_ge_f (a := pre.length) (b := Q.length) (by omega) (by omega) (by omega)) rfl rfl ?_
                    refine w_p (pc1 := 27) rfl rfl ?_
                    refine w_m0 (pc1 := 30) (st1 := .ref (241 + k1) :: _) rfl rfl (x_gf (k := k) rfl hO rfl) rfl ?_
                    refine w_p (pc1 := 32) rfl rfl ?_
                    refine w_m0 (pc1 := 33) (st1 := .int 17 :: _) rfl rfl (x_ile (k := k1) (e := pre.length) hA (by omega) (by omega) (h1)) rfl ?_
                    refine w_p (pc1 := 35) (al1 := [(7, .int 17), (6, .int (nI (pre.length))), (5, .int (nI (r0.length + 1 + 1))), (0, .ref (241 + k)), (1, .ref 114), (2, .int (nI (p))), (3, .ref (kN + 100)), (4, .ref (kO + 100))]) rfl rfl ?_
                    refine w_p (pc1 := 37) rfl rfl ?_
                    refine w_p (pc1 := 38) (st1 := .int 4 :: _) rfl rfl ?_
                    refine w_t (a := 86) (b := 41) rfl rfl rfl ?_
                    refine w_p (pc1 := 88) rfl rfl ?_
                    refine w_p (pc1 := 90) (st1 := .int 8 :: _) rfl rfl ?_
                    refine w_t (a := 129) (b := 93) rfl rfl rfl ?_
                    refine w_p (pc1 := 131) rfl rfl ?_
                    refine w_p (pc1 := 132) (st1 := .int 2 :: _) rfl rfl ?_
                    refine w_t (a := 139) (b := 135) (bN_ge_t (a := r0.length + 1 + 1) (b := 2) (by omega) (by omega) (by omega)) rfl rfl ?_
                    refine w_iinc (pc1 := 142) (u := nI (r0.length + 1 + 1)) (z := nI (r0.length + 1)) (al1 := [(5, .int (nI (r0.length + 1))), (7, .int 17), (6, .int (nI (pre.length))), (0, .ref (241 + k)), (1, .ref 114), (2, .int (nI (p))), (3, .ref (kN + 100)), (4, .ref (kO + 100))]) rfl rfl rfl (nK_p.trans nK_s) rfl rfl ?_
                    refine w_p (pc1 := 143) rfl rfl ?_
                    refine w_m0 (pc1 := 146) (st1 := .ref (241 + k3) :: _) rfl rfl (x_gf (k := k) rfl hO rfl) rfl ?_
                    refine w_p (pc1 := 148) rfl rfl ?_
                    refine w_p (pc1 := 149) (st1 := .int 1 :: _) rfl rfl ?_
                    refine w_isub (pc1 := 150) (u := nI (r0.length + 1)) (v := nI (1)) (z := nI (r0.length + 1 - 1)) rfl (nK_sub (by omega)) rfl ?_
                    refine w_p (pc1 := 151) rfl rfl ?_
                    refine w_p (pc1 := 153) rfl rfl ?_
                    refine w_p (pc1 := 154) rfl rfl ?_
                    refine w_m0 (pc1 := 157) (st1 := .ref (241 + k3) :: _) rfl rfl (x_gf (k := k) rfl hO rfl) rfl ?_
                    refine w_p (pc1 := 159) rfl rfl ?_
                    refine w_p (pc1 := 160) (st1 := .int 1 :: _) rfl rfl ?_
                    refine w_isub (pc1 := 161) (u := nI (r0.length + 1)) (v := nI (1)) (z := nI (r0.length + 1 - 1)) rfl (nK_sub (by omega)) rfl ?_
                    refine w_m0 (pc1 := 162) (st1 := .long (v_K (.inl v)) :: _) rfl rfl (x_lle (k := k3) (e := r0.length + 1 - 1) hS (by omega) (by omega) (by rw [Nat.add_sub_cancel]; exact hs.2.1)) rfl ?_
                    refine w_p (pc1 := 163) rfl rfl ?_
                    refine w_m0 (pc1 := 166) (st1 := .ref (241 + k3) :: _) rfl rfl (x_gf (k := k) rfl hO rfl) rfl ?_
                    refine w_p (pc1 := 168) rfl rfl ?_
                    refine w_m0 (pc1 := 169) (st1 := .long (v_K (.inl w)) :: _) rfl rfl (x_lle (k := k3) (e := r0.length + 1) hS (by omega) (by omega) (hs.1)) rfl ?_
                    refine w_je (pc1 := 172) (vs := [.ref (241 + k), .int 17, .long (v_K (.inl v)), .long (v_K (.inl w))]) (rest := [.int (nI (r0.length + 1 - 1)), .ref (241 + k3)]) (st1 := [.long (o2K (u_2 g 17 (.inl v) (.inl w))), .int (nI (r0.length + 1 - 1)), .ref (241 + k3)]) (m_116_17 (d := d + 1) (sl := 0) hO) rfl rfl rfl (fun _ _ => rfl) rfl (by exact cl_v my_116 rfl rfl rfl (Nat.le_of_ble_eq_true rfl) rfl (x_obj hO) rfl (by decide) rfl rfl) (by rfl) (Nat.le_of_ble_eq_true rfl) (Nat.le_of_ble_eq_true rfl) rfl (by rfl) ?_
                    refine w_m0 (pc1 := 173) rfl rfl (x_ls (k := k3) (e := r0.length + 1 - 1) hS (by omega) (by omega)) rfl ?_
                    rw [show (t0.set k3 (sCell Q.length s)).set k3 (Sum.inl (1, Q.length, Sum.inr (Sum.inl (vp_updL s (r0.length + 1 - 1) (o2K (u_2 g 17 (.inl v) (.inl w))))))) = t0.set k3 (sCell Q.length (vp_updL s (r0.length + 1 - 1) (o2K (u_2 g 17 (.inl v) (.inl w))))) from List.set_set _]
                    obtain ⟨hO2, -, -, hS2⟩ := FO_s F0 (vp_updL s (r0.length + 1 - 1) (o2K (u_2 g 17 (.inl v) (.inl w))))
                    refine w_p (pc1 := 174) rfl rfl ?_
                    refine w_m0 (pc1 := 177) (st1 := .ref (241 + k3) :: _) rfl rfl (x_gf (k := k) rfl hO2 rfl) rfl ?_
                    refine w_p (pc1 := 179) rfl rfl ?_
                    refine w_p (pc1 := 180) (st1 := .int 1 :: _) rfl rfl ?_
                    refine w_isub (pc1 := 181) (u := nI (r0.length + 1)) (v := nI (1)) (z := nI (r0.length + 1 - 1)) rfl (nK_sub (by omega)) rfl ?_
                    refine w_m0 (pc1 := 182) (st1 := .long (o2K (u_2 g 17 (.inl v) (.inl w))) :: _) rfl rfl (x_lle (k := k3) (e := r0.length + 1 - 1) hS2 (by omega) (by omega) (upd_s)) rfl ?_
                    refine w_m0 (pc1 := 185) (st1 := .long (-9223372036854775807) :: _) rfl rfl rfl rfl ?_
                    refine w_p (pc1 := 186) rfl rfl ?_
                    refine w_f (a := 193) (b := 189) (lb_ne_f (by rw [hu]; rfl)) rfl rfl ?_
                    refine w_m0 (pc1 := 192) (st1 := .long (-9223372036854775807) :: _) rfl rfl rfl rfl ?_
                    refine w_r rfl rfl rfl (fun _ _ => rfl) rfl ?_
                    exact ⟨_, rfl, rfl, rfl⟩
                  | some z1 =>
                    show Wd _ _ _ _ _ (WK C t0 k3 Q.length sl (f_l g R N O l (z1 :: r0))) _
                    have hb : t_l w1 w2 w3 l ((z1 :: r0).map tyv) = some [b] := by
                      have : tyv z1 = true := by rw [u2_B (by unfold isB; decide)] at hu; cases hu; rfl
                      show t_l w1 w2 w3 l (tyv z1 :: r0.map tyv) = _
                      rw [this]
                      exact hb
                    refine w_p (pc1 := 8) rfl rfl ?_
                    refine w_p (pc1 := 9) rfl rfl ?_
                    refine w_m0 (pc1 := 12) (st1 := .ref (241 + k1) :: _) rfl rfl (x_gf (k := k) rfl hO rfl) rfl ?_
                    refine w_m0 (pc1 := 13) (st1 := .int (nI (Q.length)) :: _) rfl rfl (x_ln (k := k1) hA (by decide)) rfl ?_
                    refine w_f (a := 199) (b := 16) (bN_ge_f (a := pre.length) (b := Q.length) (by omega) (by omega) (by omega)) rfl rfl ?_
                    refine w_p (pc1 := 18) rfl rfl ?_
                    refine w_p (pc1 := 19) rfl rfl ?_
                    refine w_m0 (pc1 := 22) (st1 := .ref (241 + k2) :: _) rfl rfl (x_gf (k := k) rfl hO rfl) rfl ?_
                    refine w_m0 (pc1 := 23) (st1 := .int (nI (Q.length)) :: _) rfl rfl (x_ln (k := k2) hB (by decide)) rfl ?_
                    refine w_f (a := 199) (b := 26) (bN_ge_f (a := pre.length) (b := Q.length) (by omega) (by omega) (by omega)) rfl rfl ?_
                    refine w_p (pc1 := 27) rfl rfl ?_
                    refine w_m0 (pc1 := 30) (st1 := .ref (241 + k1) :: _) rfl rfl (x_gf (k := k) rfl hO rfl) rfl ?_
                    refine w_p (pc1 := 32) rfl rfl ?_
                    refine w_m0 (pc1 := 33) (st1 := .int 17 :: _) rfl rfl (x_ile (k := k1) (e := pre.length) hA (by omega) (by omega) (h1)) rfl ?_
                    refine w_p (pc1 := 35) (al1 := [(7, .int 17), (6, .int (nI (pre.length))), (5, .int (nI (r0.length + 1 + 1))), (0, .ref (241 + k)), (1, .ref 114), (2, .int (nI (p))), (3, .ref (kN + 100)), (4, .ref (kO + 100))]) rfl rfl ?_
                    refine w_p (pc1 := 37) rfl rfl ?_
                    refine w_p (pc1 := 38) (st1 := .int 4 :: _) rfl rfl ?_
                    refine w_t (a := 86) (b := 41) rfl rfl rfl ?_
                    refine w_p (pc1 := 88) rfl rfl ?_
                    refine w_p (pc1 := 90) (st1 := .int 8 :: _) rfl rfl ?_
                    refine w_t (a := 129) (b := 93) rfl rfl rfl ?_
                    refine w_p (pc1 := 131) rfl rfl ?_
                    refine w_p (pc1 := 132) (st1 := .int 2 :: _) rfl rfl ?_
                    refine w_t (a := 139) (b := 135) (bN_ge_t (a := r0.length + 1 + 1) (b := 2) (by omega) (by omega) (by omega)) rfl rfl ?_
                    refine w_iinc (pc1 := 142) (u := nI (r0.length + 1 + 1)) (z := nI (r0.length + 1)) (al1 := [(5, .int (nI (r0.length + 1))), (7, .int 17), (6, .int (nI (pre.length))), (0, .ref (241 + k)), (1, .ref 114), (2, .int (nI (p))), (3, .ref (kN + 100)), (4, .ref (kO + 100))]) rfl rfl rfl (nK_p.trans nK_s) rfl rfl ?_
                    refine w_p (pc1 := 143) rfl rfl ?_
                    refine w_m0 (pc1 := 146) (st1 := .ref (241 + k3) :: _) rfl rfl (x_gf (k := k) rfl hO rfl) rfl ?_
                    refine w_p (pc1 := 148) rfl rfl ?_
                    refine w_p (pc1 := 149) (st1 := .int 1 :: _) rfl rfl ?_
                    refine w_isub (pc1 := 150) (u := nI (r0.length + 1)) (v := nI (1)) (z := nI (r0.length + 1 - 1)) rfl (nK_sub (by omega)) rfl ?_
                    refine w_p (pc1 := 151) rfl rfl ?_
                    refine w_p (pc1 := 153) rfl rfl ?_
                    refine w_p (pc1 := 154) rfl rfl ?_
                    refine w_m0 (pc1 := 157) (st1 := .ref (241 + k3) :: _) rfl rfl (x_gf (k := k) rfl hO rfl) rfl ?_
                    refine w_p (pc1 := 159) rfl rfl ?_
                    refine w_p (pc1 := 160) (st1 := .int 1 :: _) rfl rfl ?_
                    refine w_isub (pc1 := 161) (u := nI (r0.length + 1)) (v := nI (1)) (z := nI (r0.length + 1 - 1)) rfl (nK_sub (by omega)) rfl ?_
                    refine w_m0 (pc1 := 162) (st1 := .long (v_K (.inl v)) :: _) rfl rfl (x_lle (k := k3) (e := r0.length + 1 - 1) hS (by omega) (by omega) (by rw [Nat.add_sub_cancel]; exact hs.2.1)) rfl ?_
                    refine w_p (pc1 := 163) rfl rfl ?_
                    refine w_m0 (pc1 := 166) (st1 := .ref (241 + k3) :: _) rfl rfl (x_gf (k := k) rfl hO rfl) rfl ?_
                    refine w_p (pc1 := 168) rfl rfl ?_
                    refine w_m0 (pc1 := 169) (st1 := .long (v_K (.inl w)) :: _) rfl rfl (x_lle (k := k3) (e := r0.length + 1) hS (by omega) (by omega) (hs.1)) rfl ?_
                    refine w_je (pc1 := 172) (vs := [.ref (241 + k), .int 17, .long (v_K (.inl v)), .long (v_K (.inl w))]) (rest := [.int (nI (r0.length + 1 - 1)), .ref (241 + k3)]) (st1 := [.long (o2K (u_2 g 17 (.inl v) (.inl w))), .int (nI (r0.length + 1 - 1)), .ref (241 + k3)]) (m_116_17 (d := d + 1) (sl := 0) hO) rfl rfl rfl (fun _ _ => rfl) rfl (by exact cl_v my_116 rfl rfl rfl (Nat.le_of_ble_eq_true rfl) rfl (x_obj hO) rfl (by decide) rfl rfl) (by rfl) (Nat.le_of_ble_eq_true rfl) (Nat.le_of_ble_eq_true rfl) rfl (by rfl) ?_
                    refine w_m0 (pc1 := 173) rfl rfl (x_ls (k := k3) (e := r0.length + 1 - 1) hS (by omega) (by omega)) rfl ?_
                    rw [show (t0.set k3 (sCell Q.length s)).set k3 (Sum.inl (1, Q.length, Sum.inr (Sum.inl (vp_updL s (r0.length + 1 - 1) (o2K (u_2 g 17 (.inl v) (.inl w))))))) = t0.set k3 (sCell Q.length (vp_updL s (r0.length + 1 - 1) (o2K (u_2 g 17 (.inl v) (.inl w))))) from List.set_set _]
                    obtain ⟨hO2, -, -, hS2⟩ := FO_s F0 (vp_updL s (r0.length + 1 - 1) (o2K (u_2 g 17 (.inl v) (.inl w))))
                    refine w_p (pc1 := 174) rfl rfl ?_
                    refine w_m0 (pc1 := 177) (st1 := .ref (241 + k3) :: _) rfl rfl (x_gf (k := k) rfl hO2 rfl) rfl ?_
                    refine w_p (pc1 := 179) rfl rfl ?_
                    refine w_p (pc1 := 180) (st1 := .int 1 :: _) rfl rfl ?_
                    refine w_isub (pc1 := 181) (u := nI (r0.length + 1)) (v := nI (1)) (z := nI (r0.length + 1 - 1)) rfl (nK_sub (by omega)) rfl ?_
                    refine w_m0 (pc1 := 182) (st1 := .long (o2K (u_2 g 17 (.inl v) (.inl w))) :: _) rfl rfl (x_lle (k := k3) (e := r0.length + 1 - 1) hS2 (by omega) (by omega) (upd_s)) rfl ?_
                    refine w_m0 (pc1 := 185) (st1 := .long (-9223372036854775807) :: _) rfl rfl rfl rfl ?_
                    refine w_p (pc1 := 186) rfl rfl ?_
                    refine w_t (a := 193) (b := 189) (lb_ne_t (by rw [hu]; exact v_K_un _)) rfl rfl ?_
                    refine w_iinc (pc1 := 196) (u := nI (pre.length)) (z := nI (pre.length + 1)) (al1 := [(6, .int (nI (pre.length + 1))), (5, .int (nI (r0.length + 1))), (7, .int 17), (0, .ref (241 + k)), (1, .ref 114), (2, .int (nI (p))), (3, .ref (kN + 100)), (4, .ref (kO + 100))]) rfl rfl rfl nK_1 rfl rfl ?_
                    refine w_p (pc1 := 6) rfl rfl ?_
                    refine Wd_al (al := [(6, .int (nI (pre.length + 1))), (5, .int (nI (r0.length + 1))), (0, .ref (241 + k)), (1, .ref 114), (2, .int (nI (p))), (3, .ref (kN + 100)), (4, .ref (kO + 100))]) (sba_p [0, 1, 3, 4, 5, 6, 7] rfl rfl) ?_
                    exact ih (z1 :: r0) _ hQ2 ⟨b, hb⟩ (show r0.length + 1 ≤ pre.length + 1 by omega) ⟨by rw [Nat.add_sub_cancel, upd_s, hu]; rfl, skR_u hs.2.2 (by omega)⟩
                · obtain rfl : a = 18 := e1
                  rw [fo_18]
                  cases hu : u_2 g 18 (.inl v) (.inl w) with
                  | none =>
                    show Wd _ _ _ _ _ (WK C t0 k3 Q.length sl none) _
                    refine w_p (pc1 := 8) rfl rfl ?_
                    refine w_p (pc1 := 9) rfl rfl ?_
                    refine w_m0 (pc1 := 12) (st1 := .ref (241 + k1) :: _) rfl rfl (x_gf (k := k) rfl hO rfl) rfl ?_
                    refine w_m0 (pc1 := 13) (st1 := .int (nI (Q.length)) :: _) rfl rfl (x_ln (k := k1) hA (by decide)) rfl ?_
                    refine w_f (a := 199) (b := 16) (bN_ge_f (a := pre.length) (b := Q.length) (by omega) (by omega) (by omega)) rfl rfl ?_
                    refine w_p (pc1 := 18) rfl rfl ?_
                    refine w_p (pc1 := 19) rfl rfl ?_
                    refine w_m0 (pc1 := 22) (st1 := .ref (241 + k2) :: _) rfl rfl (x_gf (k := k) rfl hO rfl) rfl ?_
                    refine w_m0 (pc1 := 23) (st1 := .int (nI (Q.length)) :: _) rfl rfl (x_ln (k := k2) hB (by decide)) rfl ?_
                    refine w_f (a := 199) (b := 26) (bN_ge_f (a := pre.length) (b := Q.length) (by omega) (by omega) (by omega)) rfl rfl ?_
                    refine w_p (pc1 := 27) rfl rfl ?_
                    refine w_m0 (pc1 := 30) (st1 := .ref (241 + k1) :: _) rfl rfl (x_gf (k := k) rfl hO rfl) rfl ?_
                    refine w_p (pc1 := 32) rfl rfl ?_
                    refine w_m0 (pc1 := 33) (st1 := .int 18 :: _) rfl rfl (x_ile (k := k1) (e := pre.length) hA (by omega) (by omega) (h1)) rfl ?_
                    refine w_p (pc1 := 35) (al1 := [(7, .int 18), (6, .int (nI (pre.length))), (5, .int (nI (r0.length + 1 + 1))), (0, .ref (241 + k)), (1, .ref 114), (2, .int (nI (p))), (3, .ref (kN + 100)), (4, .ref (kO + 100))]) rfl rfl ?_
                    refine w_p (pc1 := 37) rfl rfl ?_
                    refine w_p (pc1 := 38) (st1 := .int 4 :: _) rfl rfl ?_
                    refine w_t (a := 86) (b := 41) rfl rfl rfl ?_
                    refine w_p (pc1 := 88) rfl rfl ?_
                    refine w_p (pc1 := 90) (st1 := .int 8 :: _) rfl rfl ?_
                    refine w_t (a := 129) (b := 93) rfl rfl rfl ?_
                    refine w_p (pc1 := 131) rfl rfl ?_
                    refine w_p (pc1 := 132) (st1 := .int 2 :: _) rfl rfl ?_
                    refine w_t (a := 139) (b := 135) (bN_ge_t (a := r0.length + 1 + 1) (b := 2) (by omega) (by omega) (by omega)) rfl rfl ?_
                    refine w_iinc (pc1 := 142) (u := nI (r0.length + 1 + 1)) (z := nI (r0.length + 1)) (al1 := [(5, .int (nI (r0.length + 1))), (7, .int 18), (6, .int (nI (pre.length))), (0, .ref (241 + k)), (1, .ref 114), (2, .int (nI (p))), (3, .ref (kN + 100)), (4, .ref (kO + 100))]) rfl rfl rfl (nK_p.trans nK_s) rfl rfl ?_
                    refine w_p (pc1 := 143) rfl rfl ?_
                    refine w_m0 (pc1 := 146) (st1 := .ref (241 + k3) :: _) rfl rfl (x_gf (k := k) rfl hO rfl) rfl ?_
                    refine w_p (pc1 := 148) rfl rfl ?_
                    refine w_p (pc1 := 149) (st1 := .int 1 :: _) rfl rfl ?_
                    refine w_isub (pc1 := 150) (u := nI (r0.length + 1)) (v := nI (1)) (z := nI (r0.length + 1 - 1)) rfl (nK_sub (by omega)) rfl ?_
                    refine w_p (pc1 := 151) rfl rfl ?_
                    refine w_p (pc1 := 153) rfl rfl ?_
                    refine w_p (pc1 := 154) rfl rfl ?_
                    refine w_m0 (pc1 := 157) (st1 := .ref (241 + k3) :: _) rfl rfl (x_gf (k := k) rfl hO rfl) rfl ?_
                    refine w_p (pc1 := 159) rfl rfl ?_
                    refine w_p (pc1 := 160) (st1 := .int 1 :: _) rfl rfl ?_
                    refine w_isub (pc1 := 161) (u := nI (r0.length + 1)) (v := nI (1)) (z := nI (r0.length + 1 - 1)) rfl (nK_sub (by omega)) rfl ?_
                    refine w_m0 (pc1 := 162) (st1 := .long (v_K (.inl v)) :: _) rfl rfl (x_lle (k := k3) (e := r0.length + 1 - 1) hS (by omega) (by omega) (by rw [Nat.add_sub_cancel]; exact hs.2.1)) rfl ?_
                    refine w_p (pc1 := 163) rfl rfl ?_
                    refine w_m0 (pc1 := 166) (st1 := .ref (241 + k3) :: _) rfl rfl (x_gf (k := k) rfl hO rfl) rfl ?_
                    refine w_p (pc1 := 168) rfl rfl ?_
                    refine w_m0 (pc1 := 169) (st1 := .long (v_K (.inl w)) :: _) rfl rfl (x_lle (k := k3) (e := r0.length + 1) hS (by omega) (by omega) (hs.1)) rfl ?_
                    refine w_je (pc1 := 172) (vs := [.ref (241 + k), .int 18, .long (v_K (.inl v)), .long (v_K (.inl w))]) (rest := [.int (nI (r0.length + 1 - 1)), .ref (241 + k3)]) (st1 := [.long (o2K (u_2 g 18 (.inl v) (.inl w))), .int (nI (r0.length + 1 - 1)), .ref (241 + k3)]) (m_116_18 (d := d + 1) (sl := 0) hO) rfl rfl rfl (fun _ _ => rfl) rfl (by exact cl_v my_116 rfl rfl rfl (Nat.le_of_ble_eq_true rfl) rfl (x_obj hO) rfl (by decide) rfl rfl) (by rfl) (Nat.le_of_ble_eq_true rfl) (Nat.le_of_ble_eq_true rfl) rfl (by rfl) ?_
                    refine w_m0 (pc1 := 173) rfl rfl (x_ls (k := k3) (e := r0.length + 1 - 1) hS (by omega) (by omega)) rfl ?_
                    rw [show (t0.set k3 (sCell Q.length s)).set k3 (Sum.inl (1, Q.length, Sum.inr (Sum.inl (vp_updL s (r0.length + 1 - 1) (o2K (u_2 g 18 (.inl v) (.inl w))))))) = t0.set k3 (sCell Q.length (vp_updL s (r0.length + 1 - 1) (o2K (u_2 g 18 (.inl v) (.inl w))))) from List.set_set _]
                    obtain ⟨hO2, -, -, hS2⟩ := FO_s F0 (vp_updL s (r0.length + 1 - 1) (o2K (u_2 g 18 (.inl v) (.inl w))))
                    refine w_p (pc1 := 174) rfl rfl ?_
                    refine w_m0 (pc1 := 177) (st1 := .ref (241 + k3) :: _) rfl rfl (x_gf (k := k) rfl hO2 rfl) rfl ?_
                    refine w_p (pc1 := 179) rfl rfl ?_
                    refine w_p (pc1 := 180) (st1 := .int 1 :: _) rfl rfl ?_
                    refine w_isub (pc1 := 181) (u := nI (r0.length + 1)) (v := nI (1)) (z := nI (r0.length + 1 - 1)) rfl (nK_sub (by omega)) rfl ?_
                    refine w_m0 (pc1 := 182) (st1 := .long (o2K (u_2 g 18 (.inl v) (.inl w))) :: _) rfl rfl (x_lle (k := k3) (e := r0.length + 1 - 1) hS2 (by omega) (by omega) (upd_s)) rfl ?_
                    refine w_m0 (pc1 := 185) (st1 := .long (-9223372036854775807) :: _) rfl rfl rfl rfl ?_
                    refine w_p (pc1 := 186) rfl rfl ?_
                    refine w_f (a := 193) (b := 189) (lb_ne_f (by rw [hu]; rfl)) rfl rfl ?_
                    refine w_m0 (pc1 := 192) (st1 := .long (-9223372036854775807) :: _) rfl rfl rfl rfl ?_
                    refine w_r rfl rfl rfl (fun _ _ => rfl) rfl ?_
                    exact ⟨_, rfl, rfl, rfl⟩
                  | some z1 =>
                    show Wd _ _ _ _ _ (WK C t0 k3 Q.length sl (f_l g R N O l (z1 :: r0))) _
                    have hb : t_l w1 w2 w3 l ((z1 :: r0).map tyv) = some [b] := by
                      have : tyv z1 = true := by rw [u2_B (by unfold isB; decide)] at hu; cases hu; rfl
                      show t_l w1 w2 w3 l (tyv z1 :: r0.map tyv) = _
                      rw [this]
                      exact hb
                    refine w_p (pc1 := 8) rfl rfl ?_
                    refine w_p (pc1 := 9) rfl rfl ?_
                    refine w_m0 (pc1 := 12) (st1 := .ref (241 + k1) :: _) rfl rfl (x_gf (k := k) rfl hO rfl) rfl ?_
                    refine w_m0 (pc1 := 13) (st1 := .int (nI (Q.length)) :: _) rfl rfl (x_ln (k := k1) hA (by decide)) rfl ?_
                    refine w_f (a := 199) (b := 16) (bN_ge_f (a := pre.length) (b := Q.length) (by omega) (by omega) (by omega)) rfl rfl ?_
                    refine w_p (pc1 := 18) rfl rfl ?_
                    refine w_p (pc1 := 19) rfl rfl ?_
                    refine w_m0 (pc1 := 22) (st1 := .ref (241 + k2) :: _) rfl rfl (x_gf (k := k) rfl hO rfl) rfl ?_
                    refine w_m0 (pc1 := 23) (st1 := .int (nI (Q.length)) :: _) rfl rfl (x_ln (k := k2) hB (by decide)) rfl ?_
                    refine w_f (a := 199) (b := 26) (bN_ge_f (a := pre.length) (b := Q.length) (by omega) (by omega) (by omega)) rfl rfl ?_
                    refine w_p (pc1 := 27) rfl rfl ?_
                    refine w_m0 (pc1 := 30) (st1 := .ref (241 + k1) :: _) rfl rfl (x_gf (k := k) rfl hO rfl) rfl ?_
                    refine w_p (pc1 := 32) rfl rfl ?_
                    refine w_m0 (pc1 := 33) (st1 := .int 18 :: _) rfl rfl (x_ile (k := k1) (e := pre.length) hA (by omega) (by omega) (h1)) rfl ?_
                    refine w_p (pc1 := 35) (al1 := [(7, .int 18), (6, .int (nI (pre.length))), (5, .int (nI (r0.length + 1 + 1))), (0, .ref (241 + k)), (1, .ref 114), (2, .int (nI (p))), (3, .ref (kN + 100)), (4, .ref (kO + 100))]) rfl rfl ?_
                    refine w_p (pc1 := 37) rfl rfl ?_
                    refine w_p (pc1 := 38) (st1 := .int 4 :: _) rfl rfl ?_
                    refine w_t (a := 86) (b := 41) rfl rfl rfl ?_
                    refine w_p (pc1 := 88) rfl rfl ?_
                    refine w_p (pc1 := 90) (st1 := .int 8 :: _) rfl rfl ?_
                    refine w_t (a := 129) (b := 93) rfl rfl rfl ?_
                    refine w_p (pc1 := 131) rfl rfl ?_
                    refine w_p (pc1 := 132) (st1 := .int 2 :: _) rfl rfl ?_
                    refine w_t (a := 139) (b := 135) (bN_ge_t (a := r0.length + 1 + 1) (b := 2) (by omega) (by omega) (by omega)) rfl rfl ?_
                    refine w_iinc (pc1 := 142) (u := nI (r0.length + 1 + 1)) (z := nI (r0.length + 1)) (al1 := [(5, .int (nI (r0.length + 1))), (7, .int 18), (6, .int (nI (pre.length))), (0, .ref (241 + k)), (1, .ref 114), (2, .int (nI (p))), (3, .ref (kN + 100)), (4, .ref (kO + 100))]) rfl rfl rfl (nK_p.trans nK_s) rfl rfl ?_
                    refine w_p (pc1 := 143) rfl rfl ?_
                    refine w_m0 (pc1 := 146) (st1 := .ref (241 + k3) :: _) rfl rfl (x_gf (k := k) rfl hO rfl) rfl ?_
                    refine w_p (pc1 := 148) rfl rfl ?_
                    refine w_p (pc1 := 149) (st1 := .int 1 :: _) rfl rfl ?_
                    refine w_isub (pc1 := 150) (u := nI (r0.length + 1)) (v := nI (1)) (z := nI (r0.length + 1 - 1)) rfl (nK_sub (by omega)) rfl ?_
                    refine w_p (pc1 := 151) rfl rfl ?_
                    refine w_p (pc1 := 153) rfl rfl ?_
                    refine w_p (pc1 := 154) rfl rfl ?_
                    refine w_m0 (pc1 := 157) (st1 := .ref (241 + k3) :: _) rfl rfl (x_gf (k := k) rfl hO rfl) rfl ?_
                    refine w_p (pc1 := 159) rfl rfl ?_
                    refine w_p (pc1 := 160) (st1 := .int 1 :: _) rfl rfl ?_
                    refine w_isub (pc1 := 161) (u := nI (r0.length + 1)) (v := nI (1)) (z := nI (r0.length + 1 - 1)) rfl (nK_sub (by omega)) rfl ?_
                    refine w_m0 (pc1 := 162) (st1 := .long (v_K (.inl v)) :: _) rfl rfl (x_lle (k := k3) (e := r0.length + 1 - 1) hS (by omega) (by omega) (by rw [Nat.add_sub_cancel]; exact hs.2.1)) rfl ?_
                    refine w_p (pc1 := 163) rfl rfl ?_
                    refine w_m0 (pc1 := 166) (st1 := .ref (241 + k3) :: _) rfl rfl (x_gf (k := k) rfl hO rfl) rfl ?_
                    refine w_p (pc1 := 168) rfl rfl ?_
                    refine w_m0 (pc1 := 169) (st1 := .long (v_K (.inl w)) :: _) rfl rfl (x_lle (k := k3) (e := r0.length + 1) hS (by omega) (by omega) (hs.1)) rfl ?_
                    refine w_je (pc1 := 172) (vs := [.ref (241 + k), .int 18, .long (v_K (.inl v)), .long (v_K (.inl w))]) (rest := [.int (nI (r0.length + 1 - 1)), .ref (241 + k3)]) (st1 := [.long (o2K (u_2 g 18 (.inl v) (.inl w))), .int (nI (r0.length + 1 - 1)), .ref (241 + k3)]) (m_116_18 (d := d + 1) (sl := 0) hO) rfl rfl rfl (fun _ _ => rfl) rfl (by exact cl_v my_116 rfl rfl rfl (Nat.le_of_ble_eq_true rfl) rfl (x_obj hO) rfl (by decide) rfl rfl) (by rfl) (Nat.le_of_ble_eq_true rfl) (Nat.le_of_ble_eq_true rfl) rfl (by rfl) ?_
                    refine w_m0 (pc1 := 173) rfl rfl (x_ls (k := k3) (e := r0.length + 1 - 1) hS (by omega) (by omega)) rfl ?_
                    rw [show (t0.set k3 (sCell Q.length s)).set k3 (Sum.inl (1, Q.length, Sum.inr (Sum.inl (vp_updL s (r0.length + 1 - 1) (o2K (u_2 g 18 (.inl v) (.inl w))))))) = t0.set k3 (sCell Q.length (vp_updL s (r0.length + 1 - 1) (o2K (u_2 g 18 (.inl v) (.inl w))))) from List.set_set _]
                    obtain ⟨hO2, -, -, hS2⟩ := FO_s F0 (vp_updL s (r0.length + 1 - 1) (o2K (u_2 g 18 (.inl v) (.inl w))))
                    refine w_p (pc1 := 174) rfl rfl ?_
                    refine w_m0 (pc1 := 177) (st1 := .ref (241 + k3) :: _) rfl rfl (x_gf (k := k) rfl hO2 rfl) rfl ?_
                    refine w_p (pc1 := 179) rfl rfl ?_
                    refine w_p (pc1 := 180) (st1 := .int 1 :: _) rfl rfl ?_
                    refine w_isub (pc1 := 181) (u := nI (r0.length + 1)) (v := nI (1)) (z := nI (r0.length + 1 - 1)) rfl (nK_sub (by omega)) rfl ?_
                    refine w_m0 (pc1 := 182) (st1 := .long (o2K (u_2 g 18 (.inl v) (.inl w))) :: _) rfl rfl (x_lle (k := k3) (e := r0.length + 1 - 1) hS2 (by omega) (by omega) (upd_s)) rfl ?_
                    refine w_m0 (pc1 := 185) (st1 := .long (-9223372036854775807) :: _) rfl rfl rfl rfl ?_
                    refine w_p (pc1 := 186) rfl rfl ?_
                    refine w_t (a := 193) (b := 189) (lb_ne_t (by rw [hu]; exact v_K_un _)) rfl rfl ?_
                    refine w_iinc (pc1 := 196) (u := nI (pre.length)) (z := nI (pre.length + 1)) (al1 := [(6, .int (nI (pre.length + 1))), (5, .int (nI (r0.length + 1))), (7, .int 18), (0, .ref (241 + k)), (1, .ref 114), (2, .int (nI (p))), (3, .ref (kN + 100)), (4, .ref (kO + 100))]) rfl rfl rfl nK_1 rfl rfl ?_
                    refine w_p (pc1 := 6) rfl rfl ?_
                    refine Wd_al (al := [(6, .int (nI (pre.length + 1))), (5, .int (nI (r0.length + 1))), (0, .ref (241 + k)), (1, .ref 114), (2, .int (nI (p))), (3, .ref (kN + 100)), (4, .ref (kO + 100))]) (sba_p [0, 1, 3, 4, 5, 6, 7] rfl rfl) ?_
                    exact ih (z1 :: r0) _ hQ2 ⟨b, hb⟩ (show r0.length + 1 ≤ pre.length + 1 by omega) ⟨by rw [Nat.add_sub_cancel, upd_s, hu]; rfl, skR_u hs.2.2 (by omega)⟩
    · cases st with
      | nil => cases er
      | cons w0 r1 => cases r1 with
        | nil => cases w0 <;> cases er
        | cons v0 r0 =>
          have hp : r0.length + 1 + 1 ≤ pre.length := hp
          cases w0 with
          | inl z => cases er
          | inr w => cases v0 with
            | inl z => cases er
            | inr v =>
              have er : r0.map tyv = r := by cases er; rfl
              subst er
              subst e2
              rcases hr with e1 | e1
              · obtain rfl : a = 19 := e1
                rw [fo_19]
                cases hu : u_2 g 19 (.inr v) (.inr w) with
                | none =>
                  show Wd _ _ _ _ _ (WK C t0 k3 Q.length sl none) _
                  refine w_p (pc1 := 8) rfl rfl ?_
                  refine w_p (pc1 := 9) rfl rfl ?_
                  refine w_m0 (pc1 := 12) (st1 := .ref (241 + k1) :: _) rfl rfl (x_gf (k := k) rfl hO rfl) rfl ?_
                  refine w_m0 (pc1 := 13) (st1 := .int (nI (Q.length)) :: _) rfl rfl (x_ln (k := k1) hA (by decide)) rfl ?_
                  refine w_f (a := 199) (b := 16) (bN_ge_f (a := pre.length) (b := Q.length) (by omega) (by omega) (by omega)) rfl rfl ?_
                  refine w_p (pc1 := 18) rfl rfl ?_
                  refine w_p (pc1 := 19) rfl rfl ?_
                  refine w_m0 (pc1 := 22) (st1 := .ref (241 + k2) :: _) rfl rfl (x_gf (k := k) rfl hO rfl) rfl ?_
                  refine w_m0 (pc1 := 23) (st1 := .int (nI (Q.length)) :: _) rfl rfl (x_ln (k := k2) hB (by decide)) rfl ?_
                  refine w_f (a := 199) (b := 26) (bN_ge_f (a := pre.length) (b := Q.length) (by omega) (by omega) (by omega)) rfl rfl ?_
                  refine w_p (pc1 := 27) rfl rfl ?_
                  refine w_m0 (pc1 := 30) (st1 := .ref (241 + k1) :: _) rfl rfl (x_gf (k := k) rfl hO rfl) rfl ?_
                  refine w_p (pc1 := 32) rfl rfl ?_
                  refine w_m0 (pc1 := 33) (st1 := .int 19 :: _) rfl rfl (x_ile (k := k1) (e := pre.length) hA (by omega) (by omega) (h1)) rfl ?_
                  refine w_p (pc1 := 35) (al1 := [(7, .int 19), (6, .int (nI (pre.length))), (5, .int (nI (r0.length + 1 + 1))), (0, .ref (241 + k)), (1, .ref 114), (2, .int (nI (p))), (3, .ref (kN + 100)), (4, .ref (kO + 100))]) rfl rfl ?_
                  refine w_p (pc1 := 37) rfl rfl ?_
                  refine w_p (pc1 := 38) (st1 := .int 4 :: _) rfl rfl ?_
                  refine w_t (a := 86) (b := 41) rfl rfl rfl ?_
                  refine w_p (pc1 := 88) rfl rfl ?_
                  refine w_p (pc1 := 90) (st1 := .int 8 :: _) rfl rfl ?_
                  refine w_t (a := 129) (b := 93) rfl rfl rfl ?_
                  refine w_p (pc1 := 131) rfl rfl ?_
                  refine w_p (pc1 := 132) (st1 := .int 2 :: _) rfl rfl ?_
                  refine w_t (a := 139) (b := 135) (bN_ge_t (a := r0.length + 1 + 1) (b := 2) (by omega) (by omega) (by omega)) rfl rfl ?_
                  refine w_iinc (pc1 := 142) (u := nI (r0.length + 1 + 1)) (z := nI (r0.length + 1)) (al1 := [(5, .int (nI (r0.length + 1))), (7, .int 19), (6, .int (nI (pre.length))), (0, .ref (241 + k)), (1, .ref 114), (2, .int (nI (p))), (3, .ref (kN + 100)), (4, .ref (kO + 100))]) rfl rfl rfl (nK_p.trans nK_s) rfl rfl ?_
                  refine w_p (pc1 := 143) rfl rfl ?_
                  refine w_m0 (pc1 := 146) (st1 := .ref (241 + k3) :: _) rfl rfl (x_gf (k := k) rfl hO rfl) rfl ?_
                  refine w_p (pc1 := 148) rfl rfl ?_
                  refine w_p (pc1 := 149) (st1 := .int 1 :: _) rfl rfl ?_
                  refine w_isub (pc1 := 150) (u := nI (r0.length + 1)) (v := nI (1)) (z := nI (r0.length + 1 - 1)) rfl (nK_sub (by omega)) rfl ?_
                  refine w_p (pc1 := 151) rfl rfl ?_
                  refine w_p (pc1 := 153) rfl rfl ?_
                  refine w_p (pc1 := 154) rfl rfl ?_
                  refine w_m0 (pc1 := 157) (st1 := .ref (241 + k3) :: _) rfl rfl (x_gf (k := k) rfl hO rfl) rfl ?_
                  refine w_p (pc1 := 159) rfl rfl ?_
                  refine w_p (pc1 := 160) (st1 := .int 1 :: _) rfl rfl ?_
                  refine w_isub (pc1 := 161) (u := nI (r0.length + 1)) (v := nI (1)) (z := nI (r0.length + 1 - 1)) rfl (nK_sub (by omega)) rfl ?_
                  refine w_m0 (pc1 := 162) (st1 := .long (v_K (.inr v)) :: _) rfl rfl (x_lle (k := k3) (e := r0.length + 1 - 1) hS (by omega) (by omega) (by rw [Nat.add_sub_cancel]; exact hs.2.1)) rfl ?_
                  refine w_p (pc1 := 163) rfl rfl ?_
                  refine w_m0 (pc1 := 166) (st1 := .ref (241 + k3) :: _) rfl rfl (x_gf (k := k) rfl hO rfl) rfl ?_
                  refine w_p (pc1 := 168) rfl rfl ?_
                  refine w_m0 (pc1 := 169) (st1 := .long (v_K (.inr w)) :: _) rfl rfl (x_lle (k := k3) (e := r0.length + 1) hS (by omega) (by omega) (hs.1)) rfl ?_
                  refine w_je (pc1 := 172) (vs := [.ref (241 + k), .int 19, .long (v_K (.inr v)), .long (v_K (.inr w))]) (rest := [.int (nI (r0.length + 1 - 1)), .ref (241 + k3)]) (st1 := [.long (o2K (u_2 g 19 (.inr v) (.inr w))), .int (nI (r0.length + 1 - 1)), .ref (241 + k3)]) (m_116_19 (d := d + 1) (sl := 0) hO) rfl rfl rfl (fun _ _ => rfl) rfl (by exact cl_v my_116 rfl rfl rfl (Nat.le_of_ble_eq_true rfl) rfl (x_obj hO) rfl (by decide) rfl rfl) (by rfl) (Nat.le_of_ble_eq_true rfl) (Nat.le_of_ble_eq_true rfl) rfl (by rfl) ?_
                  refine w_m0 (pc1 := 173) rfl rfl (x_ls (k := k3) (e := r0.length + 1 - 1) hS (by omega) (by omega)) rfl ?_
                  rw [show (t0.set k3 (sCell Q.length s)).set k3 (Sum.inl (1, Q.length, Sum.inr (Sum.inl (vp_updL s (r0.length + 1 - 1) (o2K (u_2 g 19 (.inr v) (.inr w))))))) = t0.set k3 (sCell Q.length (vp_updL s (r0.length + 1 - 1) (o2K (u_2 g 19 (.inr v) (.inr w))))) from List.set_set _]
                  obtain ⟨hO2, -, -, hS2⟩ := FO_s F0 (vp_updL s (r0.length + 1 - 1) (o2K (u_2 g 19 (.inr v) (.inr w))))
                  refine w_p (pc1 := 174) rfl rfl ?_
                  refine w_m0 (pc1 := 177) (st1 := .ref (241 + k3) :: _) rfl rfl (x_gf (k := k) rfl hO2 rfl) rfl ?_
                  refine w_p (pc1 := 179) rfl rfl ?_
                  refine w_p (pc1 := 180) (st1 := .int 1 :: _) rfl rfl ?_
                  refine w_isub (pc1 := 181) (u := nI (r0.length + 1)) (v := nI (1)) (z := nI (r0.length + 1 - 1)) rfl (nK_sub (by omega)) rfl ?_
                  refine w_m0 (pc1 := 182) (st1 := .long (o2K (u_2 g 19 (.inr v) (.inr w))) :: _) rfl rfl (x_lle (k := k3) (e := r0.length + 1 - 1) hS2 (by omega) (by omega) (upd_s)) rfl ?_
                  refine w_m0 (pc1 := 185) (st1 := .long (-9223372036854775807) :: _) rfl rfl rfl rfl ?_
                  refine w_p (pc1 := 186) rfl rfl ?_
                  refine w_f (a := 193) (b := 189) (lb_ne_f (by rw [hu]; rfl)) rfl rfl ?_
                  refine w_m0 (pc1 := 192) (st1 := .long (-9223372036854775807) :: _) rfl rfl rfl rfl ?_
                  refine w_r rfl rfl rfl (fun _ _ => rfl) rfl ?_
                  exact ⟨_, rfl, rfl, rfl⟩
                | some z1 =>
                  show Wd _ _ _ _ _ (WK C t0 k3 Q.length sl (f_l g R N O l (z1 :: r0))) _
                  have hb : t_l w1 w2 w3 l ((z1 :: r0).map tyv) = some [b] := by
                    have : tyv z1 = true := by cases hu; rfl
                    show t_l w1 w2 w3 l (tyv z1 :: r0.map tyv) = _
                    rw [this]
                    exact hb
                  refine w_p (pc1 := 8) rfl rfl ?_
                  refine w_p (pc1 := 9) rfl rfl ?_
                  refine w_m0 (pc1 := 12) (st1 := .ref (241 + k1) :: _) rfl rfl (x_gf (k := k) rfl hO rfl) rfl ?_
                  refine w_m0 (pc1 := 13) (st1 := .int (nI (Q.length)) :: _) rfl rfl (x_ln (k := k1) hA (by decide)) rfl ?_
                  refine w_f (a := 199) (b := 16) (bN_ge_f (a := pre.length) (b := Q.length) (by omega) (by omega) (by omega)) rfl rfl ?_
                  refine w_p (pc1 := 18) rfl rfl ?_
                  refine w_p (pc1 := 19) rfl rfl ?_
                  refine w_m0 (pc1 := 22) (st1 := .ref (241 + k2) :: _) rfl rfl (x_gf (k := k) rfl hO rfl) rfl ?_
                  refine w_m0 (pc1 := 23) (st1 := .int (nI (Q.length)) :: _) rfl rfl (x_ln (k := k2) hB (by decide)) rfl ?_
                  refine w_f (a := 199) (b := 26) (bN_ge_f (a := pre.length) (b := Q.length) (by omega) (by omega) (by omega)) rfl rfl ?_
                  refine w_p (pc1 := 27) rfl rfl ?_
                  refine w_m0 (pc1 := 30) (st1 := .ref (241 + k1) :: _) rfl rfl (x_gf (k := k) rfl hO rfl) rfl ?_
                  refine w_p (pc1 := 32) rfl rfl ?_
                  refine w_m0 (pc1 := 33) (st1 := .int 19 :: _) rfl rfl (x_ile (k := k1) (e := pre.length) hA (by omega) (by omega) (h1)) rfl ?_
                  refine w_p (pc1 := 35) (al1 := [(7, .int 19), (6, .int (nI (pre.length))), (5, .int (nI (r0.length + 1 + 1))), (0, .ref (241 + k)), (1, .ref 114), (2, .int (nI (p))), (3, .ref (kN + 100)), (4, .ref (kO + 100))]) rfl rfl ?_
                  refine w_p (pc1 := 37) rfl rfl ?_
                  refine w_p (pc1 := 38) (st1 := .int 4 :: _) rfl rfl ?_
                  refine w_t (a := 86) (b := 41) rfl rfl rfl ?_
                  refine w_p (pc1 := 88) rfl rfl ?_
                  refine w_p (pc1 := 90) (st1 := .int 8 :: _) rfl rfl ?_
                  refine w_t (a := 129) (b := 93) rfl rfl rfl ?_
                  refine w_p (pc1 := 131) rfl rfl ?_
                  refine w_p (pc1 := 132) (st1 := .int 2 :: _) rfl rfl ?_
                  refine w_t (a := 139) (b := 135) (bN_ge_t (a := r0.length + 1 + 1) (b := 2) (by omega) (by omega) (by omega)) rfl rfl ?_
                  refine w_iinc (pc1 := 142) (u := nI (r0.length + 1 + 1)) (z := nI (r0.length + 1)) (al1 := [(5, .int (nI (r0.length + 1))), (7, .int 19), (6, .int (nI (pre.length))), (0, .ref (241 + k)), (1, .ref 114), (2, .int (nI (p))), (3, .ref (kN + 100)), (4, .ref (kO + 100))]) rfl rfl rfl (nK_p.trans nK_s) rfl rfl ?_
                  refine w_p (pc1 := 143) rfl rfl ?_
                  refine w_m0 (pc1 := 146) (st1 := .ref (241 + k3) :: _) rfl rfl (x_gf (k := k) rfl hO rfl) rfl ?_
                  refine w_p (pc1 := 148) rfl rfl ?_
                  refine w_p (pc1 := 149) (st1 := .int 1 :: _) rfl rfl ?_
                  refine w_isub (pc1 := 150) (u := nI (r0.length + 1)) (v := nI (1)) (z := nI (r0.length + 1 - 1)) rfl (nK_sub (by omega)) rfl ?_
                  refine w_p (pc1 := 151) rfl rfl ?_
                  refine w_p (pc1 := 153) rfl rfl ?_
                  refine w_p (pc1 := 154) rfl rfl ?_
                  refine w_m0 (pc1 := 157) (st1 := .ref (241 + k3) :: _) rfl rfl (x_gf (k := k) rfl hO rfl) rfl ?_
                  refine w_p (pc1 := 159) rfl rfl ?_
                  refine w_p (pc1 := 160) (st1 := .int 1 :: _) rfl rfl ?_
                  refine w_isub (pc1 := 161) (u := nI (r0.length + 1)) (v := nI (1)) (z := nI (r0.length + 1 - 1)) rfl (nK_sub (by omega)) rfl ?_
                  refine w_m0 (pc1 := 162) (st1 := .long (v_K (.inr v)) :: _) rfl rfl (x_lle (k := k3) (e := r0.length + 1 - 1) hS (by omega) (by omega) (by rw [Nat.add_sub_cancel]; exact hs.2.1)) rfl ?_
                  refine w_p (pc1 := 163) rfl rfl ?_
                  refine w_m0 (pc1 := 166) (st1 := .ref (241 + k3) :: _) rfl rfl (x_gf (k := k) rfl hO rfl) rfl ?_
                  refine w_p (pc1 := 168) rfl rfl ?_
                  refine w_m0 (pc1 := 169) (st1 := .long (v_K (.inr w)) :: _) rfl rfl (x_lle (k := k3) (e := r0.length + 1) hS (by omega) (by omega) (hs.1)) rfl ?_
                  refine w_je (pc1 := 172) (vs := [.ref (241 + k), .int 19, .long (v_K (.inr v)), .long (v_K (.inr w))]) (rest := [.int (nI (r0.length + 1 - 1)), .ref (241 + k3)]) (st1 := [.long (o2K (u_2 g 19 (.inr v) (.inr w))), .int (nI (r0.length + 1 - 1)), .ref (241 + k3)]) (m_116_19 (d := d + 1) (sl := 0) hO) rfl rfl rfl (fun _ _ => rfl) rfl (by exact cl_v my_116 rfl rfl rfl (Nat.le_of_ble_eq_true rfl) rfl (x_obj hO) rfl (by decide) rfl rfl) (by rfl) (Nat.le_of_ble_eq_true rfl) (Nat.le_of_ble_eq_true rfl) rfl (by rfl) ?_
                  refine w_m0 (pc1 := 173) rfl rfl (x_ls (k := k3) (e := r0.length + 1 - 1) hS (by omega) (by omega)) rfl ?_
                  rw [show (t0.set k3 (sCell Q.length s)).set k3 (Sum.inl (1, Q.length, Sum.inr (Sum.inl (vp_updL s (r0.length + 1 - 1) (o2K (u_2 g 19 (.inr v) (.inr w))))))) = t0.set k3 (sCell Q.length (vp_updL s (r0.length + 1 - 1) (o2K (u_2 g 19 (.inr v) (.inr w))))) from List.set_set _]
                  obtain ⟨hO2, -, -, hS2⟩ := FO_s F0 (vp_updL s (r0.length + 1 - 1) (o2K (u_2 g 19 (.inr v) (.inr w))))
                  refine w_p (pc1 := 174) rfl rfl ?_
                  refine w_m0 (pc1 := 177) (st1 := .ref (241 + k3) :: _) rfl rfl (x_gf (k := k) rfl hO2 rfl) rfl ?_
                  refine w_p (pc1 := 179) rfl rfl ?_
                  refine w_p (pc1 := 180) (st1 := .int 1 :: _) rfl rfl ?_
                  refine w_isub (pc1 := 181) (u := nI (r0.length + 1)) (v := nI (1)) (z := nI (r0.length + 1 - 1)) rfl (nK_sub (by omega)) rfl ?_
                  refine w_m0 (pc1 := 182) (st1 := .long (o2K (u_2 g 19 (.inr v) (.inr w))) :: _) rfl rfl (x_lle (k := k3) (e := r0.length + 1 - 1) hS2 (by omega) (by omega) (upd_s)) rfl ?_
                  refine w_m0 (pc1 := 185) (st1 := .long (-9223372036854775807) :: _) rfl rfl rfl rfl ?_
                  refine w_p (pc1 := 186) rfl rfl ?_
                  refine w_t (a := 193) (b := 189) (lb_ne_t (by rw [hu]; exact v_K_un _)) rfl rfl ?_
                  refine w_iinc (pc1 := 196) (u := nI (pre.length)) (z := nI (pre.length + 1)) (al1 := [(6, .int (nI (pre.length + 1))), (5, .int (nI (r0.length + 1))), (7, .int 19), (0, .ref (241 + k)), (1, .ref 114), (2, .int (nI (p))), (3, .ref (kN + 100)), (4, .ref (kO + 100))]) rfl rfl rfl nK_1 rfl rfl ?_
                  refine w_p (pc1 := 6) rfl rfl ?_
                  refine Wd_al (al := [(6, .int (nI (pre.length + 1))), (5, .int (nI (r0.length + 1))), (0, .ref (241 + k)), (1, .ref 114), (2, .int (nI (p))), (3, .ref (kN + 100)), (4, .ref (kO + 100))]) (sba_p [0, 1, 3, 4, 5, 6, 7] rfl rfl) ?_
                  exact ih (z1 :: r0) _ hQ2 ⟨b, hb⟩ (show r0.length + 1 ≤ pre.length + 1 by omega) ⟨by rw [Nat.add_sub_cancel, upd_s, hu]; rfl, skR_u hs.2.2 (by omega)⟩
              · obtain rfl : a = 20 := e1
                rw [fo_20]
                cases hu : u_2 g 20 (.inr v) (.inr w) with
                | none =>
                  show Wd _ _ _ _ _ (WK C t0 k3 Q.length sl none) _
                  refine w_p (pc1 := 8) rfl rfl ?_
                  refine w_p (pc1 := 9) rfl rfl ?_
                  refine w_m0 (pc1 := 12) (st1 := .ref (241 + k1) :: _) rfl rfl (x_gf (k := k) rfl hO rfl) rfl ?_
                  refine w_m0 (pc1 := 13) (st1 := .int (nI (Q.length)) :: _) rfl rfl (x_ln (k := k1) hA (by decide)) rfl ?_
                  refine w_f (a := 199) (b := 16) (bN_ge_f (a := pre.length) (b := Q.length) (by omega) (by omega) (by omega)) rfl rfl ?_
                  refine w_p (pc1 := 18) rfl rfl ?_
                  refine w_p (pc1 := 19) rfl rfl ?_
                  refine w_m0 (pc1 := 22) (st1 := .ref (241 + k2) :: _) rfl rfl (x_gf (k := k) rfl hO rfl) rfl ?_
                  refine w_m0 (pc1 := 23) (st1 := .int (nI (Q.length)) :: _) rfl rfl (x_ln (k := k2) hB (by decide)) rfl ?_
                  refine w_f (a := 199) (b := 26) (bN_ge_f (a := pre.length) (b := Q.length) (by omega) (by omega) (by omega)) rfl rfl ?_
                  refine w_p (pc1 := 27) rfl rfl ?_
                  refine w_m0 (pc1 := 30) (st1 := .ref (241 + k1) :: _) rfl rfl (x_gf (k := k) rfl hO rfl) rfl ?_
                  refine w_p (pc1 := 32) rfl rfl ?_
                  refine w_m0 (pc1 := 33) (st1 := .int 20 :: _) rfl rfl (x_ile (k := k1) (e := pre.length) hA (by omega) (by omega) (h1)) rfl ?_
                  refine w_p (pc1 := 35) (al1 := [(7, .int 20), (6, .int (nI (pre.length))), (5, .int (nI (r0.length + 1 + 1))), (0, .ref (241 + k)), (1, .ref 114), (2, .int (nI (p))), (3, .ref (kN + 100)), (4, .ref (kO + 100))]) rfl rfl ?_
                  refine w_p (pc1 := 37) rfl rfl ?_
                  refine w_p (pc1 := 38) (st1 := .int 4 :: _) rfl rfl ?_
                  refine w_t (a := 86) (b := 41) rfl rfl rfl ?_
                  refine w_p (pc1 := 88) rfl rfl ?_
                  refine w_p (pc1 := 90) (st1 := .int 8 :: _) rfl rfl ?_
                  refine w_t (a := 129) (b := 93) rfl rfl rfl ?_
                  refine w_p (pc1 := 131) rfl rfl ?_
                  refine w_p (pc1 := 132) (st1 := .int 2 :: _) rfl rfl ?_
                  refine w_t (a := 139) (b := 135) (bN_ge_t (a := r0.length + 1 + 1) (b := 2) (by omega) (by omega) (by omega)) rfl rfl ?_
                  refine w_iinc (pc1 := 142) (u := nI (r0.length + 1 + 1)) (z := nI (r0.length + 1)) (al1 := [(5, .int (nI (r0.length + 1))), (7, .int 20), (6, .int (nI (pre.length))), (0, .ref (241 + k)), (1, .ref 114), (2, .int (nI (p))), (3, .ref (kN + 100)), (4, .ref (kO + 100))]) rfl rfl rfl (nK_p.trans nK_s) rfl rfl ?_
                  refine w_p (pc1 := 143) rfl rfl ?_
                  refine w_m0 (pc1 := 146) (st1 := .ref (241 + k3) :: _) rfl rfl (x_gf (k := k) rfl hO rfl) rfl ?_
                  refine w_p (pc1 := 148) rfl rfl ?_
                  refine w_p (pc1 := 149) (st1 := .int 1 :: _) rfl rfl ?_
                  refine w_isub (pc1 := 150) (u := nI (r0.length + 1)) (v := nI (1)) (z := nI (r0.length + 1 - 1)) rfl (nK_sub (by omega)) rfl ?_
                  refine w_p (pc1 := 151) rfl rfl ?_
                  refine w_p (pc1 := 153) rfl rfl ?_
                  refine w_p (pc1 := 154) rfl rfl ?_
                  refine w_m0 (pc1 := 157) (st1 := .ref (241 + k3) :: _) rfl rfl (x_gf (k := k) rfl hO rfl) rfl ?_
                  refine w_p (pc1 := 159) rfl rfl ?_
                  refine w_p (pc1 := 160) (st1 := .int 1 :: _) rfl rfl ?_
                  refine w_isub (pc1 := 161) (u := nI (r0.length + 1)) (v := nI (1)) (z := nI (r0.length + 1 - 1)) rfl (nK_sub (by omega)) rfl ?_
                  refine w_m0 (pc1 := 162) (st1 := .long (v_K (.inr v)) :: _) rfl rfl (x_lle (k := k3) (e := r0.length + 1 - 1) hS (by omega) (by omega) (by rw [Nat.add_sub_cancel]; exact hs.2.1)) rfl ?_
                  refine w_p (pc1 := 163) rfl rfl ?_
                  refine w_m0 (pc1 := 166) (st1 := .ref (241 + k3) :: _) rfl rfl (x_gf (k := k) rfl hO rfl) rfl ?_
                  refine w_p (pc1 := 168) rfl rfl ?_
                  refine w_m0 (pc1 := 169) (st1 := .long (v_K (.inr w)) :: _) rfl rfl (x_lle (k := k3) (e := r0.length + 1) hS (by omega) (by omega) (hs.1)) rfl ?_
                  refine w_je (pc1 := 172) (vs := [.ref (241 + k), .int 20, .long (v_K (.inr v)), .long (v_K (.inr w))]) (rest := [.int (nI (r0.length + 1 - 1)), .ref (241 + k3)]) (st1 := [.long (o2K (u_2 g 20 (.inr v) (.inr w))), .int (nI (r0.length + 1 - 1)), .ref (241 + k3)]) (m_116_20 (d := d + 1) (sl := 0) hO) rfl rfl rfl (fun _ _ => rfl) rfl (by exact cl_v my_116 rfl rfl rfl (Nat.le_of_ble_eq_true rfl) rfl (x_obj hO) rfl (by decide) rfl rfl) (by rfl) (Nat.le_of_ble_eq_true rfl) (Nat.le_of_ble_eq_true rfl) rfl (by rfl) ?_
                  refine w_m0 (pc1 := 173) rfl rfl (x_ls (k := k3) (e := r0.length + 1 - 1) hS (by omega) (by omega)) rfl ?_
                  rw [show (t0.set k3 (sCell Q.length s)).set k3 (Sum.inl (1, Q.length, Sum.inr (Sum.inl (vp_updL s (r0.length + 1 - 1) (o2K (u_2 g 20 (.inr v) (.inr w))))))) = t0.set k3 (sCell Q.length (vp_updL s (r0.length + 1 - 1) (o2K (u_2 g 20 (.inr v) (.inr w))))) from List.set_set _]
                  obtain ⟨hO2, -, -, hS2⟩ := FO_s F0 (vp_updL s (r0.length + 1 - 1) (o2K (u_2 g 20 (.inr v) (.inr w))))
                  refine w_p (pc1 := 174) rfl rfl ?_
                  refine w_m0 (pc1 := 177) (st1 := .ref (241 + k3) :: _) rfl rfl (x_gf (k := k) rfl hO2 rfl) rfl ?_
                  refine w_p (pc1 := 179) rfl rfl ?_
                  refine w_p (pc1 := 180) (st1 := .int 1 :: _) rfl rfl ?_
                  refine w_isub (pc1 := 181) (u := nI (r0.length + 1)) (v := nI (1)) (z := nI (r0.length + 1 - 1)) rfl (nK_sub (by omega)) rfl ?_
                  refine w_m0 (pc1 := 182) (st1 := .long (o2K (u_2 g 20 (.inr v) (.inr w))) :: _) rfl rfl (x_lle (k := k3) (e := r0.length + 1 - 1) hS2 (by omega) (by omega) (upd_s)) rfl ?_
                  refine w_m0 (pc1 := 185) (st1 := .long (-9223372036854775807) :: _) rfl rfl rfl rfl ?_
                  refine w_p (pc1 := 186) rfl rfl ?_
                  refine w_f (a := 193) (b := 189) (lb_ne_f (by rw [hu]; rfl)) rfl rfl ?_
                  refine w_m0 (pc1 := 192) (st1 := .long (-9223372036854775807) :: _) rfl rfl rfl rfl ?_
                  refine w_r rfl rfl rfl (fun _ _ => rfl) rfl ?_
                  exact ⟨_, rfl, rfl, rfl⟩
                | some z1 =>
                  show Wd _ _ _ _ _ (WK C t0 k3 Q.length sl (f_l g R N O l (z1 :: r0))) _
                  have hb : t_l w1 w2 w3 l ((z1 :: r0).map tyv) = some [b] := by
                    have : tyv z1 = true := by cases hu; rfl
                    show t_l w1 w2 w3 l (tyv z1 :: r0.map tyv) = _
                    rw [this]
                    exact hb
                  refine w_p (pc1 := 8) rfl rfl ?_
                  refine w_p (pc1 := 9) rfl rfl ?_
                  refine w_m0 (pc1 := 12) (st1 := .ref (241 + k1) :: _) rfl rfl (x_gf (k := k) rfl hO rfl) rfl ?_
                  refine w_m0 (pc1 := 13) (st1 := .int (nI (Q.length)) :: _) rfl rfl (x_ln (k := k1) hA (by decide)) rfl ?_
                  refine w_f (a := 199) (b := 16) (bN_ge_f (a := pre.length) (b := Q.length) (by omega) (by omega) (by omega)) rfl rfl ?_
                  refine w_p (pc1 := 18) rfl rfl ?_
                  refine w_p (pc1 := 19) rfl rfl ?_
                  refine w_m0 (pc1 := 22) (st1 := .ref (241 + k2) :: _) rfl rfl (x_gf (k := k) rfl hO rfl) rfl ?_
                  refine w_m0 (pc1 := 23) (st1 := .int (nI (Q.length)) :: _) rfl rfl (x_ln (k := k2) hB (by decide)) rfl ?_
                  refine w_f (a := 199) (b := 26) (bN_ge_f (a := pre.length) (b := Q.length) (by omega) (by omega) (by omega)) rfl rfl ?_
                  refine w_p (pc1 := 27) rfl rfl ?_
                  refine w_m0 (pc1 := 30) (st1 := .ref (241 + k1) :: _) rfl rfl (x_gf (k := k) rfl hO rfl) rfl ?_
                  refine w_p (pc1 := 32) rfl rfl ?_
                  refine w_m0 (pc1 := 33) (st1 := .int 20 :: _) rfl rfl (x_ile (k := k1) (e := pre.length) hA (by omega) (by omega) (h1)) rfl ?_
                  refine w_p (pc1 := 35) (al1 := [(7, .int 20), (6, .int (nI (pre.length))), (5, .int (nI (r0.length + 1 + 1))), (0, .ref (241 + k)), (1, .ref 114), (2, .int (nI (p))), (3, .ref (kN + 100)), (4, .ref (kO + 100))]) rfl rfl ?_
                  refine w_p (pc1 := 37) rfl rfl ?_
                  refine w_p (pc1 := 38) (st1 := .int 4 :: _) rfl rfl ?_
                  refine w_t (a := 86) (b := 41) rfl rfl rfl ?_
                  refine w_p (pc1 := 88) rfl rfl ?_
                  refine w_p (pc1 := 90) (st1 := .int 8 :: _) rfl rfl ?_
                  refine w_t (a := 129) (b := 93) rfl rfl rfl ?_
                  refine w_p (pc1 := 131) rfl rfl ?_
                  refine w_p (pc1 := 132) (st1 := .int 2 :: _) rfl rfl ?_
                  refine w_t (a := 139) (b := 135) (bN_ge_t (a := r0.length + 1 + 1) (b := 2) (by omega) (by omega) (by omega)) rfl rfl ?_
                  refine w_iinc (pc1 := 142) (u := nI (r0.length + 1 + 1)) (z := nI (r0.length + 1)) (al1 := [(5, .int (nI (r0.length + 1))), (7, .int 20), (6, .int (nI (pre.length))), (0, .ref (241 + k)), (1, .ref 114), (2, .int (nI (p))), (3, .ref (kN + 100)), (4, .ref (kO + 100))]) rfl rfl rfl (nK_p.trans nK_s) rfl rfl ?_
                  refine w_p (pc1 := 143) rfl rfl ?_
                  refine w_m0 (pc1 := 146) (st1 := .ref (241 + k3) :: _) rfl rfl (x_gf (k := k) rfl hO rfl) rfl ?_
                  refine w_p (pc1 := 148) rfl rfl ?_
                  refine w_p (pc1 := 149) (st1 := .int 1 :: _) rfl rfl ?_
                  refine w_isub (pc1 := 150) (u := nI (r0.length + 1)) (v := nI (1)) (z := nI (r0.length + 1 - 1)) rfl (nK_sub (by omega)) rfl ?_
                  refine w_p (pc1 := 151) rfl rfl ?_
                  refine w_p (pc1 := 153) rfl rfl ?_
                  refine w_p (pc1 := 154) rfl rfl ?_
                  refine w_m0 (pc1 := 157) (st1 := .ref (241 + k3) :: _) rfl rfl (x_gf (k := k) rfl hO rfl) rfl ?_
                  refine w_p (pc1 := 159) rfl rfl ?_
                  refine w_p (pc1 := 160) (st1 := .int 1 :: _) rfl rfl ?_
                  refine w_isub (pc1 := 161) (u := nI (r0.length + 1)) (v := nI (1)) (z := nI (r0.length + 1 - 1)) rfl (nK_sub (by omega)) rfl ?_
                  refine w_m0 (pc1 := 162) (st1 := .long (v_K (.inr v)) :: _) rfl rfl (x_lle (k := k3) (e := r0.length + 1 - 1) hS (by omega) (by omega) (by rw [Nat.add_sub_cancel]; exact hs.2.1)) rfl ?_
                  refine w_p (pc1 := 163) rfl rfl ?_
                  refine w_m0 (pc1 := 166) (st1 := .ref (241 + k3) :: _) rfl rfl (x_gf (k := k) rfl hO rfl) rfl ?_
                  refine w_p (pc1 := 168) rfl rfl ?_
                  refine w_m0 (pc1 := 169) (st1 := .long (v_K (.inr w)) :: _) rfl rfl (x_lle (k := k3) (e := r0.length + 1) hS (by omega) (by omega) (hs.1)) rfl ?_
                  refine w_je (pc1 := 172) (vs := [.ref (241 + k), .int 20, .long (v_K (.inr v)), .long (v_K (.inr w))]) (rest := [.int (nI (r0.length + 1 - 1)), .ref (241 + k3)]) (st1 := [.long (o2K (u_2 g 20 (.inr v) (.inr w))), .int (nI (r0.length + 1 - 1)), .ref (241 + k3)]) (m_116_20 (d := d + 1) (sl := 0) hO) rfl rfl rfl (fun _ _ => rfl) rfl (by exact cl_v my_116 rfl rfl rfl (Nat.le_of_ble_eq_true rfl) rfl (x_obj hO) rfl (by decide) rfl rfl) (by rfl) (Nat.le_of_ble_eq_true rfl) (Nat.le_of_ble_eq_true rfl) rfl (by rfl) ?_
                  refine w_m0 (pc1 := 173) rfl rfl (x_ls (k := k3) (e := r0.length + 1 - 1) hS (by omega) (by omega)) rfl ?_
                  rw [show (t0.set k3 (sCell Q.length s)).set k3 (Sum.inl (1, Q.length, Sum.inr (Sum.inl (vp_updL s (r0.length + 1 - 1) (o2K (u_2 g 20 (.inr v) (.inr w))))))) = t0.set k3 (sCell Q.length (vp_updL s (r0.length + 1 - 1) (o2K (u_2 g 20 (.inr v) (.inr w))))) from List.set_set _]
                  obtain ⟨hO2, -, -, hS2⟩ := FO_s F0 (vp_updL s (r0.length + 1 - 1) (o2K (u_2 g 20 (.inr v) (.inr w))))
                  refine w_p (pc1 := 174) rfl rfl ?_
                  refine w_m0 (pc1 := 177) (st1 := .ref (241 + k3) :: _) rfl rfl (x_gf (k := k) rfl hO2 rfl) rfl ?_
                  refine w_p (pc1 := 179) rfl rfl ?_
                  refine w_p (pc1 := 180) (st1 := .int 1 :: _) rfl rfl ?_
                  refine w_isub (pc1 := 181) (u := nI (r0.length + 1)) (v := nI (1)) (z := nI (r0.length + 1 - 1)) rfl (nK_sub (by omega)) rfl ?_
                  refine w_m0 (pc1 := 182) (st1 := .long (o2K (u_2 g 20 (.inr v) (.inr w))) :: _) rfl rfl (x_lle (k := k3) (e := r0.length + 1 - 1) hS2 (by omega) (by omega) (upd_s)) rfl ?_
                  refine w_m0 (pc1 := 185) (st1 := .long (-9223372036854775807) :: _) rfl rfl rfl rfl ?_
                  refine w_p (pc1 := 186) rfl rfl ?_
                  refine w_t (a := 193) (b := 189) (lb_ne_t (by rw [hu]; exact v_K_un _)) rfl rfl ?_
                  refine w_iinc (pc1 := 196) (u := nI (pre.length)) (z := nI (pre.length + 1)) (al1 := [(6, .int (nI (pre.length + 1))), (5, .int (nI (r0.length + 1))), (7, .int 20), (0, .ref (241 + k)), (1, .ref 114), (2, .int (nI (p))), (3, .ref (kN + 100)), (4, .ref (kO + 100))]) rfl rfl rfl nK_1 rfl rfl ?_
                  refine w_p (pc1 := 6) rfl rfl ?_
                  refine Wd_al (al := [(6, .int (nI (pre.length + 1))), (5, .int (nI (r0.length + 1))), (0, .ref (241 + k)), (1, .ref 114), (2, .int (nI (p))), (3, .ref (kN + 100)), (4, .ref (kO + 100))]) (sba_p [0, 1, 3, 4, 5, 6, 7] rfl rfl) ?_
                  exact ih (z1 :: r0) _ hQ2 ⟨b, hb⟩ (show r0.length + 1 ≤ pre.length + 1 by omega) ⟨by rw [Nat.add_sub_cancel, upd_s, hu]; rfl, skR_u hs.2.2 (by omega)⟩
set_option maxRecDepth 100000 in
theorem m_112r (F0 : FO t0 k k1 k2 k3 Q (ck g) s0) (h6 : Q.length ≤ 600) (hE : envK C p (.ref (kN + 100)) (.ref (kO + 100)) w1 w2 w3 R N O) {b : Bool} (ht : t_l w1 w2 w3 Q [] = some [b]) : Wd L xs (d + 3) y_112 (0, [(0, .ref (241 + k)), (1, .ref 114), (2, .int (nI p)), (3, .ref (kN + 100)), (4, .ref (kO + 100))], [], MH C t0, sl) (WK C t0 k3 Q.length sl (f_l g R N O Q [])) nX := by
  have e0 : t0.set k3 (sCell Q.length s0) = t0 := tl_id F0.2.2.2
  refine w_p (pc1 := 1) (st1 := .int 0 :: _) rfl rfl ?_
  refine w_p (pc1 := 3) (al1 := [(5, .int 0), (0, .ref (241 + k)), (1, .ref 114), (2, .int (nI (p))), (3, .ref (kN + 100)), (4, .ref (kO + 100))]) rfl rfl ?_
  refine w_p (pc1 := 4) (st1 := .int 0 :: _) rfl rfl ?_
  refine w_p (pc1 := 6) (al1 := [(6, .int 0), (5, .int 0), (0, .ref (241 + k)), (1, .ref 114), (2, .int (nI (p))), (3, .ref (kN + 100)), (4, .ref (kO + 100))]) rfl rfl ?_
  have := lp_112r (L := L) (xs := xs) (d := d) (sl := sl) F0 h6 hE Q [] [] s0 rfl ⟨b, ht⟩ (Nat.le_refl _) trivial
  rw [e0] at this
  exact this
end WKL
