
/-! FORMULAS KEEP THEIR KINDS -/
section FOK
variable {w1 w2 w3 : Nat} {R N O : rw_F} {g : Bool}
set_option maxRecDepth 100000 in
theorem f1_ok {q : op_T} {st : List tv_T} {T1 : List Bool} (h : t_1 w1 w2 w3 q (st.map tyv) = some T1) : ∃ st', f_1 true R N O q st = some st' ∧ st'.map tyv = T1 := by
  obtain ⟨a, b⟩ := q
  rcases t_1c h with ⟨e1, e2⟩ | ⟨e1, e2⟩ | ⟨e1, e3, e2⟩ | ⟨e1, e3, e2⟩ | ⟨e1, e3, e2⟩ | ⟨r, er, hr⟩ | ⟨r, er, e1, e2⟩ | ⟨r, er, hr⟩ | ⟨r, er, hr, e2⟩
  · obtain rfl : a = 0 := e1
    subst e2
    exact ⟨_, fo_0, rfl⟩
  · obtain rfl : a = 1 := e1
    subst e2
    exact ⟨_, fo_1, rfl⟩
  · obtain rfl : a = 2 := e1
    subst e2
    exact ⟨_, fo_2, rfl⟩
  · obtain rfl : a = 3 := e1
    subst e2
    exact ⟨_, fo_3, rfl⟩
  · obtain rfl : a = 4 := e1
    subst e2
    exact ⟨_, fo_4, rfl⟩
  · cases st with
    | nil => cases er
    | cons v0 r0 => cases v0 with
      | inr y => cases er
      | inl y =>
        have er : r0.map tyv = r := by cases er; rfl
        subst er
        rcases hr with ⟨e1, e2⟩ | ⟨e1, e2⟩
        · obtain rfl : a = 5 := e1
          subst e2
          exact ⟨_, fo_5, rfl⟩
        · subst e2
          rcases e1 with e1 | e1
          · obtain rfl : a = 7 := e1
            exact ⟨_, fo_7, rfl⟩
          · obtain rfl : a = 8 := e1
            exact ⟨_, fo_8, rfl⟩
  · cases st with
    | nil => cases er
    | cons v0 r0 => cases v0 with
      | inl y => cases er
      | inr y =>
        have er : r0.map tyv = r := by cases er; rfl
        subst er
        obtain rfl : a = 6 := e1
        subst e2
        exact ⟨_, fo_6, rfl⟩
  · cases st with
    | nil => cases er
    | cons y0 r1 => cases r1 with
      | nil => cases y0 <;> cases er
      | cons x0 r0 => cases y0 with
        | inr y => cases er
        | inl y => cases x0 with
          | inr x => cases er
          | inl x =>
            have er : r0.map tyv = r := by cases er; rfl
            subst er
            rcases hr with ⟨e1, e2⟩ | ⟨e1, e2⟩
            · subst e2
              obtain ⟨q1, hq⟩ := u2_so (v := x) (w := y) e1
              refine ⟨.inl q1 :: r0, ?_, rfl⟩
              rcases e1 with e1 | e1 | e1 | e1
              · obtain rfl : a = 9 := e1
                rw [fo_9, hq]
                rfl
              · obtain rfl : a = 10 := e1
                rw [fo_10, hq]
                rfl
              · obtain rfl : a = 11 := e1
                rw [fo_11, hq]
                rfl
              · obtain rfl : a = 12 := e1
                rw [fo_12, hq]
                rfl
            · subst e2
              have hq := u2_B (g := true) (v := x) (w := y) e1
              refine ⟨.inr (u_t a x y) :: r0, ?_, rfl⟩
              rcases e1 with e1 | e1 | e1 | e1 | e1 | e1
              · obtain rfl : a = 13 := e1
                rw [fo_13, hq]
                rfl
              · obtain rfl : a = 14 := e1
                rw [fo_14, hq]
                rfl
              · obtain rfl : a = 15 := e1
                rw [fo_15, hq]
                rfl
              · obtain rfl : a = 16 := e1
                rw [fo_16, hq]
                rfl
              · obtain rfl : a = 17 := e1
                rw [fo_17, hq]
                rfl
              · obtain rfl : a = 18 := e1
                rw [fo_18, hq]
                rfl
  · cases st with
    | nil => cases er
    | cons y0 r1 => cases r1 with
      | nil => cases y0 <;> cases er
      | cons x0 r0 => cases y0 with
        | inl y => cases er
        | inr y => cases x0 with
          | inl x => cases er
          | inr x =>
            have er : r0.map tyv = r := by cases er; rfl
            subst er
            subst e2
            refine ⟨.inr (u_b a x y) :: r0, ?_, rfl⟩
            rcases hr with e1 | e1
            · obtain rfl : a = 19 := e1
              exact fo_19
            · obtain rfl : a = 20 := e1
              exact fo_20
set_option maxRecDepth 100000 in
theorem f_lok : ∀ (l : List op_T) (st : List tv_T) (T1 : List Bool), t_l w1 w2 w3 l (st.map tyv) = some T1 → ∃ st', f_l true R N O l st = some st' ∧ st'.map tyv = T1
  | [], st, T1, h => by
    have h : some (st.map tyv) = some T1 := h
    cases h
    exact ⟨st, rfl, rfl⟩
  | q :: l, st, T1, h => by
    have h : (t_1 w1 w2 w3 q (st.map tyv)).bind (t_l w1 w2 w3 l) = some T1 := h
    cases hT : t_1 w1 w2 w3 q (st.map tyv) with
    | none => rw [hT] at h; cases h
    | some T2 =>
      rw [hT] at h
      obtain ⟨s1, h1, h2⟩ := f1_ok (R := R) (N := N) (O := O) hT
      have h : t_l w1 w2 w3 l T2 = some T1 := h
      rw [← h2] at h
      obtain ⟨s2, h3, h4⟩ := f_lok l s1 T1 h
      refine ⟨s2, ?_, h4⟩
      show (f_1 true R N O q st).bind (f_l true R N O l) = _
      rw [h1]
      exact h3
set_option maxRecDepth 100000 in
theorem fl_t : ∀ (l : List op_T) (st s1 : List tv_T), f_l g R N O l st = some s1 → f_l true R N O l st = some s1
  | [], st, s1, h => h
  | q :: l, st, s1, h => by
    have h : (f_1 g R N O q st).bind (f_l g R N O l) = some s1 := h
    show (f_1 true R N O q st).bind (f_l true R N O l) = some s1
    cases hT : f_1 g R N O q st with
    | none => rw [hT] at h; cases h
    | some s2 =>
      rw [hT] at h
      rw [f1_t hT]
      exact fl_t l s2 s1 h
/-! a test; a sum -/
set_option maxRecDepth 100000 in
theorem fl_test {l : List op_T} (h : t_l w1 w2 w3 l [] = some [true]) : ∃ b : Option Bool, f_l true R N O l [] = some [.inr b] := by
  obtain ⟨s, h1, h2⟩ := f_lok (R := R) (N := N) (O := O) l [] _ h
  cases s with
  | nil => cases h2
  | cons v r => cases r with
    | cons _ _ => exact absurd (congrArg List.length h2) (by simp)
    | nil => cases v with
      | inl _ => cases h2
      | inr b => exact ⟨b, h1⟩
set_option maxRecDepth 100000 in
theorem fl_sum {l : List op_T} (h : t_l w1 w2 w3 l [] = some [false]) : ∃ b : Option Int32, f_l true R N O l [] = some [.inl b] := by
  obtain ⟨s, h1, h2⟩ := f_lok (R := R) (N := N) (O := O) l [] _ h
  cases s with
  | nil => cases h2
  | cons v r => cases r with
    | cons _ _ => exact absurd (congrArg List.length h2) (by simp)
    | nil => cases v with
      | inr _ => cases h2
      | inl b => exact ⟨b, h1⟩
end FOK
/-! ONE SIDE: the first row by which a rule is broken -/
def FB (C : co_T) (t : ab_H) (sl : Nat) (x : Int32) : Option Value → ab_H → Nat → Prop := fun v h m => some (.int x) = v ∧ (∃ t', stk t t' ∧ MH C t' = h) ∧ sl = m
set_option maxRecDepth 100000 in
theorem FB_i {C : co_T} {t : ab_H} {sl : Nat} {x : Int32} : FB C t sl x (some (.int x)) (MH C t) sl := ⟨rfl, ⟨t, stk_r, rfl⟩, rfl⟩
set_option maxRecDepth 100000 in
theorem FB_k {C : co_T} {t t1 : ab_H} {sl : Nat} {x : Int32} (h : stk t t1) : ∀ v h m, FB C t1 sl x v h m → FB C t sl x v h m := fun v h' m ⟨e1, ⟨t', e2, e3⟩, e4⟩ => ⟨e1, ⟨t', stk_t h e2, e3⟩, e4⟩
section KFB
variable {L : Nat} {xs : Nat → Int32} {C : co_T} {t : ab_H} {d sl k k0 kc kt b c : Nat} {wd : Nat → Nat} {rs : rs_T} {u : ru_T} {fc ft : Nat → Int32} {vc : Value} {r : ro_T}
set_option maxRecDepth 100000 in
theorem sizeK (W : RWK C wd rs) (hb : b < 6) : Wd L xs d y_107 (0, [(0, .ref 113), (1, .int (nI b))], [], MH C t, sl) (Rt (some (.int (nI (rs b).1.length))) (MH C t) sl) nX := m_107 hb (W b hb).2.1 (W b hb).2.2.1
set_option maxRecDepth 100000 in
theorem idK (W : RWK C wd rs) (hb : b < 6) (hr : (rs b).1[k]? = some r) : Wd L xs (d + 1) y_131 (0, [(0, .ref 113), (1, .int (nI b)), (2, .int (nI k))], [], MH C t, sl) (Rt (some (.int r.1)) (MH C t) sl) nX := by
  obtain ⟨h1, h2, h3, h4⟩ := W b hb
  have := m_131 (L := L) (xs := xs) (t := t) (d := d) (sl := sl) hb h2 h3 (get_lt hr)
  rw [(h4 k r hr).1] at this
  exact this
set_option maxRecDepth 100000 in
theorem lp_146_0 (W : RWK C wd rs) (hR : okR wd u) (hK : rKd u = 0) : ∀ (suf pre : List ro_T) (t : ab_H), RUK t k0 u → pre ++ suf = (rs (rTb u)).1 → Wd L xs (d + 4) y_146 (2, [(2, .int (nI pre.length)), (0, .ref (241 + k0)), (1, .ref 113)], [], MH C t, sl) (FB C t sl (fbl (brk u rs) pre.length suf)) nX
  | [], pre, t, U, hp => by
    obtain ⟨kc, kt, fc, ft, vc, U, hck⟩ := U
    rw [List.append_nil] at hp
    have hl := congrArg List.length hp
    have h40 := (W _ hR.1.2.1).2.2.1
    have hsz := sizeK (L := L) (xs := xs) (t := t) (d := d + 3) (sl := 0) W hR.1.2.1
    refine w_p (pc1 := 3) rfl rfl ?_
    refine w_p (pc1 := 4) rfl rfl ?_
    refine w_p (pc1 := 5) rfl rfl ?_
    refine w_m0 (pc1 := 8) (st1 := .int (nI (rTb u)) :: _) rfl rfl (x_gf (k := k0) rfl U.1 rfl) rfl ?_
    refine w_je (pc1 := 11) (vs := [.ref 113, .int (nI (rTb u))]) (rest := [.int (nI (pre.length))]) (st1 := [.int (nI ((rs (rTb u)).1.length)), .int (nI (pre.length))]) (hsz) rfl rfl rfl (fun _ _ => rfl) rfl (by exact cl_v my_107 rfl rfl rfl (Nat.le_of_ble_eq_true rfl) rfl (MH_obj rfl rfl) rfl (by decide) rfl rfl) (by rfl) (Nat.le_of_ble_eq_true rfl) (Nat.le_of_ble_eq_true rfl) rfl (by rfl) ?_
    refine w_t (a := 212) (b := 14) (bN_ge_t (a := pre.length) (b := (rs (rTb u)).1.length) (by omega) (by omega) (by omega)) rfl rfl ?_
    refine w_p (pc1 := 213) (st1 := .int (-1) :: _) rfl rfl ?_
    refine w_r rfl rfl rfl (fun _ _ => rfl) cr_int ?_
    exact FB_i
  | r :: suf, pre, t, U0, hp => by
    obtain ⟨kc, kt, fc, ft, vc, U, hck⟩ := id U0
    obtain ⟨h1, h2, h3⟩ := get_ap hp
    have h40 := (W _ hR.1.2.1).2.2.1
    have hsz := sizeK (L := L) (xs := xs) (t := t) (d := d + 3) (sl := 0) W hR.1.2.1
    have hid := idK (L := L) (xs := xs) (t := t) (d := d + 2) (sl := 0) W hR.1.2.1 h1
    have hn := m_147 (L := L) (xs := xs) (t := t) (d := d + 1) (sl := 0) W U hR.1.2.1 hR.1.2.2.1 hR.1.2.2.2 h1
    have ih := lp_146_0 W hR hK suf (pre ++ [r])
    rw [len_s] at ih
    rw [fbl]
    have hU := U.1
    rw [hK] at hU
    have U : RUo t k0 kc kt u fc ft vc := U
    have e0 : brk u rs pre.length r = nul (rCs u) r.2 := by unfold brk; rw [hK]; rfl
    rw [e0]
    cases hx : nul (rCs u) r.2 with
    | true =>
      rw [hx] at hn
      refine w_p (pc1 := 3) rfl rfl ?_
      refine w_p (pc1 := 4) rfl rfl ?_
      refine w_p (pc1 := 5) rfl rfl ?_
      refine w_m0 (pc1 := 8) (st1 := .int (nI (rTb u)) :: _) rfl rfl (x_gf (k := k0) rfl hU rfl) rfl ?_
      refine w_je (pc1 := 11) (vs := [.ref 113, .int (nI (rTb u))]) (rest := [.int (nI (pre.length))]) (st1 := [.int (nI ((rs (rTb u)).1.length)), .int (nI (pre.length))]) (hsz) rfl rfl rfl (fun _ _ => rfl) rfl (by exact cl_v my_107 rfl rfl rfl (Nat.le_of_ble_eq_true rfl) rfl (MH_obj rfl rfl) rfl (by decide) rfl rfl) (by rfl) (Nat.le_of_ble_eq_true rfl) (Nat.le_of_ble_eq_true rfl) rfl (by rfl) ?_
      refine w_f (a := 212) (b := 14) (bN_ge_f (a := pre.length) (b := (rs (rTb u)).1.length) (by omega) (by omega) (by omega)) rfl rfl ?_
      refine w_p (pc1 := 15) rfl rfl ?_
      refine w_p (pc1 := 16) rfl rfl ?_
      refine w_p (pc1 := 17) rfl rfl ?_
      refine w_je (pc1 := 20) (vs := [.ref (241 + k0), .ref 113, .int (nI (pre.length))]) (rest := []) (st1 := [.int 1]) (hn) rfl rfl rfl (fun _ _ => rfl) rfl (by exact cl_v my_147 rfl rfl rfl (Nat.le_of_ble_eq_true rfl) rfl (x_obj hU) rfl (by decide) rfl rfl) (by rfl) (Nat.le_of_ble_eq_true rfl) (Nat.le_of_ble_eq_true rfl) rfl (by rfl) ?_
      refine w_p (pc1 := 21) (al1 := [(3, .int 1), (2, .int (nI (pre.length))), (0, .ref (241 + k0)), (1, .ref 113)]) rfl rfl ?_
      refine w_p (pc1 := 22) rfl rfl ?_
      refine w_m0 (pc1 := 25) (st1 := .int 0 :: _) rfl rfl (x_gf (k := k0) rfl hU rfl) rfl ?_
      refine w_p (pc1 := 26) (st1 := .int 1 :: _) rfl rfl ?_
      refine w_t (a := 60) (b := 29) rfl rfl rfl ?_
      refine w_p (pc1 := 61) rfl rfl ?_
      refine w_m0 (pc1 := 64) (st1 := .int 0 :: _) rfl rfl (x_gf (k := k0) rfl hU rfl) rfl ?_
      refine w_p (pc1 := 65) (st1 := .int 2 :: _) rfl rfl ?_
      refine w_t (a := 99) (b := 68) rfl rfl rfl ?_
      refine w_p (pc1 := 100) rfl rfl ?_
      refine w_m0 (pc1 := 103) (st1 := .int 0 :: _) rfl rfl (x_gf (k := k0) rfl hU rfl) rfl ?_
      refine w_p (pc1 := 104) (st1 := .int 4 :: _) rfl rfl ?_
      refine w_t (a := 145) (b := 107) rfl rfl rfl ?_
      refine w_p (pc1 := 146) rfl rfl ?_
      refine w_m0 (pc1 := 149) (st1 := .int 0 :: _) rfl rfl (x_gf (k := k0) rfl hU rfl) rfl ?_
      refine w_p (pc1 := 150) (st1 := .int 3 :: _) rfl rfl ?_
      refine w_t (a := 192) (b := 153) rfl rfl rfl ?_
      refine w_p (pc1 := 193) rfl rfl ?_
      refine w_f (a := 206) (b := 196) rfl rfl rfl ?_
      refine w_p (pc1 := 197) rfl rfl ?_
      refine w_p (pc1 := 198) rfl rfl ?_
      refine w_m0 (pc1 := 201) (st1 := .int (nI (rTb u)) :: _) rfl rfl (x_gf (k := k0) rfl hU rfl) rfl ?_
      refine w_p (pc1 := 202) rfl rfl ?_
      refine w_je (pc1 := 205) (vs := [.ref 113, .int (nI (rTb u)), .int (nI (pre.length))]) (rest := []) (st1 := [.int (r.1)]) (hid) rfl rfl rfl (fun _ _ => rfl) rfl (by exact cl_v my_131 rfl rfl rfl (Nat.le_of_ble_eq_true rfl) rfl (MH_obj rfl rfl) rfl (by decide) rfl rfl) (by rfl) (Nat.le_of_ble_eq_true rfl) (Nat.le_of_ble_eq_true rfl) rfl (by rfl) ?_
      refine w_r rfl rfl rfl (fun _ _ => rfl) cr_int ?_
      exact FB_i
    | false =>
      rw [hx] at hn
      refine w_p (pc1 := 3) rfl rfl ?_
      refine w_p (pc1 := 4) rfl rfl ?_
      refine w_p (pc1 := 5) rfl rfl ?_
      refine w_m0 (pc1 := 8) (st1 := .int (nI (rTb u)) :: _) rfl rfl (x_gf (k := k0) rfl hU rfl) rfl ?_
      refine w_je (pc1 := 11) (vs := [.ref 113, .int (nI (rTb u))]) (rest := [.int (nI (pre.length))]) (st1 := [.int (nI ((rs (rTb u)).1.length)), .int (nI (pre.length))]) (hsz) rfl rfl rfl (fun _ _ => rfl) rfl (by exact cl_v my_107 rfl rfl rfl (Nat.le_of_ble_eq_true rfl) rfl (MH_obj rfl rfl) rfl (by decide) rfl rfl) (by rfl) (Nat.le_of_ble_eq_true rfl) (Nat.le_of_ble_eq_true rfl) rfl (by rfl) ?_
      refine w_f (a := 212) (b := 14) (bN_ge_f (a := pre.length) (b := (rs (rTb u)).1.length) (by omega) (by omega) (by omega)) rfl rfl ?_
      refine w_p (pc1 := 15) rfl rfl ?_
      refine w_p (pc1 := 16) rfl rfl ?_
      refine w_p (pc1 := 17) rfl rfl ?_
      refine w_je (pc1 := 20) (vs := [.ref (241 + k0), .ref 113, .int (nI (pre.length))]) (rest := []) (st1 := [.int 0]) (hn) rfl rfl rfl (fun _ _ => rfl) rfl (by exact cl_v my_147 rfl rfl rfl (Nat.le_of_ble_eq_true rfl) rfl (x_obj hU) rfl (by decide) rfl rfl) (by rfl) (Nat.le_of_ble_eq_true rfl) (Nat.le_of_ble_eq_true rfl) rfl (by rfl) ?_
      refine w_p (pc1 := 21) (al1 := [(3, .int 0), (2, .int (nI (pre.length))), (0, .ref (241 + k0)), (1, .ref 113)]) rfl rfl ?_
      refine w_p (pc1 := 22) rfl rfl ?_
      refine w_m0 (pc1 := 25) (st1 := .int 0 :: _) rfl rfl (x_gf (k := k0) rfl hU rfl) rfl ?_
      refine w_p (pc1 := 26) (st1 := .int 1 :: _) rfl rfl ?_
      refine w_t (a := 60) (b := 29) rfl rfl rfl ?_
      refine w_p (pc1 := 61) rfl rfl ?_
      refine w_m0 (pc1 := 64) (st1 := .int 0 :: _) rfl rfl (x_gf (k := k0) rfl hU rfl) rfl ?_
      refine w_p (pc1 := 65) (st1 := .int 2 :: _) rfl rfl ?_
      refine w_t (a := 99) (b := 68) rfl rfl rfl ?_
      refine w_p (pc1 := 100) rfl rfl ?_
      refine w_m0 (pc1 := 103) (st1 := .int 0 :: _) rfl rfl (x_gf (k := k0) rfl hU rfl) rfl ?_
      refine w_p (pc1 := 104) (st1 := .int 4 :: _) rfl rfl ?_
      refine w_t (a := 145) (b := 107) rfl rfl rfl ?_
      refine w_p (pc1 := 146) rfl rfl ?_
      refine w_m0 (pc1 := 149) (st1 := .int 0 :: _) rfl rfl (x_gf (k := k0) rfl hU rfl) rfl ?_
      refine w_p (pc1 := 150) (st1 := .int 3 :: _) rfl rfl ?_
      refine w_t (a := 192) (b := 153) rfl rfl rfl ?_
      refine w_p (pc1 := 193) rfl rfl ?_
      refine w_t (a := 206) (b := 196) rfl rfl rfl ?_
      refine w_iinc (pc1 := 209) (u := nI (pre.length)) (z := nI (pre.length + 1)) (al1 := [(2, .int (nI (pre.length + 1))), (3, .int 0), (0, .ref (241 + k0)), (1, .ref 113)]) rfl rfl rfl nK_1 rfl rfl ?_
      refine w_p (pc1 := 2) rfl rfl ?_
      refine Wd_al (al := [(2, .int (nI (pre.length + 1))), (0, .ref (241 + k0)), (1, .ref 113)]) (sba_p [0, 2, 3] rfl rfl) ?_
      exact ih t U0 h3
set_option maxRecDepth 100000 in
theorem lp_146_1 (W : RWK C wd rs) (hR : okR wd u) (hK : rKd u = 1) : ∀ (suf pre : List ro_T) (t : ab_H), RUK t k0 u → pre ++ suf = (rs (rTb u)).1 → Wd L xs (d + 4) y_146 (2, [(2, .int (nI pre.length)), (0, .ref (241 + k0)), (1, .ref 113)], [], MH C t, sl) (FB C t sl (fbl (brk u rs) pre.length suf)) nX
  | [], pre, t, U, hp => by
    obtain ⟨kc, kt, fc, ft, vc, U, hck⟩ := U
    rw [List.append_nil] at hp
    have hl := congrArg List.length hp
    have h40 := (W _ hR.1.2.1).2.2.1
    have hsz := sizeK (L := L) (xs := xs) (t := t) (d := d + 3) (sl := 0) W hR.1.2.1
    refine w_p (pc1 := 3) rfl rfl ?_
    refine w_p (pc1 := 4) rfl rfl ?_
    refine w_p (pc1 := 5) rfl rfl ?_
    refine w_m0 (pc1 := 8) (st1 := .int (nI (rTb u)) :: _) rfl rfl (x_gf (k := k0) rfl U.1 rfl) rfl ?_
    refine w_je (pc1 := 11) (vs := [.ref 113, .int (nI (rTb u))]) (rest := [.int (nI (pre.length))]) (st1 := [.int (nI ((rs (rTb u)).1.length)), .int (nI (pre.length))]) (hsz) rfl rfl rfl (fun _ _ => rfl) rfl (by exact cl_v my_107 rfl rfl rfl (Nat.le_of_ble_eq_true rfl) rfl (MH_obj rfl rfl) rfl (by decide) rfl rfl) (by rfl) (Nat.le_of_ble_eq_true rfl) (Nat.le_of_ble_eq_true rfl) rfl (by rfl) ?_
    refine w_t (a := 212) (b := 14) (bN_ge_t (a := pre.length) (b := (rs (rTb u)).1.length) (by omega) (by omega) (by omega)) rfl rfl ?_
    refine w_p (pc1 := 213) (st1 := .int (-1) :: _) rfl rfl ?_
    refine w_r rfl rfl rfl (fun _ _ => rfl) cr_int ?_
    exact FB_i
  | r :: suf, pre, t, U0, hp => by
    obtain ⟨kc, kt, fc, ft, vc, U, hck⟩ := id U0
    obtain ⟨h1, h2, h3⟩ := get_ap hp
    have h40 := (W _ hR.1.2.1).2.2.1
    have hsz := sizeK (L := L) (xs := xs) (t := t) (d := d + 3) (sl := 0) W hR.1.2.1
    have hid := idK (L := L) (xs := xs) (t := t) (d := d + 2) (sl := 0) W hR.1.2.1 h1
    have hn := m_147 (L := L) (xs := xs) (t := t) (d := d + 1) (sl := 0) W U hR.1.2.1 hR.1.2.2.1 hR.1.2.2.2 h1
    have ih := lp_146_1 W hR hK suf (pre ++ [r])
    rw [len_s] at ih
    rw [fbl]
    have hU := U.1
    rw [hK] at hU
    have U : RUo t k0 kc kt u fc ft vc := U
    have hth := m_148 (L := L) (xs := xs) (t := t) (d := d + 1) (sl := 0) (n := pre.length) W U U.2.1 U.2.2.2.1 rfl hR.1.2.1 hR.1.2.1 hR.1.2.2.1 hR.1.2.2.2 hR.1.2.2.2 h1 (Nat.le_of_lt h2)
    have e0 : brk u rs pre.length r = (nul (rCs u) r.2 || ((rs (rTb u)).1.take pre.length).any (fun q => alk (rCs u) (rCs u) r.2 q.2)) := by unfold brk; rw [hK]; rfl
    rw [e0]
    cases hx : nul (rCs u) r.2 with
    | true =>
      rw [hx] at hn
      refine w_p (pc1 := 3) rfl rfl ?_
      refine w_p (pc1 := 4) rfl rfl ?_
      refine w_p (pc1 := 5) rfl rfl ?_
      refine w_m0 (pc1 := 8) (st1 := .int (nI (rTb u)) :: _) rfl rfl (x_gf (k := k0) rfl hU rfl) rfl ?_
      refine w_je (pc1 := 11) (vs := [.ref 113, .int (nI (rTb u))]) (rest := [.int (nI (pre.length))]) (st1 := [.int (nI ((rs (rTb u)).1.length)), .int (nI (pre.length))]) (hsz) rfl rfl rfl (fun _ _ => rfl) rfl (by exact cl_v my_107 rfl rfl rfl (Nat.le_of_ble_eq_true rfl) rfl (MH_obj rfl rfl) rfl (by decide) rfl rfl) (by rfl) (Nat.le_of_ble_eq_true rfl) (Nat.le_of_ble_eq_true rfl) rfl (by rfl) ?_
      refine w_f (a := 212) (b := 14) (bN_ge_f (a := pre.length) (b := (rs (rTb u)).1.length) (by omega) (by omega) (by omega)) rfl rfl ?_
      refine w_p (pc1 := 15) rfl rfl ?_
      refine w_p (pc1 := 16) rfl rfl ?_
      refine w_p (pc1 := 17) rfl rfl ?_
      refine w_je (pc1 := 20) (vs := [.ref (241 + k0), .ref 113, .int (nI (pre.length))]) (rest := []) (st1 := [.int 1]) (hn) rfl rfl rfl (fun _ _ => rfl) rfl (by exact cl_v my_147 rfl rfl rfl (Nat.le_of_ble_eq_true rfl) rfl (x_obj hU) rfl (by decide) rfl rfl) (by rfl) (Nat.le_of_ble_eq_true rfl) (Nat.le_of_ble_eq_true rfl) rfl (by rfl) ?_
      refine w_p (pc1 := 21) (al1 := [(3, .int 1), (2, .int (nI (pre.length))), (0, .ref (241 + k0)), (1, .ref 113)]) rfl rfl ?_
      refine w_p (pc1 := 22) rfl rfl ?_
      refine w_m0 (pc1 := 25) (st1 := .int 1 :: _) rfl rfl (x_gf (k := k0) rfl hU rfl) rfl ?_
      refine w_p (pc1 := 26) (st1 := .int 1 :: _) rfl rfl ?_
      refine w_f (a := 60) (b := 29) rfl rfl rfl ?_
      refine w_p (pc1 := 30) rfl rfl ?_
      refine w_t (a := 51) (b := 33) rfl rfl rfl ?_
      refine w_p (pc1 := 52) (st1 := .int 1 :: _) rfl rfl ?_
      refine w_p (pc1 := 56) rfl rfl ?_
      refine w_p (pc1 := 57) (al1 := [(3, .int 1), (2, .int (nI (pre.length))), (0, .ref (241 + k0)), (1, .ref 113)]) rfl rfl ?_
      refine w_p (pc1 := 192) rfl rfl ?_
      refine w_p (pc1 := 193) rfl rfl ?_
      refine w_f (a := 206) (b := 196) rfl rfl rfl ?_
      refine w_p (pc1 := 197) rfl rfl ?_
      refine w_p (pc1 := 198) rfl rfl ?_
      refine w_m0 (pc1 := 201) (st1 := .int (nI (rTb u)) :: _) rfl rfl (x_gf (k := k0) rfl hU rfl) rfl ?_
      refine w_p (pc1 := 202) rfl rfl ?_
      refine w_je (pc1 := 205) (vs := [.ref 113, .int (nI (rTb u)), .int (nI (pre.length))]) (rest := []) (st1 := [.int (r.1)]) (hid) rfl rfl rfl (fun _ _ => rfl) rfl (by exact cl_v my_131 rfl rfl rfl (Nat.le_of_ble_eq_true rfl) rfl (MH_obj rfl rfl) rfl (by decide) rfl rfl) (by rfl) (Nat.le_of_ble_eq_true rfl) (Nat.le_of_ble_eq_true rfl) rfl (by rfl) ?_
      refine w_r rfl rfl rfl (fun _ _ => rfl) cr_int ?_
      exact FB_i
    | false =>
      rw [hx] at hn
      cases hy : ((rs (rTb u)).1.take pre.length).any (fun q => alk (rCs u) (rCs u) r.2 q.2) with
      | true =>
        rw [hy] at hth
        refine w_p (pc1 := 3) rfl rfl ?_
        refine w_p (pc1 := 4) rfl rfl ?_
        refine w_p (pc1 := 5) rfl rfl ?_
        refine w_m0 (pc1 := 8) (st1 := .int (nI (rTb u)) :: _) rfl rfl (x_gf (k := k0) rfl hU rfl) rfl ?_
        refine w_je (pc1 := 11) (vs := [.ref 113, .int (nI (rTb u))]) (rest := [.int (nI (pre.length))]) (st1 := [.int (nI ((rs (rTb u)).1.length)), .int (nI (pre.length))]) (hsz) rfl rfl rfl (fun _ _ => rfl) rfl (by exact cl_v my_107 rfl rfl rfl (Nat.le_of_ble_eq_true rfl) rfl (MH_obj rfl rfl) rfl (by decide) rfl rfl) (by rfl) (Nat.le_of_ble_eq_true rfl) (Nat.le_of_ble_eq_true rfl) rfl (by rfl) ?_
        refine w_f (a := 212) (b := 14) (bN_ge_f (a := pre.length) (b := (rs (rTb u)).1.length) (by omega) (by omega) (by omega)) rfl rfl ?_
        refine w_p (pc1 := 15) rfl rfl ?_
        refine w_p (pc1 := 16) rfl rfl ?_
        refine w_p (pc1 := 17) rfl rfl ?_
        refine w_je (pc1 := 20) (vs := [.ref (241 + k0), .ref 113, .int (nI (pre.length))]) (rest := []) (st1 := [.int 0]) (hn) rfl rfl rfl (fun _ _ => rfl) rfl (by exact cl_v my_147 rfl rfl rfl (Nat.le_of_ble_eq_true rfl) rfl (x_obj hU) rfl (by decide) rfl rfl) (by rfl) (Nat.le_of_ble_eq_true rfl) (Nat.le_of_ble_eq_true rfl) rfl (by rfl) ?_
        refine w_p (pc1 := 21) (al1 := [(3, .int 0), (2, .int (nI (pre.length))), (0, .ref (241 + k0)), (1, .ref 113)]) rfl rfl ?_
        refine w_p (pc1 := 22) rfl rfl ?_
        refine w_m0 (pc1 := 25) (st1 := .int 1 :: _) rfl rfl (x_gf (k := k0) rfl hU rfl) rfl ?_
        refine w_p (pc1 := 26) (st1 := .int 1 :: _) rfl rfl ?_
        refine w_f (a := 60) (b := 29) rfl rfl rfl ?_
        refine w_p (pc1 := 30) rfl rfl ?_
        refine w_f (a := 51) (b := 33) rfl rfl rfl ?_
        refine w_p (pc1 := 34) rfl rfl ?_
        refine w_p (pc1 := 35) rfl rfl ?_
        refine w_p (pc1 := 36) rfl rfl ?_
        refine w_p (pc1 := 37) rfl rfl ?_
        refine w_m0 (pc1 := 40) (st1 := .int (nI (rTb u)) :: _) rfl rfl (x_gf (k := k0) rfl hU rfl) rfl ?_
        refine w_p (pc1 := 41) rfl rfl ?_
        refine w_m0 (pc1 := 44) (st1 := .ref (241 + kc) :: _) rfl rfl (x_gf (k := k0) rfl hU rfl) rfl ?_
        refine w_p (pc1 := 45) rfl rfl ?_
        refine w_je (pc1 := 48) (vs := [.ref (241 + k0), .ref 113, .int (nI (pre.length)), .int (nI (rTb u)), .ref (241 + kc), .int (nI (pre.length))]) (rest := []) (st1 := [.int 1]) (hth) rfl rfl rfl (fun _ _ => rfl) rfl (by exact cl_v my_148 rfl rfl rfl (Nat.le_of_ble_eq_true rfl) rfl (x_obj hU) rfl (by decide) rfl rfl) (by rfl) (Nat.le_of_ble_eq_true rfl) (Nat.le_of_ble_eq_true rfl) rfl (by rfl) ?_
        refine w_f (a := 55) (b := 51) rfl rfl rfl ?_
        refine w_p (pc1 := 52) (st1 := .int 1 :: _) rfl rfl ?_
        refine w_p (pc1 := 56) rfl rfl ?_
        refine w_p (pc1 := 57) (al1 := [(3, .int 1), (2, .int (nI (pre.length))), (0, .ref (241 + k0)), (1, .ref 113)]) rfl rfl ?_
        refine w_p (pc1 := 192) rfl rfl ?_
        refine w_p (pc1 := 193) rfl rfl ?_
        refine w_f (a := 206) (b := 196) rfl rfl rfl ?_
        refine w_p (pc1 := 197) rfl rfl ?_
        refine w_p (pc1 := 198) rfl rfl ?_
        refine w_m0 (pc1 := 201) (st1 := .int (nI (rTb u)) :: _) rfl rfl (x_gf (k := k0) rfl hU rfl) rfl ?_
        refine w_p (pc1 := 202) rfl rfl ?_
        refine w_je (pc1 := 205) (vs := [.ref 113, .int (nI (rTb u)), .int (nI (pre.length))]) (rest := []) (st1 := [.int (r.1)]) (hid) rfl rfl rfl (fun _ _ => rfl) rfl (by exact cl_v my_131 rfl rfl rfl (Nat.le_of_ble_eq_true rfl) rfl (MH_obj rfl rfl) rfl (by decide) rfl rfl) (by rfl) (Nat.le_of_ble_eq_true rfl) (Nat.le_of_ble_eq_true rfl) rfl (by rfl) ?_
        refine w_r rfl rfl rfl (fun _ _ => rfl) cr_int ?_
        exact FB_i
      | false =>
        rw [hy] at hth
        refine w_p (pc1 := 3) rfl rfl ?_
        refine w_p (pc1 := 4) rfl rfl ?_
        refine w_p (pc1 := 5) rfl rfl ?_
        refine w_m0 (pc1 := 8) (st1 := .int (nI (rTb u)) :: _) rfl rfl (x_gf (k := k0) rfl hU rfl) rfl ?_
        refine w_je (pc1 := 11) (vs := [.ref 113, .int (nI (rTb u))]) (rest := [.int (nI (pre.length))]) (st1 := [.int (nI ((rs (rTb u)).1.length)), .int (nI (pre.length))]) (hsz) rfl rfl rfl (fun _ _ => rfl) rfl (by exact cl_v my_107 rfl rfl rfl (Nat.le_of_ble_eq_true rfl) rfl (MH_obj rfl rfl) rfl (by decide) rfl rfl) (by rfl) (Nat.le_of_ble_eq_true rfl) (Nat.le_of_ble_eq_true rfl) rfl (by rfl) ?_
        refine w_f (a := 212) (b := 14) (bN_ge_f (a := pre.length) (b := (rs (rTb u)).1.length) (by omega) (by omega) (by omega)) rfl rfl ?_
        refine w_p (pc1 := 15) rfl rfl ?_
        refine w_p (pc1 := 16) rfl rfl ?_
        refine w_p (pc1 := 17) rfl rfl ?_
        refine w_je (pc1 := 20) (vs := [.ref (241 + k0), .ref 113, .int (nI (pre.length))]) (rest := []) (st1 := [.int 0]) (hn) rfl rfl rfl (fun _ _ => rfl) rfl (by exact cl_v my_147 rfl rfl rfl (Nat.le_of_ble_eq_true rfl) rfl (x_obj hU) rfl (by decide) rfl rfl) (by rfl) (Nat.le_of_ble_eq_true rfl) (Nat.le_of_ble_eq_true rfl) rfl (by rfl) ?_
        refine w_p (pc1 := 21) (al1 := [(3, .int 0), (2, .int (nI (pre.length))), (0, .ref (241 + k0)), (1, .ref 113)]) rfl rfl ?_
        refine w_p (pc1 := 22) rfl rfl ?_
        refine w_m0 (pc1 := 25) (st1 := .int 1 :: _) rfl rfl (x_gf (k := k0) rfl hU rfl) rfl ?_
        refine w_p (pc1 := 26) (st1 := .int 1 :: _) rfl rfl ?_
        refine w_f (a := 60) (b := 29) rfl rfl rfl ?_
        refine w_p (pc1 := 30) rfl rfl ?_
        refine w_f (a := 51) (b := 33) rfl rfl rfl ?_
        refine w_p (pc1 := 34) rfl rfl ?_
        refine w_p (pc1 := 35) rfl rfl ?_
        refine w_p (pc1 := 36) rfl rfl ?_
        refine w_p (pc1 := 37) rfl rfl ?_
        refine w_m0 (pc1 := 40) (st1 := .int (nI (rTb u)) :: _) rfl rfl (x_gf (k := k0) rfl hU rfl) rfl ?_
        refine w_p (pc1 := 41) rfl rfl ?_
        refine w_m0 (pc1 := 44) (st1 := .ref (241 + kc) :: _) rfl rfl (x_gf (k := k0) rfl hU rfl) rfl ?_
        refine w_p (pc1 := 45) rfl rfl ?_
        refine w_je (pc1 := 48) (vs := [.ref (241 + k0), .ref 113, .int (nI (pre.length)), .int (nI (rTb u)), .ref (241 + kc), .int (nI (pre.length))]) (rest := []) (st1 := [.int 0]) (hth) rfl rfl rfl (fun _ _ => rfl) rfl (by exact cl_v my_148 rfl rfl rfl (Nat.le_of_ble_eq_true rfl) rfl (x_obj hU) rfl (by decide) rfl rfl) (by rfl) (Nat.le_of_ble_eq_true rfl) (Nat.le_of_ble_eq_true rfl) rfl (by rfl) ?_
        refine w_t (a := 55) (b := 51) rfl rfl rfl ?_
        refine w_p (pc1 := 56) (st1 := .int 0 :: _) rfl rfl ?_
        refine w_p (pc1 := 57) (al1 := [(3, .int 0), (2, .int (nI (pre.length))), (0, .ref (241 + k0)), (1, .ref 113)]) rfl rfl ?_
        refine w_p (pc1 := 192) rfl rfl ?_
        refine w_p (pc1 := 193) rfl rfl ?_
        refine w_t (a := 206) (b := 196) rfl rfl rfl ?_
        refine w_iinc (pc1 := 209) (u := nI (pre.length)) (z := nI (pre.length + 1)) (al1 := [(2, .int (nI (pre.length + 1))), (3, .int 0), (0, .ref (241 + k0)), (1, .ref 113)]) rfl rfl rfl nK_1 rfl rfl ?_
        refine w_p (pc1 := 2) rfl rfl ?_
        refine Wd_al (al := [(2, .int (nI (pre.length + 1))), (0, .ref (241 + k0)), (1, .ref 113)]) (sba_p [0, 2, 3] rfl rfl) ?_
        exact ih t U0 h3
set_option maxRecDepth 100000 in
theorem lp_146_2 (W : RWK C wd rs) (hR : okR wd u) (hK : rKd u = 2) : ∀ (suf pre : List ro_T) (t : ab_H), RUK t k0 u → pre ++ suf = (rs (rTb u)).1 → Wd L xs (d + 4) y_146 (2, [(2, .int (nI pre.length)), (0, .ref (241 + k0)), (1, .ref 113)], [], MH C t, sl) (FB C t sl (fbl (brk u rs) pre.length suf)) nX
  | [], pre, t, U, hp => by
    obtain ⟨kc, kt, fc, ft, vc, U, hck⟩ := U
    rw [List.append_nil] at hp
    have hl := congrArg List.length hp
    have h40 := (W _ hR.1.2.1).2.2.1
    have hsz := sizeK (L := L) (xs := xs) (t := t) (d := d + 3) (sl := 0) W hR.1.2.1
    refine w_p (pc1 := 3) rfl rfl ?_
    refine w_p (pc1 := 4) rfl rfl ?_
    refine w_p (pc1 := 5) rfl rfl ?_
    refine w_m0 (pc1 := 8) (st1 := .int (nI (rTb u)) :: _) rfl rfl (x_gf (k := k0) rfl U.1 rfl) rfl ?_
    refine w_je (pc1 := 11) (vs := [.ref 113, .int (nI (rTb u))]) (rest := [.int (nI (pre.length))]) (st1 := [.int (nI ((rs (rTb u)).1.length)), .int (nI (pre.length))]) (hsz) rfl rfl rfl (fun _ _ => rfl) rfl (by exact cl_v my_107 rfl rfl rfl (Nat.le_of_ble_eq_true rfl) rfl (MH_obj rfl rfl) rfl (by decide) rfl rfl) (by rfl) (Nat.le_of_ble_eq_true rfl) (Nat.le_of_ble_eq_true rfl) rfl (by rfl) ?_
    refine w_t (a := 212) (b := 14) (bN_ge_t (a := pre.length) (b := (rs (rTb u)).1.length) (by omega) (by omega) (by omega)) rfl rfl ?_
    refine w_p (pc1 := 213) (st1 := .int (-1) :: _) rfl rfl ?_
    refine w_r rfl rfl rfl (fun _ _ => rfl) cr_int ?_
    exact FB_i
  | r :: suf, pre, t, U0, hp => by
    obtain ⟨kc, kt, fc, ft, vc, U, hck⟩ := id U0
    obtain ⟨h1, h2, h3⟩ := get_ap hp
    have h40 := (W _ hR.1.2.1).2.2.1
    have hsz := sizeK (L := L) (xs := xs) (t := t) (d := d + 3) (sl := 0) W hR.1.2.1
    have hid := idK (L := L) (xs := xs) (t := t) (d := d + 2) (sl := 0) W hR.1.2.1 h1
    have hn := m_147 (L := L) (xs := xs) (t := t) (d := d + 1) (sl := 0) W U hR.1.2.1 hR.1.2.2.1 hR.1.2.2.2 h1
    have ih := lp_146_2 W hR hK suf (pre ++ [r])
    rw [len_s] at ih
    rw [fbl]
    have hU := U.1
    rw [hK] at hU
    have U : RUo t k0 kc kt u fc ft vc := U
    have hth := m_148 (L := L) (xs := xs) (t := t) (d := d + 1) (sl := 0) (n := pre.length) W U U.2.1 U.2.2.2.1 rfl hR.1.2.1 hR.1.2.1 hR.1.2.2.1 hR.1.2.2.2 hR.1.2.2.2 h1 (Nat.le_of_lt h2)
    have e0 : brk u rs pre.length r = (!nul (rCs u) r.2 && ((rs (rTb u)).1.take pre.length).any (fun q => alk (rCs u) (rCs u) r.2 q.2)) := by unfold brk; rw [hK]; rfl
    rw [e0]
    cases hx : nul (rCs u) r.2 with
    | true =>
      rw [hx] at hn
      refine w_p (pc1 := 3) rfl rfl ?_
      refine w_p (pc1 := 4) rfl rfl ?_
      refine w_p (pc1 := 5) rfl rfl ?_
      refine w_m0 (pc1 := 8) (st1 := .int (nI (rTb u)) :: _) rfl rfl (x_gf (k := k0) rfl hU rfl) rfl ?_
      refine w_je (pc1 := 11) (vs := [.ref 113, .int (nI (rTb u))]) (rest := [.int (nI (pre.length))]) (st1 := [.int (nI ((rs (rTb u)).1.length)), .int (nI (pre.length))]) (hsz) rfl rfl rfl (fun _ _ => rfl) rfl (by exact cl_v my_107 rfl rfl rfl (Nat.le_of_ble_eq_true rfl) rfl (MH_obj rfl rfl) rfl (by decide) rfl rfl) (by rfl) (Nat.le_of_ble_eq_true rfl) (Nat.le_of_ble_eq_true rfl) rfl (by rfl) ?_
      refine w_f (a := 212) (b := 14) (bN_ge_f (a := pre.length) (b := (rs (rTb u)).1.length) (by omega) (by omega) (by omega)) rfl rfl ?_
      refine w_p (pc1 := 15) rfl rfl ?_
      refine w_p (pc1 := 16) rfl rfl ?_
      refine w_p (pc1 := 17) rfl rfl ?_
      refine w_je (pc1 := 20) (vs := [.ref (241 + k0), .ref 113, .int (nI (pre.length))]) (rest := []) (st1 := [.int 1]) (hn) rfl rfl rfl (fun _ _ => rfl) rfl (by exact cl_v my_147 rfl rfl rfl (Nat.le_of_ble_eq_true rfl) rfl (x_obj hU) rfl (by decide) rfl rfl) (by rfl) (Nat.le_of_ble_eq_true rfl) (Nat.le_of_ble_eq_true rfl) rfl (by rfl) ?_
      refine w_p (pc1 := 21) (al1 := [(3, .int 1), (2, .int (nI (pre.length))), (0, .ref (241 + k0)), (1, .ref 113)]) rfl rfl ?_
      refine w_p (pc1 := 22) rfl rfl ?_
      refine w_m0 (pc1 := 25) (st1 := .int 2 :: _) rfl rfl (x_gf (k := k0) rfl hU rfl) rfl ?_
      refine w_p (pc1 := 26) (st1 := .int 1 :: _) rfl rfl ?_
      refine w_t (a := 60) (b := 29) rfl rfl rfl ?_
      refine w_p (pc1 := 61) rfl rfl ?_
      refine w_m0 (pc1 := 64) (st1 := .int 2 :: _) rfl rfl (x_gf (k := k0) rfl hU rfl) rfl ?_
      refine w_p (pc1 := 65) (st1 := .int 2 :: _) rfl rfl ?_
      refine w_f (a := 99) (b := 68) rfl rfl rfl ?_
      refine w_p (pc1 := 69) rfl rfl ?_
      refine w_t (a := 94) (b := 72) rfl rfl rfl ?_
      refine w_p (pc1 := 95) (st1 := .int 0 :: _) rfl rfl ?_
      refine w_p (pc1 := 96) (al1 := [(3, .int 0), (2, .int (nI (pre.length))), (0, .ref (241 + k0)), (1, .ref 113)]) rfl rfl ?_
      refine w_p (pc1 := 192) rfl rfl ?_
      refine w_p (pc1 := 193) rfl rfl ?_
      refine w_t (a := 206) (b := 196) rfl rfl rfl ?_
      refine w_iinc (pc1 := 209) (u := nI (pre.length)) (z := nI (pre.length + 1)) (al1 := [(2, .int (nI (pre.length + 1))), (3, .int 0), (0, .ref (241 + k0)), (1, .ref 113)]) rfl rfl rfl nK_1 rfl rfl ?_
      refine w_p (pc1 := 2) rfl rfl ?_
      refine Wd_al (al := [(2, .int (nI (pre.length + 1))), (0, .ref (241 + k0)), (1, .ref 113)]) (sba_p [0, 2, 3] rfl rfl) ?_
      exact ih t U0 h3
    | false =>
      rw [hx] at hn
      cases hy : ((rs (rTb u)).1.take pre.length).any (fun q => alk (rCs u) (rCs u) r.2 q.2) with
      | true =>
        rw [hy] at hth
        refine w_p (pc1 := 3) rfl rfl ?_
        refine w_p (pc1 := 4) rfl rfl ?_
        refine w_p (pc1 := 5) rfl rfl ?_
        refine w_m0 (pc1 := 8) (st1 := .int (nI (rTb u)) :: _) rfl rfl (x_gf (k := k0) rfl hU rfl) rfl ?_
        refine w_je (pc1 := 11) (vs := [.ref 113, .int (nI (rTb u))]) (rest := [.int (nI (pre.length))]) (st1 := [.int (nI ((rs (rTb u)).1.length)), .int (nI (pre.length))]) (hsz) rfl rfl rfl (fun _ _ => rfl) rfl (by exact cl_v my_107 rfl rfl rfl (Nat.le_of_ble_eq_true rfl) rfl (MH_obj rfl rfl) rfl (by decide) rfl rfl) (by rfl) (Nat.le_of_ble_eq_true rfl) (Nat.le_of_ble_eq_true rfl) rfl (by rfl) ?_
        refine w_f (a := 212) (b := 14) (bN_ge_f (a := pre.length) (b := (rs (rTb u)).1.length) (by omega) (by omega) (by omega)) rfl rfl ?_
        refine w_p (pc1 := 15) rfl rfl ?_
        refine w_p (pc1 := 16) rfl rfl ?_
        refine w_p (pc1 := 17) rfl rfl ?_
        refine w_je (pc1 := 20) (vs := [.ref (241 + k0), .ref 113, .int (nI (pre.length))]) (rest := []) (st1 := [.int 0]) (hn) rfl rfl rfl (fun _ _ => rfl) rfl (by exact cl_v my_147 rfl rfl rfl (Nat.le_of_ble_eq_true rfl) rfl (x_obj hU) rfl (by decide) rfl rfl) (by rfl) (Nat.le_of_ble_eq_true rfl) (Nat.le_of_ble_eq_true rfl) rfl (by rfl) ?_
        refine w_p (pc1 := 21) (al1 := [(3, .int 0), (2, .int (nI (pre.length))), (0, .ref (241 + k0)), (1, .ref 113)]) rfl rfl ?_
        refine w_p (pc1 := 22) rfl rfl ?_
        refine w_m0 (pc1 := 25) (st1 := .int 2 :: _) rfl rfl (x_gf (k := k0) rfl hU rfl) rfl ?_
        refine w_p (pc1 := 26) (st1 := .int 1 :: _) rfl rfl ?_
        refine w_t (a := 60) (b := 29) rfl rfl rfl ?_
        refine w_p (pc1 := 61) rfl rfl ?_
        refine w_m0 (pc1 := 64) (st1 := .int 2 :: _) rfl rfl (x_gf (k := k0) rfl hU rfl) rfl ?_
        refine w_p (pc1 := 65) (st1 := .int 2 :: _) rfl rfl ?_
        refine w_f (a := 99) (b := 68) rfl rfl rfl ?_
        refine w_p (pc1 := 69) rfl rfl ?_
        refine w_f (a := 94) (b := 72) rfl rfl rfl ?_
        refine w_p (pc1 := 73) rfl rfl ?_
        refine w_p (pc1 := 74) rfl rfl ?_
        refine w_p (pc1 := 75) rfl rfl ?_
        refine w_p (pc1 := 76) rfl rfl ?_
        refine w_m0 (pc1 := 79) (st1 := .int (nI (rTb u)) :: _) rfl rfl (x_gf (k := k0) rfl hU rfl) rfl ?_
        refine w_p (pc1 := 80) rfl rfl ?_
        refine w_m0 (pc1 := 83) (st1 := .ref (241 + kc) :: _) rfl rfl (x_gf (k := k0) rfl hU rfl) rfl ?_
        refine w_p (pc1 := 84) rfl rfl ?_
        refine w_je (pc1 := 87) (vs := [.ref (241 + k0), .ref 113, .int (nI (pre.length)), .int (nI (rTb u)), .ref (241 + kc), .int (nI (pre.length))]) (rest := []) (st1 := [.int 1]) (hth) rfl rfl rfl (fun _ _ => rfl) rfl (by exact cl_v my_148 rfl rfl rfl (Nat.le_of_ble_eq_true rfl) rfl (x_obj hU) rfl (by decide) rfl rfl) (by rfl) (Nat.le_of_ble_eq_true rfl) (Nat.le_of_ble_eq_true rfl) rfl (by rfl) ?_
        refine w_f (a := 94) (b := 90) rfl rfl rfl ?_
        refine w_p (pc1 := 91) (st1 := .int 1 :: _) rfl rfl ?_
        refine w_p (pc1 := 95) rfl rfl ?_
        refine w_p (pc1 := 96) (al1 := [(3, .int 1), (2, .int (nI (pre.length))), (0, .ref (241 + k0)), (1, .ref 113)]) rfl rfl ?_
        refine w_p (pc1 := 192) rfl rfl ?_
        refine w_p (pc1 := 193) rfl rfl ?_
        refine w_f (a := 206) (b := 196) rfl rfl rfl ?_
        refine w_p (pc1 := 197) rfl rfl ?_
        refine w_p (pc1 := 198) rfl rfl ?_
        refine w_m0 (pc1 := 201) (st1 := .int (nI (rTb u)) :: _) rfl rfl (x_gf (k := k0) rfl hU rfl) rfl ?_
        refine w_p (pc1 := 202) rfl rfl ?_
        refine w_je (pc1 := 205) (vs := [.ref 113, .int (nI (rTb u)), .int (nI (pre.length))]) (rest := []) (st1 := [.int (r.1)]) (hid) rfl rfl rfl (fun _ _ => rfl) rfl (by exact cl_v my_131 rfl rfl rfl (Nat.le_of_ble_eq_true rfl) rfl (MH_obj rfl rfl) rfl (by decide) rfl rfl) (by rfl) (Nat.le_of_ble_eq_true rfl) (Nat.le_of_ble_eq_true rfl) rfl (by rfl) ?_
        refine w_r rfl rfl rfl (fun _ _ => rfl) cr_int ?_
        exact FB_i
      | false =>
        rw [hy] at hth
        refine w_p (pc1 := 3) rfl rfl ?_
        refine w_p (pc1 := 4) rfl rfl ?_
        refine w_p (pc1 := 5) rfl rfl ?_
        refine w_m0 (pc1 := 8) (st1 := .int (nI (rTb u)) :: _) rfl rfl (x_gf (k := k0) rfl hU rfl) rfl ?_
        refine w_je (pc1 := 11) (vs := [.ref 113, .int (nI (rTb u))]) (rest := [.int (nI (pre.length))]) (st1 := [.int (nI ((rs (rTb u)).1.length)), .int (nI (pre.length))]) (hsz) rfl rfl rfl (fun _ _ => rfl) rfl (by exact cl_v my_107 rfl rfl rfl (Nat.le_of_ble_eq_true rfl) rfl (MH_obj rfl rfl) rfl (by decide) rfl rfl) (by rfl) (Nat.le_of_ble_eq_true rfl) (Nat.le_of_ble_eq_true rfl) rfl (by rfl) ?_
        refine w_f (a := 212) (b := 14) (bN_ge_f (a := pre.length) (b := (rs (rTb u)).1.length) (by omega) (by omega) (by omega)) rfl rfl ?_
        refine w_p (pc1 := 15) rfl rfl ?_
        refine w_p (pc1 := 16) rfl rfl ?_
        refine w_p (pc1 := 17) rfl rfl ?_
        refine w_je (pc1 := 20) (vs := [.ref (241 + k0), .ref 113, .int (nI (pre.length))]) (rest := []) (st1 := [.int 0]) (hn) rfl rfl rfl (fun _ _ => rfl) rfl (by exact cl_v my_147 rfl rfl rfl (Nat.le_of_ble_eq_true rfl) rfl (x_obj hU) rfl (by decide) rfl rfl) (by rfl) (Nat.le_of_ble_eq_true rfl) (Nat.le_of_ble_eq_true rfl) rfl (by rfl) ?_
        refine w_p (pc1 := 21) (al1 := [(3, .int 0), (2, .int (nI (pre.length))), (0, .ref (241 + k0)), (1, .ref 113)]) rfl rfl ?_
        refine w_p (pc1 := 22) rfl rfl ?_
        refine w_m0 (pc1 := 25) (st1 := .int 2 :: _) rfl rfl (x_gf (k := k0) rfl hU rfl) rfl ?_
        refine w_p (pc1 := 26) (st1 := .int 1 :: _) rfl rfl ?_
        refine w_t (a := 60) (b := 29) rfl rfl rfl ?_
        refine w_p (pc1 := 61) rfl rfl ?_
        refine w_m0 (pc1 := 64) (st1 := .int 2 :: _) rfl rfl (x_gf (k := k0) rfl hU rfl) rfl ?_
        refine w_p (pc1 := 65) (st1 := .int 2 :: _) rfl rfl ?_
        refine w_f (a := 99) (b := 68) rfl rfl rfl ?_
        refine w_p (pc1 := 69) rfl rfl ?_
        refine w_f (a := 94) (b := 72) rfl rfl rfl ?_
        refine w_p (pc1 := 73) rfl rfl ?_
        refine w_p (pc1 := 74) rfl rfl ?_
        refine w_p (pc1 := 75) rfl rfl ?_
        refine w_p (pc1 := 76) rfl rfl ?_
        refine w_m0 (pc1 := 79) (st1 := .int (nI (rTb u)) :: _) rfl rfl (x_gf (k := k0) rfl hU rfl) rfl ?_
        refine w_p (pc1 := 80) rfl rfl ?_
        refine w_m0 (pc1 := 83) (st1 := .ref (241 + kc) :: _) rfl rfl (x_gf (k := k0) rfl hU rfl) rfl ?_
        refine w_p (pc1 := 84) rfl rfl ?_
        refine w_je (pc1 := 87) (vs := [.ref (241 + k0), .ref 113, .int (nI (pre.length)), .int (nI (rTb u)), .ref (241 + kc), .int (nI (pre.length))]) (rest := []) (st1 := [.int 0]) (hth) rfl rfl rfl (fun _ _ => rfl) rfl (by exact cl_v my_148 rfl rfl rfl (Nat.le_of_ble_eq_true rfl) rfl (x_obj hU) rfl (by decide) rfl rfl) (by rfl) (Nat.le_of_ble_eq_true rfl) (Nat.le_of_ble_eq_true rfl) rfl (by rfl) ?_
        refine w_t (a := 94) (b := 90) rfl rfl rfl ?_
        refine w_p (pc1 := 95) (st1 := .int 0 :: _) rfl rfl ?_
        refine w_p (pc1 := 96) (al1 := [(3, .int 0), (2, .int (nI (pre.length))), (0, .ref (241 + k0)), (1, .ref 113)]) rfl rfl ?_
        refine w_p (pc1 := 192) rfl rfl ?_
        refine w_p (pc1 := 193) rfl rfl ?_
        refine w_t (a := 206) (b := 196) rfl rfl rfl ?_
        refine w_iinc (pc1 := 209) (u := nI (pre.length)) (z := nI (pre.length + 1)) (al1 := [(2, .int (nI (pre.length + 1))), (3, .int 0), (0, .ref (241 + k0)), (1, .ref 113)]) rfl rfl rfl nK_1 rfl rfl ?_
        refine w_p (pc1 := 2) rfl rfl ?_
        refine Wd_al (al := [(2, .int (nI (pre.length + 1))), (0, .ref (241 + k0)), (1, .ref 113)]) (sba_p [0, 2, 3] rfl rfl) ?_
        exact ih t U0 h3
set_option maxRecDepth 100000 in
theorem lp_146_3 (W : RWK C wd rs) (hR : okR wd u) (hK : rKd u = 3) : ∀ (suf pre : List ro_T) (t : ab_H), RUK t k0 u → pre ++ suf = (rs (rTb u)).1 → Wd L xs (d + 4) y_146 (2, [(2, .int (nI pre.length)), (0, .ref (241 + k0)), (1, .ref 113)], [], MH C t, sl) (FB C t sl (fbl (brk u rs) pre.length suf)) nX
  | [], pre, t, U, hp => by
    obtain ⟨kc, kt, fc, ft, vc, U, hck⟩ := U
    rw [List.append_nil] at hp
    have hl := congrArg List.length hp
    have h40 := (W _ hR.1.2.1).2.2.1
    have hsz := sizeK (L := L) (xs := xs) (t := t) (d := d + 3) (sl := 0) W hR.1.2.1
    refine w_p (pc1 := 3) rfl rfl ?_
    refine w_p (pc1 := 4) rfl rfl ?_
    refine w_p (pc1 := 5) rfl rfl ?_
    refine w_m0 (pc1 := 8) (st1 := .int (nI (rTb u)) :: _) rfl rfl (x_gf (k := k0) rfl U.1 rfl) rfl ?_
    refine w_je (pc1 := 11) (vs := [.ref 113, .int (nI (rTb u))]) (rest := [.int (nI (pre.length))]) (st1 := [.int (nI ((rs (rTb u)).1.length)), .int (nI (pre.length))]) (hsz) rfl rfl rfl (fun _ _ => rfl) rfl (by exact cl_v my_107 rfl rfl rfl (Nat.le_of_ble_eq_true rfl) rfl (MH_obj rfl rfl) rfl (by decide) rfl rfl) (by rfl) (Nat.le_of_ble_eq_true rfl) (Nat.le_of_ble_eq_true rfl) rfl (by rfl) ?_
    refine w_t (a := 212) (b := 14) (bN_ge_t (a := pre.length) (b := (rs (rTb u)).1.length) (by omega) (by omega) (by omega)) rfl rfl ?_
    refine w_p (pc1 := 213) (st1 := .int (-1) :: _) rfl rfl ?_
    refine w_r rfl rfl rfl (fun _ _ => rfl) cr_int ?_
    exact FB_i
  | r :: suf, pre, t, U0, hp => by
    obtain ⟨kc, kt, fc, ft, vc, U, hck⟩ := id U0
    obtain ⟨h1, h2, h3⟩ := get_ap hp
    have h40 := (W _ hR.1.2.1).2.2.1
    have hsz := sizeK (L := L) (xs := xs) (t := t) (d := d + 3) (sl := 0) W hR.1.2.1
    have hid := idK (L := L) (xs := xs) (t := t) (d := d + 2) (sl := 0) W hR.1.2.1 h1
    have hn := m_147 (L := L) (xs := xs) (t := t) (d := d + 1) (sl := 0) W U hR.1.2.1 hR.1.2.2.1 hR.1.2.2.2 h1
    have ih := lp_146_3 W hR hK suf (pre ++ [r])
    rw [len_s] at ih
    rw [fbl]
    have hU := U.1
    rw [hK] at hU
    have U : RUo t k0 kc kt u fc ft vc := U
    obtain ⟨hcs, O, hO, hO6, hOt⟩ := hR.2.2.2.1 hK
    rw [hO] at hck
    obtain ⟨f0, f1, f2, f3, s0, rfl, F0, _⟩ := hck
    have e0 : brk u rs pre.length r = decide (f_l true r.2 noF noF O [] = some [.inr (some false)]) := by unfold brk; rw [hK, hO]; rfl
    rw [e0]
    have hx : nul (rCs u) r.2 = false := by rw [hcs]; rfl
    rw [hx] at hn
    obtain ⟨hw6, -, -, hcell⟩ := W _ hR.1.2.1
    have hE : envK C ((rTb u * 40 + pre.length) * 6) .null .null (wd (rTb u)) 0 0 r.2 noF noF := ⟨⟨by have := hR.1.2.1; omega, fun c hc => (hcell _ _ h1).2 c hc⟩, fun z => absurd z (by decide), fun z => absurd z (by decide)⟩
    have hwk := m_112n (L := L) (xs := xs) (d := d) (sl := 0) (g := true) F0 hO6 hE hOt
    have hpl := m_108 (L := L) (xs := xs) (C := C) (t := t) (d := d + 3) (sl := 0) (b := rTb u) (k := pre.length)
    obtain ⟨bv, hbv⟩ := fl_test (R := r.2) (N := noF) (O := noF) hOt
    rw [hbv] at hwk ⊢
    rcases bv with _ | _ | _
    · rw [decide_eq_false (by intro z; cases z)]
      refine w_p (pc1 := 3) rfl rfl ?_
      refine w_p (pc1 := 4) rfl rfl ?_
      refine w_p (pc1 := 5) rfl rfl ?_
      refine w_m0 (pc1 := 8) (st1 := .int (nI (rTb u)) :: _) rfl rfl (x_gf (k := k0) rfl hU rfl) rfl ?_
      refine w_je (pc1 := 11) (vs := [.ref 113, .int (nI (rTb u))]) (rest := [.int (nI (pre.length))]) (st1 := [.int (nI ((rs (rTb u)).1.length)), .int (nI (pre.length))]) (hsz) rfl rfl rfl (fun _ _ => rfl) rfl (by exact cl_v my_107 rfl rfl rfl (Nat.le_of_ble_eq_true rfl) rfl (MH_obj rfl rfl) rfl (by decide) rfl rfl) (by rfl) (Nat.le_of_ble_eq_true rfl) (Nat.le_of_ble_eq_true rfl) rfl (by rfl) ?_
      refine w_f (a := 212) (b := 14) (bN_ge_f (a := pre.length) (b := (rs (rTb u)).1.length) (by omega) (by omega) (by omega)) rfl rfl ?_
      refine w_p (pc1 := 15) rfl rfl ?_
      refine w_p (pc1 := 16) rfl rfl ?_
      refine w_p (pc1 := 17) rfl rfl ?_
      refine w_je (pc1 := 20) (vs := [.ref (241 + k0), .ref 113, .int (nI (pre.length))]) (rest := []) (st1 := [.int 0]) (hn) rfl rfl rfl (fun _ _ => rfl) rfl (by exact cl_v my_147 rfl rfl rfl (Nat.le_of_ble_eq_true rfl) rfl (x_obj hU) rfl (by decide) rfl rfl) (by rfl) (Nat.le_of_ble_eq_true rfl) (Nat.le_of_ble_eq_true rfl) rfl (by rfl) ?_
      refine w_p (pc1 := 21) (al1 := [(3, .int 0), (2, .int (nI (pre.length))), (0, .ref (241 + k0)), (1, .ref 113)]) rfl rfl ?_
      refine w_p (pc1 := 22) rfl rfl ?_
      refine w_m0 (pc1 := 25) (st1 := .int 3 :: _) rfl rfl (x_gf (k := k0) rfl hU rfl) rfl ?_
      refine w_p (pc1 := 26) (st1 := .int 1 :: _) rfl rfl ?_
      refine w_t (a := 60) (b := 29) rfl rfl rfl ?_
      refine w_p (pc1 := 61) rfl rfl ?_
      refine w_m0 (pc1 := 64) (st1 := .int 3 :: _) rfl rfl (x_gf (k := k0) rfl hU rfl) rfl ?_
      refine w_p (pc1 := 65) (st1 := .int 2 :: _) rfl rfl ?_
      refine w_t (a := 99) (b := 68) rfl rfl rfl ?_
      refine w_p (pc1 := 100) rfl rfl ?_
      refine w_m0 (pc1 := 103) (st1 := .int 3 :: _) rfl rfl (x_gf (k := k0) rfl hU rfl) rfl ?_
      refine w_p (pc1 := 104) (st1 := .int 4 :: _) rfl rfl ?_
      refine w_t (a := 145) (b := 107) rfl rfl rfl ?_
      refine w_p (pc1 := 146) rfl rfl ?_
      refine w_m0 (pc1 := 149) (st1 := .int 3 :: _) rfl rfl (x_gf (k := k0) rfl hU rfl) rfl ?_
      refine w_p (pc1 := 150) (st1 := .int 3 :: _) rfl rfl ?_
      refine w_f (a := 192) (b := 153) rfl rfl rfl ?_
      refine w_p (pc1 := 154) rfl rfl ?_
      refine w_m0 (pc1 := 157) (st1 := .ref (241 + f0) :: _) rfl rfl (x_gf (k := k0) rfl hU rfl) rfl ?_
      refine w_f (a := 192) (b := 160) rfl rfl rfl ?_
      refine w_p (pc1 := 161) rfl rfl ?_
      refine w_m0 (pc1 := 164) (st1 := .ref (241 + f0) :: _) rfl rfl (x_gf (k := k0) rfl hU rfl) rfl ?_
      refine w_p (pc1 := 165) rfl rfl ?_
      refine w_m0 (pc1 := 168) rfl rfl (h_gC rfl rfl rfl rfl) rfl ?_
      refine w_p (pc1 := 169) rfl rfl ?_
      refine w_m0 (pc1 := 172) (st1 := .int (nI (rTb u)) :: _) rfl rfl (x_gf (k := k0) rfl hU rfl) rfl ?_
      refine w_p (pc1 := 173) rfl rfl ?_
      refine w_je (pc1 := 176) (vs := [.int (nI (rTb u)), .int (nI (pre.length))]) (rest := [.ref 114, .ref (241 + f0)]) (st1 := [.int (nI ((rTb u * 40 + pre.length) * 6)), .ref 114, .ref (241 + f0)]) (hpl) rfl rfl rfl (fun _ _ => cn_s rfl rfl rfl rfl) rfl (by exact cl_s my_108 rfl rfl rfl (Nat.le_of_ble_eq_true rfl) rfl rfl) (by rfl) (Nat.le_of_ble_eq_true rfl) (Nat.le_of_ble_eq_true rfl) rfl (by rfl) ?_
      refine w_p (pc1 := 177) rfl rfl ?_
      refine w_p (pc1 := 178) rfl rfl ?_
      refine w_ji (pc1 := 181) (vs := [.ref (241 + f0), .ref 114, .int (nI ((rTb u * 40 + pre.length) * 6)), .null, .null]) (rest := []) (hwk) rfl rfl rfl (fun _ _ => rfl) rfl (by exact cl_v my_112 rfl rfl rfl (Nat.le_of_ble_eq_true rfl) rfl (x_obj F0.1) rfl (by decide) rfl rfl) (by rfl) (Nat.le_of_ble_eq_true rfl) (Nat.le_of_ble_eq_true rfl) rfl (fun v h m hq => ?_) (fun _ _ _ e => e.elim)
      obtain ⟨s9, rfl, rfl, rfl⟩ := hq
      have hst := stk_set (s' := s9) F0.2.2.2 hO6
      have hU2 := stk_o hst hU
      refine w_p (pc1 := 182) (st1 := .long 0 :: _) rfl rfl ?_
      refine w_p (pc1 := 183) rfl rfl ?_
      refine w_t (a := 190) (b := 186) (lb_ne_t (by decide)) rfl rfl ?_
      refine w_p (pc1 := 191) (st1 := .int 0 :: _) rfl rfl ?_
      refine w_p (pc1 := 192) (al1 := [(3, .int 0), (2, .int (nI (pre.length))), (0, .ref (241 + k0)), (1, .ref 113)]) rfl rfl ?_
      refine w_p (pc1 := 193) rfl rfl ?_
      refine w_t (a := 206) (b := 196) rfl rfl rfl ?_
      refine w_iinc (pc1 := 209) (u := nI (pre.length)) (z := nI (pre.length + 1)) (al1 := [(2, .int (nI (pre.length + 1))), (3, .int 0), (0, .ref (241 + k0)), (1, .ref 113)]) rfl rfl rfl nK_1 rfl rfl ?_
      refine w_p (pc1 := 2) rfl rfl ?_
      refine Wd_al (al := [(2, .int (nI (pre.length + 1))), (0, .ref (241 + k0)), (1, .ref 113)]) (sba_p [0, 2, 3] rfl rfl) ?_
      exact Wd_q (ih _ (RUK_k hst U0) h3) (FB_k hst) (fun _ _ _ e => e)
    · rw [decide_eq_true rfl]
      refine w_p (pc1 := 3) rfl rfl ?_
      refine w_p (pc1 := 4) rfl rfl ?_
      refine w_p (pc1 := 5) rfl rfl ?_
      refine w_m0 (pc1 := 8) (st1 := .int (nI (rTb u)) :: _) rfl rfl (x_gf (k := k0) rfl hU rfl) rfl ?_
      refine w_je (pc1 := 11) (vs := [.ref 113, .int (nI (rTb u))]) (rest := [.int (nI (pre.length))]) (st1 := [.int (nI ((rs (rTb u)).1.length)), .int (nI (pre.length))]) (hsz) rfl rfl rfl (fun _ _ => rfl) rfl (by exact cl_v my_107 rfl rfl rfl (Nat.le_of_ble_eq_true rfl) rfl (MH_obj rfl rfl) rfl (by decide) rfl rfl) (by rfl) (Nat.le_of_ble_eq_true rfl) (Nat.le_of_ble_eq_true rfl) rfl (by rfl) ?_
      refine w_f (a := 212) (b := 14) (bN_ge_f (a := pre.length) (b := (rs (rTb u)).1.length) (by omega) (by omega) (by omega)) rfl rfl ?_
      refine w_p (pc1 := 15) rfl rfl ?_
      refine w_p (pc1 := 16) rfl rfl ?_
      refine w_p (pc1 := 17) rfl rfl ?_
      refine w_je (pc1 := 20) (vs := [.ref (241 + k0), .ref 113, .int (nI (pre.length))]) (rest := []) (st1 := [.int 0]) (hn) rfl rfl rfl (fun _ _ => rfl) rfl (by exact cl_v my_147 rfl rfl rfl (Nat.le_of_ble_eq_true rfl) rfl (x_obj hU) rfl (by decide) rfl rfl) (by rfl) (Nat.le_of_ble_eq_true rfl) (Nat.le_of_ble_eq_true rfl) rfl (by rfl) ?_
      refine w_p (pc1 := 21) (al1 := [(3, .int 0), (2, .int (nI (pre.length))), (0, .ref (241 + k0)), (1, .ref 113)]) rfl rfl ?_
      refine w_p (pc1 := 22) rfl rfl ?_
      refine w_m0 (pc1 := 25) (st1 := .int 3 :: _) rfl rfl (x_gf (k := k0) rfl hU rfl) rfl ?_
      refine w_p (pc1 := 26) (st1 := .int 1 :: _) rfl rfl ?_
      refine w_t (a := 60) (b := 29) rfl rfl rfl ?_
      refine w_p (pc1 := 61) rfl rfl ?_
      refine w_m0 (pc1 := 64) (st1 := .int 3 :: _) rfl rfl (x_gf (k := k0) rfl hU rfl) rfl ?_
      refine w_p (pc1 := 65) (st1 := .int 2 :: _) rfl rfl ?_
      refine w_t (a := 99) (b := 68) rfl rfl rfl ?_
      refine w_p (pc1 := 100) rfl rfl ?_
      refine w_m0 (pc1 := 103) (st1 := .int 3 :: _) rfl rfl (x_gf (k := k0) rfl hU rfl) rfl ?_
      refine w_p (pc1 := 104) (st1 := .int 4 :: _) rfl rfl ?_
      refine w_t (a := 145) (b := 107) rfl rfl rfl ?_
      refine w_p (pc1 := 146) rfl rfl ?_
      refine w_m0 (pc1 := 149) (st1 := .int 3 :: _) rfl rfl (x_gf (k := k0) rfl hU rfl) rfl ?_
      refine w_p (pc1 := 150) (st1 := .int 3 :: _) rfl rfl ?_
      refine w_f (a := 192) (b := 153) rfl rfl rfl ?_
      refine w_p (pc1 := 154) rfl rfl ?_
      refine w_m0 (pc1 := 157) (st1 := .ref (241 + f0) :: _) rfl rfl (x_gf (k := k0) rfl hU rfl) rfl ?_
      refine w_f (a := 192) (b := 160) rfl rfl rfl ?_
      refine w_p (pc1 := 161) rfl rfl ?_
      refine w_m0 (pc1 := 164) (st1 := .ref (241 + f0) :: _) rfl rfl (x_gf (k := k0) rfl hU rfl) rfl ?_
      refine w_p (pc1 := 165) rfl rfl ?_
      refine w_m0 (pc1 := 168) rfl rfl (h_gC rfl rfl rfl rfl) rfl ?_
      refine w_p (pc1 := 169) rfl rfl ?_
      refine w_m0 (pc1 := 172) (st1 := .int (nI (rTb u)) :: _) rfl rfl (x_gf (k := k0) rfl hU rfl) rfl ?_
      refine w_p (pc1 := 173) rfl rfl ?_
      refine w_je (pc1 := 176) (vs := [.int (nI (rTb u)), .int (nI (pre.length))]) (rest := [.ref 114, .ref (241 + f0)]) (st1 := [.int (nI ((rTb u * 40 + pre.length) * 6)), .ref 114, .ref (241 + f0)]) (hpl) rfl rfl rfl (fun _ _ => cn_s rfl rfl rfl rfl) rfl (by exact cl_s my_108 rfl rfl rfl (Nat.le_of_ble_eq_true rfl) rfl rfl) (by rfl) (Nat.le_of_ble_eq_true rfl) (Nat.le_of_ble_eq_true rfl) rfl (by rfl) ?_
      refine w_p (pc1 := 177) rfl rfl ?_
      refine w_p (pc1 := 178) rfl rfl ?_
      refine w_ji (pc1 := 181) (vs := [.ref (241 + f0), .ref 114, .int (nI ((rTb u * 40 + pre.length) * 6)), .null, .null]) (rest := []) (hwk) rfl rfl rfl (fun _ _ => rfl) rfl (by exact cl_v my_112 rfl rfl rfl (Nat.le_of_ble_eq_true rfl) rfl (x_obj F0.1) rfl (by decide) rfl rfl) (by rfl) (Nat.le_of_ble_eq_true rfl) (Nat.le_of_ble_eq_true rfl) rfl (fun v h m hq => ?_) (fun _ _ _ e => e.elim)
      obtain ⟨s9, rfl, rfl, rfl⟩ := hq
      have hst := stk_set (s' := s9) F0.2.2.2 hO6
      have hU2 := stk_o hst hU
      refine w_p (pc1 := 182) (st1 := .long 0 :: _) rfl rfl ?_
      refine w_p (pc1 := 183) rfl rfl ?_
      refine w_f (a := 190) (b := 186) (lb_ne_f (by rfl)) rfl rfl ?_
      refine w_p (pc1 := 187) (st1 := .int 1 :: _) rfl rfl ?_
      refine w_p (pc1 := 191) rfl rfl ?_
      refine w_p (pc1 := 192) (al1 := [(3, .int 1), (2, .int (nI (pre.length))), (0, .ref (241 + k0)), (1, .ref 113)]) rfl rfl ?_
      refine w_p (pc1 := 193) rfl rfl ?_
      refine w_f (a := 206) (b := 196) rfl rfl rfl ?_
      refine w_p (pc1 := 197) rfl rfl ?_
      refine w_p (pc1 := 198) rfl rfl ?_
      refine w_m0 (pc1 := 201) (st1 := .int (nI (rTb u)) :: _) rfl rfl (x_gf (k := k0) rfl hU2 rfl) rfl ?_
      refine w_p (pc1 := 202) rfl rfl ?_
      refine w_je (pc1 := 205) (vs := [.ref 113, .int (nI (rTb u)), .int (nI (pre.length))]) (rest := []) (st1 := [.int (r.1)]) (idK (d := d + 2) (sl := 0) W hR.1.2.1 h1) rfl rfl rfl (fun _ _ => rfl) rfl (by exact cl_v my_131 rfl rfl rfl (Nat.le_of_ble_eq_true rfl) rfl (MH_obj rfl rfl) rfl (by decide) rfl rfl) (by rfl) (Nat.le_of_ble_eq_true rfl) (Nat.le_of_ble_eq_true rfl) rfl (by rfl) ?_
      refine w_r rfl rfl rfl (fun _ _ => rfl) cr_int ?_
      exact FB_k hst _ _ _ FB_i
    · rw [decide_eq_false (by intro z; cases z)]
      refine w_p (pc1 := 3) rfl rfl ?_
      refine w_p (pc1 := 4) rfl rfl ?_
      refine w_p (pc1 := 5) rfl rfl ?_
      refine w_m0 (pc1 := 8) (st1 := .int (nI (rTb u)) :: _) rfl rfl (x_gf (k := k0) rfl hU rfl) rfl ?_
      refine w_je (pc1 := 11) (vs := [.ref 113, .int (nI (rTb u))]) (rest := [.int (nI (pre.length))]) (st1 := [.int (nI ((rs (rTb u)).1.length)), .int (nI (pre.length))]) (hsz) rfl rfl rfl (fun _ _ => rfl) rfl (by exact cl_v my_107 rfl rfl rfl (Nat.le_of_ble_eq_true rfl) rfl (MH_obj rfl rfl) rfl (by decide) rfl rfl) (by rfl) (Nat.le_of_ble_eq_true rfl) (Nat.le_of_ble_eq_true rfl) rfl (by rfl) ?_
      refine w_f (a := 212) (b := 14) (bN_ge_f (a := pre.length) (b := (rs (rTb u)).1.length) (by omega) (by omega) (by omega)) rfl rfl ?_
      refine w_p (pc1 := 15) rfl rfl ?_
      refine w_p (pc1 := 16) rfl rfl ?_
      refine w_p (pc1 := 17) rfl rfl ?_
      refine w_je (pc1 := 20) (vs := [.ref (241 + k0), .ref 113, .int (nI (pre.length))]) (rest := []) (st1 := [.int 0]) (hn) rfl rfl rfl (fun _ _ => rfl) rfl (by exact cl_v my_147 rfl rfl rfl (Nat.le_of_ble_eq_true rfl) rfl (x_obj hU) rfl (by decide) rfl rfl) (by rfl) (Nat.le_of_ble_eq_true rfl) (Nat.le_of_ble_eq_true rfl) rfl (by rfl) ?_
      refine w_p (pc1 := 21) (al1 := [(3, .int 0), (2, .int (nI (pre.length))), (0, .ref (241 + k0)), (1, .ref 113)]) rfl rfl ?_
      refine w_p (pc1 := 22) rfl rfl ?_
      refine w_m0 (pc1 := 25) (st1 := .int 3 :: _) rfl rfl (x_gf (k := k0) rfl hU rfl) rfl ?_
      refine w_p (pc1 := 26) (st1 := .int 1 :: _) rfl rfl ?_
      refine w_t (a := 60) (b := 29) rfl rfl rfl ?_
      refine w_p (pc1 := 61) rfl rfl ?_
      refine w_m0 (pc1 := 64) (st1 := .int 3 :: _) rfl rfl (x_gf (k := k0) rfl hU rfl) rfl ?_
      refine w_p (pc1 := 65) (st1 := .int 2 :: _) rfl rfl ?_
      refine w_t (a := 99) (b := 68) rfl rfl rfl ?_
      refine w_p (pc1 := 100) rfl rfl ?_
      refine w_m0 (pc1 := 103) (st1 := .int 3 :: _) rfl rfl (x_gf (k := k0) rfl hU rfl) rfl ?_
      refine w_p (pc1 := 104) (st1 := .int 4 :: _) rfl rfl ?_
      refine w_t (a := 145) (b := 107) rfl rfl rfl ?_
      refine w_p (pc1 := 146) rfl rfl ?_
      refine w_m0 (pc1 := 149) (st1 := .int 3 :: _) rfl rfl (x_gf (k := k0) rfl hU rfl) rfl ?_
      refine w_p (pc1 := 150) (st1 := .int 3 :: _) rfl rfl ?_
      refine w_f (a := 192) (b := 153) rfl rfl rfl ?_
      refine w_p (pc1 := 154) rfl rfl ?_
      refine w_m0 (pc1 := 157) (st1 := .ref (241 + f0) :: _) rfl rfl (x_gf (k := k0) rfl hU rfl) rfl ?_
      refine w_f (a := 192) (b := 160) rfl rfl rfl ?_
      refine w_p (pc1 := 161) rfl rfl ?_
      refine w_m0 (pc1 := 164) (st1 := .ref (241 + f0) :: _) rfl rfl (x_gf (k := k0) rfl hU rfl) rfl ?_
      refine w_p (pc1 := 165) rfl rfl ?_
      refine w_m0 (pc1 := 168) rfl rfl (h_gC rfl rfl rfl rfl) rfl ?_
      refine w_p (pc1 := 169) rfl rfl ?_
      refine w_m0 (pc1 := 172) (st1 := .int (nI (rTb u)) :: _) rfl rfl (x_gf (k := k0) rfl hU rfl) rfl ?_
      refine w_p (pc1 := 173) rfl rfl ?_
      refine w_je (pc1 := 176) (vs := [.int (nI (rTb u)), .int (nI (pre.length))]) (rest := [.ref 114, .ref (241 + f0)]) (st1 := [.int (nI ((rTb u * 40 + pre.length) * 6)), .ref 114, .ref (241 + f0)]) (hpl) rfl rfl rfl (fun _ _ => cn_s rfl rfl rfl rfl) rfl (by exact cl_s my_108 rfl rfl rfl (Nat.le_of_ble_eq_true rfl) rfl rfl) (by rfl) (Nat.le_of_ble_eq_true rfl) (Nat.le_of_ble_eq_true rfl) rfl (by rfl) ?_
      refine w_p (pc1 := 177) rfl rfl ?_
      refine w_p (pc1 := 178) rfl rfl ?_
      refine w_ji (pc1 := 181) (vs := [.ref (241 + f0), .ref 114, .int (nI ((rTb u * 40 + pre.length) * 6)), .null, .null]) (rest := []) (hwk) rfl rfl rfl (fun _ _ => rfl) rfl (by exact cl_v my_112 rfl rfl rfl (Nat.le_of_ble_eq_true rfl) rfl (x_obj F0.1) rfl (by decide) rfl rfl) (by rfl) (Nat.le_of_ble_eq_true rfl) (Nat.le_of_ble_eq_true rfl) rfl (fun v h m hq => ?_) (fun _ _ _ e => e.elim)
      obtain ⟨s9, rfl, rfl, rfl⟩ := hq
      have hst := stk_set (s' := s9) F0.2.2.2 hO6
      have hU2 := stk_o hst hU
      refine w_p (pc1 := 182) (st1 := .long 0 :: _) rfl rfl ?_
      refine w_p (pc1 := 183) rfl rfl ?_
      refine w_t (a := 190) (b := 186) (lb_ne_t (by decide)) rfl rfl ?_
      refine w_p (pc1 := 191) (st1 := .int 0 :: _) rfl rfl ?_
      refine w_p (pc1 := 192) (al1 := [(3, .int 0), (2, .int (nI (pre.length))), (0, .ref (241 + k0)), (1, .ref 113)]) rfl rfl ?_
      refine w_p (pc1 := 193) rfl rfl ?_
      refine w_t (a := 206) (b := 196) rfl rfl rfl ?_
      refine w_iinc (pc1 := 209) (u := nI (pre.length)) (z := nI (pre.length + 1)) (al1 := [(2, .int (nI (pre.length + 1))), (3, .int 0), (0, .ref (241 + k0)), (1, .ref 113)]) rfl rfl rfl nK_1 rfl rfl ?_
      refine w_p (pc1 := 2) rfl rfl ?_
      refine Wd_al (al := [(2, .int (nI (pre.length + 1))), (0, .ref (241 + k0)), (1, .ref 113)]) (sba_p [0, 2, 3] rfl rfl) ?_
      exact Wd_q (ih _ (RUK_k hst U0) h3) (FB_k hst) (fun _ _ _ e => e)
set_option maxRecDepth 100000 in
theorem lp_146_4 (W : RWK C wd rs) (hR : okR wd u) (hK : rKd u = 4) : ∀ (suf pre : List ro_T) (t : ab_H), RUK t k0 u → pre ++ suf = (rs (rTb u)).1 → Wd L xs (d + 4) y_146 (2, [(2, .int (nI pre.length)), (0, .ref (241 + k0)), (1, .ref 113)], [], MH C t, sl) (FB C t sl (fbl (brk u rs) pre.length suf)) nX
  | [], pre, t, U, hp => by
    obtain ⟨kc, kt, fc, ft, vc, U, hck⟩ := U
    rw [List.append_nil] at hp
    have hl := congrArg List.length hp
    have h40 := (W _ hR.1.2.1).2.2.1
    have hsz := sizeK (L := L) (xs := xs) (t := t) (d := d + 3) (sl := 0) W hR.1.2.1
    refine w_p (pc1 := 3) rfl rfl ?_
    refine w_p (pc1 := 4) rfl rfl ?_
    refine w_p (pc1 := 5) rfl rfl ?_
    refine w_m0 (pc1 := 8) (st1 := .int (nI (rTb u)) :: _) rfl rfl (x_gf (k := k0) rfl U.1 rfl) rfl ?_
    refine w_je (pc1 := 11) (vs := [.ref 113, .int (nI (rTb u))]) (rest := [.int (nI (pre.length))]) (st1 := [.int (nI ((rs (rTb u)).1.length)), .int (nI (pre.length))]) (hsz) rfl rfl rfl (fun _ _ => rfl) rfl (by exact cl_v my_107 rfl rfl rfl (Nat.le_of_ble_eq_true rfl) rfl (MH_obj rfl rfl) rfl (by decide) rfl rfl) (by rfl) (Nat.le_of_ble_eq_true rfl) (Nat.le_of_ble_eq_true rfl) rfl (by rfl) ?_
    refine w_t (a := 212) (b := 14) (bN_ge_t (a := pre.length) (b := (rs (rTb u)).1.length) (by omega) (by omega) (by omega)) rfl rfl ?_
    refine w_p (pc1 := 213) (st1 := .int (-1) :: _) rfl rfl ?_
    refine w_r rfl rfl rfl (fun _ _ => rfl) cr_int ?_
    exact FB_i
  | r :: suf, pre, t, U0, hp => by
    obtain ⟨kc, kt, fc, ft, vc, U, hck⟩ := id U0
    obtain ⟨h1, h2, h3⟩ := get_ap hp
    have h40 := (W _ hR.1.2.1).2.2.1
    have hsz := sizeK (L := L) (xs := xs) (t := t) (d := d + 3) (sl := 0) W hR.1.2.1
    have hid := idK (L := L) (xs := xs) (t := t) (d := d + 2) (sl := 0) W hR.1.2.1 h1
    have hn := m_147 (L := L) (xs := xs) (t := t) (d := d + 1) (sl := 0) W U hR.1.2.1 hR.1.2.2.1 hR.1.2.2.2 h1
    have ih := lp_146_4 W hR hK suf (pre ++ [r])
    rw [len_s] at ih
    rw [fbl]
    have hU := U.1
    rw [hK] at hU
    have U : RUo t k0 kc kt u fc ft vc := U
    obtain ⟨⟨b, hb1, hb2, hb3⟩, hll⟩ := hR.2.1 hK
    have hth := m_148 (L := L) (xs := xs) (t := t) (d := d + 1) (sl := 0) (n := (rs b).1.length) W U U.2.2.1 U.2.2.2.2 hll hR.1.2.1 hb2 hR.1.2.2.1 hR.1.2.2.2 hb3 h1 (Nat.le_refl _)
    rw [List.take_length] at hth
    have hs2 := sizeK (L := L) (xs := xs) (t := t) (d := d + 3) (sl := 0) W hb2
    have h41 := (W _ hb2).2.2.1
    rw [hb1] at hU
    have e0 : brk u rs pre.length r = (!nul (rCs u) r.2 && !((rs b).1.any (fun q => alk (rCs u) (rOs u) r.2 q.2))) := by unfold brk; rw [hK, hb1]; rfl
    rw [e0]
    cases hx : nul (rCs u) r.2 with
    | true =>
      rw [hx] at hn
      refine w_p (pc1 := 3) rfl rfl ?_
      refine w_p (pc1 := 4) rfl rfl ?_
      refine w_p (pc1 := 5) rfl rfl ?_
      refine w_m0 (pc1 := 8) (st1 := .int (nI (rTb u)) :: _) rfl rfl (x_gf (k := k0) rfl hU rfl) rfl ?_
      refine w_je (pc1 := 11) (vs := [.ref 113, .int (nI (rTb u))]) (rest := [.int (nI (pre.length))]) (st1 := [.int (nI ((rs (rTb u)).1.length)), .int (nI (pre.length))]) (hsz) rfl rfl rfl (fun _ _ => rfl) rfl (by exact cl_v my_107 rfl rfl rfl (Nat.le_of_ble_eq_true rfl) rfl (MH_obj rfl rfl) rfl (by decide) rfl rfl) (by rfl) (Nat.le_of_ble_eq_true rfl) (Nat.le_of_ble_eq_true rfl) rfl (by rfl) ?_
      refine w_f (a := 212) (b := 14) (bN_ge_f (a := pre.length) (b := (rs (rTb u)).1.length) (by omega) (by omega) (by omega)) rfl rfl ?_
      refine w_p (pc1 := 15) rfl rfl ?_
      refine w_p (pc1 := 16) rfl rfl ?_
      refine w_p (pc1 := 17) rfl rfl ?_
      refine w_je (pc1 := 20) (vs := [.ref (241 + k0), .ref 113, .int (nI (pre.length))]) (rest := []) (st1 := [.int 1]) (hn) rfl rfl rfl (fun _ _ => rfl) rfl (by exact cl_v my_147 rfl rfl rfl (Nat.le_of_ble_eq_true rfl) rfl (x_obj hU) rfl (by decide) rfl rfl) (by rfl) (Nat.le_of_ble_eq_true rfl) (Nat.le_of_ble_eq_true rfl) rfl (by rfl) ?_
      refine w_p (pc1 := 21) (al1 := [(3, .int 1), (2, .int (nI (pre.length))), (0, .ref (241 + k0)), (1, .ref 113)]) rfl rfl ?_
      refine w_p (pc1 := 22) rfl rfl ?_
      refine w_m0 (pc1 := 25) (st1 := .int 4 :: _) rfl rfl (x_gf (k := k0) rfl hU rfl) rfl ?_
      refine w_p (pc1 := 26) (st1 := .int 1 :: _) rfl rfl ?_
      refine w_t (a := 60) (b := 29) rfl rfl rfl ?_
      refine w_p (pc1 := 61) rfl rfl ?_
      refine w_m0 (pc1 := 64) (st1 := .int 4 :: _) rfl rfl (x_gf (k := k0) rfl hU rfl) rfl ?_
      refine w_p (pc1 := 65) (st1 := .int 2 :: _) rfl rfl ?_
      refine w_t (a := 99) (b := 68) rfl rfl rfl ?_
      refine w_p (pc1 := 100) rfl rfl ?_
      refine w_m0 (pc1 := 103) (st1 := .int 4 :: _) rfl rfl (x_gf (k := k0) rfl hU rfl) rfl ?_
      refine w_p (pc1 := 104) (st1 := .int 4 :: _) rfl rfl ?_
      refine w_f (a := 145) (b := 107) rfl rfl rfl ?_
      refine w_p (pc1 := 108) rfl rfl ?_
      refine w_t (a := 140) (b := 111) rfl rfl rfl ?_
      refine w_p (pc1 := 141) (st1 := .int 0 :: _) rfl rfl ?_
      refine w_p (pc1 := 142) (al1 := [(3, .int 0), (2, .int (nI (pre.length))), (0, .ref (241 + k0)), (1, .ref 113)]) rfl rfl ?_
      refine w_p (pc1 := 192) rfl rfl ?_
      refine w_p (pc1 := 193) rfl rfl ?_
      refine w_t (a := 206) (b := 196) rfl rfl rfl ?_
      refine w_iinc (pc1 := 209) (u := nI (pre.length)) (z := nI (pre.length + 1)) (al1 := [(2, .int (nI (pre.length + 1))), (3, .int 0), (0, .ref (241 + k0)), (1, .ref 113)]) rfl rfl rfl nK_1 rfl rfl ?_
      refine w_p (pc1 := 2) rfl rfl ?_
      refine Wd_al (al := [(2, .int (nI (pre.length + 1))), (0, .ref (241 + k0)), (1, .ref 113)]) (sba_p [0, 2, 3] rfl rfl) ?_
      exact ih t U0 h3
    | false =>
      rw [hx] at hn
      cases hy : (rs b).1.any (fun q => alk (rCs u) (rOs u) r.2 q.2) with
      | true =>
        rw [hy] at hth
        refine w_p (pc1 := 3) rfl rfl ?_
        refine w_p (pc1 := 4) rfl rfl ?_
        refine w_p (pc1 := 5) rfl rfl ?_
        refine w_m0 (pc1 := 8) (st1 := .int (nI (rTb u)) :: _) rfl rfl (x_gf (k := k0) rfl hU rfl) rfl ?_
        refine w_je (pc1 := 11) (vs := [.ref 113, .int (nI (rTb u))]) (rest := [.int (nI (pre.length))]) (st1 := [.int (nI ((rs (rTb u)).1.length)), .int (nI (pre.length))]) (hsz) rfl rfl rfl (fun _ _ => rfl) rfl (by exact cl_v my_107 rfl rfl rfl (Nat.le_of_ble_eq_true rfl) rfl (MH_obj rfl rfl) rfl (by decide) rfl rfl) (by rfl) (Nat.le_of_ble_eq_true rfl) (Nat.le_of_ble_eq_true rfl) rfl (by rfl) ?_
        refine w_f (a := 212) (b := 14) (bN_ge_f (a := pre.length) (b := (rs (rTb u)).1.length) (by omega) (by omega) (by omega)) rfl rfl ?_
        refine w_p (pc1 := 15) rfl rfl ?_
        refine w_p (pc1 := 16) rfl rfl ?_
        refine w_p (pc1 := 17) rfl rfl ?_
        refine w_je (pc1 := 20) (vs := [.ref (241 + k0), .ref 113, .int (nI (pre.length))]) (rest := []) (st1 := [.int 0]) (hn) rfl rfl rfl (fun _ _ => rfl) rfl (by exact cl_v my_147 rfl rfl rfl (Nat.le_of_ble_eq_true rfl) rfl (x_obj hU) rfl (by decide) rfl rfl) (by rfl) (Nat.le_of_ble_eq_true rfl) (Nat.le_of_ble_eq_true rfl) rfl (by rfl) ?_
        refine w_p (pc1 := 21) (al1 := [(3, .int 0), (2, .int (nI (pre.length))), (0, .ref (241 + k0)), (1, .ref 113)]) rfl rfl ?_
        refine w_p (pc1 := 22) rfl rfl ?_
        refine w_m0 (pc1 := 25) (st1 := .int 4 :: _) rfl rfl (x_gf (k := k0) rfl hU rfl) rfl ?_
        refine w_p (pc1 := 26) (st1 := .int 1 :: _) rfl rfl ?_
        refine w_t (a := 60) (b := 29) rfl rfl rfl ?_
        refine w_p (pc1 := 61) rfl rfl ?_
        refine w_m0 (pc1 := 64) (st1 := .int 4 :: _) rfl rfl (x_gf (k := k0) rfl hU rfl) rfl ?_
        refine w_p (pc1 := 65) (st1 := .int 2 :: _) rfl rfl ?_
        refine w_t (a := 99) (b := 68) rfl rfl rfl ?_
        refine w_p (pc1 := 100) rfl rfl ?_
        refine w_m0 (pc1 := 103) (st1 := .int 4 :: _) rfl rfl (x_gf (k := k0) rfl hU rfl) rfl ?_
        refine w_p (pc1 := 104) (st1 := .int 4 :: _) rfl rfl ?_
        refine w_f (a := 145) (b := 107) rfl rfl rfl ?_
        refine w_p (pc1 := 108) rfl rfl ?_
        refine w_f (a := 140) (b := 111) rfl rfl rfl ?_
        refine w_p (pc1 := 112) rfl rfl ?_
        refine w_p (pc1 := 113) rfl rfl ?_
        refine w_p (pc1 := 114) rfl rfl ?_
        refine w_p (pc1 := 115) rfl rfl ?_
        refine w_m0 (pc1 := 118) (st1 := .int (nI (b)) :: _) rfl rfl (x_gf (k := k0) rfl hU rfl) rfl ?_
        refine w_p (pc1 := 119) rfl rfl ?_
        refine w_m0 (pc1 := 122) (st1 := .ref (241 + kt) :: _) rfl rfl (x_gf (k := k0) rfl hU rfl) rfl ?_
        refine w_p (pc1 := 123) rfl rfl ?_
        refine w_p (pc1 := 124) rfl rfl ?_
        refine w_m0 (pc1 := 127) (st1 := .int (nI (b)) :: _) rfl rfl (x_gf (k := k0) rfl hU rfl) rfl ?_
        refine w_je (pc1 := 130) (vs := [.ref 113, .int (nI (b))]) (rest := [.ref (241 + kt), .int (nI (b)), .int (nI (pre.length)), .ref 113, .ref (241 + k0)]) (st1 := [.int (nI ((rs b).1.length)), .ref (241 + kt), .int (nI (b)), .int (nI (pre.length)), .ref 113, .ref (241 + k0)]) (hs2) rfl rfl rfl (fun _ _ => rfl) rfl (by exact cl_v my_107 rfl rfl rfl (Nat.le_of_ble_eq_true rfl) rfl (MH_obj rfl rfl) rfl (by decide) rfl rfl) (by rfl) (Nat.le_of_ble_eq_true rfl) (Nat.le_of_ble_eq_true rfl) rfl (by rfl) ?_
        refine w_je (pc1 := 133) (vs := [.ref (241 + k0), .ref 113, .int (nI (pre.length)), .int (nI (b)), .ref (241 + kt), .int (nI ((rs b).1.length))]) (rest := []) (st1 := [.int 1]) (hth) rfl rfl rfl (fun _ _ => rfl) rfl (by exact cl_v my_148 rfl rfl rfl (Nat.le_of_ble_eq_true rfl) rfl (x_obj hU) rfl (by decide) rfl rfl) (by rfl) (Nat.le_of_ble_eq_true rfl) (Nat.le_of_ble_eq_true rfl) rfl (by rfl) ?_
        refine w_t (a := 140) (b := 136) rfl rfl rfl ?_
        refine w_p (pc1 := 141) (st1 := .int 0 :: _) rfl rfl ?_
        refine w_p (pc1 := 142) (al1 := [(3, .int 0), (2, .int (nI (pre.length))), (0, .ref (241 + k0)), (1, .ref 113)]) rfl rfl ?_
        refine w_p (pc1 := 192) rfl rfl ?_
        refine w_p (pc1 := 193) rfl rfl ?_
        refine w_t (a := 206) (b := 196) rfl rfl rfl ?_
        refine w_iinc (pc1 := 209) (u := nI (pre.length)) (z := nI (pre.length + 1)) (al1 := [(2, .int (nI (pre.length + 1))), (3, .int 0), (0, .ref (241 + k0)), (1, .ref 113)]) rfl rfl rfl nK_1 rfl rfl ?_
        refine w_p (pc1 := 2) rfl rfl ?_
        refine Wd_al (al := [(2, .int (nI (pre.length + 1))), (0, .ref (241 + k0)), (1, .ref 113)]) (sba_p [0, 2, 3] rfl rfl) ?_
        exact ih t U0 h3
      | false =>
        rw [hy] at hth
        refine w_p (pc1 := 3) rfl rfl ?_
        refine w_p (pc1 := 4) rfl rfl ?_
        refine w_p (pc1 := 5) rfl rfl ?_
        refine w_m0 (pc1 := 8) (st1 := .int (nI (rTb u)) :: _) rfl rfl (x_gf (k := k0) rfl hU rfl) rfl ?_
        refine w_je (pc1 := 11) (vs := [.ref 113, .int (nI (rTb u))]) (rest := [.int (nI (pre.length))]) (st1 := [.int (nI ((rs (rTb u)).1.length)), .int (nI (pre.length))]) (hsz) rfl rfl rfl (fun _ _ => rfl) rfl (by exact cl_v my_107 rfl rfl rfl (Nat.le_of_ble_eq_true rfl) rfl (MH_obj rfl rfl) rfl (by decide) rfl rfl) (by rfl) (Nat.le_of_ble_eq_true rfl) (Nat.le_of_ble_eq_true rfl) rfl (by rfl) ?_
        refine w_f (a := 212) (b := 14) (bN_ge_f (a := pre.length) (b := (rs (rTb u)).1.length) (by omega) (by omega) (by omega)) rfl rfl ?_
        refine w_p (pc1 := 15) rfl rfl ?_
        refine w_p (pc1 := 16) rfl rfl ?_
        refine w_p (pc1 := 17) rfl rfl ?_
        refine w_je (pc1 := 20) (vs := [.ref (241 + k0), .ref 113, .int (nI (pre.length))]) (rest := []) (st1 := [.int 0]) (hn) rfl rfl rfl (fun _ _ => rfl) rfl (by exact cl_v my_147 rfl rfl rfl (Nat.le_of_ble_eq_true rfl) rfl (x_obj hU) rfl (by decide) rfl rfl) (by rfl) (Nat.le_of_ble_eq_true rfl) (Nat.le_of_ble_eq_true rfl) rfl (by rfl) ?_
        refine w_p (pc1 := 21) (al1 := [(3, .int 0), (2, .int (nI (pre.length))), (0, .ref (241 + k0)), (1, .ref 113)]) rfl rfl ?_
        refine w_p (pc1 := 22) rfl rfl ?_
        refine w_m0 (pc1 := 25) (st1 := .int 4 :: _) rfl rfl (x_gf (k := k0) rfl hU rfl) rfl ?_
        refine w_p (pc1 := 26) (st1 := .int 1 :: _) rfl rfl ?_
        refine w_t (a := 60) (b := 29) rfl rfl rfl ?_
        refine w_p (pc1 := 61) rfl rfl ?_
        refine w_m0 (pc1 := 64) (st1 := .int 4 :: _) rfl rfl (x_gf (k := k0) rfl hU rfl) rfl ?_
        refine w_p (pc1 := 65) (st1 := .int 2 :: _) rfl rfl ?_
        refine w_t (a := 99) (b := 68) rfl rfl rfl ?_
        refine w_p (pc1 := 100) rfl rfl ?_
        refine w_m0 (pc1 := 103) (st1 := .int 4 :: _) rfl rfl (x_gf (k := k0) rfl hU rfl) rfl ?_
        refine w_p (pc1 := 104) (st1 := .int 4 :: _) rfl rfl ?_
        refine w_f (a := 145) (b := 107) rfl rfl rfl ?_
        refine w_p (pc1 := 108) rfl rfl ?_
        refine w_f (a := 140) (b := 111) rfl rfl rfl ?_
        refine w_p (pc1 := 112) rfl rfl ?_
        refine w_p (pc1 := 113) rfl rfl ?_
        refine w_p (pc1 := 114) rfl rfl ?_
        refine w_p (pc1 := 115) rfl rfl ?_
        refine w_m0 (pc1 := 118) (st1 := .int (nI (b)) :: _) rfl rfl (x_gf (k := k0) rfl hU rfl) rfl ?_
        refine w_p (pc1 := 119) rfl rfl ?_
        refine w_m0 (pc1 := 122) (st1 := .ref (241 + kt) :: _) rfl rfl (x_gf (k := k0) rfl hU rfl) rfl ?_
        refine w_p (pc1 := 123) rfl rfl ?_
        refine w_p (pc1 := 124) rfl rfl ?_
        refine w_m0 (pc1 := 127) (st1 := .int (nI (b)) :: _) rfl rfl (x_gf (k := k0) rfl hU rfl) rfl ?_
        refine w_je (pc1 := 130) (vs := [.ref 113, .int (nI (b))]) (rest := [.ref (241 + kt), .int (nI (b)), .int (nI (pre.length)), .ref 113, .ref (241 + k0)]) (st1 := [.int (nI ((rs b).1.length)), .ref (241 + kt), .int (nI (b)), .int (nI (pre.length)), .ref 113, .ref (241 + k0)]) (hs2) rfl rfl rfl (fun _ _ => rfl) rfl (by exact cl_v my_107 rfl rfl rfl (Nat.le_of_ble_eq_true rfl) rfl (MH_obj rfl rfl) rfl (by decide) rfl rfl) (by rfl) (Nat.le_of_ble_eq_true rfl) (Nat.le_of_ble_eq_true rfl) rfl (by rfl) ?_
        refine w_je (pc1 := 133) (vs := [.ref (241 + k0), .ref 113, .int (nI (pre.length)), .int (nI (b)), .ref (241 + kt), .int (nI ((rs b).1.length))]) (rest := []) (st1 := [.int 0]) (hth) rfl rfl rfl (fun _ _ => rfl) rfl (by exact cl_v my_148 rfl rfl rfl (Nat.le_of_ble_eq_true rfl) rfl (x_obj hU) rfl (by decide) rfl rfl) (by rfl) (Nat.le_of_ble_eq_true rfl) (Nat.le_of_ble_eq_true rfl) rfl (by rfl) ?_
        refine w_f (a := 140) (b := 136) rfl rfl rfl ?_
        refine w_p (pc1 := 137) (st1 := .int 1 :: _) rfl rfl ?_
        refine w_p (pc1 := 141) rfl rfl ?_
        refine w_p (pc1 := 142) (al1 := [(3, .int 1), (2, .int (nI (pre.length))), (0, .ref (241 + k0)), (1, .ref 113)]) rfl rfl ?_
        refine w_p (pc1 := 192) rfl rfl ?_
        refine w_p (pc1 := 193) rfl rfl ?_
        refine w_f (a := 206) (b := 196) rfl rfl rfl ?_
        refine w_p (pc1 := 197) rfl rfl ?_
        refine w_p (pc1 := 198) rfl rfl ?_
        refine w_m0 (pc1 := 201) (st1 := .int (nI (rTb u)) :: _) rfl rfl (x_gf (k := k0) rfl hU rfl) rfl ?_
        refine w_p (pc1 := 202) rfl rfl ?_
        refine w_je (pc1 := 205) (vs := [.ref 113, .int (nI (rTb u)), .int (nI (pre.length))]) (rest := []) (st1 := [.int (r.1)]) (hid) rfl rfl rfl (fun _ _ => rfl) rfl (by exact cl_v my_131 rfl rfl rfl (Nat.le_of_ble_eq_true rfl) rfl (MH_obj rfl rfl) rfl (by decide) rfl rfl) (by rfl) (Nat.le_of_ble_eq_true rfl) (Nat.le_of_ble_eq_true rfl) rfl (by rfl) ?_
        refine w_r rfl rfl rfl (fun _ _ => rfl) cr_int ?_
        exact FB_i
set_option maxRecDepth 100000 in
theorem m_146 (W : RWK C wd rs) (hR : okR wd u) (U : RUK t k0 u) : Wd L xs (d + 4) y_146 (0, [(0, .ref (241 + k0)), (1, .ref 113)], [], MH C t, sl) (FB C t sl (fbk u rs)) nX := by
  refine w_p (pc1 := 1) (st1 := .int 0 :: _) rfl rfl ?_
  refine w_p (pc1 := 2) (al1 := [(2, .int 0), (0, .ref (241 + k0)), (1, .ref 113)]) rfl rfl ?_
  have h4 := hR.1.1
  have h5 : rKd u = 0 ∨ rKd u = 1 ∨ rKd u = 2 ∨ rKd u = 3 ∨ rKd u = 4 := by omega
  rcases h5 with h | h | h | h | h
  · exact lp_146_0 W hR h (rs (rTb u)).1 [] t U rfl
  · exact lp_146_1 W hR h (rs (rTb u)).1 [] t U rfl
  · exact lp_146_2 W hR h (rs (rTb u)).1 [] t U rfl
  · exact lp_146_3 W hR h (rs (rTb u)).1 [] t U rfl
  · exact lp_146_4 W hR h (rs (rTb u)).1 [] t U rfl
end KFB
