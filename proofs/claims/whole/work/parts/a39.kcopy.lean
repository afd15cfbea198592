
/-! ONE SIDE: all rows are copied -/
def cfP (ce : Nat → Int64) (id sz la : Nat → Int32) (wd : Nat → Nat) (rs : rs_T) (b : Nat) : Prop := ∀ q, q < b → sz q = nI (rs q).1.length ∧ la q = (rs q).2 ∧ ∀ k r, (rs q).1[k]? = some r → id (q * 40 + k) = r.1 ∧ ∀ c, c < wd q → ce ((q * 40 + k) * 6 + c) = e_V (r.2 c)
set_option maxRecDepth 100000 in
theorem va_cpy_at {α : Type} {f g : Nat → α} {sp dp n i : Nat} : va_cpy f g sp dp n i = if dp ≤ i ∧ i < dp + n then f (sp + (i - dp)) else g i := rfl
set_option maxRecDepth 100000 in
theorem upd_at {f : Nat → Int32} {j i : Nat} {v : Int32} : upd f j v i = if i = j then v else f i := rfl
set_option maxRecDepth 100000 in
theorem cfP_s {ce ce' : Nat → Int64} {id sz la id' sz' la' : Nat → Int32} {wd : Nat → Nat} {rs : rs_T} {b : Nat} (W : RWf ce id sz wd rs) (hb : b < 6) (hl : la b = (rs b).2) (h : cfP ce' id' sz' la' wd rs b) : cfP (va_cpy ce ce' ((b * 40 + 0) * 6) ((b * 40 + 0) * 6) ((rs b).1.length * 6)) (va_cpy id id' (b * 40) (b * 40) (rs b).1.length) (upd sz' b (nI (rs b).1.length)) (upd la' b (la b)) wd rs (b + 1) := by
  intro q hq
  obtain ⟨g1, g2, g3, g4⟩ := W b hb
  by_cases e : q = b
  · subst e
    refine ⟨by rw [upd_at, if_pos rfl], by rw [upd_at, if_pos rfl, hl], fun k r hr => ?_⟩
    have hk := get_lt hr
    refine ⟨?_, fun c hc => ?_⟩
    · rw [va_cpy_at, if_pos (by omega), show q * 40 + (q * 40 + k - q * 40) = q * 40 + k by omega]
      exact (g4 k r hr).1
    · rw [va_cpy_at, if_pos (by omega), show (q * 40 + 0) * 6 + ((q * 40 + k) * 6 + c - (q * 40 + 0) * 6) = (q * 40 + k) * 6 + c by omega]
      exact (g4 k r hr).2 c hc
  · obtain ⟨h1, h2, h3⟩ := h q (by omega)
    have w6 := (W q (by omega)).1
    have w4 := (W q (by omega)).2.2.1
    refine ⟨by rw [upd_at, if_neg e]; exact h1, by rw [upd_at, if_neg e]; exact h2, fun k r hr => ?_⟩
    have hk := get_lt hr
    refine ⟨?_, fun c hc => ?_⟩
    · rw [va_cpy_at, if_neg (by omega)]
      exact (h3 k r hr).1
    · rw [va_cpy_at, if_neg (by omega)]
      exact (h3 k r hr).2 c hc
set_option maxRecDepth 100000 in
theorem cfP_W {ce ce' : Nat → Int64} {id sz la id' sz' : Nat → Int32} {wd : Nat → Nat} {rs : rs_T} (W : RWf ce' id' sz' wd rs) (h : cfP ce id sz la wd rs 6) : RWf ce id sz wd rs ∧ ∀ q, q < 6 → la q = (rs q).2 := by
  refine ⟨fun b hb => ?_, fun q hq => (h q hq).2.1⟩
  obtain ⟨g1, g2, g3, g4⟩ := W b hb
  exact ⟨g1, (h b hb).1, g3, (h b hb).2.2⟩
/-! only the arrays of these rows -/
def frR (bd : Nat) (C C' : co_T) : Prop := (∀ k j, ¬ (bd + 2 ≤ k ∧ k ≤ bd + 4) → C'.1 k j = C.1 k j) ∧ (∀ k j, k ≠ bd + 1 → C'.2.1 k j = C.2.1 k j) ∧ C'.2.2 = C.2.2
set_option maxRecDepth 100000 in
theorem frR_r {bd : Nat} {C : co_T} : frR bd C C := ⟨fun _ _ _ => rfl, fun _ _ _ => rfl, rfl⟩
set_option maxRecDepth 100000 in
theorem frR_t {bd : Nat} {C1 C2 C3 : co_T} (h : frR bd C1 C2) (g : frR bd C2 C3) : frR bd C1 C3 := ⟨fun k j a => (g.1 k j a).trans (h.1 k j a), fun k j a => (g.2.1 k j a).trans (h.2.1 k j a), g.2.2.trans h.2.2⟩
/-! rows in the tail: the object at k, its arrays behind it -/
def RWo (t : ab_H) (k : Nat) (ce : Nat → Int64) (id sz la : Nat → Int32) : Prop := t[k]? = some (.inr (3, [.ref (241 + (k + 1)), .ref (241 + (k + 2)), .ref (241 + (k + 3)), .ref (241 + (k + 4))])) ∧ t[k + 1]? = some (.inl (1, 1440, .inr (.inl ce))) ∧ t[k + 2]? = some (.inl (0, 240, .inl id)) ∧ t[k + 3]? = some (.inl (0, 6, .inl sz)) ∧ t[k + 4]? = some (.inl (0, 6, .inl la))
def RWt (t : ab_H) (k : Nat) (wd : Nat → Nat) (rs : rs_T) : Prop := ∃ ce id sz la, RWo t k ce id sz la ∧ RWf ce id sz wd rs ∧ ∀ q, q < 6 → la q = (rs q).2
/-! only the cells of these rows -/
def frU (k : Nat) (t t' : ab_H) : Prop := t'.length = t.length ∧ ∀ j, ¬ (k ≤ j ∧ j < k + 5) → t'[j]? = t[j]?
set_option maxRecDepth 100000 in
theorem frU_r {k : Nat} {t : ab_H} : frU k t t := ⟨rfl, fun _ _ => rfl⟩
set_option maxRecDepth 100000 in
theorem frU_t {k : Nat} {t1 t2 t3 : ab_H} (h : frU k t1 t2) (g : frU k t2 t3) : frU k t1 t3 := ⟨g.1.trans h.1, fun j a => (g.2 j a).trans (h.2 j a)⟩
set_option maxRecDepth 100000 in
theorem frU_s {k j : Nat} {t : ab_H} {c : ab_C} (h : k ≤ j ∧ j < k + 5) : frU k t (t.set j c) := ⟨List.length_set, fun i hi => by rw [List.getElem?_set_ne (by omega)]⟩
section NAT_
variable {C : co_T} {t : ab_H} {o idx fr lo k0 k1 n0 n1 sp dp n : Nat} {l0 l1 : List (Nat × Nat)} {q : List Value} {f g : Nat → Int64} {fi gi : Nat → Int32}
set_option maxRecDepth 100000 in
theorem n_mi40 {h : ab_H} {a : Nat} (ha4 : a ≤ 40) (hl : mi_l.contains (o, idx) = true) (ha : ac_l.contains (o, idx) = false) (hs : sumc q ≤ 50) (h1 : 1 ≤ fr) (h2 : 64 ≤ lo) : cn o fr lo (.invokestatic idx) 3 h (.int 40 :: .int (nI a) :: q) = some (.int (nI a) :: q, h, 0) := by
  rw [n_mi hl ha hs h1 h2]
  have : ¬ ((40 : Int32) < nI a) := by
    show ¬ ((40 : Int32) < nI a)
    rw [Int32.lt_iff_toInt_lt, nK_int (by omega)]
    show ¬ ((40 : Int) < a)
    omega
  rw [if_neg this]
/-! from fixed cells into the tail, and back -/
set_option maxRecDepth 100000 in
theorem n_acJd (h0 : SK[k0]? = some (1, 1, n0, l0)) (h1 : t[k1]? = some (.inl (1, n1, .inr (.inl g)))) (hl : ac_l.contains (o, idx) = true) (hs : sumc q ≤ 20) (b0 : sp + n ≤ n0) (b1 : dp + n ≤ n1) (hn0 : n0 < 2147483648) (hn1 : n1 < 2147483648) (f1 : 1 ≤ fr) (f2 : 64 ≤ lo) : cn o fr lo (.invokestatic idx) 3 (MH C t) (.int (nI n) :: .int (nI dp) :: .ref (241 + k1) :: .int (nI sp) :: .ref (k0 + 100) :: q) = some (q, MH C (t.set k1 (.inl (1, n1, .inr (.inl (va_cpy (C.2.1 k0) g sp dp n))))), 0) := by
  rw [n_acg (Or.inl ⟨rfl, _, _, rfl, rfl, rfl⟩) (MH_arJ rfl h0) (x_arr h1) hl hs b0 b1 hn0 hn1 f1 f2, show 241 + k1 - 100 = 141 + k1 by omega, T_set]
set_option maxRecDepth 100000 in
theorem n_acId (h0 : SK[k0]? = some (0, 0, n0, l0)) (h1 : t[k1]? = some (.inl (0, n1, .inl gi))) (hl : ac_l.contains (o, idx) = true) (hs : sumc q ≤ 20) (b0 : sp + n ≤ n0) (b1 : dp + n ≤ n1) (hn0 : n0 < 2147483648) (hn1 : n1 < 2147483648) (f1 : 1 ≤ fr) (f2 : 64 ≤ lo) : cn o fr lo (.invokestatic idx) 3 (MH C t) (.int (nI n) :: .int (nI dp) :: .ref (241 + k1) :: .int (nI sp) :: .ref (k0 + 100) :: q) = some (q, MH C (t.set k1 (.inl (0, n1, .inl (va_cpy (C.1 k0) gi sp dp n)))), 0) := by
  rw [n_acg (Or.inr ⟨rfl, _, _, rfl, rfl, rfl⟩) (MH_arI rfl h0) (x_arr h1) hl hs b0 b1 hn0 hn1 f1 f2, show 241 + k1 - 100 = 141 + k1 by omega, T_set]
set_option maxRecDepth 100000 in
theorem n_acJs (h0 : t[k0]? = some (.inl (1, n0, .inr (.inl f)))) (h1 : SK[k1]? = some (1, 1, n1, l1)) (hl : ac_l.contains (o, idx) = true) (hs : sumc q ≤ 20) (b0 : sp + n ≤ n0) (b1 : dp + n ≤ n1) (hn0 : n0 < 2147483648) (hn1 : n1 < 2147483648) (f1 : 1 ≤ fr) (f2 : 64 ≤ lo) : cn o fr lo (.invokestatic idx) 3 (MH C t) (.int (nI n) :: .int (nI dp) :: .ref (k1 + 100) :: .int (nI sp) :: .ref (241 + k0) :: q) = some (q, MH (sB C k1 (va_cpy f (C.2.1 k1) sp dp n)) t, 0) := by
  rw [n_acg (Or.inl ⟨rfl, _, _, rfl, rfl, rfl⟩) (x_arr h0) (MH_arJ rfl h1) hl hs b0 b1 hn0 hn1 f1 f2, show k1 + 100 - 100 = k1 by omega, MH_sB h1]
set_option maxRecDepth 100000 in
theorem n_acIs (h0 : t[k0]? = some (.inl (0, n0, .inl fi))) (h1 : SK[k1]? = some (0, 0, n1, l1)) (hl : ac_l.contains (o, idx) = true) (hs : sumc q ≤ 20) (b0 : sp + n ≤ n0) (b1 : dp + n ≤ n1) (hn0 : n0 < 2147483648) (hn1 : n1 < 2147483648) (f1 : 1 ≤ fr) (f2 : 64 ≤ lo) : cn o fr lo (.invokestatic idx) 3 (MH C t) (.int (nI n) :: .int (nI dp) :: .ref (k1 + 100) :: .int (nI sp) :: .ref (241 + k0) :: q) = some (q, MH (sA C k1 (va_cpy fi (C.1 k1) sp dp n)) t, 0) := by
  rw [n_acg (Or.inr ⟨rfl, _, _, rfl, rfl, rfl⟩) (x_arr h0) (MH_arI rfl h1) hl hs b0 b1 hn0 hn1 f1 f2, show k1 + 100 - 100 = k1 by omega, MH_sA h1]
end NAT_
section CPF
variable {L : Nat} {xs : Nat → Int32} {C C0 : co_T} {t : ab_H} {d sl b k n : Nat} {wd : Nat → Nat} {rs : rs_T} {ce : Nat → Int64} {id sz la : Nat → Int32}
set_option maxRecDepth 100000 in
theorem m_107_25 (hb : b < 6) (hn : C.1 28 b = nI n) (h4 : n ≤ 40) : Wd L xs d y_107 (0, [(0, .ref 125), (1, .int (nI b))], [], MH C t, sl) (Rt (some (.int (nI n))) (MH C t) sl) nX := by
  refine w_p (pc1 := 1) rfl rfl ?_
  refine w_f (a := 10) (b := 4) (bN_lt_f (a := b) (b := 0) (by omega) (by omega) (by omega)) rfl rfl ?_
  refine w_p (pc1 := 5) rfl rfl ?_
  refine w_p (pc1 := 7) (st1 := .int 6 :: _) rfl rfl ?_
  refine w_t (a := 14) (b := 10) (bN_lt_t (a := b) (b := 6) (by omega) (by omega) (by omega)) rfl rfl ?_
  refine w_p (pc1 := 15) rfl rfl ?_
  refine w_m0 (pc1 := 18) rfl rfl (h_gC rfl rfl rfl rfl) rfl ?_
  refine w_p (pc1 := 19) rfl rfl ?_
  refine w_m0 (pc1 := 20) (st1 := .int (nI (n)) :: _) rfl rfl (n_ile (e := b) rfl rfl rfl (by omega) (hn)) rfl ?_
  refine w_r rfl rfl rfl (fun _ _ => rfl) cr_int ?_
  exact ⟨rfl, rfl, rfl⟩
set_option maxRecDepth 100000 in
theorem m_107_t (hb : b < 6) (R : RWo t k ce id sz la) (hn : sz b = nI n) (h4 : n ≤ 40) : Wd L xs d y_107 (0, [(0, .ref (241 + k)), (1, .int (nI b))], [], MH C t, sl) (Rt (some (.int (nI n))) (MH C t) sl) nX := by
  refine w_p (pc1 := 1) rfl rfl ?_
  refine w_f (a := 10) (b := 4) (bN_lt_f (a := b) (b := 0) (by omega) (by omega) (by omega)) rfl rfl ?_
  refine w_p (pc1 := 5) rfl rfl ?_
  refine w_p (pc1 := 7) (st1 := .int 6 :: _) rfl rfl ?_
  refine w_t (a := 14) (b := 10) (bN_lt_t (a := b) (b := 6) (by omega) (by omega) (by omega)) rfl rfl ?_
  refine w_p (pc1 := 15) rfl rfl ?_
  refine w_m0 (pc1 := 18) (st1 := .ref (241 + (k + 3)) :: _) rfl rfl (x_gf (k := k) rfl R.1 rfl) rfl ?_
  refine w_p (pc1 := 19) rfl rfl ?_
  refine w_m0 (pc1 := 20) (st1 := .int (nI (n)) :: _) rfl rfl (x_ile (k := (k + 3)) (e := b) R.2.2.2.1 (by omega) (by omega) (hn)) rfl ?_
  refine w_r rfl rfl rfl (fun _ _ => rfl) cr_int ?_
  exact ⟨rfl, rfl, rfl⟩
set_option maxRecDepth 100000 in
theorem lp_106_25 (W : RWf (C0.2.1 14) (C0.1 15) (C0.1 16) wd rs) (hl : ∀ q, q < 6 → C0.1 17 q = (rs q).2) : ∀ (m b : Nat) (C : co_T), b + m = 6 → frR 25 C0 C → cfP (C.2.1 26) (C.1 27) (C.1 28) (C.1 29) wd rs b → Wd L xs (d + 1) y_106 (2, [(2, .int (nI (b))), (0, .ref 125), (1, .ref 113)], [], MH C t, sl) (fun v h q => none = v ∧ (∃ C', (frR 25 C0 C' ∧ cfP (C'.2.1 26) (C'.1 27) (C'.1 28) (C'.1 29) wd rs 6) ∧ MH C' t = h) ∧ sl = q) nX
  | 0, b, C, hb, hf, hT => by
    obtain rfl : b = 6 := by omega
    refine w_p (pc1 := 3) rfl rfl ?_
    refine w_p (pc1 := 5) (st1 := .int 6 :: _) rfl rfl ?_
    refine w_t (a := 90) (b := 8) (bN_ge_t (a := 6) (b := 6) (by omega) (by omega) (by omega)) rfl rfl ?_
    refine w_r rfl rfl rfl (fun _ _ => rfl) rfl ?_
    exact ⟨rfl, ⟨C, ⟨hf, hT⟩, rfl⟩, rfl⟩
  | m + 1, b, C, hb, hf, hT => by
    obtain ⟨g1, g2, g3, g4⟩ := W b (by omega)
    have e1 : ∀ q, C.1 15 q = C0.1 15 q := fun q => hf.1 15 q (by omega)
    have e2 : ∀ q, C.1 16 q = C0.1 16 q := fun q => hf.1 16 q (by omega)
    have e3 : ∀ q, C.1 17 q = C0.1 17 q := fun q => hf.1 17 q (by omega)
    have e4 : ∀ q, C.2.1 14 q = C0.2.1 14 q := fun q => hf.2.1 14 q (by omega)
    have W1 : RWf (C.2.1 14) (C.1 15) (C.1 16) wd rs := by
      rw [show C.2.1 14 = C0.2.1 14 from funext e4, show C.1 15 = C0.1 15 from funext e1, show C.1 16 = C0.1 16 from funext e2]
      exact W
    have hl1 : C.1 17 b = (rs b).2 := (e3 b).trans (hl b (by omega))
    have hs := m_107 (L := L) (xs := xs) (t := t) (d := d) (sl := 0) (b := b) (by omega) ((e2 b).trans g2) g3
    have hnx := cfP_s (la := C.1 17) W1 (by omega) hl1 hT
    have ff : frR 25 C (sI (sI (sB (sA C 27 (va_cpy (C.1 15) (C.1 27) (b * 40) (b * 40) (rs b).1.length)) 26 (va_cpy (C.2.1 14) (C.2.1 26) ((b * 40 + 0) * 6) ((b * 40 + 0) * 6) ((rs b).1.length * 6))) 28 b (nI (rs b).1.length)) 29 b (C.1 17 b)) := ⟨fun q j h => by rw [sI_1, if_neg (by omega), sI_1, if_neg (by omega), sB_1, sA_1, if_neg (by omega)], fun q j h => by
      show (sB _ _ _).2.1 q j = _
      rw [sB_2, if_neg (by omega)]
      rfl, rfl⟩
    have IH := lp_106_25 W hl m (b + 1) (sI (sI (sB (sA C 27 (va_cpy (C.1 15) (C.1 27) (b * 40) (b * 40) (rs b).1.length)) 26 (va_cpy (C.2.1 14) (C.2.1 26) ((b * 40 + 0) * 6) ((b * 40 + 0) * 6) ((rs b).1.length * 6))) 28 b (nI (rs b).1.length)) 29 b (C.1 17 b)) (by omega) (frR_t hf ff) (by
      have k1 : (sI (sI (sB (sA C 27 (va_cpy (C.1 15) (C.1 27) (b * 40) (b * 40) (rs b).1.length)) 26 (va_cpy (C.2.1 14) (C.2.1 26) ((b * 40 + 0) * 6) ((b * 40 + 0) * 6) ((rs b).1.length * 6))) 28 b (nI (rs b).1.length)) 29 b (C.1 17 b)).2.1 26 = va_cpy (C.2.1 14) (C.2.1 26) ((b * 40 + 0) * 6) ((b * 40 + 0) * 6) ((rs b).1.length * 6) := by
        funext q
        show (sB _ _ _).2.1 26 q = _
        rw [sB_2, if_pos rfl]
      have k2 : (sI (sI (sB (sA C 27 (va_cpy (C.1 15) (C.1 27) (b * 40) (b * 40) (rs b).1.length)) 26 (va_cpy (C.2.1 14) (C.2.1 26) ((b * 40 + 0) * 6) ((b * 40 + 0) * 6) ((rs b).1.length * 6))) 28 b (nI (rs b).1.length)) 29 b (C.1 17 b)).1 27 = va_cpy (C.1 15) (C.1 27) (b * 40) (b * 40) (rs b).1.length := by
        funext q
        rw [sI_1, if_neg (by omega), sI_1, if_neg (by omega), sB_1, sA_1, if_pos rfl]
      have k3 : (sI (sI (sB (sA C 27 (va_cpy (C.1 15) (C.1 27) (b * 40) (b * 40) (rs b).1.length)) 26 (va_cpy (C.2.1 14) (C.2.1 26) ((b * 40 + 0) * 6) ((b * 40 + 0) * 6) ((rs b).1.length * 6))) 28 b (nI (rs b).1.length)) 29 b (C.1 17 b)).1 28 = upd (C.1 28) b (nI (rs b).1.length) := by
        funext q
        rw [sI_1, if_neg (by omega), sI_1, upd_at]
        by_cases e : q = b
        · rw [if_pos ⟨rfl, e⟩, if_pos e]
        · rw [if_neg (by omega), if_neg e, sB_1, sA_1, if_neg (by omega)]
      have k4 : (sI (sI (sB (sA C 27 (va_cpy (C.1 15) (C.1 27) (b * 40) (b * 40) (rs b).1.length)) 26 (va_cpy (C.2.1 14) (C.2.1 26) ((b * 40 + 0) * 6) ((b * 40 + 0) * 6) ((rs b).1.length * 6))) 28 b (nI (rs b).1.length)) 29 b (C.1 17 b)).1 29 = upd (C.1 29) b (C.1 17 b) := by
        funext q
        rw [sI_1, upd_at]
        by_cases e : q = b
        · rw [if_pos ⟨rfl, e⟩, if_pos e]
        · rw [if_neg (by omega), if_neg e, sI_1, if_neg (by omega), sB_1, sA_1, if_neg (by omega)]
      rw [k1, k2, k3, k4]
      exact hnx)
    refine w_p (pc1 := 3) rfl rfl ?_
    refine w_p (pc1 := 5) (st1 := .int 6 :: _) rfl rfl ?_
    refine w_f (a := 90) (b := 8) (bN_ge_f (a := b) (b := 6) (by omega) (by omega) (by omega)) rfl rfl ?_
    refine w_p (pc1 := 9) rfl rfl ?_
    refine w_p (pc1 := 10) rfl rfl ?_
    refine w_je (pc1 := 13) (vs := [.ref 113, .int (nI (b))]) (rest := []) (st1 := [.int (nI ((rs b).1.length))]) (hs) rfl rfl rfl (fun _ _ => rfl) rfl (by exact cl_v my_107 rfl rfl rfl (Nat.le_of_ble_eq_true rfl) rfl (MH_obj rfl rfl) rfl (by decide) rfl rfl) (by rfl) (Nat.le_of_ble_eq_true rfl) (Nat.le_of_ble_eq_true rfl) rfl (by rfl) ?_
    refine w_p (pc1 := 15) (st1 := .int 40 :: _) rfl rfl ?_
    refine w_c (pc1 := 18) (st1 := .int (nI ((rs b).1.length)) :: _) rfl rfl rfl (fun fr lo h1 h2 => n_mi40 g3 rfl rfl (Nat.le_of_ble_eq_true rfl) h1 h2) rfl ?_
    refine w_p (pc1 := 19) (al1 := [(3, .int (nI ((rs b).1.length))), (2, .int (nI (b))), (0, .ref 125), (1, .ref 113)]) rfl rfl ?_
    refine w_p (pc1 := 20) rfl rfl ?_
    refine w_p (pc1 := 21) (st1 := .int 0 :: _) rfl rfl ?_
    refine w_je (pc1 := 24) (vs := [.int (nI (b)), .int 0]) (rest := []) (st1 := [.int (nI ((b * 40 + 0) * 6))]) (m_108 (d := d) (sl := 0) (b := b) (k := 0)) rfl rfl rfl (fun _ _ => cn_s rfl rfl rfl rfl) rfl (by exact cl_s my_108 rfl rfl rfl (Nat.le_of_ble_eq_true rfl) rfl rfl) (by rfl) (Nat.le_of_ble_eq_true rfl) (Nat.le_of_ble_eq_true rfl) rfl (by rfl) ?_
    refine w_p (pc1 := 26) (al1 := [(4, .int (nI ((b * 40 + 0) * 6))), (3, .int (nI ((rs b).1.length))), (2, .int (nI (b))), (0, .ref 125), (1, .ref 113)]) rfl rfl ?_
    refine w_p (pc1 := 27) rfl rfl ?_
    refine w_m0 (pc1 := 30) rfl rfl (h_gC rfl rfl rfl rfl) rfl ?_
    refine w_p (pc1 := 31) rfl rfl ?_
    refine w_p (pc1 := 33) (st1 := .int 40 :: _) rfl rfl ?_
    refine w_imul (pc1 := 34) (u := nI (b)) (v := nI (40)) (z := nI (b * 40)) rfl (nK_mul) rfl ?_
    refine w_p (pc1 := 35) rfl rfl ?_
    refine w_m0 (pc1 := 38) rfl rfl (h_gC rfl rfl rfl rfl) rfl ?_
    refine w_p (pc1 := 39) rfl rfl ?_
    refine w_p (pc1 := 41) (st1 := .int 40 :: _) rfl rfl ?_
    refine w_imul (pc1 := 42) (u := nI (b)) (v := nI (40)) (z := nI (b * 40)) rfl (nK_mul) rfl ?_
    refine w_p (pc1 := 43) rfl rfl ?_
    refine w_c (pc1 := 46) rfl rfl rfl (fun fr lo h1 h2 => n_acI (k0 := 15) (k1 := 27) (sp := b * 40) (dp := b * 40) (n := (rs b).1.length) rfl rfl rfl (Nat.le_of_ble_eq_true rfl) (by omega) (by omega) (by decide) (by decide) h1 h2) rfl ?_
    refine w_p (pc1 := 47) rfl rfl ?_
    refine w_m0 (pc1 := 50) rfl rfl (h_gC rfl rfl rfl rfl) rfl ?_
    refine w_p (pc1 := 52) rfl rfl ?_
    refine w_p (pc1 := 53) rfl rfl ?_
    refine w_m0 (pc1 := 56) rfl rfl (h_gC rfl rfl rfl rfl) rfl ?_
    refine w_p (pc1 := 58) rfl rfl ?_
    refine w_p (pc1 := 59) rfl rfl ?_
    refine w_p (pc1 := 61) (st1 := .int 6 :: _) rfl rfl ?_
    refine w_imul (pc1 := 62) (u := nI ((rs b).1.length)) (v := nI (6)) (z := nI (((rs b).1.length) * 6)) rfl (nK_mul) rfl ?_
    refine w_c (pc1 := 65) rfl rfl rfl (fun fr lo h1 h2 => n_acJ (k0 := 14) (k1 := 26) (sp := (b * 40 + 0) * 6) (dp := (b * 40 + 0) * 6) (n := (rs b).1.length * 6) rfl rfl rfl (Nat.le_of_ble_eq_true rfl) (by omega) (by omega) (by decide) (by decide) h1 h2) rfl ?_
    refine w_p (pc1 := 66) rfl rfl ?_
    refine w_m0 (pc1 := 69) rfl rfl (h_gC rfl rfl rfl rfl) rfl ?_
    refine w_p (pc1 := 70) rfl rfl ?_
    refine w_p (pc1 := 71) rfl rfl ?_
    refine w_m0 (pc1 := 72) rfl rfl (n_is (e := b) rfl rfl rfl (by omega)) rfl ?_
    refine w_p (pc1 := 73) rfl rfl ?_
    refine w_m0 (pc1 := 76) rfl rfl (h_gC rfl rfl rfl rfl) rfl ?_
    refine w_p (pc1 := 77) rfl rfl ?_
    refine w_p (pc1 := 78) rfl rfl ?_
    refine w_m0 (pc1 := 81) rfl rfl (h_gC rfl rfl rfl rfl) rfl ?_
    refine w_p (pc1 := 82) rfl rfl ?_
    refine w_m0 (pc1 := 83) (st1 := .int (C.1 17 b) :: _) rfl rfl (n_ile (e := b) rfl rfl rfl (by omega) (rfl)) rfl ?_
    refine w_m0 (pc1 := 84) rfl rfl (n_is (e := b) rfl rfl rfl (by omega)) rfl ?_
    refine w_iinc (pc1 := 87) (u := nI (b)) (z := nI (b + 1)) (al1 := [(2, .int (nI (b + 1))), (4, .int (nI ((b * 40 + 0) * 6))), (3, .int (nI ((rs b).1.length))), (0, .ref 125), (1, .ref 113)]) rfl rfl rfl nK_1 rfl rfl ?_
    refine w_p (pc1 := 2) rfl rfl ?_
    refine Wd_al (al := [(2, .int (nI (b + 1))), (0, .ref 125), (1, .ref 113)]) (sba_p [0, 3, 4] rfl rfl) ?_
    exact IH
set_option maxRecDepth 100000 in
theorem m_106_25 (W : RWf (C.2.1 14) (C.1 15) (C.1 16) wd rs) (hl : ∀ q, q < 6 → C.1 17 q = (rs q).2) : Wd L xs (d + 1) y_106 (0, [(0, .ref 125), (1, .ref 113)], [], MH C t, sl) (fun v h q => none = v ∧ (∃ C', (frR 25 C C' ∧ RWf (C'.2.1 26) (C'.1 27) (C'.1 28) wd rs ∧ ∀ q, q < 6 → C'.1 29 q = (rs q).2) ∧ MH C' t = h) ∧ sl = q) nX := by
  refine w_p (pc1 := 1) (st1 := .int 0 :: _) rfl rfl ?_
  refine w_p (pc1 := 2) (al1 := [(2, .int 0), (0, .ref 125), (1, .ref 113)]) rfl rfl ?_
  refine Wd_q (lp_106_25 (C0 := C) W hl 6 0 C rfl frR_r (fun q hq => absurd hq (by omega))) (fun v h q hq => ?_) (fun _ _ _ e => e)
  obtain ⟨z1, ⟨C1, ⟨z2, z3⟩, z4⟩, z5⟩ := hq
  exact ⟨z1, ⟨C1, ⟨z2, cfP_W W z3⟩, z4⟩, z5⟩
set_option maxRecDepth 100000 in
theorem lp_106_13 (W : RWf (C0.2.1 26) (C0.1 27) (C0.1 28) wd rs) (hl : ∀ q, q < 6 → C0.1 29 q = (rs q).2) : ∀ (m b : Nat) (C : co_T), b + m = 6 → frR 13 C0 C → cfP (C.2.1 14) (C.1 15) (C.1 16) (C.1 17) wd rs b → Wd L xs (d + 1) y_106 (2, [(2, .int (nI (b))), (0, .ref 113), (1, .ref 125)], [], MH C t, sl) (fun v h q => none = v ∧ (∃ C', (frR 13 C0 C' ∧ cfP (C'.2.1 14) (C'.1 15) (C'.1 16) (C'.1 17) wd rs 6) ∧ MH C' t = h) ∧ sl = q) nX
  | 0, b, C, hb, hf, hT => by
    obtain rfl : b = 6 := by omega
    refine w_p (pc1 := 3) rfl rfl ?_
    refine w_p (pc1 := 5) (st1 := .int 6 :: _) rfl rfl ?_
    refine w_t (a := 90) (b := 8) (bN_ge_t (a := 6) (b := 6) (by omega) (by omega) (by omega)) rfl rfl ?_
    refine w_r rfl rfl rfl (fun _ _ => rfl) rfl ?_
    exact ⟨rfl, ⟨C, ⟨hf, hT⟩, rfl⟩, rfl⟩
  | m + 1, b, C, hb, hf, hT => by
    obtain ⟨g1, g2, g3, g4⟩ := W b (by omega)
    have e1 : ∀ q, C.1 27 q = C0.1 27 q := fun q => hf.1 27 q (by omega)
    have e2 : ∀ q, C.1 28 q = C0.1 28 q := fun q => hf.1 28 q (by omega)
    have e3 : ∀ q, C.1 29 q = C0.1 29 q := fun q => hf.1 29 q (by omega)
    have e4 : ∀ q, C.2.1 26 q = C0.2.1 26 q := fun q => hf.2.1 26 q (by omega)
    have W1 : RWf (C.2.1 26) (C.1 27) (C.1 28) wd rs := by
      rw [show C.2.1 26 = C0.2.1 26 from funext e4, show C.1 27 = C0.1 27 from funext e1, show C.1 28 = C0.1 28 from funext e2]
      exact W
    have hl1 : C.1 29 b = (rs b).2 := (e3 b).trans (hl b (by omega))
    have hs := m_107_25 (L := L) (xs := xs) (t := t) (d := d) (sl := 0) (b := b) (by omega) ((e2 b).trans g2) g3
    have hnx := cfP_s (la := C.1 29) W1 (by omega) hl1 hT
    have ff : frR 13 C (sI (sI (sB (sA C 15 (va_cpy (C.1 27) (C.1 15) (b * 40) (b * 40) (rs b).1.length)) 14 (va_cpy (C.2.1 26) (C.2.1 14) ((b * 40 + 0) * 6) ((b * 40 + 0) * 6) ((rs b).1.length * 6))) 16 b (nI (rs b).1.length)) 17 b (C.1 29 b)) := ⟨fun q j h => by rw [sI_1, if_neg (by omega), sI_1, if_neg (by omega), sB_1, sA_1, if_neg (by omega)], fun q j h => by
      show (sB _ _ _).2.1 q j = _
      rw [sB_2, if_neg (by omega)]
      rfl, rfl⟩
    have IH := lp_106_13 W hl m (b + 1) (sI (sI (sB (sA C 15 (va_cpy (C.1 27) (C.1 15) (b * 40) (b * 40) (rs b).1.length)) 14 (va_cpy (C.2.1 26) (C.2.1 14) ((b * 40 + 0) * 6) ((b * 40 + 0) * 6) ((rs b).1.length * 6))) 16 b (nI (rs b).1.length)) 17 b (C.1 29 b)) (by omega) (frR_t hf ff) (by
      have k1 : (sI (sI (sB (sA C 15 (va_cpy (C.1 27) (C.1 15) (b * 40) (b * 40) (rs b).1.length)) 14 (va_cpy (C.2.1 26) (C.2.1 14) ((b * 40 + 0) * 6) ((b * 40 + 0) * 6) ((rs b).1.length * 6))) 16 b (nI (rs b).1.length)) 17 b (C.1 29 b)).2.1 14 = va_cpy (C.2.1 26) (C.2.1 14) ((b * 40 + 0) * 6) ((b * 40 + 0) * 6) ((rs b).1.length * 6) := by
        funext q
        show (sB _ _ _).2.1 14 q = _
        rw [sB_2, if_pos rfl]
      have k2 : (sI (sI (sB (sA C 15 (va_cpy (C.1 27) (C.1 15) (b * 40) (b * 40) (rs b).1.length)) 14 (va_cpy (C.2.1 26) (C.2.1 14) ((b * 40 + 0) * 6) ((b * 40 + 0) * 6) ((rs b).1.length * 6))) 16 b (nI (rs b).1.length)) 17 b (C.1 29 b)).1 15 = va_cpy (C.1 27) (C.1 15) (b * 40) (b * 40) (rs b).1.length := by
        funext q
        rw [sI_1, if_neg (by omega), sI_1, if_neg (by omega), sB_1, sA_1, if_pos rfl]
      have k3 : (sI (sI (sB (sA C 15 (va_cpy (C.1 27) (C.1 15) (b * 40) (b * 40) (rs b).1.length)) 14 (va_cpy (C.2.1 26) (C.2.1 14) ((b * 40 + 0) * 6) ((b * 40 + 0) * 6) ((rs b).1.length * 6))) 16 b (nI (rs b).1.length)) 17 b (C.1 29 b)).1 16 = upd (C.1 16) b (nI (rs b).1.length) := by
        funext q
        rw [sI_1, if_neg (by omega), sI_1, upd_at]
        by_cases e : q = b
        · rw [if_pos ⟨rfl, e⟩, if_pos e]
        · rw [if_neg (by omega), if_neg e, sB_1, sA_1, if_neg (by omega)]
      have k4 : (sI (sI (sB (sA C 15 (va_cpy (C.1 27) (C.1 15) (b * 40) (b * 40) (rs b).1.length)) 14 (va_cpy (C.2.1 26) (C.2.1 14) ((b * 40 + 0) * 6) ((b * 40 + 0) * 6) ((rs b).1.length * 6))) 16 b (nI (rs b).1.length)) 17 b (C.1 29 b)).1 17 = upd (C.1 17) b (C.1 29 b) := by
        funext q
        rw [sI_1, upd_at]
        by_cases e : q = b
        · rw [if_pos ⟨rfl, e⟩, if_pos e]
        · rw [if_neg (by omega), if_neg e, sI_1, if_neg (by omega), sB_1, sA_1, if_neg (by omega)]
      rw [k1, k2, k3, k4]
      exact hnx)
    refine w_p (pc1 := 3) rfl rfl ?_
    refine w_p (pc1 := 5) (st1 := .int 6 :: _) rfl rfl ?_
    refine w_f (a := 90) (b := 8) (bN_ge_f (a := b) (b := 6) (by omega) (by omega) (by omega)) rfl rfl ?_
    refine w_p (pc1 := 9) rfl rfl ?_
    refine w_p (pc1 := 10) rfl rfl ?_
    refine w_je (pc1 := 13) (vs := [.ref 125, .int (nI (b))]) (rest := []) (st1 := [.int (nI ((rs b).1.length))]) (hs) rfl rfl rfl (fun _ _ => rfl) rfl (by exact cl_v my_107 rfl rfl rfl (Nat.le_of_ble_eq_true rfl) rfl (MH_obj rfl rfl) rfl (by decide) rfl rfl) (by rfl) (Nat.le_of_ble_eq_true rfl) (Nat.le_of_ble_eq_true rfl) rfl (by rfl) ?_
    refine w_p (pc1 := 15) (st1 := .int 40 :: _) rfl rfl ?_
    refine w_c (pc1 := 18) (st1 := .int (nI ((rs b).1.length)) :: _) rfl rfl rfl (fun fr lo h1 h2 => n_mi40 g3 rfl rfl (Nat.le_of_ble_eq_true rfl) h1 h2) rfl ?_
    refine w_p (pc1 := 19) (al1 := [(3, .int (nI ((rs b).1.length))), (2, .int (nI (b))), (0, .ref 113), (1, .ref 125)]) rfl rfl ?_
    refine w_p (pc1 := 20) rfl rfl ?_
    refine w_p (pc1 := 21) (st1 := .int 0 :: _) rfl rfl ?_
    refine w_je (pc1 := 24) (vs := [.int (nI (b)), .int 0]) (rest := []) (st1 := [.int (nI ((b * 40 + 0) * 6))]) (m_108 (d := d) (sl := 0) (b := b) (k := 0)) rfl rfl rfl (fun _ _ => cn_s rfl rfl rfl rfl) rfl (by exact cl_s my_108 rfl rfl rfl (Nat.le_of_ble_eq_true rfl) rfl rfl) (by rfl) (Nat.le_of_ble_eq_true rfl) (Nat.le_of_ble_eq_true rfl) rfl (by rfl) ?_
    refine w_p (pc1 := 26) (al1 := [(4, .int (nI ((b * 40 + 0) * 6))), (3, .int (nI ((rs b).1.length))), (2, .int (nI (b))), (0, .ref 113), (1, .ref 125)]) rfl rfl ?_
    refine w_p (pc1 := 27) rfl rfl ?_
    refine w_m0 (pc1 := 30) rfl rfl (h_gC rfl rfl rfl rfl) rfl ?_
    refine w_p (pc1 := 31) rfl rfl ?_
    refine w_p (pc1 := 33) (st1 := .int 40 :: _) rfl rfl ?_
    refine w_imul (pc1 := 34) (u := nI (b)) (v := nI (40)) (z := nI (b * 40)) rfl (nK_mul) rfl ?_
    refine w_p (pc1 := 35) rfl rfl ?_
    refine w_m0 (pc1 := 38) rfl rfl (h_gC rfl rfl rfl rfl) rfl ?_
    refine w_p (pc1 := 39) rfl rfl ?_
    refine w_p (pc1 := 41) (st1 := .int 40 :: _) rfl rfl ?_
    refine w_imul (pc1 := 42) (u := nI (b)) (v := nI (40)) (z := nI (b * 40)) rfl (nK_mul) rfl ?_
    refine w_p (pc1 := 43) rfl rfl ?_
    refine w_c (pc1 := 46) rfl rfl rfl (fun fr lo h1 h2 => n_acI (k0 := 27) (k1 := 15) (sp := b * 40) (dp := b * 40) (n := (rs b).1.length) rfl rfl rfl (Nat.le_of_ble_eq_true rfl) (by omega) (by omega) (by decide) (by decide) h1 h2) rfl ?_
    refine w_p (pc1 := 47) rfl rfl ?_
    refine w_m0 (pc1 := 50) rfl rfl (h_gC rfl rfl rfl rfl) rfl ?_
    refine w_p (pc1 := 52) rfl rfl ?_
    refine w_p (pc1 := 53) rfl rfl ?_
    refine w_m0 (pc1 := 56) rfl rfl (h_gC rfl rfl rfl rfl) rfl ?_
    refine w_p (pc1 := 58) rfl rfl ?_
    refine w_p (pc1 := 59) rfl rfl ?_
    refine w_p (pc1 := 61) (st1 := .int 6 :: _) rfl rfl ?_
    refine w_imul (pc1 := 62) (u := nI ((rs b).1.length)) (v := nI (6)) (z := nI (((rs b).1.length) * 6)) rfl (nK_mul) rfl ?_
    refine w_c (pc1 := 65) rfl rfl rfl (fun fr lo h1 h2 => n_acJ (k0 := 26) (k1 := 14) (sp := (b * 40 + 0) * 6) (dp := (b * 40 + 0) * 6) (n := (rs b).1.length * 6) rfl rfl rfl (Nat.le_of_ble_eq_true rfl) (by omega) (by omega) (by decide) (by decide) h1 h2) rfl ?_
    refine w_p (pc1 := 66) rfl rfl ?_
    refine w_m0 (pc1 := 69) rfl rfl (h_gC rfl rfl rfl rfl) rfl ?_
    refine w_p (pc1 := 70) rfl rfl ?_
    refine w_p (pc1 := 71) rfl rfl ?_
    refine w_m0 (pc1 := 72) rfl rfl (n_is (e := b) rfl rfl rfl (by omega)) rfl ?_
    refine w_p (pc1 := 73) rfl rfl ?_
    refine w_m0 (pc1 := 76) rfl rfl (h_gC rfl rfl rfl rfl) rfl ?_
    refine w_p (pc1 := 77) rfl rfl ?_
    refine w_p (pc1 := 78) rfl rfl ?_
    refine w_m0 (pc1 := 81) rfl rfl (h_gC rfl rfl rfl rfl) rfl ?_
    refine w_p (pc1 := 82) rfl rfl ?_
    refine w_m0 (pc1 := 83) (st1 := .int (C.1 29 b) :: _) rfl rfl (n_ile (e := b) rfl rfl rfl (by omega) (rfl)) rfl ?_
    refine w_m0 (pc1 := 84) rfl rfl (n_is (e := b) rfl rfl rfl (by omega)) rfl ?_
    refine w_iinc (pc1 := 87) (u := nI (b)) (z := nI (b + 1)) (al1 := [(2, .int (nI (b + 1))), (4, .int (nI ((b * 40 + 0) * 6))), (3, .int (nI ((rs b).1.length))), (0, .ref 113), (1, .ref 125)]) rfl rfl rfl nK_1 rfl rfl ?_
    refine w_p (pc1 := 2) rfl rfl ?_
    refine Wd_al (al := [(2, .int (nI (b + 1))), (0, .ref 113), (1, .ref 125)]) (sba_p [0, 3, 4] rfl rfl) ?_
    exact IH
set_option maxRecDepth 100000 in
theorem m_106_13 (W : RWf (C.2.1 26) (C.1 27) (C.1 28) wd rs) (hl : ∀ q, q < 6 → C.1 29 q = (rs q).2) : Wd L xs (d + 1) y_106 (0, [(0, .ref 113), (1, .ref 125)], [], MH C t, sl) (fun v h q => none = v ∧ (∃ C', (frR 13 C C' ∧ RWf (C'.2.1 14) (C'.1 15) (C'.1 16) wd rs ∧ ∀ q, q < 6 → C'.1 17 q = (rs q).2) ∧ MH C' t = h) ∧ sl = q) nX := by
  refine w_p (pc1 := 1) (st1 := .int 0 :: _) rfl rfl ?_
  refine w_p (pc1 := 2) (al1 := [(2, .int 0), (0, .ref 113), (1, .ref 125)]) rfl rfl ?_
  refine Wd_q (lp_106_13 (C0 := C) W hl 6 0 C rfl frR_r (fun q hq => absurd hq (by omega))) (fun v h q hq => ?_) (fun _ _ _ e => e)
  obtain ⟨z1, ⟨C1, ⟨z2, z3⟩, z4⟩, z5⟩ := hq
  exact ⟨z1, ⟨C1, ⟨z2, cfP_W W z3⟩, z4⟩, z5⟩
set_option maxRecDepth 100000 in
theorem lp_106_t (R : RWo t k ce id sz la) (W : RWf ce id sz wd rs) (hl : ∀ q, q < 6 → la q = (rs q).2) : ∀ (m b : Nat) (C : co_T), b + m = 6 → frR 13 C0 C → cfP (C.2.1 14) (C.1 15) (C.1 16) (C.1 17) wd rs b → Wd L xs (d + 1) y_106 (2, [(2, .int (nI (b))), (0, .ref 113), (1, .ref (241 + k))], [], MH C t, sl) (fun v h q => none = v ∧ (∃ C', (frR 13 C0 C' ∧ cfP (C'.2.1 14) (C'.1 15) (C'.1 16) (C'.1 17) wd rs 6) ∧ MH C' t = h) ∧ sl = q) nX
  | 0, b, C, hb, hf, hT => by
    obtain rfl : b = 6 := by omega
    refine w_p (pc1 := 3) rfl rfl ?_
    refine w_p (pc1 := 5) (st1 := .int 6 :: _) rfl rfl ?_
    refine w_t (a := 90) (b := 8) (bN_ge_t (a := 6) (b := 6) (by omega) (by omega) (by omega)) rfl rfl ?_
    refine w_r rfl rfl rfl (fun _ _ => rfl) rfl ?_
    exact ⟨rfl, ⟨C, ⟨hf, hT⟩, rfl⟩, rfl⟩
  | m + 1, b, C, hb, hf, hT => by
    obtain ⟨g1, g2, g3, g4⟩ := W b (by omega)
    have hs := m_107_t (L := L) (xs := xs) (C := C) (d := d) (sl := 0) (b := b) (by omega) R g2 g3
    have hnx := cfP_s W (by omega) (hl b (by omega)) hT
    have ff : frR 13 C (sI (sI (sB (sA C 15 (va_cpy id (C.1 15) (b * 40) (b * 40) (rs b).1.length)) 14 (va_cpy ce (C.2.1 14) ((b * 40 + 0) * 6) ((b * 40 + 0) * 6) ((rs b).1.length * 6))) 16 b (nI (rs b).1.length)) 17 b (la b)) := ⟨fun q j h => by rw [sI_1, if_neg (by omega), sI_1, if_neg (by omega), sB_1, sA_1, if_neg (by omega)], fun q j h => by
      show (sB _ _ _).2.1 q j = _
      rw [sB_2, if_neg (by omega)]
      rfl, rfl⟩
    have IH := lp_106_t R W hl m (b + 1) (sI (sI (sB (sA C 15 (va_cpy id (C.1 15) (b * 40) (b * 40) (rs b).1.length)) 14 (va_cpy ce (C.2.1 14) ((b * 40 + 0) * 6) ((b * 40 + 0) * 6) ((rs b).1.length * 6))) 16 b (nI (rs b).1.length)) 17 b (la b)) (by omega) (frR_t hf ff) (by
      have k1 : (sI (sI (sB (sA C 15 (va_cpy id (C.1 15) (b * 40) (b * 40) (rs b).1.length)) 14 (va_cpy ce (C.2.1 14) ((b * 40 + 0) * 6) ((b * 40 + 0) * 6) ((rs b).1.length * 6))) 16 b (nI (rs b).1.length)) 17 b (la b)).2.1 14 = va_cpy ce (C.2.1 14) ((b * 40 + 0) * 6) ((b * 40 + 0) * 6) ((rs b).1.length * 6) := by
        funext q
        show (sB _ _ _).2.1 14 q = _
        rw [sB_2, if_pos rfl]
      have k2 : (sI (sI (sB (sA C 15 (va_cpy id (C.1 15) (b * 40) (b * 40) (rs b).1.length)) 14 (va_cpy ce (C.2.1 14) ((b * 40 + 0) * 6) ((b * 40 + 0) * 6) ((rs b).1.length * 6))) 16 b (nI (rs b).1.length)) 17 b (la b)).1 15 = va_cpy id (C.1 15) (b * 40) (b * 40) (rs b).1.length := by
        funext q
        rw [sI_1, if_neg (by omega), sI_1, if_neg (by omega), sB_1, sA_1, if_pos rfl]
      have k3 : (sI (sI (sB (sA C 15 (va_cpy id (C.1 15) (b * 40) (b * 40) (rs b).1.length)) 14 (va_cpy ce (C.2.1 14) ((b * 40 + 0) * 6) ((b * 40 + 0) * 6) ((rs b).1.length * 6))) 16 b (nI (rs b).1.length)) 17 b (la b)).1 16 = upd (C.1 16) b (nI (rs b).1.length) := by
        funext q
        rw [sI_1, if_neg (by omega), sI_1, upd_at]
        by_cases e : q = b
        · rw [if_pos ⟨rfl, e⟩, if_pos e]
        · rw [if_neg (by omega), if_neg e, sB_1, sA_1, if_neg (by omega)]
      have k4 : (sI (sI (sB (sA C 15 (va_cpy id (C.1 15) (b * 40) (b * 40) (rs b).1.length)) 14 (va_cpy ce (C.2.1 14) ((b * 40 + 0) * 6) ((b * 40 + 0) * 6) ((rs b).1.length * 6))) 16 b (nI (rs b).1.length)) 17 b (la b)).1 17 = upd (C.1 17) b (la b) := by
        funext q
        rw [sI_1, upd_at]
        by_cases e : q = b
        · rw [if_pos ⟨rfl, e⟩, if_pos e]
        · rw [if_neg (by omega), if_neg e, sI_1, if_neg (by omega), sB_1, sA_1, if_neg (by omega)]
      rw [k1, k2, k3, k4]
      exact hnx)
    refine w_p (pc1 := 3) rfl rfl ?_
    refine w_p (pc1 := 5) (st1 := .int 6 :: _) rfl rfl ?_
    refine w_f (a := 90) (b := 8) (bN_ge_f (a := b) (b := 6) (by omega) (by omega) (by omega)) rfl rfl ?_
    refine w_p (pc1 := 9) rfl rfl ?_
    refine w_p (pc1 := 10) rfl rfl ?_
    refine w_je (pc1 := 13) (vs := [.ref (241 + k), .int (nI (b))]) (rest := []) (st1 := [.int (nI ((rs b).1.length))]) (hs) rfl rfl rfl (fun _ _ => rfl) rfl (by exact cl_v my_107 rfl rfl rfl (Nat.le_of_ble_eq_true rfl) rfl (x_obj R.1) rfl (by decide) rfl rfl) (by rfl) (Nat.le_of_ble_eq_true rfl) (Nat.le_of_ble_eq_true rfl) rfl (by rfl) ?_
    refine w_p (pc1 := 15) (st1 := .int 40 :: _) rfl rfl ?_
    refine w_c (pc1 := 18) (st1 := .int (nI ((rs b).1.length)) :: _) rfl rfl rfl (fun fr lo h1 h2 => n_mi40 g3 rfl rfl (Nat.le_of_ble_eq_true rfl) h1 h2) rfl ?_
    refine w_p (pc1 := 19) (al1 := [(3, .int (nI ((rs b).1.length))), (2, .int (nI (b))), (0, .ref 113), (1, .ref (241 + k))]) rfl rfl ?_
    refine w_p (pc1 := 20) rfl rfl ?_
    refine w_p (pc1 := 21) (st1 := .int 0 :: _) rfl rfl ?_
    refine w_je (pc1 := 24) (vs := [.int (nI (b)), .int 0]) (rest := []) (st1 := [.int (nI ((b * 40 + 0) * 6))]) (m_108 (d := d) (sl := 0) (b := b) (k := 0)) rfl rfl rfl (fun _ _ => cn_s rfl rfl rfl rfl) rfl (by exact cl_s my_108 rfl rfl rfl (Nat.le_of_ble_eq_true rfl) rfl rfl) (by rfl) (Nat.le_of_ble_eq_true rfl) (Nat.le_of_ble_eq_true rfl) rfl (by rfl) ?_
    refine w_p (pc1 := 26) (al1 := [(4, .int (nI ((b * 40 + 0) * 6))), (3, .int (nI ((rs b).1.length))), (2, .int (nI (b))), (0, .ref 113), (1, .ref (241 + k))]) rfl rfl ?_
    refine w_p (pc1 := 27) rfl rfl ?_
    refine w_m0 (pc1 := 30) (st1 := .ref (241 + (k + 2)) :: _) rfl rfl (x_gf (k := k) rfl R.1 rfl) rfl ?_
    refine w_p (pc1 := 31) rfl rfl ?_
    refine w_p (pc1 := 33) (st1 := .int 40 :: _) rfl rfl ?_
    refine w_imul (pc1 := 34) (u := nI (b)) (v := nI (40)) (z := nI (b * 40)) rfl (nK_mul) rfl ?_
    refine w_p (pc1 := 35) rfl rfl ?_
    refine w_m0 (pc1 := 38) rfl rfl (h_gC rfl rfl rfl rfl) rfl ?_
    refine w_p (pc1 := 39) rfl rfl ?_
    refine w_p (pc1 := 41) (st1 := .int 40 :: _) rfl rfl ?_
    refine w_imul (pc1 := 42) (u := nI (b)) (v := nI (40)) (z := nI (b * 40)) rfl (nK_mul) rfl ?_
    refine w_p (pc1 := 43) rfl rfl ?_
    refine w_c (pc1 := 46) rfl rfl rfl (fun fr lo h1 h2 => n_acIs (k0 := k + 2) (k1 := 15) (sp := b * 40) (dp := b * 40) (n := (rs b).1.length) R.2.2.1 rfl rfl (Nat.le_of_ble_eq_true rfl) (by omega) (by omega) (by decide) (by decide) h1 h2) rfl ?_
    refine w_p (pc1 := 47) rfl rfl ?_
    refine w_m0 (pc1 := 50) (st1 := .ref (241 + (k + 1)) :: _) rfl rfl (x_gf (k := k) rfl R.1 rfl) rfl ?_
    refine w_p (pc1 := 52) rfl rfl ?_
    refine w_p (pc1 := 53) rfl rfl ?_
    refine w_m0 (pc1 := 56) rfl rfl (h_gC rfl rfl rfl rfl) rfl ?_
    refine w_p (pc1 := 58) rfl rfl ?_
    refine w_p (pc1 := 59) rfl rfl ?_
    refine w_p (pc1 := 61) (st1 := .int 6 :: _) rfl rfl ?_
    refine w_imul (pc1 := 62) (u := nI ((rs b).1.length)) (v := nI (6)) (z := nI (((rs b).1.length) * 6)) rfl (nK_mul) rfl ?_
    refine w_c (pc1 := 65) rfl rfl rfl (fun fr lo h1 h2 => n_acJs (k0 := k + 1) (k1 := 14) (sp := (b * 40 + 0) * 6) (dp := (b * 40 + 0) * 6) (n := (rs b).1.length * 6) R.2.1 rfl rfl (Nat.le_of_ble_eq_true rfl) (by omega) (by omega) (by decide) (by decide) h1 h2) rfl ?_
    refine w_p (pc1 := 66) rfl rfl ?_
    refine w_m0 (pc1 := 69) rfl rfl (h_gC rfl rfl rfl rfl) rfl ?_
    refine w_p (pc1 := 70) rfl rfl ?_
    refine w_p (pc1 := 71) rfl rfl ?_
    refine w_m0 (pc1 := 72) rfl rfl (n_is (e := b) rfl rfl rfl (by omega)) rfl ?_
    refine w_p (pc1 := 73) rfl rfl ?_
    refine w_m0 (pc1 := 76) rfl rfl (h_gC rfl rfl rfl rfl) rfl ?_
    refine w_p (pc1 := 77) rfl rfl ?_
    refine w_p (pc1 := 78) rfl rfl ?_
    refine w_m0 (pc1 := 81) (st1 := .ref (241 + (k + 4)) :: _) rfl rfl (x_gf (k := k) rfl R.1 rfl) rfl ?_
    refine w_p (pc1 := 82) rfl rfl ?_
    refine w_m0 (pc1 := 83) (st1 := .int (la b) :: _) rfl rfl (x_ile (k := (k + 4)) (e := b) R.2.2.2.2 (by omega) (by omega) (rfl)) rfl ?_
    refine w_m0 (pc1 := 84) rfl rfl (n_is (e := b) rfl rfl rfl (by omega)) rfl ?_
    refine w_iinc (pc1 := 87) (u := nI (b)) (z := nI (b + 1)) (al1 := [(2, .int (nI (b + 1))), (4, .int (nI ((b * 40 + 0) * 6))), (3, .int (nI ((rs b).1.length))), (0, .ref 113), (1, .ref (241 + k))]) rfl rfl rfl nK_1 rfl rfl ?_
    refine w_p (pc1 := 2) rfl rfl ?_
    refine Wd_al (al := [(2, .int (nI (b + 1))), (0, .ref 113), (1, .ref (241 + k))]) (sba_p [0, 3, 4] rfl rfl) ?_
    exact IH
set_option maxRecDepth 100000 in
theorem m_106_t (R : RWt t k wd rs) : Wd L xs (d + 1) y_106 (0, [(0, .ref 113), (1, .ref (241 + k))], [], MH C t, sl) (fun v h q => none = v ∧ (∃ C', (frR 13 C C' ∧ RWf (C'.2.1 14) (C'.1 15) (C'.1 16) wd rs ∧ ∀ q, q < 6 → C'.1 17 q = (rs q).2) ∧ MH C' t = h) ∧ sl = q) nX := by
  obtain ⟨ce, id, sz, la, R, W, hl⟩ := R
  refine w_p (pc1 := 1) (st1 := .int 0 :: _) rfl rfl ?_
  refine w_p (pc1 := 2) (al1 := [(2, .int 0), (0, .ref 113), (1, .ref (241 + k))]) rfl rfl ?_
  refine Wd_q (lp_106_t (C0 := C) R W hl 6 0 C rfl frR_r (fun q hq => absurd hq (by omega))) (fun v h q hq => ?_) (fun _ _ _ e => e)
  obtain ⟨z1, ⟨C1, ⟨z2, z3⟩, z4⟩, z5⟩ := hq
  exact ⟨z1, ⟨C1, ⟨z2, cfP_W W z3⟩, z4⟩, z5⟩
set_option maxRecDepth 100000 in
theorem lp_106_u {t0 : ab_H} (W : RWf (C.2.1 14) (C.1 15) (C.1 16) wd rs) (hl : ∀ q, q < 6 → C.1 17 q = (rs q).2) : ∀ (m b : Nat) (t : ab_H) (ce : Nat → Int64) (id sz la : Nat → Int32), b + m = 6 → frU k t0 t → RWo t k ce id sz la → cfP ce id sz la wd rs b → Wd L xs (d + 1) y_106 (2, [(2, .int (nI (b))), (0, .ref (241 + k)), (1, .ref 113)], [], MH C t, sl) (fun v h q => none = v ∧ (∃ t', (frU k t0 t' ∧ RWt t' k wd rs) ∧ MH C t' = h) ∧ sl = q) nX
  | 0, b, t, ce, id, sz, la, hb, hf, R, hT => by
    obtain rfl : b = 6 := by omega
    have hW := cfP_W W hT
    refine w_p (pc1 := 3) rfl rfl ?_
    refine w_p (pc1 := 5) (st1 := .int 6 :: _) rfl rfl ?_
    refine w_t (a := 90) (b := 8) (bN_ge_t (a := 6) (b := 6) (by omega) (by omega) (by omega)) rfl rfl ?_
    refine w_r rfl rfl rfl (fun _ _ => rfl) rfl ?_
    exact ⟨rfl, ⟨t, ⟨hf, ce, id, sz, la, R, hW.1, hW.2⟩, rfl⟩, rfl⟩
  | m + 1, b, t, ce, id, sz, la, hb, hf, R, hT => by
    obtain ⟨g1, g2, g3, g4⟩ := W b (by omega)
    have hs := m_107 (L := L) (xs := xs) (t := t) (d := d) (sl := 0) (b := b) (by omega) g2 g3
    have hnx := cfP_s (la := C.1 17) W (by omega) (hl b (by omega)) hT
    have R1 : RWo (t.set (k + 2) (.inl (0, 240, .inl (va_cpy (C.1 15) id (b * 40) (b * 40) (rs b).1.length)))) k ce (va_cpy (C.1 15) id (b * 40) (b * 40) (rs b).1.length) sz la := ⟨tl_set R.1 (by omega), tl_set R.2.1 (by omega), tl_self R.2.2.1, tl_set R.2.2.2.1 (by omega), tl_set R.2.2.2.2 (by omega)⟩
    have f1 : frU k t0 (t.set (k + 2) (.inl (0, 240, .inl (va_cpy (C.1 15) id (b * 40) (b * 40) (rs b).1.length)))) := frU_t hf (frU_s (by omega))
    generalize ht1 : t.set (k + 2) (.inl (0, 240, .inl (va_cpy (C.1 15) id (b * 40) (b * 40) (rs b).1.length))) = t1 at R1 f1
    have R2 : RWo (t1.set (k + 1) (.inl (1, 1440, .inr (.inl (va_cpy (C.2.1 14) ce ((b * 40 + 0) * 6) ((b * 40 + 0) * 6) ((rs b).1.length * 6)))))) k (va_cpy (C.2.1 14) ce ((b * 40 + 0) * 6) ((b * 40 + 0) * 6) ((rs b).1.length * 6)) (va_cpy (C.1 15) id (b * 40) (b * 40) (rs b).1.length) sz la := ⟨tl_set R1.1 (by omega), tl_self R1.2.1, tl_set R1.2.2.1 (by omega), tl_set R1.2.2.2.1 (by omega), tl_set R1.2.2.2.2 (by omega)⟩
    have f2 : frU k t0 (t1.set (k + 1) (.inl (1, 1440, .inr (.inl (va_cpy (C.2.1 14) ce ((b * 40 + 0) * 6) ((b * 40 + 0) * 6) ((rs b).1.length * 6)))))) := frU_t f1 (frU_s (by omega))
    generalize ht2 : t1.set (k + 1) (.inl (1, 1440, .inr (.inl (va_cpy (C.2.1 14) ce ((b * 40 + 0) * 6) ((b * 40 + 0) * 6) ((rs b).1.length * 6))))) = t2 at R2 f2
    have R3 : RWo (t2.set (k + 3) (.inl (0, 6, .inl (upd sz b (nI (rs b).1.length))))) k (va_cpy (C.2.1 14) ce ((b * 40 + 0) * 6) ((b * 40 + 0) * 6) ((rs b).1.length * 6)) (va_cpy (C.1 15) id (b * 40) (b * 40) (rs b).1.length) (upd sz b (nI (rs b).1.length)) la := ⟨tl_set R2.1 (by omega), tl_set R2.2.1 (by omega), tl_set R2.2.2.1 (by omega), tl_self R2.2.2.2.1, tl_set R2.2.2.2.2 (by omega)⟩
    have f3 : frU k t0 (t2.set (k + 3) (.inl (0, 6, .inl (upd sz b (nI (rs b).1.length))))) := frU_t f2 (frU_s (by omega))
    generalize ht3 : t2.set (k + 3) (.inl (0, 6, .inl (upd sz b (nI (rs b).1.length)))) = t3 at R3 f3
    have R4 : RWo (t3.set (k + 4) (.inl (0, 6, .inl (upd la b (C.1 17 b))))) k (va_cpy (C.2.1 14) ce ((b * 40 + 0) * 6) ((b * 40 + 0) * 6) ((rs b).1.length * 6)) (va_cpy (C.1 15) id (b * 40) (b * 40) (rs b).1.length) (upd sz b (nI (rs b).1.length)) (upd la b (C.1 17 b)) := ⟨tl_set R3.1 (by omega), tl_set R3.2.1 (by omega), tl_set R3.2.2.1 (by omega), tl_set R3.2.2.2.1 (by omega), tl_self R3.2.2.2.2⟩
    have f4 : frU k t0 (t3.set (k + 4) (.inl (0, 6, .inl (upd la b (C.1 17 b))))) := frU_t f3 (frU_s (by omega))
    have IH := lp_106_u (t0 := t0) W hl m (b + 1) _ _ _ _ _ (by omega) f4 R4 hnx
    refine w_p (pc1 := 3) rfl rfl ?_
    refine w_p (pc1 := 5) (st1 := .int 6 :: _) rfl rfl ?_
    refine w_f (a := 90) (b := 8) (bN_ge_f (a := b) (b := 6) (by omega) (by omega) (by omega)) rfl rfl ?_
    refine w_p (pc1 := 9) rfl rfl ?_
    refine w_p (pc1 := 10) rfl rfl ?_
    refine w_je (pc1 := 13) (vs := [.ref 113, .int (nI (b))]) (rest := []) (st1 := [.int (nI ((rs b).1.length))]) (hs) rfl rfl rfl (fun _ _ => rfl) rfl (by exact cl_v my_107 rfl rfl rfl (Nat.le_of_ble_eq_true rfl) rfl (MH_obj rfl rfl) rfl (by decide) rfl rfl) (by rfl) (Nat.le_of_ble_eq_true rfl) (Nat.le_of_ble_eq_true rfl) rfl (by rfl) ?_
    refine w_p (pc1 := 15) (st1 := .int 40 :: _) rfl rfl ?_
    refine w_c (pc1 := 18) (st1 := .int (nI ((rs b).1.length)) :: _) rfl rfl rfl (fun fr lo h1 h2 => n_mi40 g3 rfl rfl (Nat.le_of_ble_eq_true rfl) h1 h2) rfl ?_
    refine w_p (pc1 := 19) (al1 := [(3, .int (nI ((rs b).1.length))), (2, .int (nI (b))), (0, .ref (241 + k)), (1, .ref 113)]) rfl rfl ?_
    refine w_p (pc1 := 20) rfl rfl ?_
    refine w_p (pc1 := 21) (st1 := .int 0 :: _) rfl rfl ?_
    refine w_je (pc1 := 24) (vs := [.int (nI (b)), .int 0]) (rest := []) (st1 := [.int (nI ((b * 40 + 0) * 6))]) (m_108 (d := d) (sl := 0) (b := b) (k := 0)) rfl rfl rfl (fun _ _ => cn_s rfl rfl rfl rfl) rfl (by exact cl_s my_108 rfl rfl rfl (Nat.le_of_ble_eq_true rfl) rfl rfl) (by rfl) (Nat.le_of_ble_eq_true rfl) (Nat.le_of_ble_eq_true rfl) rfl (by rfl) ?_
    refine w_p (pc1 := 26) (al1 := [(4, .int (nI ((b * 40 + 0) * 6))), (3, .int (nI ((rs b).1.length))), (2, .int (nI (b))), (0, .ref (241 + k)), (1, .ref 113)]) rfl rfl ?_
    refine w_p (pc1 := 27) rfl rfl ?_
    refine w_m0 (pc1 := 30) rfl rfl (h_gC rfl rfl rfl rfl) rfl ?_
    refine w_p (pc1 := 31) rfl rfl ?_
    refine w_p (pc1 := 33) (st1 := .int 40 :: _) rfl rfl ?_
    refine w_imul (pc1 := 34) (u := nI (b)) (v := nI (40)) (z := nI (b * 40)) rfl (nK_mul) rfl ?_
    refine w_p (pc1 := 35) rfl rfl ?_
    refine w_m0 (pc1 := 38) (st1 := .ref (241 + (k + 2)) :: _) rfl rfl (x_gf (k := k) rfl R.1 rfl) rfl ?_
    refine w_p (pc1 := 39) rfl rfl ?_
    refine w_p (pc1 := 41) (st1 := .int 40 :: _) rfl rfl ?_
    refine w_imul (pc1 := 42) (u := nI (b)) (v := nI (40)) (z := nI (b * 40)) rfl (nK_mul) rfl ?_
    refine w_p (pc1 := 43) rfl rfl ?_
    refine w_c (pc1 := 46) rfl rfl rfl (fun fr lo h1 h2 => n_acId (k0 := 15) (k1 := k + 2) (sp := b * 40) (dp := b * 40) (n := (rs b).1.length) rfl R.2.2.1 rfl (Nat.le_of_ble_eq_true rfl) (by omega) (by omega) (by decide) (by decide) h1 h2) rfl ?_
    rw [ht1]
    refine w_p (pc1 := 47) rfl rfl ?_
    refine w_m0 (pc1 := 50) rfl rfl (h_gC rfl rfl rfl rfl) rfl ?_
    refine w_p (pc1 := 52) rfl rfl ?_
    refine w_p (pc1 := 53) rfl rfl ?_
    refine w_m0 (pc1 := 56) (st1 := .ref (241 + (k + 1)) :: _) rfl rfl (x_gf (k := k) rfl R1.1 rfl) rfl ?_
    refine w_p (pc1 := 58) rfl rfl ?_
    refine w_p (pc1 := 59) rfl rfl ?_
    refine w_p (pc1 := 61) (st1 := .int 6 :: _) rfl rfl ?_
    refine w_imul (pc1 := 62) (u := nI ((rs b).1.length)) (v := nI (6)) (z := nI (((rs b).1.length) * 6)) rfl (nK_mul) rfl ?_
    refine w_c (pc1 := 65) rfl rfl rfl (fun fr lo h1 h2 => n_acJd (k0 := 14) (k1 := k + 1) (sp := (b * 40 + 0) * 6) (dp := (b * 40 + 0) * 6) (n := (rs b).1.length * 6) rfl R1.2.1 rfl (Nat.le_of_ble_eq_true rfl) (by omega) (by omega) (by decide) (by decide) h1 h2) rfl ?_
    rw [ht2]
    refine w_p (pc1 := 66) rfl rfl ?_
    refine w_m0 (pc1 := 69) (st1 := .ref (241 + (k + 3)) :: _) rfl rfl (x_gf (k := k) rfl R2.1 rfl) rfl ?_
    refine w_p (pc1 := 70) rfl rfl ?_
    refine w_p (pc1 := 71) rfl rfl ?_
    refine w_m0 (pc1 := 72) rfl rfl (x_is (k := (k + 3)) (e := b) R2.2.2.2.1 (by omega) (by omega)) rfl ?_
    rw [ht3]
    refine w_p (pc1 := 73) rfl rfl ?_
    refine w_m0 (pc1 := 76) (st1 := .ref (241 + (k + 4)) :: _) rfl rfl (x_gf (k := k) rfl R3.1 rfl) rfl ?_
    refine w_p (pc1 := 77) rfl rfl ?_
    refine w_p (pc1 := 78) rfl rfl ?_
    refine w_m0 (pc1 := 81) rfl rfl (h_gC rfl rfl rfl rfl) rfl ?_
    refine w_p (pc1 := 82) rfl rfl ?_
    refine w_m0 (pc1 := 83) (st1 := .int (C.1 17 b) :: _) rfl rfl (n_ile (e := b) rfl rfl rfl (by omega) (rfl)) rfl ?_
    refine w_m0 (pc1 := 84) rfl rfl (x_is (k := (k + 4)) (e := b) R3.2.2.2.2 (by omega) (by omega)) rfl ?_
    refine w_iinc (pc1 := 87) (u := nI (b)) (z := nI (b + 1)) (al1 := [(2, .int (nI (b + 1))), (4, .int (nI ((b * 40 + 0) * 6))), (3, .int (nI ((rs b).1.length))), (0, .ref (241 + k)), (1, .ref 113)]) rfl rfl rfl nK_1 rfl rfl ?_
    refine w_p (pc1 := 2) rfl rfl ?_
    refine Wd_al (al := [(2, .int (nI (b + 1))), (0, .ref (241 + k)), (1, .ref 113)]) (sba_p [0, 3, 4] rfl rfl) ?_
    exact IH
set_option maxRecDepth 100000 in
theorem m_106_u (W : RWf (C.2.1 14) (C.1 15) (C.1 16) wd rs) (hl : ∀ q, q < 6 → C.1 17 q = (rs q).2) (R : RWo t k ce id sz la) : Wd L xs (d + 1) y_106 (0, [(0, .ref (241 + k)), (1, .ref 113)], [], MH C t, sl) (fun v h q => none = v ∧ (∃ t', (frU k t t' ∧ RWt t' k wd rs) ∧ MH C t' = h) ∧ sl = q) nX := by
  refine w_p (pc1 := 1) (st1 := .int 0 :: _) rfl rfl ?_
  refine w_p (pc1 := 2) (al1 := [(2, .int 0), (0, .ref (241 + k)), (1, .ref 113)]) rfl rfl ?_
  exact lp_106_u W hl 6 0 t ce id sz la rfl frU_r R (fun q hq => absurd hq (by omega))
end CPF
