
/-! ROWS THAT CHANGE; ONE SIDE'S ROWS -/
def rsU (rs : rs_T) (b : Nat) (x : List ro_T × Int32) : rs_T := fun j => if j = b then x else rs j
def rsW (rs : rs_T) (b k : Nat) (r : ro_T) : rs_T := rsU rs b ((rs b).1.set k r, (rs b).2)
def rsA (rs : rs_T) (b : Nat) (f : rw_F) : rs_T := rsU rs b ((rs b).1 ++ [((rs b).2 + 1, f)], (rs b).2 + 1)
def rsD (rs : rs_T) (b k : Nat) : rs_T := rsU rs b ((rs b).1.eraseIdx k, (rs b).2)
set_option maxRecDepth 100000 in
theorem RWf_u {ce ce' : Nat → Int64} {id id' sz sz' : Nat → Int32} {wd : Nat → Nat} {rs : rs_T} {b : Nat} {x : List ro_T × Int32} (W : RWf ce id sz wd rs) (h1 : ∀ i, ¬ (b * 240 ≤ i ∧ i < b * 240 + 240) → ce' i = ce i) (h2 : ∀ i, ¬ (b * 40 ≤ i ∧ i < b * 40 + 40) → id' i = id i) (h3 : ∀ j, j ≠ b → sz' j = sz j) (h4 : sz' b = nI x.1.length) (h5 : x.1.length ≤ 40) (h6 : ∀ k r, x.1[k]? = some r → id' (b * 40 + k) = r.1 ∧ ∀ c, c < wd b → ce' ((b * 40 + k) * 6 + c) = e_V (r.2 c)) : RWf ce' id' sz' wd (rsU rs b x) := by
  intro j hj
  obtain ⟨g1, g2, g3, g4⟩ := W j hj
  by_cases e : j = b
  · subst e
    have e1 : rsU rs j x j = x := if_pos rfl
    rw [e1]
    exact ⟨g1, h4, h5, h6⟩
  · have e1 : rsU rs b x j = rs j := if_neg e
    rw [e1]
    refine ⟨g1, (h3 j e).trans g2, g3, fun k r hr => ⟨?_, fun c hc => ?_⟩⟩
    · have hk := get_lt hr
      rw [h2 _ (by omega)]
      exact (g4 k r hr).1
    · have hk := get_lt hr
      rw [h1 _ (by omega)]
      exact (g4 k r hr).2 c hc
set_option maxRecDepth 100000 in
theorem nI_nn {n : Nat} (h : n < 2147483648) : ¬ nI n < 0 := by
  rw [Int32.lt_iff_toInt_lt, nK_int h]
  show ¬ (n : Int) < 0
  omega
section NAC
variable {C : co_T} {t : ab_H} {o idx fr lo k0 k1 n0 n1 sp dp n : Nat} {l0 l1 : List (Nat × Nat)} {q : List Value}
set_option maxRecDepth 100000 in
theorem n_acg {h : ab_H} {a0 a ty : Nat} {v0 v1 v2 : vp_A} (he : (ty = 1 ∧ ∃ f g : Nat → Int64, v0 = (n0, .inr (.inl f)) ∧ v1 = (n1, .inr (.inl g)) ∧ v2 = (n1, .inr (.inl (va_cpy f g sp dp n)))) ∨ (ty = 0 ∧ ∃ f g : Nat → Int32, v0 = (n0, .inl f) ∧ v1 = (n1, .inl g) ∧ v2 = (n1, .inl (va_cpy f g sp dp n)))) (e0 : mo_arr h a0 = some (ty, v0)) (e1 : mo_arr h a = some (ty, v1)) (hl : ac_l.contains (o, idx) = true) (hs : sumc q ≤ 20) (b0 : sp + n ≤ n0) (b1 : dp + n ≤ n1) (hn0 : n0 < 2147483648) (hn1 : n1 < 2147483648) (f1 : 1 ≤ fr) (f2 : 64 ≤ lo) : cn o fr lo (.invokestatic idx) 3 h (.int (nI n) :: .int (nI dp) :: .ref a :: .int (nI sp) :: .ref a0 :: q) = some (q, h.set (a - 100) (.inl (ty, v2)), 0) := by
  have hw : nativeFrameWords "java/lang/System" "arraycopy" 5 = 7 := rfl
  have hx : cn_ac o idx fr lo h (.int (nI n) :: .int (nI dp) :: .ref a :: .int (nI sp) :: .ref a0 :: q) = some (q, h.set (a - 100) (.inl (ty, v2)), 0) := by
    unfold cn_ac
    simp only
    rw [e0, e1]
    rcases he with ⟨rfl, f, g, rfl, rfl, rfl⟩ | ⟨rfl, f, g, rfl, rfl, rfl⟩
    · simp only
      rw [nK_nat (by omega), nK_nat (by omega), nK_nat (by omega), if_pos ⟨hl, ⟨nI_nn (by omega), nI_nn (by omega), nI_nn (by omega)⟩, b0, b1, f1, by rw [hw]; omega⟩]
    · simp only
      rw [nK_nat (by omega), nK_nat (by omega), nK_nat (by omega), if_pos ⟨hl, ⟨nI_nn (by omega), nI_nn (by omega), nI_nn (by omega)⟩, b0, b1, f1, by rw [hw]; omega⟩]
  show (cn_ac o idx fr lo h (.int (nI n) :: .int (nI dp) :: .ref a :: .int (nI sp) :: .ref a0 :: q)).orElse (fun _ => cn_mi o idx fr lo h (.int (nI n) :: .int (nI dp) :: .ref a :: .int (nI sp) :: .ref a0 :: q)) = _
  rw [hx]
  rfl
set_option maxRecDepth 100000 in
theorem n_acJ (h0 : SK[k0]? = some (1, 1, n0, l0)) (h1 : SK[k1]? = some (1, 1, n1, l1)) (hl : ac_l.contains (o, idx) = true) (hs : sumc q ≤ 20) (b0 : sp + n ≤ n0) (b1 : dp + n ≤ n1) (hn0 : n0 < 2147483648) (hn1 : n1 < 2147483648) (f1 : 1 ≤ fr) (f2 : 64 ≤ lo) : cn o fr lo (.invokestatic idx) 3 (MH C t) (.int (nI n) :: .int (nI dp) :: .ref (k1 + 100) :: .int (nI sp) :: .ref (k0 + 100) :: q) = some (q, MH (sB C k1 (va_cpy (C.2.1 k0) (C.2.1 k1) sp dp n)) t, 0) := by
  rw [n_acg (Or.inl ⟨rfl, _, _, rfl, rfl, rfl⟩) (MH_arJ rfl h0) (MH_arJ rfl h1) hl hs b0 b1 hn0 hn1 f1 f2, show k1 + 100 - 100 = k1 by omega, MH_sB h1]
set_option maxRecDepth 100000 in
theorem n_acI (h0 : SK[k0]? = some (0, 0, n0, l0)) (h1 : SK[k1]? = some (0, 0, n1, l1)) (hl : ac_l.contains (o, idx) = true) (hs : sumc q ≤ 20) (b0 : sp + n ≤ n0) (b1 : dp + n ≤ n1) (hn0 : n0 < 2147483648) (hn1 : n1 < 2147483648) (f1 : 1 ≤ fr) (f2 : 64 ≤ lo) : cn o fr lo (.invokestatic idx) 3 (MH C t) (.int (nI n) :: .int (nI dp) :: .ref (k1 + 100) :: .int (nI sp) :: .ref (k0 + 100) :: q) = some (q, MH (sA C k1 (va_cpy (C.1 k0) (C.1 k1) sp dp n)) t, 0) := by
  rw [n_acg (Or.inr ⟨rfl, _, _, rfl, rfl, rfl⟩) (MH_arI rfl h0) (MH_arI rfl h1) hl hs b0 b1 hn0 hn1 f1 f2, show k1 + 100 - 100 = k1 by omega, MH_sA h1]
set_option maxRecDepth 100000 in
theorem n_mi66 {h : ab_H} (hl : mi_l.contains (o, idx) = true) (ha : ac_l.contains (o, idx) = false) (hs : sumc q ≤ 50) (h1 : 1 ≤ fr) (h2 : 64 ≤ lo) : cn o fr lo (.invokestatic idx) 3 h (.int 6 :: .int 6 :: q) = some (.int 6 :: q, h, 0) := by
  rw [n_mi hl ha hs h1 h2]
  rfl
end NAC
section KRW
variable {L : Nat} {xs : Nat → Int32} {C : co_T} {t : ab_H} {d sl k b kr : Nat} {wd : Nat → Nat} {rs : rs_T} {r : ro_T} {l : List (Nat × Nat)} {f : rw_F}
/-! a row into cells, and back -/
def wrC (C : co_T) (kr p : Nat) : co_T := sB C 14 (va_cpy (C.2.1 kr) (C.2.1 14) 0 p 6)
def ldC (C : co_T) (kr p : Nat) : co_T := sB C kr (va_cpy (C.2.1 14) (C.2.1 kr) p 0 6)
set_option maxRecDepth 100000 in
theorem m_128x {n : Nat} (hk : SK[kr]? = some (1, 1, 6, l)) (hb : b < 6) (hsz : C.1 16 b = nI n) (h40 : n ≤ 40) (hr : k < n) : Wd L xs (d + 1) y_128 (0, [(0, .ref 113), (1, .int (nI (b))), (2, .int (nI (k))), (3, .ref (kr + 100))], [], MH C t, sl) (Rt none (MH (wrC C kr ((b * 40 + k) * 6)) t) sl) nX := by
  refine w_p (pc1 := 1) rfl rfl ?_
  refine w_p (pc1 := 2) rfl rfl ?_
  refine w_p (pc1 := 3) rfl rfl ?_
  refine w_je (pc1 := 6) (vs := [.ref 113, .int (nI (b)), .int (nI (k))]) (rest := []) (st1 := [.int 1]) (m_129t (d := d) (sl := 0) hb hsz h40 hr) rfl rfl rfl (fun _ _ => rfl) rfl (by exact cl_v my_129 rfl rfl rfl (Nat.le_of_ble_eq_true rfl) rfl (MH_obj rfl rfl) rfl (by decide) rfl rfl) (by rfl) (Nat.le_of_ble_eq_true rfl) (Nat.le_of_ble_eq_true rfl) rfl (by rfl) ?_
  refine w_f (a := 30) (b := 9) rfl rfl rfl ?_
  refine w_p (pc1 := 10) rfl rfl ?_
  refine w_p (pc1 := 11) (st1 := .int 0 :: _) rfl rfl ?_
  refine w_p (pc1 := 12) rfl rfl ?_
  refine w_m0 (pc1 := 15) rfl rfl (h_gC rfl rfl rfl rfl) rfl ?_
  refine w_p (pc1 := 16) rfl rfl ?_
  refine w_p (pc1 := 17) rfl rfl ?_
  refine w_je (pc1 := 20) (vs := [.int (nI (b)), .int (nI (k))]) (rest := [.ref 114, .int 0, .ref (kr + 100)]) (st1 := [.int (nI ((b * 40 + k) * 6)), .ref 114, .int 0, .ref (kr + 100)]) (m_108 (d := d) (sl := 0) (b := b) (k := k)) rfl rfl rfl (fun _ _ => cn_s rfl rfl rfl rfl) rfl (by exact cl_s my_108 rfl rfl rfl (Nat.le_of_ble_eq_true rfl) rfl rfl) (by rfl) (Nat.le_of_ble_eq_true rfl) (Nat.le_of_ble_eq_true rfl) rfl (by rfl) ?_
  refine w_p (pc1 := 22) (st1 := .int 6 :: _) rfl rfl ?_
  refine w_p (pc1 := 23) rfl rfl ?_
  refine w_m0 (pc1 := 24) (st1 := .int (nI (6)) :: _) rfl rfl (h_lnJ (k := kr) rfl hk (by decide)) rfl ?_
  refine w_c (pc1 := 27) (st1 := .int 6 :: _) rfl rfl rfl (fun fr lo h1 h2 => n_mi66 rfl rfl (Nat.le_of_ble_eq_true rfl) h1 h2) rfl ?_
  refine w_c (pc1 := 30) rfl rfl rfl (fun fr lo h1 h2 => n_acJ (k0 := kr) (k1 := 14) (sp := 0) (dp := (b * 40 + k) * 6) (n := 6) hk rfl rfl (Nat.le_of_ble_eq_true rfl) (by omega) (by omega) (by decide) (by decide) h1 h2) rfl ?_
  refine w_r rfl rfl rfl (fun _ _ => rfl) rfl ?_
  exact ⟨rfl, rfl, rfl⟩
set_option maxRecDepth 100000 in
theorem m_128 (hk : SK[kr]? = some (1, 1, 6, l)) (W : RWK C wd rs) (hb : b < 6) (hr : k < (rs b).1.length) : Wd L xs (d + 1) y_128 (0, [(0, .ref 113), (1, .int (nI (b))), (2, .int (nI (k))), (3, .ref (kr + 100))], [], MH C t, sl) (Rt none (MH (wrC C kr ((b * 40 + k) * 6)) t) sl) nX := by
  have h40 := (W b hb).2.2.1
  refine w_p (pc1 := 1) rfl rfl ?_
  refine w_p (pc1 := 2) rfl rfl ?_
  refine w_p (pc1 := 3) rfl rfl ?_
  refine w_je (pc1 := 6) (vs := [.ref 113, .int (nI (b)), .int (nI (k))]) (rest := []) (st1 := [.int 1]) (m_129t (d := d) (sl := 0) hb (W b hb).2.1 (W b hb).2.2.1 hr) rfl rfl rfl (fun _ _ => rfl) rfl (by exact cl_v my_129 rfl rfl rfl (Nat.le_of_ble_eq_true rfl) rfl (MH_obj rfl rfl) rfl (by decide) rfl rfl) (by rfl) (Nat.le_of_ble_eq_true rfl) (Nat.le_of_ble_eq_true rfl) rfl (by rfl) ?_
  refine w_f (a := 30) (b := 9) rfl rfl rfl ?_
  refine w_p (pc1 := 10) rfl rfl ?_
  refine w_p (pc1 := 11) (st1 := .int 0 :: _) rfl rfl ?_
  refine w_p (pc1 := 12) rfl rfl ?_
  refine w_m0 (pc1 := 15) rfl rfl (h_gC rfl rfl rfl rfl) rfl ?_
  refine w_p (pc1 := 16) rfl rfl ?_
  refine w_p (pc1 := 17) rfl rfl ?_
  refine w_je (pc1 := 20) (vs := [.int (nI (b)), .int (nI (k))]) (rest := [.ref 114, .int 0, .ref (kr + 100)]) (st1 := [.int (nI ((b * 40 + k) * 6)), .ref 114, .int 0, .ref (kr + 100)]) (m_108 (d := d) (sl := 0) (b := b) (k := k)) rfl rfl rfl (fun _ _ => cn_s rfl rfl rfl rfl) rfl (by exact cl_s my_108 rfl rfl rfl (Nat.le_of_ble_eq_true rfl) rfl rfl) (by rfl) (Nat.le_of_ble_eq_true rfl) (Nat.le_of_ble_eq_true rfl) rfl (by rfl) ?_
  refine w_p (pc1 := 22) (st1 := .int 6 :: _) rfl rfl ?_
  refine w_p (pc1 := 23) rfl rfl ?_
  refine w_m0 (pc1 := 24) (st1 := .int (nI (6)) :: _) rfl rfl (h_lnJ (k := kr) rfl hk (by decide)) rfl ?_
  refine w_c (pc1 := 27) (st1 := .int 6 :: _) rfl rfl rfl (fun fr lo h1 h2 => n_mi66 rfl rfl (Nat.le_of_ble_eq_true rfl) h1 h2) rfl ?_
  refine w_c (pc1 := 30) rfl rfl rfl (fun fr lo h1 h2 => n_acJ (k0 := kr) (k1 := 14) (sp := 0) (dp := (b * 40 + k) * 6) (n := 6) hk rfl rfl (Nat.le_of_ble_eq_true rfl) (by omega) (by omega) (by decide) (by decide) h1 h2) rfl ?_
  refine w_r rfl rfl rfl (fun _ _ => rfl) rfl ?_
  exact ⟨rfl, rfl, rfl⟩
set_option maxRecDepth 100000 in
theorem m_133 (hk : SK[kr]? = some (1, 1, 6, l)) (W : RWK C wd rs) (hb : b < 6) (hr : k < (rs b).1.length) : Wd L xs (d + 1) y_133 (0, [(0, .ref 113), (1, .int (nI (b))), (2, .int (nI (k))), (3, .ref (kr + 100))], [], MH C t, sl) (Rt none (MH (ldC C kr ((b * 40 + k) * 6)) t) sl) nX := by
  have h40 := (W b hb).2.2.1
  refine w_p (pc1 := 1) rfl rfl ?_
  refine w_p (pc1 := 2) rfl rfl ?_
  refine w_p (pc1 := 3) rfl rfl ?_
  refine w_je (pc1 := 6) (vs := [.ref 113, .int (nI (b)), .int (nI (k))]) (rest := []) (st1 := [.int 1]) (m_129t (d := d) (sl := 0) hb (W b hb).2.1 (W b hb).2.2.1 hr) rfl rfl rfl (fun _ _ => rfl) rfl (by exact cl_v my_129 rfl rfl rfl (Nat.le_of_ble_eq_true rfl) rfl (MH_obj rfl rfl) rfl (by decide) rfl rfl) (by rfl) (Nat.le_of_ble_eq_true rfl) (Nat.le_of_ble_eq_true rfl) rfl (by rfl) ?_
  refine w_f (a := 30) (b := 9) rfl rfl rfl ?_
  refine w_p (pc1 := 10) rfl rfl ?_
  refine w_m0 (pc1 := 13) rfl rfl (h_gC rfl rfl rfl rfl) rfl ?_
  refine w_p (pc1 := 14) rfl rfl ?_
  refine w_p (pc1 := 15) rfl rfl ?_
  refine w_je (pc1 := 18) (vs := [.int (nI (b)), .int (nI (k))]) (rest := [.ref 114]) (st1 := [.int (nI ((b * 40 + k) * 6)), .ref 114]) (m_108 (d := d) (sl := 0) (b := b) (k := k)) rfl rfl rfl (fun _ _ => cn_s rfl rfl rfl rfl) rfl (by exact cl_s my_108 rfl rfl rfl (Nat.le_of_ble_eq_true rfl) rfl rfl) (by rfl) (Nat.le_of_ble_eq_true rfl) (Nat.le_of_ble_eq_true rfl) rfl (by rfl) ?_
  refine w_p (pc1 := 19) rfl rfl ?_
  refine w_p (pc1 := 20) (st1 := .int 0 :: _) rfl rfl ?_
  refine w_p (pc1 := 22) (st1 := .int 6 :: _) rfl rfl ?_
  refine w_p (pc1 := 23) rfl rfl ?_
  refine w_m0 (pc1 := 24) (st1 := .int (nI (6)) :: _) rfl rfl (h_lnJ (k := kr) rfl hk (by decide)) rfl ?_
  refine w_c (pc1 := 27) (st1 := .int 6 :: _) rfl rfl rfl (fun fr lo h1 h2 => n_mi66 rfl rfl (Nat.le_of_ble_eq_true rfl) h1 h2) rfl ?_
  refine w_c (pc1 := 30) rfl rfl rfl (fun fr lo h1 h2 => n_acJ (k0 := 14) (k1 := kr) (sp := (b * 40 + k) * 6) (dp := 0) (n := 6) rfl hk rfl (Nat.le_of_ble_eq_true rfl) (by omega) (by omega) (by decide) (by decide) h1 h2) rfl ?_
  refine w_r rfl rfl rfl (fun _ _ => rfl) rfl ?_
  exact ⟨rfl, rfl, rfl⟩
set_option maxRecDepth 100000 in
theorem sB_2 {C : co_T} {k : Nat} {f : Nat → Int64} {q j : Nat} : (sB C k f).2.1 q j = if q = k then f j else C.2.1 q j := by
  show (if q = k then f else C.2.1 q) j = _
  split <;> rfl
set_option maxRecDepth 100000 in
theorem sA_1 {C : co_T} {k : Nat} {f : Nat → Int32} {q j : Nat} : (sA C k f).1 q j = if q = k then f j else C.1 q j := by
  show (if q = k then f else C.1 q) j = _
  split <;> rfl
set_option maxRecDepth 100000 in
theorem sB_1 {C : co_T} {k : Nat} {f : Nat → Int64} {q j : Nat} : (sB C k f).1 q j = C.1 q j := rfl
set_option maxRecDepth 100000 in
theorem sA_2 {C : co_T} {k : Nat} {f : Nat → Int32} : (sA C k f).2 = C.2 := rfl
set_option maxRecDepth 100000 in
theorem wr_W (hk : kr ≠ 14) (W : RWK C wd rs) (hb : b < 6) (hr : (rs b).1[k]? = some r) (hf : ∀ c, c < wd b → C.2.1 kr c = e_V (f c)) : RWK (wrC C kr ((b * 40 + k) * 6)) wd (rsW rs b k (r.1, f)) := by
  obtain ⟨g1, g2, g3, g4⟩ := W b hb
  have hkl := get_lt hr
  have e1 : ∀ i, (wrC C kr ((b * 40 + k) * 6)).2.1 14 i = if (b * 40 + k) * 6 ≤ i ∧ i < (b * 40 + k) * 6 + 6 then C.2.1 kr (0 + (i - (b * 40 + k) * 6)) else C.2.1 14 i := by
    intro i
    unfold wrC
    rw [sB_2, if_pos rfl]
    rfl
  refine RWf_u (sz' := C.1 16) (id' := C.1 15) (ce' := (wrC C kr ((b * 40 + k) * 6)).2.1 14) W (fun i hi => ?_) (fun _ _ => rfl) (fun _ _ => rfl) ?_ ?_ (fun j q hq => ?_)
  · rw [e1, if_neg (by omega)]
  · rw [List.length_set]
    exact g2
  · rw [List.length_set]
    exact g3
  · by_cases e : k = j
    · subst e
      have hq : ((rs b).1.set k (r.1, f))[k]? = some q := hq
      rw [List.getElem?_set_self hkl] at hq
      cases hq
      refine ⟨(g4 k r hr).1, fun c hc => ?_⟩
      rw [e1, if_pos (by omega), show 0 + ((b * 40 + k) * 6 + c - (b * 40 + k) * 6) = c by omega]
      exact hf c hc
    · have hq : ((rs b).1.set k (r.1, f))[j]? = some q := hq
      rw [List.getElem?_set_ne e] at hq
      refine ⟨(g4 j q hq).1, fun c hc => ?_⟩
      rw [e1, if_neg (by omega)]
      exact (g4 j q hq).2 c hc
set_option maxRecDepth 100000 in
theorem ld_v (hk : kr ≠ 14) (W : RWK C wd rs) (hb : b < 6) (hr : (rs b).1[k]? = some r) : ∀ c, c < wd b → (ldC C kr ((b * 40 + k) * 6)).2.1 kr c = e_V (r.2 c) := by
  intro c hc
  obtain ⟨g1, g2, g3, g4⟩ := W b hb
  unfold ldC
  rw [sB_2, if_pos rfl]
  show (if 0 ≤ c ∧ c < 0 + 6 then C.2.1 14 ((b * 40 + k) * 6 + (c - 0)) else _) = _
  rw [if_pos (by omega), Nat.sub_zero]
  exact (g4 k r hr).2 c hc
set_option maxRecDepth 100000 in
theorem ld_o {q j : Nat} (h : q ≠ kr) : (ldC C kr k).2.1 q j = C.2.1 q j := by
  unfold ldC
  rw [sB_2, if_neg h]
set_option maxRecDepth 100000 in
theorem wr_o {q j : Nat} (h : q ≠ 14) : (wrC C kr k).2.1 q j = C.2.1 q j := by
  unfold wrC
  rw [sB_2, if_neg h]
set_option maxRecDepth 100000 in
theorem ld_W (hk : kr ≠ 14) (W : RWK C wd rs) {p : Nat} : RWK (ldC C kr p) wd rs := by
  intro j hj
  obtain ⟨g1, g2, g3, g4⟩ := W j hj
  exact ⟨g1, g2, g3, fun i q hq => ⟨(g4 i q hq).1, fun c hc => by rw [ld_o (by omega)]; exact (g4 i q hq).2 c hc⟩⟩
/-! a row is taken away -/
def rmC (C : co_T) (b k n : Nat) : co_T := sI (sB (sA C 15 (va_cpy (C.1 15) (C.1 15) (b * 40 + k + 1) (b * 40 + k) (n - k - 1))) 14 (va_cpy (C.2.1 14) (C.2.1 14) ((b * 40 + (k + 1)) * 6) ((b * 40 + k) * 6) ((n - k - 1) * 6))) 16 b (nI (n - 1))
set_option maxRecDepth 100000 in
theorem m_135 (W : RWK C wd rs) (hb : b < 6) (hr : k < (rs b).1.length) : Wd L xs (d + 1) y_135 (0, [(0, .ref 113), (1, .int (nI (b))), (2, .int (nI (k)))], [], MH C t, sl) (Rt none (MH (rmC C b k (rs b).1.length) t) sl) nX := by
  have h40 := (W b hb).2.2.1
  have hsz := (W b hb).2.1
  refine w_p (pc1 := 1) rfl rfl ?_
  refine w_p (pc1 := 2) rfl rfl ?_
  refine w_p (pc1 := 3) rfl rfl ?_
  refine w_je (pc1 := 6) (vs := [.ref 113, .int (nI (b)), .int (nI (k))]) (rest := []) (st1 := [.int 1]) (m_129t (d := d) (sl := 0) hb hsz h40 hr) rfl rfl rfl (fun _ _ => rfl) rfl (by exact cl_v my_129 rfl rfl rfl (Nat.le_of_ble_eq_true rfl) rfl (MH_obj rfl rfl) rfl (by decide) rfl rfl) (by rfl) (Nat.le_of_ble_eq_true rfl) (Nat.le_of_ble_eq_true rfl) rfl (by rfl) ?_
  refine w_t (a := 10) (b := 9) rfl rfl rfl ?_
  refine w_p (pc1 := 11) rfl rfl ?_
  refine w_m0 (pc1 := 14) rfl rfl (h_gC rfl rfl rfl rfl) rfl ?_
  refine w_p (pc1 := 15) rfl rfl ?_
  refine w_m0 (pc1 := 16) (st1 := .int (nI ((rs b).1.length)) :: _) rfl rfl (n_ile (e := b) rfl rfl rfl (by omega) (hsz)) rfl ?_
  refine w_p (pc1 := 17) rfl rfl ?_
  refine w_isub (pc1 := 18) (u := nI ((rs b).1.length)) (v := nI (k)) (z := nI ((rs b).1.length - k)) rfl (nK_sub (by omega)) rfl ?_
  refine w_p (pc1 := 19) (st1 := .int 1 :: _) rfl rfl ?_
  refine w_isub (pc1 := 20) (u := nI ((rs b).1.length - k)) (v := nI (1)) (z := nI ((rs b).1.length - k - 1)) rfl (nK_sub (by omega)) rfl ?_
  refine w_p (pc1 := 21) (al1 := [(3, .int (nI ((rs b).1.length - k - 1))), (0, .ref 113), (1, .int (nI (b))), (2, .int (nI (k)))]) rfl rfl ?_
  refine w_p (pc1 := 22) rfl rfl ?_
  refine w_p (pc1 := 24) (st1 := .int 40 :: _) rfl rfl ?_
  refine w_imul (pc1 := 25) (u := nI (b)) (v := nI (40)) (z := nI (b * 40)) rfl (nK_mul) rfl ?_
  refine w_p (pc1 := 26) rfl rfl ?_
  refine w_iadd (pc1 := 27) (u := nI (b * 40)) (v := nI (k)) (z := nI (b * 40 + k)) rfl (nK_add) rfl ?_
  refine w_p (pc1 := 29) (al1 := [(4, .int (nI (b * 40 + k))), (3, .int (nI ((rs b).1.length - k - 1))), (0, .ref 113), (1, .int (nI (b))), (2, .int (nI (k)))]) rfl rfl ?_
  refine w_p (pc1 := 30) rfl rfl ?_
  refine w_m0 (pc1 := 33) rfl rfl (h_gC rfl rfl rfl rfl) rfl ?_
  refine w_p (pc1 := 35) rfl rfl ?_
  refine w_p (pc1 := 36) (st1 := .int 1 :: _) rfl rfl ?_
  refine w_iadd (pc1 := 37) (u := nI (b * 40 + k)) (v := nI (1)) (z := nI (b * 40 + k + 1)) rfl (nK_add) rfl ?_
  refine w_p (pc1 := 38) rfl rfl ?_
  refine w_m0 (pc1 := 41) rfl rfl (h_gC rfl rfl rfl rfl) rfl ?_
  refine w_p (pc1 := 43) rfl rfl ?_
  refine w_p (pc1 := 44) rfl rfl ?_
  refine w_c (pc1 := 47) rfl rfl rfl (fun fr lo h1 h2 => n_acI (k0 := 15) (k1 := 15) (sp := b * 40 + k + 1) (dp := b * 40 + k) (n := (rs b).1.length - k - 1) rfl rfl rfl (Nat.le_of_ble_eq_true rfl) (by omega) (by omega) (by decide) (by decide) h1 h2) rfl ?_
  refine w_p (pc1 := 48) rfl rfl ?_
  refine w_m0 (pc1 := 51) rfl rfl (h_gC rfl rfl rfl rfl) rfl ?_
  refine w_p (pc1 := 52) rfl rfl ?_
  refine w_p (pc1 := 53) rfl rfl ?_
  refine w_p (pc1 := 54) (st1 := .int 1 :: _) rfl rfl ?_
  refine w_iadd (pc1 := 55) (u := nI (k)) (v := nI (1)) (z := nI (k + 1)) rfl (nK_add) rfl ?_
  refine w_je (pc1 := 58) (vs := [.int (nI (b)), .int (nI (k + 1))]) (rest := [.ref 114]) (st1 := [.int (nI ((b * 40 + (k + 1)) * 6)), .ref 114]) (m_108 (d := d) (sl := 0) (b := b) (k := k + 1)) rfl rfl rfl (fun _ _ => cn_s rfl rfl rfl rfl) rfl (by exact cl_s my_108 rfl rfl rfl (Nat.le_of_ble_eq_true rfl) rfl rfl) (by rfl) (Nat.le_of_ble_eq_true rfl) (Nat.le_of_ble_eq_true rfl) rfl (by rfl) ?_
  refine w_p (pc1 := 59) rfl rfl ?_
  refine w_m0 (pc1 := 62) rfl rfl (h_gC rfl rfl rfl rfl) rfl ?_
  refine w_p (pc1 := 63) rfl rfl ?_
  refine w_p (pc1 := 64) rfl rfl ?_
  refine w_je (pc1 := 67) (vs := [.int (nI (b)), .int (nI (k))]) (rest := [.ref 114, .int (nI ((b * 40 + (k + 1)) * 6)), .ref 114]) (st1 := [.int (nI ((b * 40 + k) * 6)), .ref 114, .int (nI ((b * 40 + (k + 1)) * 6)), .ref 114]) (m_108 (d := d) (sl := 0) (b := b) (k := k)) rfl rfl rfl (fun _ _ => cn_s rfl rfl rfl rfl) rfl (by exact cl_s my_108 rfl rfl rfl (Nat.le_of_ble_eq_true rfl) rfl rfl) (by rfl) (Nat.le_of_ble_eq_true rfl) (Nat.le_of_ble_eq_true rfl) rfl (by rfl) ?_
  refine w_p (pc1 := 68) rfl rfl ?_
  refine w_p (pc1 := 70) (st1 := .int 6 :: _) rfl rfl ?_
  refine w_imul (pc1 := 71) (u := nI ((rs b).1.length - k - 1)) (v := nI (6)) (z := nI (((rs b).1.length - k - 1) * 6)) rfl (nK_mul) rfl ?_
  refine w_c (pc1 := 74) rfl rfl rfl (fun fr lo h1 h2 => n_acJ (k0 := 14) (k1 := 14) (sp := (b * 40 + (k + 1)) * 6) (dp := (b * 40 + k) * 6) (n := ((rs b).1.length - k - 1) * 6) rfl rfl rfl (Nat.le_of_ble_eq_true rfl) (by omega) (by omega) (by decide) (by decide) h1 h2) rfl ?_
  refine w_p (pc1 := 75) rfl rfl ?_
  refine w_m0 (pc1 := 78) rfl rfl (h_gC rfl rfl rfl rfl) rfl ?_
  refine w_p (pc1 := 79) rfl rfl ?_
  refine w_p (pc1 := 80) rfl rfl ?_
  refine w_m0 (pc1 := 81) (st1 := .int (nI ((rs b).1.length)) :: _) rfl rfl (n_ile (e := b) rfl rfl rfl (by omega) (hsz)) rfl ?_
  refine w_p (pc1 := 82) (st1 := .int 1 :: _) rfl rfl ?_
  refine w_isub (pc1 := 83) (u := nI ((rs b).1.length)) (v := nI (1)) (z := nI ((rs b).1.length - 1)) rfl (nK_sub (by omega)) rfl ?_
  refine w_m0 (pc1 := 84) rfl rfl (n_is (e := b) rfl rfl rfl (by omega)) rfl ?_
  refine w_r rfl rfl rfl (fun _ _ => rfl) rfl ?_
  exact ⟨rfl, rfl, rfl⟩
set_option maxRecDepth 100000 in
theorem rm_W (W : RWK C wd rs) (hb : b < 6) (hr : k < (rs b).1.length) : RWK (rmC C b k (rs b).1.length) wd (rsD rs b k) := by
  obtain ⟨g1, g2, g3, g4⟩ := W b hb
  have ec : ∀ i, (rmC C b k (rs b).1.length).2.1 14 i = if (b * 40 + k) * 6 ≤ i ∧ i < (b * 40 + k) * 6 + ((rs b).1.length - k - 1) * 6 then C.2.1 14 ((b * 40 + (k + 1)) * 6 + (i - (b * 40 + k) * 6)) else C.2.1 14 i := by
    intro i
    unfold rmC
    rw [sI_2, sB_2, if_pos rfl]
    rfl
  have ei : ∀ i, (rmC C b k (rs b).1.length).1 15 i = if b * 40 + k ≤ i ∧ i < b * 40 + k + ((rs b).1.length - k - 1) then C.1 15 (b * 40 + k + 1 + (i - (b * 40 + k))) else C.1 15 i := by
    intro i
    unfold rmC
    rw [sI_1, if_neg (by omega), sB_1, sA_1, if_pos rfl]
    rfl
  have es : ∀ i, (rmC C b k (rs b).1.length).1 16 i = if i = b then nI ((rs b).1.length - 1) else C.1 16 i := by
    intro i
    unfold rmC
    rw [sI_1]
    by_cases e : i = b
    · rw [if_pos ⟨rfl, e⟩, if_pos e]
    · rw [if_neg (by omega), if_neg e, sB_1, sA_1, if_neg (by decide)]
  have hl : ((rs b).1.eraseIdx k).length = (rs b).1.length - 1 := List.length_eraseIdx_of_lt hr
  refine RWf_u (sz' := (rmC C b k (rs b).1.length).1 16) (id' := (rmC C b k (rs b).1.length).1 15) (ce' := (rmC C b k (rs b).1.length).2.1 14) W (fun i hi => ?_) (fun i hi => ?_) (fun j hj => ?_) ?_ ?_ (fun j q hq => ?_)
  · rw [ec, if_neg (by omega)]
  · rw [ei, if_neg (by omega)]
  · rw [es, if_neg hj]
  · rw [es, if_pos rfl, hl]
  · rw [hl]
    omega
  · have hq : ((rs b).1.eraseIdx k)[j]? = some q := hq
    have hjl := get_lt hq
    rw [hl] at hjl
    rw [List.getElem?_eraseIdx] at hq
    split at hq
    · refine ⟨?_, fun c hc => ?_⟩
      · rw [ei, if_neg (by omega)]
        exact (g4 j q hq).1
      · rw [ec, if_neg (by omega)]
        exact (g4 j q hq).2 c hc
    · refine ⟨?_, fun c hc => ?_⟩
      · rw [ei, if_pos (by omega), show b * 40 + k + 1 + (b * 40 + j - (b * 40 + k)) = b * 40 + (j + 1) by omega]
        exact (g4 (j + 1) q hq).1
      · rw [ec, if_pos (by omega), show (b * 40 + (k + 1)) * 6 + ((b * 40 + j) * 6 + c - (b * 40 + k) * 6) = (b * 40 + (j + 1)) * 6 + c by omega]
        exact (g4 (j + 1) q hq).2 c hc
/-! a row more -/
def apC (C : co_T) (kr b n : Nat) : co_T := wrC (sI (sI (sI C 16 b (nI (n + 1))) 17 b (C.1 17 b + 1)) 15 (b * 40 + n) (C.1 17 b + 1)) kr ((b * 40 + n) * 6)
set_option maxRecDepth 100000 in
theorem ap_W {n : Nat} (hk : kr ≠ 14) (W : RWK C wd rs) (hL : C.1 17 b = (rs b).2) (hb : b < 6) (hn : n = (rs b).1.length) (hl : n < 40) (hf : ∀ c, c < wd b → C.2.1 kr c = e_V (f c)) : RWK (apC C kr b n) wd (rsA rs b f) := by
  subst hn
  obtain ⟨g1, g2, g3, g4⟩ := W b hb
  have ec : ∀ i, (apC C kr b (rs b).1.length).2.1 14 i = if (b * 40 + (rs b).1.length) * 6 ≤ i ∧ i < (b * 40 + (rs b).1.length) * 6 + 6 then C.2.1 kr (0 + (i - (b * 40 + (rs b).1.length) * 6)) else C.2.1 14 i := by
    intro i
    unfold apC wrC
    rw [sB_2, if_pos rfl]
    rfl
  have ei : ∀ i, (apC C kr b (rs b).1.length).1 15 i = if i = b * 40 + (rs b).1.length then C.1 17 b + 1 else C.1 15 i := by
    intro i
    unfold apC wrC
    rw [sB_1, sI_1]
    by_cases e : i = b * 40 + (rs b).1.length
    · rw [if_pos ⟨rfl, e⟩, if_pos e]
    · rw [if_neg (by omega), if_neg e, sI_1, if_neg (by omega), sI_1, if_neg (by omega)]
  have es : ∀ i, (apC C kr b (rs b).1.length).1 16 i = if i = b then nI ((rs b).1.length + 1) else C.1 16 i := by
    intro i
    unfold apC wrC
    rw [sB_1, sI_1, if_neg (by omega), sI_1, if_neg (by omega), sI_1]
    by_cases e : i = b
    · rw [if_pos ⟨rfl, e⟩, if_pos e]
    · rw [if_neg (by omega), if_neg e]
  refine RWf_u (sz' := (apC C kr b (rs b).1.length).1 16) (id' := (apC C kr b (rs b).1.length).1 15) (ce' := (apC C kr b (rs b).1.length).2.1 14) W (fun i hi => ?_) (fun i hi => ?_) (fun j hj => ?_) ?_ ?_ (fun j q hq => ?_)
  · rw [ec, if_neg (by omega)]
  · rw [ei, if_neg (by omega)]
  · rw [es, if_neg hj]
  · rw [es, if_pos rfl, len_s]
  · rw [len_s]
    omega
  · have hq : ((rs b).1 ++ [((rs b).2 + 1, f)])[j]? = some q := hq
    have hj := get_lt hq
    rw [len_s] at hj
    by_cases e : j < (rs b).1.length
    · rw [List.getElem?_append_left e] at hq
      refine ⟨?_, fun c hc => ?_⟩
      · rw [ei, if_neg (by omega)]
        exact (g4 j q hq).1
      · rw [ec, if_neg (by omega)]
        exact (g4 j q hq).2 c hc
    · obtain rfl : j = (rs b).1.length := by omega
      rw [List.getElem?_append_right (Nat.le_refl _), Nat.sub_self] at hq
      cases hq
      refine ⟨?_, fun c hc => ?_⟩
      · rw [ei, if_pos rfl, hL]
      · rw [ec, if_pos (by omega), show 0 + ((b * 40 + (rs b).1.length) * 6 + c - (b * 40 + (rs b).1.length) * 6) = c by omega]
        exact hf c hc
set_option maxRecDepth 100000 in
theorem m_127 (hk : SK[kr]? = some (1, 1, 6, l)) (W : RWK C wd rs) (hb : b < 6) (hl : (rs b).1.length < 40) : Wd L xs (d + 2) y_127 (0, [(0, .ref 113), (1, .int (nI (b))), (2, .ref (kr + 100))], [], MH C t, sl) (Rt none (MH (apC C kr b (rs b).1.length) t) sl) nX := by
  have hsz := (W b hb).2.1
  have hfl := m_126 (L := L) (xs := xs) (t := t) (d := d) (sl := 0) hb hsz (W b hb).2.2.1
  rw [if_neg (by omega)] at hfl
  refine w_p (pc1 := 1) rfl rfl ?_
  refine w_f (a := 18) (b := 4) (bN_lt_f (a := b) (b := 0) (by omega) (by omega) (by omega)) rfl rfl ?_
  refine w_p (pc1 := 5) rfl rfl ?_
  refine w_p (pc1 := 7) (st1 := .int 6 :: _) rfl rfl ?_
  refine w_f (a := 18) (b := 10) (bN_ge_f (a := b) (b := 6) (by omega) (by omega) (by omega)) rfl rfl ?_
  refine w_p (pc1 := 11) rfl rfl ?_
  refine w_p (pc1 := 12) rfl rfl ?_
  refine w_je (pc1 := 15) (vs := [.ref 113, .int (nI (b))]) (rest := []) (st1 := [.int 0]) (hfl) rfl rfl rfl (fun _ _ => rfl) rfl (by exact cl_v my_126 rfl rfl rfl (Nat.le_of_ble_eq_true rfl) rfl (MH_obj rfl rfl) rfl (by decide) rfl rfl) (by rfl) (Nat.le_of_ble_eq_true rfl) (Nat.le_of_ble_eq_true rfl) rfl (by rfl) ?_
  refine w_t (a := 19) (b := 18) rfl rfl rfl ?_
  refine w_p (pc1 := 20) rfl rfl ?_
  refine w_m0 (pc1 := 23) rfl rfl (h_gC rfl rfl rfl rfl) rfl ?_
  refine w_p (pc1 := 24) rfl rfl ?_
  refine w_m0 (pc1 := 25) (st1 := .int (nI ((rs b).1.length)) :: _) rfl rfl (n_ile (e := b) rfl rfl rfl (by omega) (hsz)) rfl ?_
  refine w_p (pc1 := 26) (al1 := [(3, .int (nI ((rs b).1.length))), (0, .ref 113), (1, .int (nI (b))), (2, .ref (kr + 100))]) rfl rfl ?_
  refine w_p (pc1 := 27) rfl rfl ?_
  refine w_m0 (pc1 := 30) rfl rfl (h_gC rfl rfl rfl rfl) rfl ?_
  refine w_p (pc1 := 31) rfl rfl ?_
  refine w_p (pc1 := 32) rfl rfl ?_
  refine w_m0 (pc1 := 33) (st1 := .int (nI ((rs b).1.length)) :: _) rfl rfl (n_ile (e := b) rfl rfl rfl (by omega) (hsz)) rfl ?_
  refine w_p (pc1 := 34) (st1 := .int 1 :: _) rfl rfl ?_
  refine w_iadd (pc1 := 35) (u := nI ((rs b).1.length)) (v := nI (1)) (z := nI ((rs b).1.length + 1)) rfl (nK_add) rfl ?_
  refine w_m0 (pc1 := 36) rfl rfl (n_is (e := b) rfl rfl rfl (by omega)) rfl ?_
  refine w_p (pc1 := 37) rfl rfl ?_
  refine w_m0 (pc1 := 40) rfl rfl (h_gC rfl rfl rfl rfl) rfl ?_
  refine w_p (pc1 := 41) rfl rfl ?_
  refine w_p (pc1 := 42) rfl rfl ?_
  refine w_m0 (pc1 := 43) (st1 := .int (C.1 17 b) :: _) rfl rfl (n_ile (e := b) rfl rfl rfl (by omega) (rfl)) rfl ?_
  refine w_p (pc1 := 44) (st1 := .int 1 :: _) rfl rfl ?_
  refine w_iadd (pc1 := 45) (z := C.1 17 b + 1) rfl (rfl) rfl ?_
  refine w_m0 (pc1 := 46) rfl rfl (n_is (e := b) rfl rfl rfl (by omega)) rfl ?_
  refine w_p (pc1 := 47) rfl rfl ?_
  refine w_m0 (pc1 := 50) rfl rfl (h_gC rfl rfl rfl rfl) rfl ?_
  refine w_p (pc1 := 51) rfl rfl ?_
  refine w_p (pc1 := 53) (st1 := .int 40 :: _) rfl rfl ?_
  refine w_imul (pc1 := 54) (u := nI (b)) (v := nI (40)) (z := nI (b * 40)) rfl (nK_mul) rfl ?_
  refine w_p (pc1 := 55) rfl rfl ?_
  refine w_iadd (pc1 := 56) (u := nI (b * 40)) (v := nI ((rs b).1.length)) (z := nI (b * 40 + ((rs b).1.length))) rfl (nK_add) rfl ?_
  refine w_p (pc1 := 57) rfl rfl ?_
  refine w_m0 (pc1 := 60) rfl rfl (h_gC rfl rfl rfl rfl) rfl ?_
  refine w_p (pc1 := 61) rfl rfl ?_
  refine w_m0 (pc1 := 62) (st1 := .int (C.1 17 b + 1) :: _) rfl rfl (n_ile (e := b) rfl rfl rfl (by omega) (by rw [sI_1, if_pos ⟨rfl, rfl⟩])) rfl ?_
  refine w_m0 (pc1 := 63) rfl rfl (n_is (e := b * 40 + ((rs b).1.length)) rfl rfl rfl (by omega)) rfl ?_
  refine w_p (pc1 := 64) rfl rfl ?_
  refine w_p (pc1 := 65) rfl rfl ?_
  refine w_p (pc1 := 66) rfl rfl ?_
  refine w_p (pc1 := 67) rfl rfl ?_
  refine w_je (pc1 := 70) (vs := [.ref 113, .int (nI (b)), .int (nI ((rs b).1.length)), .ref (kr + 100)]) (rest := []) (st1 := []) (m_128x (d := d) (sl := 0) (n := (rs b).1.length + 1) (k := (rs b).1.length) hk hb (by rw [sI_1, if_neg (by omega), sI_1, if_neg (by omega), sI_1, if_pos ⟨rfl, rfl⟩]) (by omega) (by omega)) rfl rfl rfl (fun _ _ => rfl) rfl (by exact cl_v my_128 rfl rfl rfl (Nat.le_of_ble_eq_true rfl) rfl (MH_obj rfl rfl) rfl (by decide) rfl rfl) (by rfl) (Nat.le_of_ble_eq_true rfl) (Nat.le_of_ble_eq_true rfl) rfl (by rfl) ?_
  refine w_r rfl rfl rfl (fun _ _ => rfl) rfl ?_
  exact ⟨rfl, rfl, rfl⟩
end KRW
