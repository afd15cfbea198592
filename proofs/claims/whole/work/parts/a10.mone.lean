/-! THE OTHER SIDE WORKS A FORMULA OUT: one operation -/
def skM (s : Nat → Int64) : List tv_T → Prop
  | [] => True
  | v :: r => s r.length = v_M v ∧ skM s r
set_option maxRecDepth 100000 in
theorem skM_u {s : Nat → Int64} {j : Nat} {x : Int64} : ∀ {r : List tv_T}, skM s r → r.length ≤ j → skM (vp_updL s j x) r
  | [], _, _ => trivial
  | v :: r, h, hj => by
    have hj : r.length + 1 ≤ j := hj
    refine ⟨?_, skM_u h.2 (by omega)⟩
    show (if r.length = j then x else s r.length) = _
    rw [if_neg (by omega)]
    exact h.1
/-! the pile -/
def PIL (C : co_T) (st : List tv_T) : Prop := C.1 76 73 = nI st.length ∧ skM (C.2.1 124) st
def frW (C C' : co_T) : Prop := (∀ k j, ¬ (k = 76 ∧ (j = 73 ∨ j = 74)) → C'.1 k j = C.1 k j) ∧ (∀ k j, k ≠ 124 → C'.2.1 k j = C.2.1 k j) ∧ C'.2.2 = C.2.2
set_option maxRecDepth 100000 in
theorem frW_r {C : co_T} : frW C C := ⟨fun _ _ _ => rfl, fun _ _ _ => rfl, rfl⟩
set_option maxRecDepth 100000 in
theorem frW_t {C1 C2 C3 : co_T} (h : frW C1 C2) (g : frW C2 C3) : frW C1 C3 := ⟨fun k j a => (g.1 k j a).trans (h.1 k j a), fun k j a => (g.2.1 k j a).trans (h.2.1 k j a), g.2.2.trans h.2.2⟩
set_option maxRecDepth 100000 in
theorem frW_I {C : co_T} {j : Nat} {x : Int32} (h : j = 73 ∨ j = 74) : frW C (sI C 76 j x) := ⟨fun k i a => by rw [sI_1, if_neg (by omega)], fun _ _ _ => rfl, rfl⟩
set_option maxRecDepth 100000 in
theorem frW_J {C : co_T} {j : Nat} {x : Int64} : frW C (sJ C 124 j x) := ⟨fun k i a => by rw [sJ_1], fun k i a => by rw [sJ_2, if_neg (by omega)], rfl⟩
set_option maxRecDepth 100000 in
theorem PIL_p {C : co_T} {st : List tv_T} {v : tv_T} (h : PIL C st) : PIL (sJ (sI C 76 73 (nI (st.length + 1))) 124 st.length (v_M v)) (v :: st) := by
  refine ⟨rfl, ?_, ?_⟩
  · exact upd_s
  · exact skM_u h.2 (Nat.le_refl _)
set_option maxRecDepth 100000 in
theorem PIL_1 {C : co_T} {r : List tv_T} {u v : tv_T} (h : PIL C (u :: r)) : PIL (sJ C 124 r.length (v_M v)) (v :: r) := by
  refine ⟨h.1, ?_, ?_⟩
  · exact upd_s
  · exact skM_u h.2.2 (Nat.le_refl _)
set_option maxRecDepth 100000 in
theorem PIL_2 {C : co_T} {r : List tv_T} {u w v : tv_T} (h : PIL C (w :: u :: r)) : PIL (sJ (sI C 76 73 (nI (r.length + 1))) 124 r.length (v_M v)) (v :: r) := by
  refine ⟨rfl, ?_, ?_⟩
  · exact upd_s
  · exact skM_u h.2.2.2 (Nat.le_refl _)
set_option maxRecDepth 100000 in
theorem PIL_2z {C : co_T} {r : List tv_T} {u w v : tv_T} {x : Int32} (h : PIL C (w :: u :: r)) : PIL (sJ (sI (sI C 76 73 (nI (r.length + 1))) 76 74 x) 124 r.length (v_M v)) (v :: r) := by
  refine ⟨rfl, ?_, ?_⟩
  · exact upd_s
  · exact skM_u h.2.2.2 (Nat.le_refl _)
/-! what the formula's names stand for -/
def envM (C : co_T) (row f w1 w2 w3 : Nat) (R N O : rw_F) : Prop := (row + w1 ≤ 1440 ∧ ∀ c, c < w1 → C.2.1 116 (row + c) = e_V (R c)) ∧ (f < 40 ∧ w2 ≤ 6 ∧ w3 ≤ 6) ∧ (∀ c, c < w2 → C.2.1 136 (6 * f + c) = e_V (N c)) ∧ (∀ c, c < w3 → C.2.1 137 (6 * f + c) = e_V (O c))
set_option maxRecDepth 100000 in
theorem envM_f {C C' : co_T} {row f w1 w2 w3 : Nat} {R N O : rw_F} (h : envM C row f w1 w2 w3 R N O) (g : frW C C') : envM C' row f w1 w2 w3 R N O := ⟨⟨h.1.1, fun c hc => (g.2.1 116 _ (by decide)).trans (h.1.2 c hc)⟩, h.2.1, fun c hc => (g.2.1 136 _ (by decide)).trans (h.2.2.1 c hc), fun c hc => (g.2.1 137 _ (by decide)).trans (h.2.2.2 c hc)⟩
def W1 (C : co_T) (t : ab_H) (sl : Nat) (g z : Bool) (R N O : rw_F) (q : op_T) (st : List tv_T) (T1 : List Bool) : Option Value → ab_H → Nat → Prop := fun v h m => none = v ∧ (∃ C', (∃ st', f_1 true R N O q st = some st' ∧ st'.map tyv = T1 ∧ PIL C' st' ∧ C'.1 76 74 = ck (z || (f_1 g R N O q st).isNone) ∧ frW C C') ∧ MH C' t = h) ∧ sl = m
section MW1
variable {L : Nat} {xs : Nat → Int32} {C : co_T} {t : ab_H} {d sl p k row f w1 w2 w3 : Nat} {R N O : rw_F} {g z : Bool} {st : List tv_T} {T1 : List Bool} {q : op_T}
set_option maxRecDepth 100000 in
theorem or_ff {b : Bool} : (b || false) = b := by cases b <;> rfl
/-! without a division by 0 -/
set_option maxRecDepth 100000 in
theorem W1_i {C' : co_T} {st' : List tv_T} (h1 : f_1 true R N O q st = some st') (h2 : f_1 g R N O q st = some st') (h3 : st'.map tyv = T1) (h4 : PIL C' st') (h5 : C'.1 76 74 = ck z) (h6 : frW C C') : W1 C t sl g z R N O q st T1 none (MH C' t) sl := ⟨rfl, ⟨C', ⟨st', h1, h3, h4, by rw [h2, h5]; cases z <;> rfl, h6⟩, rfl⟩, rfl⟩
set_option maxRecDepth 100000 in
theorem u2_np {a : Int32} {v w : Option Int32} (h : a ≠ 12) : u_2 g a (.inl v) (.inl w) = u_2 true a (.inl v) (.inl w) := by
  unfold u_2
  simp only
  split
  · rename_i hA
    congr 1
    cases v with
    | none => rfl
    | some x => cases w with
      | none => rfl
      | some y =>
        show u_a g a x y = u_a true a x y
        unfold u_a
        rcases hA with rfl | rfl | rfl | rfl
        · rw [if_pos rfl, if_pos rfl]
        · rw [if_neg (by decide), if_pos rfl, if_neg (by decide), if_pos rfl]
        · rw [if_neg (by decide), if_neg (by decide), if_pos rfl, if_neg (by decide), if_neg (by decide), if_pos rfl]
        · exact absurd rfl h
  · rfl
set_option maxRecDepth 100000 in
theorem u2_so {a : Int32} {v w : Option Int32} (h : isA a) : ∃ r, u_2 true a (.inl v) (.inl w) = some (.inl r) := by
  rw [u2_A h]
  cases v with
  | none => exact ⟨none, rfl⟩
  | some x => cases w with
    | none => exact ⟨none, rfl⟩
    | some y =>
      show ∃ r, (u_a true a x y).map Sum.inl = some (.inl r)
      unfold u_a
      split
      · exact ⟨_, rfl⟩
      split
      · exact ⟨_, rfl⟩
      split
      · exact ⟨_, rfl⟩
      split
      · exact ⟨none, rfl⟩
      · exact ⟨_, rfl⟩
variable {b : Int32}
set_option maxRecDepth 100000 in
theorem w_p0 (hp : p ≤ 40) (hk : k < 620) (hw : C.1 106 (620 * p + k) = 1) (hv : C.2.1 107 (620 * p + k) = b.toInt64) (hz : C.1 76 74 = ck z) (hS : PIL C st) (hl : st.length < 700) : Wd L xs (d + 2) y_252 (0, [(0, .ref 176), (1, .int (nI (p))), (2, .int (nI (k))), (3, .int (nI (row))), (4, .int (nI (f))), (5, .int (ck g))], [], MH C t, sl) (W1 C t sl g z R N O (0, b) st (false :: st.map tyv)) nX := by
  refine w_p (pc1 := 1) rfl rfl ?_
  refine w_m0 (pc1 := 4) rfl rfl (h_gC rfl rfl rfl rfl) rfl ?_
  refine w_p (pc1 := 7) (st1 := .int 620 :: _) rfl rfl ?_
  refine w_p (pc1 := 8) rfl rfl ?_
  refine w_imul (pc1 := 9) (u := nI (620)) (v := nI (p)) (z := nI (620 * p)) rfl (nK_mul) rfl ?_
  refine w_p (pc1 := 10) rfl rfl ?_
  refine w_iadd (pc1 := 11) (u := nI (620 * p)) (v := nI (k)) (z := nI (620 * p + k)) rfl (nK_add) rfl ?_
  refine w_m0 (pc1 := 12) (st1 := .long (b.toInt64) :: _) rfl rfl (n_lle (e := 620 * p + k) rfl rfl rfl (by omega) (hv)) rfl ?_
  refine w_p (pc1 := 14) (al1 := [(6, .long (b.toInt64)), (0, .ref 176), (1, .int (nI (p))), (2, .int (nI (k))), (3, .int (nI (row))), (4, .int (nI (f))), (5, .int (ck g))]) rfl rfl ?_
  refine w_p (pc1 := 15) rfl rfl ?_
  refine w_m0 (pc1 := 18) rfl rfl (h_gC rfl rfl rfl rfl) rfl ?_
  refine w_p (pc1 := 21) (st1 := .int 620 :: _) rfl rfl ?_
  refine w_p (pc1 := 22) rfl rfl ?_
  refine w_imul (pc1 := 23) (u := nI (620)) (v := nI (p)) (z := nI (620 * p)) rfl (nK_mul) rfl ?_
  refine w_p (pc1 := 24) rfl rfl ?_
  refine w_iadd (pc1 := 25) (u := nI (620 * p)) (v := nI (k)) (z := nI (620 * p + k)) rfl (nK_add) rfl ?_
  refine w_m0 (pc1 := 26) (st1 := .int 1 :: _) rfl rfl (n_ile (e := 620 * p + k) rfl rfl rfl (by omega) (hw)) rfl ?_
  refine w_p (pc1 := 84) rfl rfl ?_
  refine w_p (pc1 := 85) rfl rfl ?_
  refine w_m0 (pc1 := 88) rfl rfl (h_gC rfl rfl rfl rfl) rfl ?_
  refine w_p (pc1 := 89) rfl rfl ?_
  refine w_p (pc1 := 90) rfl rfl ?_
  refine w_m0 (pc1 := 93) (st1 := .int (nI (st.length)) :: _) rfl rfl (h_gIe (j := 73) rfl rfl rfl rfl rfl (hS.1)) rfl ?_
  refine w_p (pc1 := 94) rfl rfl ?_
  refine w_p (pc1 := 95) (st1 := .int 1 :: _) rfl rfl ?_
  refine w_iadd (pc1 := 96) (u := nI (st.length)) (v := nI (1)) (z := nI (st.length + 1)) rfl (nK_add) rfl ?_
  refine w_m0 (pc1 := 99) rfl rfl (h_pI (j := 73) rfl rfl rfl rfl rfl rfl rfl ⟨rfl, rfl⟩ rfl) rfl ?_
  refine w_p (pc1 := 101) rfl rfl ?_
  refine w_m0 (pc1 := 102) rfl rfl (n_ls (e := st.length) rfl rfl rfl (by omega)) rfl ?_
  refine w_p (pc1 := 517) rfl rfl ?_
  refine w_r rfl rfl rfl (fun _ _ => rfl) rfl ?_
  exact W1_i (st' := .inl (some b) :: st) fo_0 fo_0 rfl (PIL_p hS) hz (frW_t (frW_I (Or.inl rfl)) frW_J)
set_option maxRecDepth 100000 in
theorem w_p1 {u : Int64} (hp : p ≤ 40) (hk : k < 620) (hw : C.1 106 (620 * p + k) = 2) (hv : C.2.1 107 (620 * p + k) = u) (hz : C.1 76 74 = ck z) (hS : PIL C st) (hl : st.length < 700) : Wd L xs (d + 2) y_252 (0, [(0, .ref 176), (1, .int (nI (p))), (2, .int (nI (k))), (3, .int (nI (row))), (4, .int (nI (f))), (5, .int (ck g))], [], MH C t, sl) (W1 C t sl g z R N O (1, b) st (false :: st.map tyv)) nX := by
  refine w_p (pc1 := 1) rfl rfl ?_
  refine w_m0 (pc1 := 4) rfl rfl (h_gC rfl rfl rfl rfl) rfl ?_
  refine w_p (pc1 := 7) (st1 := .int 620 :: _) rfl rfl ?_
  refine w_p (pc1 := 8) rfl rfl ?_
  refine w_imul (pc1 := 9) (u := nI (620)) (v := nI (p)) (z := nI (620 * p)) rfl (nK_mul) rfl ?_
  refine w_p (pc1 := 10) rfl rfl ?_
  refine w_iadd (pc1 := 11) (u := nI (620 * p)) (v := nI (k)) (z := nI (620 * p + k)) rfl (nK_add) rfl ?_
  refine w_m0 (pc1 := 12) (st1 := .long (u) :: _) rfl rfl (n_lle (e := 620 * p + k) rfl rfl rfl (by omega) (hv)) rfl ?_
  refine w_p (pc1 := 14) (al1 := [(6, .long (u)), (0, .ref 176), (1, .int (nI (p))), (2, .int (nI (k))), (3, .int (nI (row))), (4, .int (nI (f))), (5, .int (ck g))]) rfl rfl ?_
  refine w_p (pc1 := 15) rfl rfl ?_
  refine w_m0 (pc1 := 18) rfl rfl (h_gC rfl rfl rfl rfl) rfl ?_
  refine w_p (pc1 := 21) (st1 := .int 620 :: _) rfl rfl ?_
  refine w_p (pc1 := 22) rfl rfl ?_
  refine w_imul (pc1 := 23) (u := nI (620)) (v := nI (p)) (z := nI (620 * p)) rfl (nK_mul) rfl ?_
  refine w_p (pc1 := 24) rfl rfl ?_
  refine w_iadd (pc1 := 25) (u := nI (620 * p)) (v := nI (k)) (z := nI (620 * p + k)) rfl (nK_add) rfl ?_
  refine w_m0 (pc1 := 26) (st1 := .int 2 :: _) rfl rfl (n_ile (e := 620 * p + k) rfl rfl rfl (by omega) (hw)) rfl ?_
  refine w_p (pc1 := 105) rfl rfl ?_
  refine w_p (pc1 := 106) rfl rfl ?_
  refine w_m0 (pc1 := 109) rfl rfl (h_gC rfl rfl rfl rfl) rfl ?_
  refine w_p (pc1 := 110) rfl rfl ?_
  refine w_p (pc1 := 111) rfl rfl ?_
  refine w_m0 (pc1 := 114) (st1 := .int (nI (st.length)) :: _) rfl rfl (h_gIe (j := 73) rfl rfl rfl rfl rfl (hS.1)) rfl ?_
  refine w_p (pc1 := 115) rfl rfl ?_
  refine w_p (pc1 := 116) (st1 := .int 1 :: _) rfl rfl ?_
  refine w_iadd (pc1 := 117) (u := nI (st.length)) (v := nI (1)) (z := nI (st.length + 1)) rfl (nK_add) rfl ?_
  refine w_m0 (pc1 := 120) rfl rfl (h_pI (j := 73) rfl rfl rfl rfl rfl rfl rfl ⟨rfl, rfl⟩ rfl) rfl ?_
  refine w_m0 (pc1 := 123) (st1 := .long (-9223372036854775808) :: _) rfl rfl rfl rfl ?_
  refine w_m0 (pc1 := 124) rfl rfl (n_ls (e := st.length) rfl rfl rfl (by omega)) rfl ?_
  refine w_p (pc1 := 517) rfl rfl ?_
  refine w_r rfl rfl rfl (fun _ _ => rfl) rfl ?_
  exact W1_i (st' := .inl none :: st) fo_1 fo_1 rfl (PIL_p hS) hz (frW_t (frW_I (Or.inl rfl)) frW_J)
set_option maxRecDepth 100000 in
theorem w_p2 {m : Nat} (hp : p ≤ 40) (hk : k < 620) (hw : C.1 106 (620 * p + k) = 3) (hv : C.2.1 107 (620 * p + k) = b.toInt64) (hz : C.1 76 74 = ck z) (e1 : b = nI m) (e2 : b.toNatClampNeg = m) (hi : row + m < 1440) (hx : C.2.1 116 (row + m) = e_V (R m)) (hS : PIL C st) (hl : st.length < 700) : Wd L xs (d + 2) y_252 (0, [(0, .ref 176), (1, .int (nI (p))), (2, .int (nI (k))), (3, .int (nI (row))), (4, .int (nI (f))), (5, .int (ck g))], [], MH C t, sl) (W1 C t sl g z R N O (2, b) st (false :: st.map tyv)) nX := by
  refine w_p (pc1 := 1) rfl rfl ?_
  refine w_m0 (pc1 := 4) rfl rfl (h_gC rfl rfl rfl rfl) rfl ?_
  refine w_p (pc1 := 7) (st1 := .int 620 :: _) rfl rfl ?_
  refine w_p (pc1 := 8) rfl rfl ?_
  refine w_imul (pc1 := 9) (u := nI (620)) (v := nI (p)) (z := nI (620 * p)) rfl (nK_mul) rfl ?_
  refine w_p (pc1 := 10) rfl rfl ?_
  refine w_iadd (pc1 := 11) (u := nI (620 * p)) (v := nI (k)) (z := nI (620 * p + k)) rfl (nK_add) rfl ?_
  refine w_m0 (pc1 := 12) (st1 := .long (b.toInt64) :: _) rfl rfl (n_lle (e := 620 * p + k) rfl rfl rfl (by omega) (hv)) rfl ?_
  refine w_p (pc1 := 14) (al1 := [(6, .long (b.toInt64)), (0, .ref 176), (1, .int (nI (p))), (2, .int (nI (k))), (3, .int (nI (row))), (4, .int (nI (f))), (5, .int (ck g))]) rfl rfl ?_
  refine w_p (pc1 := 15) rfl rfl ?_
  refine w_m0 (pc1 := 18) rfl rfl (h_gC rfl rfl rfl rfl) rfl ?_
  refine w_p (pc1 := 21) (st1 := .int 620 :: _) rfl rfl ?_
  refine w_p (pc1 := 22) rfl rfl ?_
  refine w_imul (pc1 := 23) (u := nI (620)) (v := nI (p)) (z := nI (620 * p)) rfl (nK_mul) rfl ?_
  refine w_p (pc1 := 24) rfl rfl ?_
  refine w_iadd (pc1 := 25) (u := nI (620 * p)) (v := nI (k)) (z := nI (620 * p + k)) rfl (nK_add) rfl ?_
  refine w_m0 (pc1 := 26) (st1 := .int 3 :: _) rfl rfl (n_ile (e := 620 * p + k) rfl rfl rfl (by omega) (hw)) rfl ?_
  refine w_p (pc1 := 127) rfl rfl ?_
  refine w_p (pc1 := 128) rfl rfl ?_
  refine w_m0 (pc1 := 131) rfl rfl (h_gC rfl rfl rfl rfl) rfl ?_
  refine w_p (pc1 := 132) rfl rfl ?_
  refine w_p (pc1 := 133) rfl rfl ?_
  refine w_m0 (pc1 := 136) (st1 := .int (nI (st.length)) :: _) rfl rfl (h_gIe (j := 73) rfl rfl rfl rfl rfl (hS.1)) rfl ?_
  refine w_p (pc1 := 137) rfl rfl ?_
  refine w_p (pc1 := 138) (st1 := .int 1 :: _) rfl rfl ?_
  refine w_iadd (pc1 := 139) (u := nI (st.length)) (v := nI (1)) (z := nI (st.length + 1)) rfl (nK_add) rfl ?_
  refine w_m0 (pc1 := 142) rfl rfl (h_pI (j := 73) rfl rfl rfl rfl rfl rfl rfl ⟨rfl, rfl⟩ rfl) rfl ?_
  refine w_p (pc1 := 143) rfl rfl ?_
  refine w_m0 (pc1 := 146) rfl rfl (h_gC rfl rfl rfl rfl) rfl ?_
  refine w_p (pc1 := 147) rfl rfl ?_
  refine w_p (pc1 := 149) rfl rfl ?_
  refine w_l2i (pc1 := 150) (z := nI (m)) rfl ((i6432 b).trans e1) rfl ?_
  refine w_iadd (pc1 := 151) (u := nI (row)) (v := nI (m)) (z := nI (row + m)) rfl (nK_add) rfl ?_
  refine w_m0 (pc1 := 152) (st1 := .long (e_V (R m)) :: _) rfl rfl (n_lle (e := row + m) rfl rfl rfl (by omega) (hx)) rfl ?_
  refine w_m0 (pc1 := 153) rfl rfl (n_ls (e := st.length) rfl rfl rfl (by omega)) rfl ?_
  refine w_p (pc1 := 517) rfl rfl ?_
  refine w_r rfl rfl rfl (fun _ _ => rfl) rfl ?_
  exact W1_i (st' := .inl (R m) :: st) (by rw [fo_2, e2]) (by rw [fo_2, e2]) rfl (PIL_p hS) hz (frW_t (frW_I (Or.inl rfl)) frW_J)
set_option maxRecDepth 100000 in
theorem w_p3 {m : Nat} (hp : p ≤ 40) (hk : k < 620) (hw : C.1 106 (620 * p + k) = 4) (hv : C.2.1 107 (620 * p + k) = b.toInt64) (hz : C.1 76 74 = ck z) (e1 : b = nI m) (e2 : b.toNatClampNeg = m) (hi : 6 * f + m < 240) (hx : C.2.1 136 (6 * f + m) = e_V (N m)) (hS : PIL C st) (hl : st.length < 700) : Wd L xs (d + 2) y_252 (0, [(0, .ref 176), (1, .int (nI (p))), (2, .int (nI (k))), (3, .int (nI (row))), (4, .int (nI (f))), (5, .int (ck g))], [], MH C t, sl) (W1 C t sl g z R N O (3, b) st (false :: st.map tyv)) nX := by
  refine w_p (pc1 := 1) rfl rfl ?_
  refine w_m0 (pc1 := 4) rfl rfl (h_gC rfl rfl rfl rfl) rfl ?_
  refine w_p (pc1 := 7) (st1 := .int 620 :: _) rfl rfl ?_
  refine w_p (pc1 := 8) rfl rfl ?_
  refine w_imul (pc1 := 9) (u := nI (620)) (v := nI (p)) (z := nI (620 * p)) rfl (nK_mul) rfl ?_
  refine w_p (pc1 := 10) rfl rfl ?_
  refine w_iadd (pc1 := 11) (u := nI (620 * p)) (v := nI (k)) (z := nI (620 * p + k)) rfl (nK_add) rfl ?_
  refine w_m0 (pc1 := 12) (st1 := .long (b.toInt64) :: _) rfl rfl (n_lle (e := 620 * p + k) rfl rfl rfl (by omega) (hv)) rfl ?_
  refine w_p (pc1 := 14) (al1 := [(6, .long (b.toInt64)), (0, .ref 176), (1, .int (nI (p))), (2, .int (nI (k))), (3, .int (nI (row))), (4, .int (nI (f))), (5, .int (ck g))]) rfl rfl ?_
  refine w_p (pc1 := 15) rfl rfl ?_
  refine w_m0 (pc1 := 18) rfl rfl (h_gC rfl rfl rfl rfl) rfl ?_
  refine w_p (pc1 := 21) (st1 := .int 620 :: _) rfl rfl ?_
  refine w_p (pc1 := 22) rfl rfl ?_
  refine w_imul (pc1 := 23) (u := nI (620)) (v := nI (p)) (z := nI (620 * p)) rfl (nK_mul) rfl ?_
  refine w_p (pc1 := 24) rfl rfl ?_
  refine w_iadd (pc1 := 25) (u := nI (620 * p)) (v := nI (k)) (z := nI (620 * p + k)) rfl (nK_add) rfl ?_
  refine w_m0 (pc1 := 26) (st1 := .int 4 :: _) rfl rfl (n_ile (e := 620 * p + k) rfl rfl rfl (by omega) (hw)) rfl ?_
  refine w_p (pc1 := 156) rfl rfl ?_
  refine w_p (pc1 := 157) rfl rfl ?_
  refine w_m0 (pc1 := 160) rfl rfl (h_gC rfl rfl rfl rfl) rfl ?_
  refine w_p (pc1 := 161) rfl rfl ?_
  refine w_p (pc1 := 162) rfl rfl ?_
  refine w_m0 (pc1 := 165) (st1 := .int (nI (st.length)) :: _) rfl rfl (h_gIe (j := 73) rfl rfl rfl rfl rfl (hS.1)) rfl ?_
  refine w_p (pc1 := 166) rfl rfl ?_
  refine w_p (pc1 := 167) (st1 := .int 1 :: _) rfl rfl ?_
  refine w_iadd (pc1 := 168) (u := nI (st.length)) (v := nI (1)) (z := nI (st.length + 1)) rfl (nK_add) rfl ?_
  refine w_m0 (pc1 := 171) rfl rfl (h_pI (j := 73) rfl rfl rfl rfl rfl rfl rfl ⟨rfl, rfl⟩ rfl) rfl ?_
  refine w_p (pc1 := 172) rfl rfl ?_
  refine w_m0 (pc1 := 175) rfl rfl (h_gC rfl rfl rfl rfl) rfl ?_
  refine w_p (pc1 := 177) (st1 := .int 6 :: _) rfl rfl ?_
  refine w_p (pc1 := 179) rfl rfl ?_
  refine w_imul (pc1 := 180) (u := nI (6)) (v := nI (f)) (z := nI (6 * f)) rfl (nK_mul) rfl ?_
  refine w_p (pc1 := 182) rfl rfl ?_
  refine w_l2i (pc1 := 183) (z := nI (m)) rfl ((i6432 b).trans e1) rfl ?_
  refine w_iadd (pc1 := 184) (u := nI (6 * f)) (v := nI (m)) (z := nI (6 * f + m)) rfl (nK_add) rfl ?_
  refine w_m0 (pc1 := 185) (st1 := .long (e_V (N m)) :: _) rfl rfl (n_lle (e := 6 * f + m) rfl rfl rfl (by omega) (hx)) rfl ?_
  refine w_m0 (pc1 := 186) rfl rfl (n_ls (e := st.length) rfl rfl rfl (by omega)) rfl ?_
  refine w_p (pc1 := 517) rfl rfl ?_
  refine w_r rfl rfl rfl (fun _ _ => rfl) rfl ?_
  exact W1_i (st' := .inl (N m) :: st) (by rw [fo_3, e2]) (by rw [fo_3, e2]) rfl (PIL_p hS) hz (frW_t (frW_I (Or.inl rfl)) frW_J)
set_option maxRecDepth 100000 in
theorem w_p4 {m : Nat} (hp : p ≤ 40) (hk : k < 620) (hw : C.1 106 (620 * p + k) = 5) (hv : C.2.1 107 (620 * p + k) = b.toInt64) (hz : C.1 76 74 = ck z) (e1 : b = nI m) (e2 : b.toNatClampNeg = m) (hi : 6 * f + m < 240) (hx : C.2.1 137 (6 * f + m) = e_V (O m)) (hS : PIL C st) (hl : st.length < 700) : Wd L xs (d + 2) y_252 (0, [(0, .ref 176), (1, .int (nI (p))), (2, .int (nI (k))), (3, .int (nI (row))), (4, .int (nI (f))), (5, .int (ck g))], [], MH C t, sl) (W1 C t sl g z R N O (4, b) st (false :: st.map tyv)) nX := by
  refine w_p (pc1 := 1) rfl rfl ?_
  refine w_m0 (pc1 := 4) rfl rfl (h_gC rfl rfl rfl rfl) rfl ?_
  refine w_p (pc1 := 7) (st1 := .int 620 :: _) rfl rfl ?_
  refine w_p (pc1 := 8) rfl rfl ?_
  refine w_imul (pc1 := 9) (u := nI (620)) (v := nI (p)) (z := nI (620 * p)) rfl (nK_mul) rfl ?_
  refine w_p (pc1 := 10) rfl rfl ?_
  refine w_iadd (pc1 := 11) (u := nI (620 * p)) (v := nI (k)) (z := nI (620 * p + k)) rfl (nK_add) rfl ?_
  refine w_m0 (pc1 := 12) (st1 := .long (b.toInt64) :: _) rfl rfl (n_lle (e := 620 * p + k) rfl rfl rfl (by omega) (hv)) rfl ?_
  refine w_p (pc1 := 14) (al1 := [(6, .long (b.toInt64)), (0, .ref 176), (1, .int (nI (p))), (2, .int (nI (k))), (3, .int (nI (row))), (4, .int (nI (f))), (5, .int (ck g))]) rfl rfl ?_
  refine w_p (pc1 := 15) rfl rfl ?_
  refine w_m0 (pc1 := 18) rfl rfl (h_gC rfl rfl rfl rfl) rfl ?_
  refine w_p (pc1 := 21) (st1 := .int 620 :: _) rfl rfl ?_
  refine w_p (pc1 := 22) rfl rfl ?_
  refine w_imul (pc1 := 23) (u := nI (620)) (v := nI (p)) (z := nI (620 * p)) rfl (nK_mul) rfl ?_
  refine w_p (pc1 := 24) rfl rfl ?_
  refine w_iadd (pc1 := 25) (u := nI (620 * p)) (v := nI (k)) (z := nI (620 * p + k)) rfl (nK_add) rfl ?_
  refine w_m0 (pc1 := 26) (st1 := .int 5 :: _) rfl rfl (n_ile (e := 620 * p + k) rfl rfl rfl (by omega) (hw)) rfl ?_
  refine w_p (pc1 := 189) rfl rfl ?_
  refine w_p (pc1 := 190) rfl rfl ?_
  refine w_m0 (pc1 := 193) rfl rfl (h_gC rfl rfl rfl rfl) rfl ?_
  refine w_p (pc1 := 194) rfl rfl ?_
  refine w_p (pc1 := 195) rfl rfl ?_
  refine w_m0 (pc1 := 198) (st1 := .int (nI (st.length)) :: _) rfl rfl (h_gIe (j := 73) rfl rfl rfl rfl rfl (hS.1)) rfl ?_
  refine w_p (pc1 := 199) rfl rfl ?_
  refine w_p (pc1 := 200) (st1 := .int 1 :: _) rfl rfl ?_
  refine w_iadd (pc1 := 201) (u := nI (st.length)) (v := nI (1)) (z := nI (st.length + 1)) rfl (nK_add) rfl ?_
  refine w_m0 (pc1 := 204) rfl rfl (h_pI (j := 73) rfl rfl rfl rfl rfl rfl rfl ⟨rfl, rfl⟩ rfl) rfl ?_
  refine w_p (pc1 := 205) rfl rfl ?_
  refine w_m0 (pc1 := 208) rfl rfl (h_gC rfl rfl rfl rfl) rfl ?_
  refine w_p (pc1 := 210) (st1 := .int 6 :: _) rfl rfl ?_
  refine w_p (pc1 := 212) rfl rfl ?_
  refine w_imul (pc1 := 213) (u := nI (6)) (v := nI (f)) (z := nI (6 * f)) rfl (nK_mul) rfl ?_
  refine w_p (pc1 := 215) rfl rfl ?_
  refine w_l2i (pc1 := 216) (z := nI (m)) rfl ((i6432 b).trans e1) rfl ?_
  refine w_iadd (pc1 := 217) (u := nI (6 * f)) (v := nI (m)) (z := nI (6 * f + m)) rfl (nK_add) rfl ?_
  refine w_m0 (pc1 := 218) (st1 := .long (e_V (O m)) :: _) rfl rfl (n_lle (e := 6 * f + m) rfl rfl rfl (by omega) (hx)) rfl ?_
  refine w_m0 (pc1 := 219) rfl rfl (n_ls (e := st.length) rfl rfl rfl (by omega)) rfl ?_
  refine w_p (pc1 := 517) rfl rfl ?_
  refine w_r rfl rfl rfl (fun _ _ => rfl) rfl ?_
  exact W1_i (st' := .inl (O m) :: st) (by rw [fo_4, e2]) (by rw [fo_4, e2]) rfl (PIL_p hS) hz (frW_t (frW_I (Or.inl rfl)) frW_J)
set_option maxRecDepth 100000 in
theorem w_u5 {u : Int64} {y : Option Int32} {r : List tv_T} (hp : p ≤ 40) (hk : k < 620) (hw : C.1 106 (620 * p + k) = 6) (hv : C.2.1 107 (620 * p + k) = u) (hz : C.1 76 74 = ck z) (hS : PIL C (.inl y :: r)) (hl : r.length + 1 < 700) : Wd L xs (d + 2) y_252 (0, [(0, .ref 176), (1, .int (nI (p))), (2, .int (nI (k))), (3, .int (nI (row))), (4, .int (nI (f))), (5, .int (ck g))], [], MH C t, sl) (W1 C t sl g z R N O (5, b) (.inl y :: r) (false :: r.map tyv)) nX := by
  cases y with
  | none =>
    refine w_p (pc1 := 1) rfl rfl ?_
    refine w_m0 (pc1 := 4) rfl rfl (h_gC rfl rfl rfl rfl) rfl ?_
    refine w_p (pc1 := 7) (st1 := .int 620 :: _) rfl rfl ?_
    refine w_p (pc1 := 8) rfl rfl ?_
    refine w_imul (pc1 := 9) (u := nI (620)) (v := nI (p)) (z := nI (620 * p)) rfl (nK_mul) rfl ?_
    refine w_p (pc1 := 10) rfl rfl ?_
    refine w_iadd (pc1 := 11) (u := nI (620 * p)) (v := nI (k)) (z := nI (620 * p + k)) rfl (nK_add) rfl ?_
    refine w_m0 (pc1 := 12) (st1 := .long (u) :: _) rfl rfl (n_lle (e := 620 * p + k) rfl rfl rfl (by omega) (hv)) rfl ?_
    refine w_p (pc1 := 14) (al1 := [(6, .long (u)), (0, .ref 176), (1, .int (nI (p))), (2, .int (nI (k))), (3, .int (nI (row))), (4, .int (nI (f))), (5, .int (ck g))]) rfl rfl ?_
    refine w_p (pc1 := 15) rfl rfl ?_
    refine w_m0 (pc1 := 18) rfl rfl (h_gC rfl rfl rfl rfl) rfl ?_
    refine w_p (pc1 := 21) (st1 := .int 620 :: _) rfl rfl ?_
    refine w_p (pc1 := 22) rfl rfl ?_
    refine w_imul (pc1 := 23) (u := nI (620)) (v := nI (p)) (z := nI (620 * p)) rfl (nK_mul) rfl ?_
    refine w_p (pc1 := 24) rfl rfl ?_
    refine w_iadd (pc1 := 25) (u := nI (620 * p)) (v := nI (k)) (z := nI (620 * p + k)) rfl (nK_add) rfl ?_
    refine w_m0 (pc1 := 26) (st1 := .int 6 :: _) rfl rfl (n_ile (e := 620 * p + k) rfl rfl rfl (by omega) (hw)) rfl ?_
    refine w_p (pc1 := 222) rfl rfl ?_
    refine w_p (pc1 := 223) rfl rfl ?_
    refine w_m0 (pc1 := 226) rfl rfl (h_gC rfl rfl rfl rfl) rfl ?_
    refine w_p (pc1 := 227) rfl rfl ?_
    refine w_m0 (pc1 := 230) (st1 := .int (nI (r.length + 1)) :: _) rfl rfl (h_gIe (j := 73) rfl rfl rfl rfl rfl (hS.1)) rfl ?_
    refine w_p (pc1 := 231) (st1 := .int 1 :: _) rfl rfl ?_
    refine w_isub (pc1 := 232) (u := nI (r.length + 1)) (v := nI (1)) (z := nI (r.length + 1 - 1)) rfl (nK_sub (by omega)) rfl ?_
    refine w_p (pc1 := 233) rfl rfl ?_
    refine w_m0 (pc1 := 236) rfl rfl (h_gC rfl rfl rfl rfl) rfl ?_
    refine w_p (pc1 := 237) rfl rfl ?_
    refine w_m0 (pc1 := 240) (st1 := .int (nI (r.length + 1)) :: _) rfl rfl (h_gIe (j := 73) rfl rfl rfl rfl rfl (hS.1)) rfl ?_
    refine w_p (pc1 := 241) (st1 := .int 1 :: _) rfl rfl ?_
    refine w_isub (pc1 := 242) (u := nI (r.length + 1)) (v := nI (1)) (z := nI (r.length + 1 - 1)) rfl (nK_sub (by omega)) rfl ?_
    refine w_m0 (pc1 := 243) (st1 := .long (e_V (none)) :: _) rfl rfl (n_lle (e := r.length + 1 - 1) rfl rfl rfl (by omega) (hS.2.1)) rfl ?_
    refine w_m0 (pc1 := 246) (st1 := .long (-9223372036854775808) :: _) rfl rfl rfl rfl ?_
    refine w_p (pc1 := 247) rfl rfl ?_
    refine w_f (a := 256) (b := 250) (lb_ne_f (by rfl)) rfl rfl ?_
    refine w_m0 (pc1 := 253) (st1 := .long (-9223372036854775808) :: _) rfl rfl rfl rfl ?_
    refine w_p (pc1 := 270) rfl rfl ?_
    refine w_m0 (pc1 := 271) rfl rfl (n_ls (e := r.length + 1 - 1) rfl rfl rfl (by omega)) rfl ?_
    refine w_p (pc1 := 517) rfl rfl ?_
    refine w_r rfl rfl rfl (fun _ _ => rfl) rfl ?_
    exact W1_i (st' := u_1 5 (.inl (none)) :: r) fo_5 fo_5 rfl (PIL_1 (v := u_1 5 (.inl (none))) hS) hz frW_J
  | some x =>
    refine w_p (pc1 := 1) rfl rfl ?_
    refine w_m0 (pc1 := 4) rfl rfl (h_gC rfl rfl rfl rfl) rfl ?_
    refine w_p (pc1 := 7) (st1 := .int 620 :: _) rfl rfl ?_
    refine w_p (pc1 := 8) rfl rfl ?_
    refine w_imul (pc1 := 9) (u := nI (620)) (v := nI (p)) (z := nI (620 * p)) rfl (nK_mul) rfl ?_
    refine w_p (pc1 := 10) rfl rfl ?_
    refine w_iadd (pc1 := 11) (u := nI (620 * p)) (v := nI (k)) (z := nI (620 * p + k)) rfl (nK_add) rfl ?_
    refine w_m0 (pc1 := 12) (st1 := .long (u) :: _) rfl rfl (n_lle (e := 620 * p + k) rfl rfl rfl (by omega) (hv)) rfl ?_
    refine w_p (pc1 := 14) (al1 := [(6, .long (u)), (0, .ref 176), (1, .int (nI (p))), (2, .int (nI (k))), (3, .int (nI (row))), (4, .int (nI (f))), (5, .int (ck g))]) rfl rfl ?_
    refine w_p (pc1 := 15) rfl rfl ?_
    refine w_m0 (pc1 := 18) rfl rfl (h_gC rfl rfl rfl rfl) rfl ?_
    refine w_p (pc1 := 21) (st1 := .int 620 :: _) rfl rfl ?_
    refine w_p (pc1 := 22) rfl rfl ?_
    refine w_imul (pc1 := 23) (u := nI (620)) (v := nI (p)) (z := nI (620 * p)) rfl (nK_mul) rfl ?_
    refine w_p (pc1 := 24) rfl rfl ?_
    refine w_iadd (pc1 := 25) (u := nI (620 * p)) (v := nI (k)) (z := nI (620 * p + k)) rfl (nK_add) rfl ?_
    refine w_m0 (pc1 := 26) (st1 := .int 6 :: _) rfl rfl (n_ile (e := 620 * p + k) rfl rfl rfl (by omega) (hw)) rfl ?_
    refine w_p (pc1 := 222) rfl rfl ?_
    refine w_p (pc1 := 223) rfl rfl ?_
    refine w_m0 (pc1 := 226) rfl rfl (h_gC rfl rfl rfl rfl) rfl ?_
    refine w_p (pc1 := 227) rfl rfl ?_
    refine w_m0 (pc1 := 230) (st1 := .int (nI (r.length + 1)) :: _) rfl rfl (h_gIe (j := 73) rfl rfl rfl rfl rfl (hS.1)) rfl ?_
    refine w_p (pc1 := 231) (st1 := .int 1 :: _) rfl rfl ?_
    refine w_isub (pc1 := 232) (u := nI (r.length + 1)) (v := nI (1)) (z := nI (r.length + 1 - 1)) rfl (nK_sub (by omega)) rfl ?_
    refine w_p (pc1 := 233) rfl rfl ?_
    refine w_m0 (pc1 := 236) rfl rfl (h_gC rfl rfl rfl rfl) rfl ?_
    refine w_p (pc1 := 237) rfl rfl ?_
    refine w_m0 (pc1 := 240) (st1 := .int (nI (r.length + 1)) :: _) rfl rfl (h_gIe (j := 73) rfl rfl rfl rfl rfl (hS.1)) rfl ?_
    refine w_p (pc1 := 241) (st1 := .int 1 :: _) rfl rfl ?_
    refine w_isub (pc1 := 242) (u := nI (r.length + 1)) (v := nI (1)) (z := nI (r.length + 1 - 1)) rfl (nK_sub (by omega)) rfl ?_
    refine w_m0 (pc1 := 243) (st1 := .long (e_V (some x)) :: _) rfl rfl (n_lle (e := r.length + 1 - 1) rfl rfl rfl (by omega) (hS.2.1)) rfl ?_
    refine w_m0 (pc1 := 246) (st1 := .long (-9223372036854775808) :: _) rfl rfl rfl rfl ?_
    refine w_p (pc1 := 247) rfl rfl ?_
    refine w_t (a := 256) (b := 250) (lb_ne_t (by exact e_V_ne x)) rfl rfl ?_
    refine w_p (pc1 := 257) rfl rfl ?_
    refine w_m0 (pc1 := 260) rfl rfl (h_gC rfl rfl rfl rfl) rfl ?_
    refine w_p (pc1 := 261) rfl rfl ?_
    refine w_m0 (pc1 := 264) (st1 := .int (nI (r.length + 1)) :: _) rfl rfl (h_gIe (j := 73) rfl rfl rfl rfl rfl (hS.1)) rfl ?_
    refine w_p (pc1 := 265) (st1 := .int 1 :: _) rfl rfl ?_
    refine w_isub (pc1 := 266) (u := nI (r.length + 1)) (v := nI (1)) (z := nI (r.length + 1 - 1)) rfl (nK_sub (by omega)) rfl ?_
    refine w_m0 (pc1 := 267) (st1 := .long (e_V (some x)) :: _) rfl rfl (n_lle (e := r.length + 1 - 1) rfl rfl rfl (by omega) (hS.2.1)) rfl ?_
    refine w_p (pc1 := 268) (st1 := .long (-(e_V (some x))) :: _) rfl rfl ?_
    refine w_p (pc1 := 269) (st1 := .int ((-(e_V (some x))).toInt32) :: _) rfl rfl ?_
    refine w_p (pc1 := 270) (st1 := .long (((-(e_V (some x))).toInt32).toInt64) :: _) rfl rfl ?_
    refine w_m0 (pc1 := 271) rfl rfl (n_ls (e := r.length + 1 - 1) rfl rfl rfl (by omega)) rfl ?_
    refine w_p (pc1 := 517) rfl rfl ?_
    refine w_r rfl rfl rfl (fun _ _ => rfl) rfl ?_
    exact W1_i (st' := u_1 5 (.inl (some x)) :: r) fo_5 fo_5 rfl (PIL_1 (v := u_1 5 (.inl (some x))) hS) hz frW_J
set_option maxRecDepth 100000 in
theorem w_u6 {u : Int64} {y : Option Bool} {r : List tv_T} (hp : p ≤ 40) (hk : k < 620) (hw : C.1 106 (620 * p + k) = 7) (hv : C.2.1 107 (620 * p + k) = u) (hz : C.1 76 74 = ck z) (hS : PIL C (.inr y :: r)) (hl : r.length + 1 < 700) : Wd L xs (d + 2) y_252 (0, [(0, .ref 176), (1, .int (nI (p))), (2, .int (nI (k))), (3, .int (nI (row))), (4, .int (nI (f))), (5, .int (ck g))], [], MH C t, sl) (W1 C t sl g z R N O (6, b) (.inr y :: r) (true :: r.map tyv)) nX := by
  cases y with
  | none =>
    refine w_p (pc1 := 1) rfl rfl ?_
    refine w_m0 (pc1 := 4) rfl rfl (h_gC rfl rfl rfl rfl) rfl ?_
    refine w_p (pc1 := 7) (st1 := .int 620 :: _) rfl rfl ?_
    refine w_p (pc1 := 8) rfl rfl ?_
    refine w_imul (pc1 := 9) (u := nI (620)) (v := nI (p)) (z := nI (620 * p)) rfl (nK_mul) rfl ?_
    refine w_p (pc1 := 10) rfl rfl ?_
    refine w_iadd (pc1 := 11) (u := nI (620 * p)) (v := nI (k)) (z := nI (620 * p + k)) rfl (nK_add) rfl ?_
    refine w_m0 (pc1 := 12) (st1 := .long (u) :: _) rfl rfl (n_lle (e := 620 * p + k) rfl rfl rfl (by omega) (hv)) rfl ?_
    refine w_p (pc1 := 14) (al1 := [(6, .long (u)), (0, .ref 176), (1, .int (nI (p))), (2, .int (nI (k))), (3, .int (nI (row))), (4, .int (nI (f))), (5, .int (ck g))]) rfl rfl ?_
    refine w_p (pc1 := 15) rfl rfl ?_
    refine w_m0 (pc1 := 18) rfl rfl (h_gC rfl rfl rfl rfl) rfl ?_
    refine w_p (pc1 := 21) (st1 := .int 620 :: _) rfl rfl ?_
    refine w_p (pc1 := 22) rfl rfl ?_
    refine w_imul (pc1 := 23) (u := nI (620)) (v := nI (p)) (z := nI (620 * p)) rfl (nK_mul) rfl ?_
    refine w_p (pc1 := 24) rfl rfl ?_
    refine w_iadd (pc1 := 25) (u := nI (620 * p)) (v := nI (k)) (z := nI (620 * p + k)) rfl (nK_add) rfl ?_
    refine w_m0 (pc1 := 26) (st1 := .int 7 :: _) rfl rfl (n_ile (e := 620 * p + k) rfl rfl rfl (by omega) (hw)) rfl ?_
    refine w_p (pc1 := 274) rfl rfl ?_
    refine w_p (pc1 := 275) rfl rfl ?_
    refine w_m0 (pc1 := 278) rfl rfl (h_gC rfl rfl rfl rfl) rfl ?_
    refine w_p (pc1 := 279) rfl rfl ?_
    refine w_m0 (pc1 := 282) (st1 := .int (nI (r.length + 1)) :: _) rfl rfl (h_gIe (j := 73) rfl rfl rfl rfl rfl (hS.1)) rfl ?_
    refine w_p (pc1 := 283) (st1 := .int 1 :: _) rfl rfl ?_
    refine w_isub (pc1 := 284) (u := nI (r.length + 1)) (v := nI (1)) (z := nI (r.length + 1 - 1)) rfl (nK_sub (by omega)) rfl ?_
    refine w_p (pc1 := 285) rfl rfl ?_
    refine w_m0 (pc1 := 288) rfl rfl (h_gC rfl rfl rfl rfl) rfl ?_
    refine w_p (pc1 := 289) rfl rfl ?_
    refine w_m0 (pc1 := 292) (st1 := .int (nI (r.length + 1)) :: _) rfl rfl (h_gIe (j := 73) rfl rfl rfl rfl rfl (hS.1)) rfl ?_
    refine w_p (pc1 := 293) (st1 := .int 1 :: _) rfl rfl ?_
    refine w_isub (pc1 := 294) (u := nI (r.length + 1)) (v := nI (1)) (z := nI (r.length + 1 - 1)) rfl (nK_sub (by omega)) rfl ?_
    refine w_m0 (pc1 := 295) (st1 := .long (t_M (none)) :: _) rfl rfl (n_lle (e := r.length + 1 - 1) rfl rfl rfl (by omega) (hS.2.1)) rfl ?_
    refine w_m0 (pc1 := 298) (st1 := .long (-9223372036854775808) :: _) rfl rfl rfl rfl ?_
    refine w_p (pc1 := 299) rfl rfl ?_
    refine w_f (a := 308) (b := 302) (lb_ne_f (by rfl)) rfl rfl ?_
    refine w_m0 (pc1 := 305) (st1 := .long (-9223372036854775808) :: _) rfl rfl rfl rfl ?_
    refine w_p (pc1 := 321) rfl rfl ?_
    refine w_m0 (pc1 := 322) rfl rfl (n_ls (e := r.length + 1 - 1) rfl rfl rfl (by omega)) rfl ?_
    refine w_p (pc1 := 517) rfl rfl ?_
    refine w_r rfl rfl rfl (fun _ _ => rfl) rfl ?_
    exact W1_i (st' := u_1 6 (.inr (none)) :: r) fo_6 fo_6 rfl (PIL_1 (v := u_1 6 (.inr (none))) hS) hz frW_J
  | some y => cases y with
    | false =>
      refine w_p (pc1 := 1) rfl rfl ?_
      refine w_m0 (pc1 := 4) rfl rfl (h_gC rfl rfl rfl rfl) rfl ?_
      refine w_p (pc1 := 7) (st1 := .int 620 :: _) rfl rfl ?_
      refine w_p (pc1 := 8) rfl rfl ?_
      refine w_imul (pc1 := 9) (u := nI (620)) (v := nI (p)) (z := nI (620 * p)) rfl (nK_mul) rfl ?_
      refine w_p (pc1 := 10) rfl rfl ?_
      refine w_iadd (pc1 := 11) (u := nI (620 * p)) (v := nI (k)) (z := nI (620 * p + k)) rfl (nK_add) rfl ?_
      refine w_m0 (pc1 := 12) (st1 := .long (u) :: _) rfl rfl (n_lle (e := 620 * p + k) rfl rfl rfl (by omega) (hv)) rfl ?_
      refine w_p (pc1 := 14) (al1 := [(6, .long (u)), (0, .ref 176), (1, .int (nI (p))), (2, .int (nI (k))), (3, .int (nI (row))), (4, .int (nI (f))), (5, .int (ck g))]) rfl rfl ?_
      refine w_p (pc1 := 15) rfl rfl ?_
      refine w_m0 (pc1 := 18) rfl rfl (h_gC rfl rfl rfl rfl) rfl ?_
      refine w_p (pc1 := 21) (st1 := .int 620 :: _) rfl rfl ?_
      refine w_p (pc1 := 22) rfl rfl ?_
      refine w_imul (pc1 := 23) (u := nI (620)) (v := nI (p)) (z := nI (620 * p)) rfl (nK_mul) rfl ?_
      refine w_p (pc1 := 24) rfl rfl ?_
      refine w_iadd (pc1 := 25) (u := nI (620 * p)) (v := nI (k)) (z := nI (620 * p + k)) rfl (nK_add) rfl ?_
      refine w_m0 (pc1 := 26) (st1 := .int 7 :: _) rfl rfl (n_ile (e := 620 * p + k) rfl rfl rfl (by omega) (hw)) rfl ?_
      refine w_p (pc1 := 274) rfl rfl ?_
      refine w_p (pc1 := 275) rfl rfl ?_
      refine w_m0 (pc1 := 278) rfl rfl (h_gC rfl rfl rfl rfl) rfl ?_
      refine w_p (pc1 := 279) rfl rfl ?_
      refine w_m0 (pc1 := 282) (st1 := .int (nI (r.length + 1)) :: _) rfl rfl (h_gIe (j := 73) rfl rfl rfl rfl rfl (hS.1)) rfl ?_
      refine w_p (pc1 := 283) (st1 := .int 1 :: _) rfl rfl ?_
      refine w_isub (pc1 := 284) (u := nI (r.length + 1)) (v := nI (1)) (z := nI (r.length + 1 - 1)) rfl (nK_sub (by omega)) rfl ?_
      refine w_p (pc1 := 285) rfl rfl ?_
      refine w_m0 (pc1 := 288) rfl rfl (h_gC rfl rfl rfl rfl) rfl ?_
      refine w_p (pc1 := 289) rfl rfl ?_
      refine w_m0 (pc1 := 292) (st1 := .int (nI (r.length + 1)) :: _) rfl rfl (h_gIe (j := 73) rfl rfl rfl rfl rfl (hS.1)) rfl ?_
      refine w_p (pc1 := 293) (st1 := .int 1 :: _) rfl rfl ?_
      refine w_isub (pc1 := 294) (u := nI (r.length + 1)) (v := nI (1)) (z := nI (r.length + 1 - 1)) rfl (nK_sub (by omega)) rfl ?_
      refine w_m0 (pc1 := 295) (st1 := .long (t_M (some false)) :: _) rfl rfl (n_lle (e := r.length + 1 - 1) rfl rfl rfl (by omega) (hS.2.1)) rfl ?_
      refine w_m0 (pc1 := 298) (st1 := .long (-9223372036854775808) :: _) rfl rfl rfl rfl ?_
      refine w_p (pc1 := 299) rfl rfl ?_
      refine w_t (a := 308) (b := 302) (lb_ne_t (by decide)) rfl rfl ?_
      refine w_p (pc1 := 309) (st1 := .long 1 :: _) rfl rfl ?_
      refine w_p (pc1 := 310) rfl rfl ?_
      refine w_m0 (pc1 := 313) rfl rfl (h_gC rfl rfl rfl rfl) rfl ?_
      refine w_p (pc1 := 314) rfl rfl ?_
      refine w_m0 (pc1 := 317) (st1 := .int (nI (r.length + 1)) :: _) rfl rfl (h_gIe (j := 73) rfl rfl rfl rfl rfl (hS.1)) rfl ?_
      refine w_p (pc1 := 318) (st1 := .int 1 :: _) rfl rfl ?_
      refine w_isub (pc1 := 319) (u := nI (r.length + 1)) (v := nI (1)) (z := nI (r.length + 1 - 1)) rfl (nK_sub (by omega)) rfl ?_
      refine w_m0 (pc1 := 320) (st1 := .long (t_M (some false)) :: _) rfl rfl (n_lle (e := r.length + 1 - 1) rfl rfl rfl (by omega) (hS.2.1)) rfl ?_
      refine w_p (pc1 := 321) (st1 := .long (((1 : Int64)) - (t_M (some false))) :: _) rfl rfl ?_
      refine w_m0 (pc1 := 322) rfl rfl (n_ls (e := r.length + 1 - 1) rfl rfl rfl (by omega)) rfl ?_
      refine w_p (pc1 := 517) rfl rfl ?_
      refine w_r rfl rfl rfl (fun _ _ => rfl) rfl ?_
      exact W1_i (st' := u_1 6 (.inr (some false)) :: r) fo_6 fo_6 rfl (PIL_1 (v := u_1 6 (.inr (some false))) hS) hz frW_J
    | true =>
      refine w_p (pc1 := 1) rfl rfl ?_
      refine w_m0 (pc1 := 4) rfl rfl (h_gC rfl rfl rfl rfl) rfl ?_
      refine w_p (pc1 := 7) (st1 := .int 620 :: _) rfl rfl ?_
      refine w_p (pc1 := 8) rfl rfl ?_
      refine w_imul (pc1 := 9) (u := nI (620)) (v := nI (p)) (z := nI (620 * p)) rfl (nK_mul) rfl ?_
      refine w_p (pc1 := 10) rfl rfl ?_
      refine w_iadd (pc1 := 11) (u := nI (620 * p)) (v := nI (k)) (z := nI (620 * p + k)) rfl (nK_add) rfl ?_
      refine w_m0 (pc1 := 12) (st1 := .long (u) :: _) rfl rfl (n_lle (e := 620 * p + k) rfl rfl rfl (by omega) (hv)) rfl ?_
      refine w_p (pc1 := 14) (al1 := [(6, .long (u)), (0, .ref 176), (1, .int (nI (p))), (2, .int (nI (k))), (3, .int (nI (row))), (4, .int (nI (f))), (5, .int (ck g))]) rfl rfl ?_
      refine w_p (pc1 := 15) rfl rfl ?_
      refine w_m0 (pc1 := 18) rfl rfl (h_gC rfl rfl rfl rfl) rfl ?_
      refine w_p (pc1 := 21) (st1 := .int 620 :: _) rfl rfl ?_
      refine w_p (pc1 := 22) rfl rfl ?_
      refine w_imul (pc1 := 23) (u := nI (620)) (v := nI (p)) (z := nI (620 * p)) rfl (nK_mul) rfl ?_
      refine w_p (pc1 := 24) rfl rfl ?_
      refine w_iadd (pc1 := 25) (u := nI (620 * p)) (v := nI (k)) (z := nI (620 * p + k)) rfl (nK_add) rfl ?_
      refine w_m0 (pc1 := 26) (st1 := .int 7 :: _) rfl rfl (n_ile (e := 620 * p + k) rfl rfl rfl (by omega) (hw)) rfl ?_
      refine w_p (pc1 := 274) rfl rfl ?_
      refine w_p (pc1 := 275) rfl rfl ?_
      refine w_m0 (pc1 := 278) rfl rfl (h_gC rfl rfl rfl rfl) rfl ?_
      refine w_p (pc1 := 279) rfl rfl ?_
      refine w_m0 (pc1 := 282) (st1 := .int (nI (r.length + 1)) :: _) rfl rfl (h_gIe (j := 73) rfl rfl rfl rfl rfl (hS.1)) rfl ?_
      refine w_p (pc1 := 283) (st1 := .int 1 :: _) rfl rfl ?_
      refine w_isub (pc1 := 284) (u := nI (r.length + 1)) (v := nI (1)) (z := nI (r.length + 1 - 1)) rfl (nK_sub (by omega)) rfl ?_
      refine w_p (pc1 := 285) rfl rfl ?_
      refine w_m0 (pc1 := 288) rfl rfl (h_gC rfl rfl rfl rfl) rfl ?_
      refine w_p (pc1 := 289) rfl rfl ?_
      refine w_m0 (pc1 := 292) (st1 := .int (nI (r.length + 1)) :: _) rfl rfl (h_gIe (j := 73) rfl rfl rfl rfl rfl (hS.1)) rfl ?_
      refine w_p (pc1 := 293) (st1 := .int 1 :: _) rfl rfl ?_
      refine w_isub (pc1 := 294) (u := nI (r.length + 1)) (v := nI (1)) (z := nI (r.length + 1 - 1)) rfl (nK_sub (by omega)) rfl ?_
      refine w_m0 (pc1 := 295) (st1 := .long (t_M (some true)) :: _) rfl rfl (n_lle (e := r.length + 1 - 1) rfl rfl rfl (by omega) (hS.2.1)) rfl ?_
      refine w_m0 (pc1 := 298) (st1 := .long (-9223372036854775808) :: _) rfl rfl rfl rfl ?_
      refine w_p (pc1 := 299) rfl rfl ?_
      refine w_t (a := 308) (b := 302) (lb_ne_t (by decide)) rfl rfl ?_
      refine w_p (pc1 := 309) (st1 := .long 1 :: _) rfl rfl ?_
      refine w_p (pc1 := 310) rfl rfl ?_
      refine w_m0 (pc1 := 313) rfl rfl (h_gC rfl rfl rfl rfl) rfl ?_
      refine w_p (pc1 := 314) rfl rfl ?_
      refine w_m0 (pc1 := 317) (st1 := .int (nI (r.length + 1)) :: _) rfl rfl (h_gIe (j := 73) rfl rfl rfl rfl rfl (hS.1)) rfl ?_
      refine w_p (pc1 := 318) (st1 := .int 1 :: _) rfl rfl ?_
      refine w_isub (pc1 := 319) (u := nI (r.length + 1)) (v := nI (1)) (z := nI (r.length + 1 - 1)) rfl (nK_sub (by omega)) rfl ?_
      refine w_m0 (pc1 := 320) (st1 := .long (t_M (some true)) :: _) rfl rfl (n_lle (e := r.length + 1 - 1) rfl rfl rfl (by omega) (hS.2.1)) rfl ?_
      refine w_p (pc1 := 321) (st1 := .long (((1 : Int64)) - (t_M (some true))) :: _) rfl rfl ?_
      refine w_m0 (pc1 := 322) rfl rfl (n_ls (e := r.length + 1 - 1) rfl rfl rfl (by omega)) rfl ?_
      refine w_p (pc1 := 517) rfl rfl ?_
      refine w_r rfl rfl rfl (fun _ _ => rfl) rfl ?_
      exact W1_i (st' := u_1 6 (.inr (some true)) :: r) fo_6 fo_6 rfl (PIL_1 (v := u_1 6 (.inr (some true))) hS) hz frW_J
set_option maxRecDepth 100000 in
theorem w_u7 {u : Int64} {y : Option Int32} {r : List tv_T} (hp : p ≤ 40) (hk : k < 620) (hw : C.1 106 (620 * p + k) = 8) (hv : C.2.1 107 (620 * p + k) = u) (hz : C.1 76 74 = ck z) (hS : PIL C (.inl y :: r)) (hl : r.length + 1 < 700) : Wd L xs (d + 2) y_252 (0, [(0, .ref 176), (1, .int (nI (p))), (2, .int (nI (k))), (3, .int (nI (row))), (4, .int (nI (f))), (5, .int (ck g))], [], MH C t, sl) (W1 C t sl g z R N O (7, b) (.inl y :: r) (true :: r.map tyv)) nX := by
  cases y with
  | none =>
    refine w_p (pc1 := 1) rfl rfl ?_
    refine w_m0 (pc1 := 4) rfl rfl (h_gC rfl rfl rfl rfl) rfl ?_
    refine w_p (pc1 := 7) (st1 := .int 620 :: _) rfl rfl ?_
    refine w_p (pc1 := 8) rfl rfl ?_
    refine w_imul (pc1 := 9) (u := nI (620)) (v := nI (p)) (z := nI (620 * p)) rfl (nK_mul) rfl ?_
    refine w_p (pc1 := 10) rfl rfl ?_
    refine w_iadd (pc1 := 11) (u := nI (620 * p)) (v := nI (k)) (z := nI (620 * p + k)) rfl (nK_add) rfl ?_
    refine w_m0 (pc1 := 12) (st1 := .long (u) :: _) rfl rfl (n_lle (e := 620 * p + k) rfl rfl rfl (by omega) (hv)) rfl ?_
    refine w_p (pc1 := 14) (al1 := [(6, .long (u)), (0, .ref 176), (1, .int (nI (p))), (2, .int (nI (k))), (3, .int (nI (row))), (4, .int (nI (f))), (5, .int (ck g))]) rfl rfl ?_
    refine w_p (pc1 := 15) rfl rfl ?_
    refine w_m0 (pc1 := 18) rfl rfl (h_gC rfl rfl rfl rfl) rfl ?_
    refine w_p (pc1 := 21) (st1 := .int 620 :: _) rfl rfl ?_
    refine w_p (pc1 := 22) rfl rfl ?_
    refine w_imul (pc1 := 23) (u := nI (620)) (v := nI (p)) (z := nI (620 * p)) rfl (nK_mul) rfl ?_
    refine w_p (pc1 := 24) rfl rfl ?_
    refine w_iadd (pc1 := 25) (u := nI (620 * p)) (v := nI (k)) (z := nI (620 * p + k)) rfl (nK_add) rfl ?_
    refine w_m0 (pc1 := 26) (st1 := .int 8 :: _) rfl rfl (n_ile (e := 620 * p + k) rfl rfl rfl (by omega) (hw)) rfl ?_
    refine w_p (pc1 := 325) rfl rfl ?_
    refine w_p (pc1 := 326) rfl rfl ?_
    refine w_m0 (pc1 := 329) rfl rfl (h_gC rfl rfl rfl rfl) rfl ?_
    refine w_p (pc1 := 330) rfl rfl ?_
    refine w_m0 (pc1 := 333) (st1 := .int (nI (r.length + 1)) :: _) rfl rfl (h_gIe (j := 73) rfl rfl rfl rfl rfl (hS.1)) rfl ?_
    refine w_p (pc1 := 334) (st1 := .int 1 :: _) rfl rfl ?_
    refine w_isub (pc1 := 335) (u := nI (r.length + 1)) (v := nI (1)) (z := nI (r.length + 1 - 1)) rfl (nK_sub (by omega)) rfl ?_
    refine w_p (pc1 := 336) rfl rfl ?_
    refine w_m0 (pc1 := 339) rfl rfl (h_gC rfl rfl rfl rfl) rfl ?_
    refine w_p (pc1 := 340) rfl rfl ?_
    refine w_m0 (pc1 := 343) (st1 := .int (nI (r.length + 1)) :: _) rfl rfl (h_gIe (j := 73) rfl rfl rfl rfl rfl (hS.1)) rfl ?_
    refine w_p (pc1 := 344) (st1 := .int 1 :: _) rfl rfl ?_
    refine w_isub (pc1 := 345) (u := nI (r.length + 1)) (v := nI (1)) (z := nI (r.length + 1 - 1)) rfl (nK_sub (by omega)) rfl ?_
    refine w_m0 (pc1 := 346) (st1 := .long (e_V (none)) :: _) rfl rfl (n_lle (e := r.length + 1 - 1) rfl rfl rfl (by omega) (hS.2.1)) rfl ?_
    refine w_m0 (pc1 := 349) (st1 := .long (-9223372036854775808) :: _) rfl rfl rfl rfl ?_
    refine w_p (pc1 := 350) rfl rfl ?_
    refine w_f (a := 357) (b := 353) (lb_ne_f (by rfl)) rfl rfl ?_
    refine w_p (pc1 := 354) (st1 := .long 1 :: _) rfl rfl ?_
    refine w_p (pc1 := 358) rfl rfl ?_
    refine w_m0 (pc1 := 359) rfl rfl (n_ls (e := r.length + 1 - 1) rfl rfl rfl (by omega)) rfl ?_
    refine w_p (pc1 := 517) rfl rfl ?_
    refine w_r rfl rfl rfl (fun _ _ => rfl) rfl ?_
    exact W1_i (st' := u_1 7 (.inl (none)) :: r) fo_7 fo_7 rfl (PIL_1 (v := u_1 7 (.inl (none))) hS) hz frW_J
  | some x =>
    refine w_p (pc1 := 1) rfl rfl ?_
    refine w_m0 (pc1 := 4) rfl rfl (h_gC rfl rfl rfl rfl) rfl ?_
    refine w_p (pc1 := 7) (st1 := .int 620 :: _) rfl rfl ?_
    refine w_p (pc1 := 8) rfl rfl ?_
    refine w_imul (pc1 := 9) (u := nI (620)) (v := nI (p)) (z := nI (620 * p)) rfl (nK_mul) rfl ?_
    refine w_p (pc1 := 10) rfl rfl ?_
    refine w_iadd (pc1 := 11) (u := nI (620 * p)) (v := nI (k)) (z := nI (620 * p + k)) rfl (nK_add) rfl ?_
    refine w_m0 (pc1 := 12) (st1 := .long (u) :: _) rfl rfl (n_lle (e := 620 * p + k) rfl rfl rfl (by omega) (hv)) rfl ?_
    refine w_p (pc1 := 14) (al1 := [(6, .long (u)), (0, .ref 176), (1, .int (nI (p))), (2, .int (nI (k))), (3, .int (nI (row))), (4, .int (nI (f))), (5, .int (ck g))]) rfl rfl ?_
    refine w_p (pc1 := 15) rfl rfl ?_
    refine w_m0 (pc1 := 18) rfl rfl (h_gC rfl rfl rfl rfl) rfl ?_
    refine w_p (pc1 := 21) (st1 := .int 620 :: _) rfl rfl ?_
    refine w_p (pc1 := 22) rfl rfl ?_
    refine w_imul (pc1 := 23) (u := nI (620)) (v := nI (p)) (z := nI (620 * p)) rfl (nK_mul) rfl ?_
    refine w_p (pc1 := 24) rfl rfl ?_
    refine w_iadd (pc1 := 25) (u := nI (620 * p)) (v := nI (k)) (z := nI (620 * p + k)) rfl (nK_add) rfl ?_
    refine w_m0 (pc1 := 26) (st1 := .int 8 :: _) rfl rfl (n_ile (e := 620 * p + k) rfl rfl rfl (by omega) (hw)) rfl ?_
    refine w_p (pc1 := 325) rfl rfl ?_
    refine w_p (pc1 := 326) rfl rfl ?_
    refine w_m0 (pc1 := 329) rfl rfl (h_gC rfl rfl rfl rfl) rfl ?_
    refine w_p (pc1 := 330) rfl rfl ?_
    refine w_m0 (pc1 := 333) (st1 := .int (nI (r.length + 1)) :: _) rfl rfl (h_gIe (j := 73) rfl rfl rfl rfl rfl (hS.1)) rfl ?_
    refine w_p (pc1 := 334) (st1 := .int 1 :: _) rfl rfl ?_
    refine w_isub (pc1 := 335) (u := nI (r.length + 1)) (v := nI (1)) (z := nI (r.length + 1 - 1)) rfl (nK_sub (by omega)) rfl ?_
    refine w_p (pc1 := 336) rfl rfl ?_
    refine w_m0 (pc1 := 339) rfl rfl (h_gC rfl rfl rfl rfl) rfl ?_
    refine w_p (pc1 := 340) rfl rfl ?_
    refine w_m0 (pc1 := 343) (st1 := .int (nI (r.length + 1)) :: _) rfl rfl (h_gIe (j := 73) rfl rfl rfl rfl rfl (hS.1)) rfl ?_
    refine w_p (pc1 := 344) (st1 := .int 1 :: _) rfl rfl ?_
    refine w_isub (pc1 := 345) (u := nI (r.length + 1)) (v := nI (1)) (z := nI (r.length + 1 - 1)) rfl (nK_sub (by omega)) rfl ?_
    refine w_m0 (pc1 := 346) (st1 := .long (e_V (some x)) :: _) rfl rfl (n_lle (e := r.length + 1 - 1) rfl rfl rfl (by omega) (hS.2.1)) rfl ?_
    refine w_m0 (pc1 := 349) (st1 := .long (-9223372036854775808) :: _) rfl rfl rfl rfl ?_
    refine w_p (pc1 := 350) rfl rfl ?_
    refine w_t (a := 357) (b := 353) (lb_ne_t (by exact e_V_ne x)) rfl rfl ?_
    refine w_p (pc1 := 358) (st1 := .long 0 :: _) rfl rfl ?_
    refine w_m0 (pc1 := 359) rfl rfl (n_ls (e := r.length + 1 - 1) rfl rfl rfl (by omega)) rfl ?_
    refine w_p (pc1 := 517) rfl rfl ?_
    refine w_r rfl rfl rfl (fun _ _ => rfl) rfl ?_
    exact W1_i (st' := u_1 7 (.inl (some x)) :: r) fo_7 fo_7 rfl (PIL_1 (v := u_1 7 (.inl (some x))) hS) hz frW_J
set_option maxRecDepth 100000 in
theorem w_u8 {u : Int64} {y : Option Int32} {r : List tv_T} (hp : p ≤ 40) (hk : k < 620) (hw : C.1 106 (620 * p + k) = 9) (hv : C.2.1 107 (620 * p + k) = u) (hz : C.1 76 74 = ck z) (hS : PIL C (.inl y :: r)) (hl : r.length + 1 < 700) : Wd L xs (d + 2) y_252 (0, [(0, .ref 176), (1, .int (nI (p))), (2, .int (nI (k))), (3, .int (nI (row))), (4, .int (nI (f))), (5, .int (ck g))], [], MH C t, sl) (W1 C t sl g z R N O (8, b) (.inl y :: r) (true :: r.map tyv)) nX := by
  cases y with
  | none =>
    refine w_p (pc1 := 1) rfl rfl ?_
    refine w_m0 (pc1 := 4) rfl rfl (h_gC rfl rfl rfl rfl) rfl ?_
    refine w_p (pc1 := 7) (st1 := .int 620 :: _) rfl rfl ?_
    refine w_p (pc1 := 8) rfl rfl ?_
    refine w_imul (pc1 := 9) (u := nI (620)) (v := nI (p)) (z := nI (620 * p)) rfl (nK_mul) rfl ?_
    refine w_p (pc1 := 10) rfl rfl ?_
    refine w_iadd (pc1 := 11) (u := nI (620 * p)) (v := nI (k)) (z := nI (620 * p + k)) rfl (nK_add) rfl ?_
    refine w_m0 (pc1 := 12) (st1 := .long (u) :: _) rfl rfl (n_lle (e := 620 * p + k) rfl rfl rfl (by omega) (hv)) rfl ?_
    refine w_p (pc1 := 14) (al1 := [(6, .long (u)), (0, .ref 176), (1, .int (nI (p))), (2, .int (nI (k))), (3, .int (nI (row))), (4, .int (nI (f))), (5, .int (ck g))]) rfl rfl ?_
    refine w_p (pc1 := 15) rfl rfl ?_
    refine w_m0 (pc1 := 18) rfl rfl (h_gC rfl rfl rfl rfl) rfl ?_
    refine w_p (pc1 := 21) (st1 := .int 620 :: _) rfl rfl ?_
    refine w_p (pc1 := 22) rfl rfl ?_
    refine w_imul (pc1 := 23) (u := nI (620)) (v := nI (p)) (z := nI (620 * p)) rfl (nK_mul) rfl ?_
    refine w_p (pc1 := 24) rfl rfl ?_
    refine w_iadd (pc1 := 25) (u := nI (620 * p)) (v := nI (k)) (z := nI (620 * p + k)) rfl (nK_add) rfl ?_
    refine w_m0 (pc1 := 26) (st1 := .int 9 :: _) rfl rfl (n_ile (e := 620 * p + k) rfl rfl rfl (by omega) (hw)) rfl ?_
    refine w_p (pc1 := 362) rfl rfl ?_
    refine w_p (pc1 := 363) rfl rfl ?_
    refine w_m0 (pc1 := 366) rfl rfl (h_gC rfl rfl rfl rfl) rfl ?_
    refine w_p (pc1 := 367) rfl rfl ?_
    refine w_m0 (pc1 := 370) (st1 := .int (nI (r.length + 1)) :: _) rfl rfl (h_gIe (j := 73) rfl rfl rfl rfl rfl (hS.1)) rfl ?_
    refine w_p (pc1 := 371) (st1 := .int 1 :: _) rfl rfl ?_
    refine w_isub (pc1 := 372) (u := nI (r.length + 1)) (v := nI (1)) (z := nI (r.length + 1 - 1)) rfl (nK_sub (by omega)) rfl ?_
    refine w_p (pc1 := 373) rfl rfl ?_
    refine w_m0 (pc1 := 376) rfl rfl (h_gC rfl rfl rfl rfl) rfl ?_
    refine w_p (pc1 := 377) rfl rfl ?_
    refine w_m0 (pc1 := 380) (st1 := .int (nI (r.length + 1)) :: _) rfl rfl (h_gIe (j := 73) rfl rfl rfl rfl rfl (hS.1)) rfl ?_
    refine w_p (pc1 := 381) (st1 := .int 1 :: _) rfl rfl ?_
    refine w_isub (pc1 := 382) (u := nI (r.length + 1)) (v := nI (1)) (z := nI (r.length + 1 - 1)) rfl (nK_sub (by omega)) rfl ?_
    refine w_m0 (pc1 := 383) (st1 := .long (e_V (none)) :: _) rfl rfl (n_lle (e := r.length + 1 - 1) rfl rfl rfl (by omega) (hS.2.1)) rfl ?_
    refine w_m0 (pc1 := 386) (st1 := .long (-9223372036854775808) :: _) rfl rfl rfl rfl ?_
    refine w_p (pc1 := 387) rfl rfl ?_
    refine w_f (a := 394) (b := 390) (lb_ne_f (by rfl)) rfl rfl ?_
    refine w_p (pc1 := 391) (st1 := .long 0 :: _) rfl rfl ?_
    refine w_p (pc1 := 395) rfl rfl ?_
    refine w_m0 (pc1 := 396) rfl rfl (n_ls (e := r.length + 1 - 1) rfl rfl rfl (by omega)) rfl ?_
    refine w_p (pc1 := 517) rfl rfl ?_
    refine w_r rfl rfl rfl (fun _ _ => rfl) rfl ?_
    exact W1_i (st' := u_1 8 (.inl (none)) :: r) fo_8 fo_8 rfl (PIL_1 (v := u_1 8 (.inl (none))) hS) hz frW_J
  | some x =>
    refine w_p (pc1 := 1) rfl rfl ?_
    refine w_m0 (pc1 := 4) rfl rfl (h_gC rfl rfl rfl rfl) rfl ?_
    refine w_p (pc1 := 7) (st1 := .int 620 :: _) rfl rfl ?_
    refine w_p (pc1 := 8) rfl rfl ?_
    refine w_imul (pc1 := 9) (u := nI (620)) (v := nI (p)) (z := nI (620 * p)) rfl (nK_mul) rfl ?_
    refine w_p (pc1 := 10) rfl rfl ?_
    refine w_iadd (pc1 := 11) (u := nI (620 * p)) (v := nI (k)) (z := nI (620 * p + k)) rfl (nK_add) rfl ?_
    refine w_m0 (pc1 := 12) (st1 := .long (u) :: _) rfl rfl (n_lle (e := 620 * p + k) rfl rfl rfl (by omega) (hv)) rfl ?_
    refine w_p (pc1 := 14) (al1 := [(6, .long (u)), (0, .ref 176), (1, .int (nI (p))), (2, .int (nI (k))), (3, .int (nI (row))), (4, .int (nI (f))), (5, .int (ck g))]) rfl rfl ?_
    refine w_p (pc1 := 15) rfl rfl ?_
    refine w_m0 (pc1 := 18) rfl rfl (h_gC rfl rfl rfl rfl) rfl ?_
    refine w_p (pc1 := 21) (st1 := .int 620 :: _) rfl rfl ?_
    refine w_p (pc1 := 22) rfl rfl ?_
    refine w_imul (pc1 := 23) (u := nI (620)) (v := nI (p)) (z := nI (620 * p)) rfl (nK_mul) rfl ?_
    refine w_p (pc1 := 24) rfl rfl ?_
    refine w_iadd (pc1 := 25) (u := nI (620 * p)) (v := nI (k)) (z := nI (620 * p + k)) rfl (nK_add) rfl ?_
    refine w_m0 (pc1 := 26) (st1 := .int 9 :: _) rfl rfl (n_ile (e := 620 * p + k) rfl rfl rfl (by omega) (hw)) rfl ?_
    refine w_p (pc1 := 362) rfl rfl ?_
    refine w_p (pc1 := 363) rfl rfl ?_
    refine w_m0 (pc1 := 366) rfl rfl (h_gC rfl rfl rfl rfl) rfl ?_
    refine w_p (pc1 := 367) rfl rfl ?_
    refine w_m0 (pc1 := 370) (st1 := .int (nI (r.length + 1)) :: _) rfl rfl (h_gIe (j := 73) rfl rfl rfl rfl rfl (hS.1)) rfl ?_
    refine w_p (pc1 := 371) (st1 := .int 1 :: _) rfl rfl ?_
    refine w_isub (pc1 := 372) (u := nI (r.length + 1)) (v := nI (1)) (z := nI (r.length + 1 - 1)) rfl (nK_sub (by omega)) rfl ?_
    refine w_p (pc1 := 373) rfl rfl ?_
    refine w_m0 (pc1 := 376) rfl rfl (h_gC rfl rfl rfl rfl) rfl ?_
    refine w_p (pc1 := 377) rfl rfl ?_
    refine w_m0 (pc1 := 380) (st1 := .int (nI (r.length + 1)) :: _) rfl rfl (h_gIe (j := 73) rfl rfl rfl rfl rfl (hS.1)) rfl ?_
    refine w_p (pc1 := 381) (st1 := .int 1 :: _) rfl rfl ?_
    refine w_isub (pc1 := 382) (u := nI (r.length + 1)) (v := nI (1)) (z := nI (r.length + 1 - 1)) rfl (nK_sub (by omega)) rfl ?_
    refine w_m0 (pc1 := 383) (st1 := .long (e_V (some x)) :: _) rfl rfl (n_lle (e := r.length + 1 - 1) rfl rfl rfl (by omega) (hS.2.1)) rfl ?_
    refine w_m0 (pc1 := 386) (st1 := .long (-9223372036854775808) :: _) rfl rfl rfl rfl ?_
    refine w_p (pc1 := 387) rfl rfl ?_
    refine w_t (a := 394) (b := 390) (lb_ne_t (by exact e_V_ne x)) rfl rfl ?_
    refine w_p (pc1 := 395) (st1 := .long 1 :: _) rfl rfl ?_
    refine w_m0 (pc1 := 396) rfl rfl (n_ls (e := r.length + 1 - 1) rfl rfl rfl (by omega)) rfl ?_
    refine w_p (pc1 := 517) rfl rfl ?_
    refine w_r rfl rfl rfl (fun _ _ => rfl) rfl ?_
    exact W1_i (st' := u_1 8 (.inl (some x)) :: r) fo_8 fo_8 rfl (PIL_1 (v := u_1 8 (.inl (some x))) hS) hz frW_J
set_option maxRecDepth 100000 in
theorem w_b9 {u : Int64} {x y : Option Int32} {r : List tv_T} (hp : p ≤ 40) (hk : k < 620) (hw : C.1 106 (620 * p + k) = 12) (hv : C.2.1 107 (620 * p + k) = 43) (hz : C.1 76 74 = ck z) (hS : PIL C (.inl y :: .inl x :: r)) (hl : r.length + 1 + 1 < 700) : Wd L xs (d + 2) y_252 (0, [(0, .ref 176), (1, .int (nI (p))), (2, .int (nI (k))), (3, .int (nI (row))), (4, .int (nI (f))), (5, .int (ck g))], [], MH C t, sl) (W1 C t sl g z R N O (9, b) (.inl y :: .inl x :: r) (false :: r.map tyv)) nX := by
  obtain ⟨q1, hq⟩ := u2_so (a := 9) (v := x) (w := y) (by unfold isA; decide)
  have hm := m_254_9 (d := d) (sl := 0) (v := x) (w := y) (g := g) (L := L) (xs := xs) (C := sI C 76 73 (nI (r.length + 1))) (t := t)
  rw [hq] at hm
  refine w_p (pc1 := 1) rfl rfl ?_
  refine w_m0 (pc1 := 4) rfl rfl (h_gC rfl rfl rfl rfl) rfl ?_
  refine w_p (pc1 := 7) (st1 := .int 620 :: _) rfl rfl ?_
  refine w_p (pc1 := 8) rfl rfl ?_
  refine w_imul (pc1 := 9) (u := nI (620)) (v := nI (p)) (z := nI (620 * p)) rfl (nK_mul) rfl ?_
  refine w_p (pc1 := 10) rfl rfl ?_
  refine w_iadd (pc1 := 11) (u := nI (620 * p)) (v := nI (k)) (z := nI (620 * p + k)) rfl (nK_add) rfl ?_
  refine w_m0 (pc1 := 12) (st1 := .long 43 :: _) rfl rfl (n_lle (e := 620 * p + k) rfl rfl rfl (by omega) (hv)) rfl ?_
  refine w_p (pc1 := 14) (al1 := [(6, .long 43), (0, .ref 176), (1, .int (nI (p))), (2, .int (nI (k))), (3, .int (nI (row))), (4, .int (nI (f))), (5, .int (ck g))]) rfl rfl ?_
  refine w_p (pc1 := 15) rfl rfl ?_
  refine w_m0 (pc1 := 18) rfl rfl (h_gC rfl rfl rfl rfl) rfl ?_
  refine w_p (pc1 := 21) (st1 := .int 620 :: _) rfl rfl ?_
  refine w_p (pc1 := 22) rfl rfl ?_
  refine w_imul (pc1 := 23) (u := nI (620)) (v := nI (p)) (z := nI (620 * p)) rfl (nK_mul) rfl ?_
  refine w_p (pc1 := 24) rfl rfl ?_
  refine w_iadd (pc1 := 25) (u := nI (620 * p)) (v := nI (k)) (z := nI (620 * p + k)) rfl (nK_add) rfl ?_
  refine w_m0 (pc1 := 26) (st1 := .int 12 :: _) rfl rfl (n_ile (e := 620 * p + k) rfl rfl rfl (by omega) (hw)) rfl ?_
  refine w_p (pc1 := 468) rfl rfl ?_
  refine w_p (pc1 := 469) rfl rfl ?_
  refine w_p (pc1 := 470) rfl rfl ?_
  refine w_m0 (pc1 := 473) (st1 := .int (nI (r.length + 1 + 1)) :: _) rfl rfl (h_gIe (j := 73) rfl rfl rfl rfl rfl (hS.1)) rfl ?_
  refine w_p (pc1 := 474) (st1 := .int 1 :: _) rfl rfl ?_
  refine w_isub (pc1 := 475) (u := nI (r.length + 1 + 1)) (v := nI (1)) (z := nI (r.length + 1 + 1 - 1)) rfl (nK_sub (by omega)) rfl ?_
  refine w_m0 (pc1 := 478) rfl rfl (h_pI (j := 73) rfl rfl rfl rfl rfl rfl rfl ⟨rfl, rfl⟩ rfl) rfl ?_
  refine w_p (pc1 := 479) rfl rfl ?_
  refine w_m0 (pc1 := 482) rfl rfl (h_gC rfl rfl rfl rfl) rfl ?_
  refine w_p (pc1 := 483) rfl rfl ?_
  refine w_m0 (pc1 := 486) (st1 := .int (nI (r.length + 1 + 1 - 1)) :: _) rfl rfl (h_gIe (j := 73) rfl rfl rfl rfl rfl (rfl)) rfl ?_
  refine w_p (pc1 := 487) (st1 := .int 1 :: _) rfl rfl ?_
  refine w_isub (pc1 := 488) (u := nI (r.length + 1 + 1 - 1)) (v := nI (1)) (z := nI (r.length + 1 + 1 - 1 - 1)) rfl (nK_sub (by omega)) rfl ?_
  refine w_p (pc1 := 489) rfl rfl ?_
  refine w_p (pc1 := 491) rfl rfl ?_
  refine w_p (pc1 := 492) rfl rfl ?_
  refine w_m0 (pc1 := 495) rfl rfl (h_gC rfl rfl rfl rfl) rfl ?_
  refine w_p (pc1 := 496) rfl rfl ?_
  refine w_m0 (pc1 := 499) (st1 := .int (nI (r.length + 1 + 1 - 1)) :: _) rfl rfl (h_gIe (j := 73) rfl rfl rfl rfl rfl (rfl)) rfl ?_
  refine w_p (pc1 := 500) (st1 := .int 1 :: _) rfl rfl ?_
  refine w_isub (pc1 := 501) (u := nI (r.length + 1 + 1 - 1)) (v := nI (1)) (z := nI (r.length + 1 + 1 - 1 - 1)) rfl (nK_sub (by omega)) rfl ?_
  refine w_m0 (pc1 := 502) (st1 := .long (e_V x) :: _) rfl rfl (n_lle (e := r.length + 1 + 1 - 1 - 1) rfl rfl rfl (by omega) (hS.2.2.1)) rfl ?_
  refine w_p (pc1 := 503) rfl rfl ?_
  refine w_m0 (pc1 := 506) rfl rfl (h_gC rfl rfl rfl rfl) rfl ?_
  refine w_p (pc1 := 507) rfl rfl ?_
  refine w_m0 (pc1 := 510) (st1 := .int (nI (r.length + 1 + 1 - 1)) :: _) rfl rfl (h_gIe (j := 73) rfl rfl rfl rfl rfl (rfl)) rfl ?_
  refine w_m0 (pc1 := 511) (st1 := .long (e_V y) :: _) rfl rfl (n_lle (e := r.length + 1 + 1 - 1) rfl rfl rfl (by omega) (hS.2.1)) rfl ?_
  refine w_p (pc1 := 513) rfl rfl ?_
  refine w_je (pc1 := 516) (vs := [.ref 176, .long 43, .long (e_V x), .long (e_V y), .int (ck g)]) (rest := [.int (nI (r.length + 1 + 1 - 1 - 1)), .ref 224]) (st1 := [.long (v_M (.inl q1)), .int (nI (r.length + 1 + 1 - 1 - 1)), .ref 224]) (hm) rfl rfl rfl (fun _ _ => rfl) rfl (by exact cl_v my_254 rfl rfl rfl (Nat.le_of_ble_eq_true rfl) rfl (MH_obj rfl rfl) rfl (by decide) rfl rfl) (by rfl) (Nat.le_of_ble_eq_true rfl) (Nat.le_of_ble_eq_true rfl) rfl (by rfl) ?_
  refine w_m0 (pc1 := 517) rfl rfl (n_ls (e := r.length + 1 + 1 - 1 - 1) rfl rfl rfl (by omega)) rfl ?_
  refine w_r rfl rfl rfl (fun _ _ => rfl) rfl ?_
  exact W1_i (st' := .inl q1 :: r) (by rw [fo_9, hq]; rfl) (by rw [fo_9, u2_np (by decide), hq]; rfl) rfl (PIL_2 (v := .inl q1) hS) hz (frW_t (frW_I (Or.inl rfl)) frW_J)
set_option maxRecDepth 100000 in
theorem w_b10 {u : Int64} {x y : Option Int32} {r : List tv_T} (hp : p ≤ 40) (hk : k < 620) (hw : C.1 106 (620 * p + k) = 12) (hv : C.2.1 107 (620 * p + k) = 45) (hz : C.1 76 74 = ck z) (hS : PIL C (.inl y :: .inl x :: r)) (hl : r.length + 1 + 1 < 700) : Wd L xs (d + 2) y_252 (0, [(0, .ref 176), (1, .int (nI (p))), (2, .int (nI (k))), (3, .int (nI (row))), (4, .int (nI (f))), (5, .int (ck g))], [], MH C t, sl) (W1 C t sl g z R N O (10, b) (.inl y :: .inl x :: r) (false :: r.map tyv)) nX := by
  obtain ⟨q1, hq⟩ := u2_so (a := 10) (v := x) (w := y) (by unfold isA; decide)
  have hm := m_254_10 (d := d) (sl := 0) (v := x) (w := y) (g := g) (L := L) (xs := xs) (C := sI C 76 73 (nI (r.length + 1))) (t := t)
  rw [hq] at hm
  refine w_p (pc1 := 1) rfl rfl ?_
  refine w_m0 (pc1 := 4) rfl rfl (h_gC rfl rfl rfl rfl) rfl ?_
  refine w_p (pc1 := 7) (st1 := .int 620 :: _) rfl rfl ?_
  refine w_p (pc1 := 8) rfl rfl ?_
  refine w_imul (pc1 := 9) (u := nI (620)) (v := nI (p)) (z := nI (620 * p)) rfl (nK_mul) rfl ?_
  refine w_p (pc1 := 10) rfl rfl ?_
  refine w_iadd (pc1 := 11) (u := nI (620 * p)) (v := nI (k)) (z := nI (620 * p + k)) rfl (nK_add) rfl ?_
  refine w_m0 (pc1 := 12) (st1 := .long 45 :: _) rfl rfl (n_lle (e := 620 * p + k) rfl rfl rfl (by omega) (hv)) rfl ?_
  refine w_p (pc1 := 14) (al1 := [(6, .long 45), (0, .ref 176), (1, .int (nI (p))), (2, .int (nI (k))), (3, .int (nI (row))), (4, .int (nI (f))), (5, .int (ck g))]) rfl rfl ?_
  refine w_p (pc1 := 15) rfl rfl ?_
  refine w_m0 (pc1 := 18) rfl rfl (h_gC rfl rfl rfl rfl) rfl ?_
  refine w_p (pc1 := 21) (st1 := .int 620 :: _) rfl rfl ?_
  refine w_p (pc1 := 22) rfl rfl ?_
  refine w_imul (pc1 := 23) (u := nI (620)) (v := nI (p)) (z := nI (620 * p)) rfl (nK_mul) rfl ?_
  refine w_p (pc1 := 24) rfl rfl ?_
  refine w_iadd (pc1 := 25) (u := nI (620 * p)) (v := nI (k)) (z := nI (620 * p + k)) rfl (nK_add) rfl ?_
  refine w_m0 (pc1 := 26) (st1 := .int 12 :: _) rfl rfl (n_ile (e := 620 * p + k) rfl rfl rfl (by omega) (hw)) rfl ?_
  refine w_p (pc1 := 468) rfl rfl ?_
  refine w_p (pc1 := 469) rfl rfl ?_
  refine w_p (pc1 := 470) rfl rfl ?_
  refine w_m0 (pc1 := 473) (st1 := .int (nI (r.length + 1 + 1)) :: _) rfl rfl (h_gIe (j := 73) rfl rfl rfl rfl rfl (hS.1)) rfl ?_
  refine w_p (pc1 := 474) (st1 := .int 1 :: _) rfl rfl ?_
  refine w_isub (pc1 := 475) (u := nI (r.length + 1 + 1)) (v := nI (1)) (z := nI (r.length + 1 + 1 - 1)) rfl (nK_sub (by omega)) rfl ?_
  refine w_m0 (pc1 := 478) rfl rfl (h_pI (j := 73) rfl rfl rfl rfl rfl rfl rfl ⟨rfl, rfl⟩ rfl) rfl ?_
  refine w_p (pc1 := 479) rfl rfl ?_
  refine w_m0 (pc1 := 482) rfl rfl (h_gC rfl rfl rfl rfl) rfl ?_
  refine w_p (pc1 := 483) rfl rfl ?_
  refine w_m0 (pc1 := 486) (st1 := .int (nI (r.length + 1 + 1 - 1)) :: _) rfl rfl (h_gIe (j := 73) rfl rfl rfl rfl rfl (rfl)) rfl ?_
  refine w_p (pc1 := 487) (st1 := .int 1 :: _) rfl rfl ?_
  refine w_isub (pc1 := 488) (u := nI (r.length + 1 + 1 - 1)) (v := nI (1)) (z := nI (r.length + 1 + 1 - 1 - 1)) rfl (nK_sub (by omega)) rfl ?_
  refine w_p (pc1 := 489) rfl rfl ?_
  refine w_p (pc1 := 491) rfl rfl ?_
  refine w_p (pc1 := 492) rfl rfl ?_
  refine w_m0 (pc1 := 495) rfl rfl (h_gC rfl rfl rfl rfl) rfl ?_
  refine w_p (pc1 := 496) rfl rfl ?_
  refine w_m0 (pc1 := 499) (st1 := .int (nI (r.length + 1 + 1 - 1)) :: _) rfl rfl (h_gIe (j := 73) rfl rfl rfl rfl rfl (rfl)) rfl ?_
  refine w_p (pc1 := 500) (st1 := .int 1 :: _) rfl rfl ?_
  refine w_isub (pc1 := 501) (u := nI (r.length + 1 + 1 - 1)) (v := nI (1)) (z := nI (r.length + 1 + 1 - 1 - 1)) rfl (nK_sub (by omega)) rfl ?_
  refine w_m0 (pc1 := 502) (st1 := .long (e_V x) :: _) rfl rfl (n_lle (e := r.length + 1 + 1 - 1 - 1) rfl rfl rfl (by omega) (hS.2.2.1)) rfl ?_
  refine w_p (pc1 := 503) rfl rfl ?_
  refine w_m0 (pc1 := 506) rfl rfl (h_gC rfl rfl rfl rfl) rfl ?_
  refine w_p (pc1 := 507) rfl rfl ?_
  refine w_m0 (pc1 := 510) (st1 := .int (nI (r.length + 1 + 1 - 1)) :: _) rfl rfl (h_gIe (j := 73) rfl rfl rfl rfl rfl (rfl)) rfl ?_
  refine w_m0 (pc1 := 511) (st1 := .long (e_V y) :: _) rfl rfl (n_lle (e := r.length + 1 + 1 - 1) rfl rfl rfl (by omega) (hS.2.1)) rfl ?_
  refine w_p (pc1 := 513) rfl rfl ?_
  refine w_je (pc1 := 516) (vs := [.ref 176, .long 45, .long (e_V x), .long (e_V y), .int (ck g)]) (rest := [.int (nI (r.length + 1 + 1 - 1 - 1)), .ref 224]) (st1 := [.long (v_M (.inl q1)), .int (nI (r.length + 1 + 1 - 1 - 1)), .ref 224]) (hm) rfl rfl rfl (fun _ _ => rfl) rfl (by exact cl_v my_254 rfl rfl rfl (Nat.le_of_ble_eq_true rfl) rfl (MH_obj rfl rfl) rfl (by decide) rfl rfl) (by rfl) (Nat.le_of_ble_eq_true rfl) (Nat.le_of_ble_eq_true rfl) rfl (by rfl) ?_
  refine w_m0 (pc1 := 517) rfl rfl (n_ls (e := r.length + 1 + 1 - 1 - 1) rfl rfl rfl (by omega)) rfl ?_
  refine w_r rfl rfl rfl (fun _ _ => rfl) rfl ?_
  exact W1_i (st' := .inl q1 :: r) (by rw [fo_10, hq]; rfl) (by rw [fo_10, u2_np (by decide), hq]; rfl) rfl (PIL_2 (v := .inl q1) hS) hz (frW_t (frW_I (Or.inl rfl)) frW_J)
set_option maxRecDepth 100000 in
theorem w_b11 {u : Int64} {x y : Option Int32} {r : List tv_T} (hp : p ≤ 40) (hk : k < 620) (hw : C.1 106 (620 * p + k) = 12) (hv : C.2.1 107 (620 * p + k) = 42) (hz : C.1 76 74 = ck z) (hS : PIL C (.inl y :: .inl x :: r)) (hl : r.length + 1 + 1 < 700) : Wd L xs (d + 2) y_252 (0, [(0, .ref 176), (1, .int (nI (p))), (2, .int (nI (k))), (3, .int (nI (row))), (4, .int (nI (f))), (5, .int (ck g))], [], MH C t, sl) (W1 C t sl g z R N O (11, b) (.inl y :: .inl x :: r) (false :: r.map tyv)) nX := by
  obtain ⟨q1, hq⟩ := u2_so (a := 11) (v := x) (w := y) (by unfold isA; decide)
  have hm := m_254_11 (d := d) (sl := 0) (v := x) (w := y) (g := g) (L := L) (xs := xs) (C := sI C 76 73 (nI (r.length + 1))) (t := t)
  rw [hq] at hm
  refine w_p (pc1 := 1) rfl rfl ?_
  refine w_m0 (pc1 := 4) rfl rfl (h_gC rfl rfl rfl rfl) rfl ?_
  refine w_p (pc1 := 7) (st1 := .int 620 :: _) rfl rfl ?_
  refine w_p (pc1 := 8) rfl rfl ?_
  refine w_imul (pc1 := 9) (u := nI (620)) (v := nI (p)) (z := nI (620 * p)) rfl (nK_mul) rfl ?_
  refine w_p (pc1 := 10) rfl rfl ?_
  refine w_iadd (pc1 := 11) (u := nI (620 * p)) (v := nI (k)) (z := nI (620 * p + k)) rfl (nK_add) rfl ?_
  refine w_m0 (pc1 := 12) (st1 := .long 42 :: _) rfl rfl (n_lle (e := 620 * p + k) rfl rfl rfl (by omega) (hv)) rfl ?_
  refine w_p (pc1 := 14) (al1 := [(6, .long 42), (0, .ref 176), (1, .int (nI (p))), (2, .int (nI (k))), (3, .int (nI (row))), (4, .int (nI (f))), (5, .int (ck g))]) rfl rfl ?_
  refine w_p (pc1 := 15) rfl rfl ?_
  refine w_m0 (pc1 := 18) rfl rfl (h_gC rfl rfl rfl rfl) rfl ?_
  refine w_p (pc1 := 21) (st1 := .int 620 :: _) rfl rfl ?_
  refine w_p (pc1 := 22) rfl rfl ?_
  refine w_imul (pc1 := 23) (u := nI (620)) (v := nI (p)) (z := nI (620 * p)) rfl (nK_mul) rfl ?_
  refine w_p (pc1 := 24) rfl rfl ?_
  refine w_iadd (pc1 := 25) (u := nI (620 * p)) (v := nI (k)) (z := nI (620 * p + k)) rfl (nK_add) rfl ?_
  refine w_m0 (pc1 := 26) (st1 := .int 12 :: _) rfl rfl (n_ile (e := 620 * p + k) rfl rfl rfl (by omega) (hw)) rfl ?_
  refine w_p (pc1 := 468) rfl rfl ?_
  refine w_p (pc1 := 469) rfl rfl ?_
  refine w_p (pc1 := 470) rfl rfl ?_
  refine w_m0 (pc1 := 473) (st1 := .int (nI (r.length + 1 + 1)) :: _) rfl rfl (h_gIe (j := 73) rfl rfl rfl rfl rfl (hS.1)) rfl ?_
  refine w_p (pc1 := 474) (st1 := .int 1 :: _) rfl rfl ?_
  refine w_isub (pc1 := 475) (u := nI (r.length + 1 + 1)) (v := nI (1)) (z := nI (r.length + 1 + 1 - 1)) rfl (nK_sub (by omega)) rfl ?_
  refine w_m0 (pc1 := 478) rfl rfl (h_pI (j := 73) rfl rfl rfl rfl rfl rfl rfl ⟨rfl, rfl⟩ rfl) rfl ?_
  refine w_p (pc1 := 479) rfl rfl ?_
  refine w_m0 (pc1 := 482) rfl rfl (h_gC rfl rfl rfl rfl) rfl ?_
  refine w_p (pc1 := 483) rfl rfl ?_
  refine w_m0 (pc1 := 486) (st1 := .int (nI (r.length + 1 + 1 - 1)) :: _) rfl rfl (h_gIe (j := 73) rfl rfl rfl rfl rfl (rfl)) rfl ?_
  refine w_p (pc1 := 487) (st1 := .int 1 :: _) rfl rfl ?_
  refine w_isub (pc1 := 488) (u := nI (r.length + 1 + 1 - 1)) (v := nI (1)) (z := nI (r.length + 1 + 1 - 1 - 1)) rfl (nK_sub (by omega)) rfl ?_
  refine w_p (pc1 := 489) rfl rfl ?_
  refine w_p (pc1 := 491) rfl rfl ?_
  refine w_p (pc1 := 492) rfl rfl ?_
  refine w_m0 (pc1 := 495) rfl rfl (h_gC rfl rfl rfl rfl) rfl ?_
  refine w_p (pc1 := 496) rfl rfl ?_
  refine w_m0 (pc1 := 499) (st1 := .int (nI (r.length + 1 + 1 - 1)) :: _) rfl rfl (h_gIe (j := 73) rfl rfl rfl rfl rfl (rfl)) rfl ?_
  refine w_p (pc1 := 500) (st1 := .int 1 :: _) rfl rfl ?_
  refine w_isub (pc1 := 501) (u := nI (r.length + 1 + 1 - 1)) (v := nI (1)) (z := nI (r.length + 1 + 1 - 1 - 1)) rfl (nK_sub (by omega)) rfl ?_
  refine w_m0 (pc1 := 502) (st1 := .long (e_V x) :: _) rfl rfl (n_lle (e := r.length + 1 + 1 - 1 - 1) rfl rfl rfl (by omega) (hS.2.2.1)) rfl ?_
  refine w_p (pc1 := 503) rfl rfl ?_
  refine w_m0 (pc1 := 506) rfl rfl (h_gC rfl rfl rfl rfl) rfl ?_
  refine w_p (pc1 := 507) rfl rfl ?_
  refine w_m0 (pc1 := 510) (st1 := .int (nI (r.length + 1 + 1 - 1)) :: _) rfl rfl (h_gIe (j := 73) rfl rfl rfl rfl rfl (rfl)) rfl ?_
  refine w_m0 (pc1 := 511) (st1 := .long (e_V y) :: _) rfl rfl (n_lle (e := r.length + 1 + 1 - 1) rfl rfl rfl (by omega) (hS.2.1)) rfl ?_
  refine w_p (pc1 := 513) rfl rfl ?_
  refine w_je (pc1 := 516) (vs := [.ref 176, .long 42, .long (e_V x), .long (e_V y), .int (ck g)]) (rest := [.int (nI (r.length + 1 + 1 - 1 - 1)), .ref 224]) (st1 := [.long (v_M (.inl q1)), .int (nI (r.length + 1 + 1 - 1 - 1)), .ref 224]) (hm) rfl rfl rfl (fun _ _ => rfl) rfl (by exact cl_v my_254 rfl rfl rfl (Nat.le_of_ble_eq_true rfl) rfl (MH_obj rfl rfl) rfl (by decide) rfl rfl) (by rfl) (Nat.le_of_ble_eq_true rfl) (Nat.le_of_ble_eq_true rfl) rfl (by rfl) ?_
  refine w_m0 (pc1 := 517) rfl rfl (n_ls (e := r.length + 1 + 1 - 1 - 1) rfl rfl rfl (by omega)) rfl ?_
  refine w_r rfl rfl rfl (fun _ _ => rfl) rfl ?_
  exact W1_i (st' := .inl q1 :: r) (by rw [fo_11, hq]; rfl) (by rw [fo_11, u2_np (by decide), hq]; rfl) rfl (PIL_2 (v := .inl q1) hS) hz (frW_t (frW_I (Or.inl rfl)) frW_J)
set_option maxRecDepth 100000 in
theorem w_b13 {u : Int64} {x y : Option Int32} {r : List tv_T} (hp : p ≤ 40) (hk : k < 620) (hw : C.1 106 (620 * p + k) = 12) (hv : C.2.1 107 (620 * p + k) = 61) (hz : C.1 76 74 = ck z) (hS : PIL C (.inl y :: .inl x :: r)) (hl : r.length + 1 + 1 < 700) : Wd L xs (d + 2) y_252 (0, [(0, .ref 176), (1, .int (nI (p))), (2, .int (nI (k))), (3, .int (nI (row))), (4, .int (nI (f))), (5, .int (ck g))], [], MH C t, sl) (W1 C t sl g z R N O (13, b) (.inl y :: .inl x :: r) (true :: r.map tyv)) nX := by
  have hq : u_2 true 13 (.inl x) (.inl y) = some (.inr (u_t 13 x y)) := u2_B (by unfold isB; decide)
  have hm := m_254_13 (d := d) (sl := 0) (v := x) (w := y) (g := g) (L := L) (xs := xs) (C := sI C 76 73 (nI (r.length + 1))) (t := t)
  rw [hq] at hm
  refine w_p (pc1 := 1) rfl rfl ?_
  refine w_m0 (pc1 := 4) rfl rfl (h_gC rfl rfl rfl rfl) rfl ?_
  refine w_p (pc1 := 7) (st1 := .int 620 :: _) rfl rfl ?_
  refine w_p (pc1 := 8) rfl rfl ?_
  refine w_imul (pc1 := 9) (u := nI (620)) (v := nI (p)) (z := nI (620 * p)) rfl (nK_mul) rfl ?_
  refine w_p (pc1 := 10) rfl rfl ?_
  refine w_iadd (pc1 := 11) (u := nI (620 * p)) (v := nI (k)) (z := nI (620 * p + k)) rfl (nK_add) rfl ?_
  refine w_m0 (pc1 := 12) (st1 := .long 61 :: _) rfl rfl (n_lle (e := 620 * p + k) rfl rfl rfl (by omega) (hv)) rfl ?_
  refine w_p (pc1 := 14) (al1 := [(6, .long 61), (0, .ref 176), (1, .int (nI (p))), (2, .int (nI (k))), (3, .int (nI (row))), (4, .int (nI (f))), (5, .int (ck g))]) rfl rfl ?_
  refine w_p (pc1 := 15) rfl rfl ?_
  refine w_m0 (pc1 := 18) rfl rfl (h_gC rfl rfl rfl rfl) rfl ?_
  refine w_p (pc1 := 21) (st1 := .int 620 :: _) rfl rfl ?_
  refine w_p (pc1 := 22) rfl rfl ?_
  refine w_imul (pc1 := 23) (u := nI (620)) (v := nI (p)) (z := nI (620 * p)) rfl (nK_mul) rfl ?_
  refine w_p (pc1 := 24) rfl rfl ?_
  refine w_iadd (pc1 := 25) (u := nI (620 * p)) (v := nI (k)) (z := nI (620 * p + k)) rfl (nK_add) rfl ?_
  refine w_m0 (pc1 := 26) (st1 := .int 12 :: _) rfl rfl (n_ile (e := 620 * p + k) rfl rfl rfl (by omega) (hw)) rfl ?_
  refine w_p (pc1 := 468) rfl rfl ?_
  refine w_p (pc1 := 469) rfl rfl ?_
  refine w_p (pc1 := 470) rfl rfl ?_
  refine w_m0 (pc1 := 473) (st1 := .int (nI (r.length + 1 + 1)) :: _) rfl rfl (h_gIe (j := 73) rfl rfl rfl rfl rfl (hS.1)) rfl ?_
  refine w_p (pc1 := 474) (st1 := .int 1 :: _) rfl rfl ?_
  refine w_isub (pc1 := 475) (u := nI (r.length + 1 + 1)) (v := nI (1)) (z := nI (r.length + 1 + 1 - 1)) rfl (nK_sub (by omega)) rfl ?_
  refine w_m0 (pc1 := 478) rfl rfl (h_pI (j := 73) rfl rfl rfl rfl rfl rfl rfl ⟨rfl, rfl⟩ rfl) rfl ?_
  refine w_p (pc1 := 479) rfl rfl ?_
  refine w_m0 (pc1 := 482) rfl rfl (h_gC rfl rfl rfl rfl) rfl ?_
  refine w_p (pc1 := 483) rfl rfl ?_
  refine w_m0 (pc1 := 486) (st1 := .int (nI (r.length + 1 + 1 - 1)) :: _) rfl rfl (h_gIe (j := 73) rfl rfl rfl rfl rfl (rfl)) rfl ?_
  refine w_p (pc1 := 487) (st1 := .int 1 :: _) rfl rfl ?_
  refine w_isub (pc1 := 488) (u := nI (r.length + 1 + 1 - 1)) (v := nI (1)) (z := nI (r.length + 1 + 1 - 1 - 1)) rfl (nK_sub (by omega)) rfl ?_
  refine w_p (pc1 := 489) rfl rfl ?_
  refine w_p (pc1 := 491) rfl rfl ?_
  refine w_p (pc1 := 492) rfl rfl ?_
  refine w_m0 (pc1 := 495) rfl rfl (h_gC rfl rfl rfl rfl) rfl ?_
  refine w_p (pc1 := 496) rfl rfl ?_
  refine w_m0 (pc1 := 499) (st1 := .int (nI (r.length + 1 + 1 - 1)) :: _) rfl rfl (h_gIe (j := 73) rfl rfl rfl rfl rfl (rfl)) rfl ?_
  refine w_p (pc1 := 500) (st1 := .int 1 :: _) rfl rfl ?_
  refine w_isub (pc1 := 501) (u := nI (r.length + 1 + 1 - 1)) (v := nI (1)) (z := nI (r.length + 1 + 1 - 1 - 1)) rfl (nK_sub (by omega)) rfl ?_
  refine w_m0 (pc1 := 502) (st1 := .long (e_V x) :: _) rfl rfl (n_lle (e := r.length + 1 + 1 - 1 - 1) rfl rfl rfl (by omega) (hS.2.2.1)) rfl ?_
  refine w_p (pc1 := 503) rfl rfl ?_
  refine w_m0 (pc1 := 506) rfl rfl (h_gC rfl rfl rfl rfl) rfl ?_
  refine w_p (pc1 := 507) rfl rfl ?_
  refine w_m0 (pc1 := 510) (st1 := .int (nI (r.length + 1 + 1 - 1)) :: _) rfl rfl (h_gIe (j := 73) rfl rfl rfl rfl rfl (rfl)) rfl ?_
  refine w_m0 (pc1 := 511) (st1 := .long (e_V y) :: _) rfl rfl (n_lle (e := r.length + 1 + 1 - 1) rfl rfl rfl (by omega) (hS.2.1)) rfl ?_
  refine w_p (pc1 := 513) rfl rfl ?_
  refine w_je (pc1 := 516) (vs := [.ref 176, .long 61, .long (e_V x), .long (e_V y), .int (ck g)]) (rest := [.int (nI (r.length + 1 + 1 - 1 - 1)), .ref 224]) (st1 := [.long (v_M (.inr (u_t 13 x y))), .int (nI (r.length + 1 + 1 - 1 - 1)), .ref 224]) (hm) rfl rfl rfl (fun _ _ => rfl) rfl (by exact cl_v my_254 rfl rfl rfl (Nat.le_of_ble_eq_true rfl) rfl (MH_obj rfl rfl) rfl (by decide) rfl rfl) (by rfl) (Nat.le_of_ble_eq_true rfl) (Nat.le_of_ble_eq_true rfl) rfl (by rfl) ?_
  refine w_m0 (pc1 := 517) rfl rfl (n_ls (e := r.length + 1 + 1 - 1 - 1) rfl rfl rfl (by omega)) rfl ?_
  refine w_r rfl rfl rfl (fun _ _ => rfl) rfl ?_
  exact W1_i (st' := .inr (u_t 13 x y) :: r) (by rw [fo_13, hq]; rfl) (by rw [fo_13, u2_np (by decide), hq]; rfl) rfl (PIL_2 (v := .inr (u_t 13 x y)) hS) hz (frW_t (frW_I (Or.inl rfl)) frW_J)
set_option maxRecDepth 100000 in
theorem w_b14 {u : Int64} {x y : Option Int32} {r : List tv_T} (hp : p ≤ 40) (hk : k < 620) (hw : C.1 106 (620 * p + k) = 12) (hv : C.2.1 107 (620 * p + k) = 35) (hz : C.1 76 74 = ck z) (hS : PIL C (.inl y :: .inl x :: r)) (hl : r.length + 1 + 1 < 700) : Wd L xs (d + 2) y_252 (0, [(0, .ref 176), (1, .int (nI (p))), (2, .int (nI (k))), (3, .int (nI (row))), (4, .int (nI (f))), (5, .int (ck g))], [], MH C t, sl) (W1 C t sl g z R N O (14, b) (.inl y :: .inl x :: r) (true :: r.map tyv)) nX := by
  have hq : u_2 true 14 (.inl x) (.inl y) = some (.inr (u_t 14 x y)) := u2_B (by unfold isB; decide)
  have hm := m_254_14 (d := d) (sl := 0) (v := x) (w := y) (g := g) (L := L) (xs := xs) (C := sI C 76 73 (nI (r.length + 1))) (t := t)
  rw [hq] at hm
  refine w_p (pc1 := 1) rfl rfl ?_
  refine w_m0 (pc1 := 4) rfl rfl (h_gC rfl rfl rfl rfl) rfl ?_
  refine w_p (pc1 := 7) (st1 := .int 620 :: _) rfl rfl ?_
  refine w_p (pc1 := 8) rfl rfl ?_
  refine w_imul (pc1 := 9) (u := nI (620)) (v := nI (p)) (z := nI (620 * p)) rfl (nK_mul) rfl ?_
  refine w_p (pc1 := 10) rfl rfl ?_
  refine w_iadd (pc1 := 11) (u := nI (620 * p)) (v := nI (k)) (z := nI (620 * p + k)) rfl (nK_add) rfl ?_
  refine w_m0 (pc1 := 12) (st1 := .long 35 :: _) rfl rfl (n_lle (e := 620 * p + k) rfl rfl rfl (by omega) (hv)) rfl ?_
  refine w_p (pc1 := 14) (al1 := [(6, .long 35), (0, .ref 176), (1, .int (nI (p))), (2, .int (nI (k))), (3, .int (nI (row))), (4, .int (nI (f))), (5, .int (ck g))]) rfl rfl ?_
  refine w_p (pc1 := 15) rfl rfl ?_
  refine w_m0 (pc1 := 18) rfl rfl (h_gC rfl rfl rfl rfl) rfl ?_
  refine w_p (pc1 := 21) (st1 := .int 620 :: _) rfl rfl ?_
  refine w_p (pc1 := 22) rfl rfl ?_
  refine w_imul (pc1 := 23) (u := nI (620)) (v := nI (p)) (z := nI (620 * p)) rfl (nK_mul) rfl ?_
  refine w_p (pc1 := 24) rfl rfl ?_
  refine w_iadd (pc1 := 25) (u := nI (620 * p)) (v := nI (k)) (z := nI (620 * p + k)) rfl (nK_add) rfl ?_
  refine w_m0 (pc1 := 26) (st1 := .int 12 :: _) rfl rfl (n_ile (e := 620 * p + k) rfl rfl rfl (by omega) (hw)) rfl ?_
  refine w_p (pc1 := 468) rfl rfl ?_
  refine w_p (pc1 := 469) rfl rfl ?_
  refine w_p (pc1 := 470) rfl rfl ?_
  refine w_m0 (pc1 := 473) (st1 := .int (nI (r.length + 1 + 1)) :: _) rfl rfl (h_gIe (j := 73) rfl rfl rfl rfl rfl (hS.1)) rfl ?_
  refine w_p (pc1 := 474) (st1 := .int 1 :: _) rfl rfl ?_
  refine w_isub (pc1 := 475) (u := nI (r.length + 1 + 1)) (v := nI (1)) (z := nI (r.length + 1 + 1 - 1)) rfl (nK_sub (by omega)) rfl ?_
  refine w_m0 (pc1 := 478) rfl rfl (h_pI (j := 73) rfl rfl rfl rfl rfl rfl rfl ⟨rfl, rfl⟩ rfl) rfl ?_
  refine w_p (pc1 := 479) rfl rfl ?_
  refine w_m0 (pc1 := 482) rfl rfl (h_gC rfl rfl rfl rfl) rfl ?_
  refine w_p (pc1 := 483) rfl rfl ?_
  refine w_m0 (pc1 := 486) (st1 := .int (nI (r.length + 1 + 1 - 1)) :: _) rfl rfl (h_gIe (j := 73) rfl rfl rfl rfl rfl (rfl)) rfl ?_
  refine w_p (pc1 := 487) (st1 := .int 1 :: _) rfl rfl ?_
  refine w_isub (pc1 := 488) (u := nI (r.length + 1 + 1 - 1)) (v := nI (1)) (z := nI (r.length + 1 + 1 - 1 - 1)) rfl (nK_sub (by omega)) rfl ?_
  refine w_p (pc1 := 489) rfl rfl ?_
  refine w_p (pc1 := 491) rfl rfl ?_
  refine w_p (pc1 := 492) rfl rfl ?_
  refine w_m0 (pc1 := 495) rfl rfl (h_gC rfl rfl rfl rfl) rfl ?_
  refine w_p (pc1 := 496) rfl rfl ?_
  refine w_m0 (pc1 := 499) (st1 := .int (nI (r.length + 1 + 1 - 1)) :: _) rfl rfl (h_gIe (j := 73) rfl rfl rfl rfl rfl (rfl)) rfl ?_
  refine w_p (pc1 := 500) (st1 := .int 1 :: _) rfl rfl ?_
  refine w_isub (pc1 := 501) (u := nI (r.length + 1 + 1 - 1)) (v := nI (1)) (z := nI (r.length + 1 + 1 - 1 - 1)) rfl (nK_sub (by omega)) rfl ?_
  refine w_m0 (pc1 := 502) (st1 := .long (e_V x) :: _) rfl rfl (n_lle (e := r.length + 1 + 1 - 1 - 1) rfl rfl rfl (by omega) (hS.2.2.1)) rfl ?_
  refine w_p (pc1 := 503) rfl rfl ?_
  refine w_m0 (pc1 := 506) rfl rfl (h_gC rfl rfl rfl rfl) rfl ?_
  refine w_p (pc1 := 507) rfl rfl ?_
  refine w_m0 (pc1 := 510) (st1 := .int (nI (r.length + 1 + 1 - 1)) :: _) rfl rfl (h_gIe (j := 73) rfl rfl rfl rfl rfl (rfl)) rfl ?_
  refine w_m0 (pc1 := 511) (st1 := .long (e_V y) :: _) rfl rfl (n_lle (e := r.length + 1 + 1 - 1) rfl rfl rfl (by omega) (hS.2.1)) rfl ?_
  refine w_p (pc1 := 513) rfl rfl ?_
  refine w_je (pc1 := 516) (vs := [.ref 176, .long 35, .long (e_V x), .long (e_V y), .int (ck g)]) (rest := [.int (nI (r.length + 1 + 1 - 1 - 1)), .ref 224]) (st1 := [.long (v_M (.inr (u_t 14 x y))), .int (nI (r.length + 1 + 1 - 1 - 1)), .ref 224]) (hm) rfl rfl rfl (fun _ _ => rfl) rfl (by exact cl_v my_254 rfl rfl rfl (Nat.le_of_ble_eq_true rfl) rfl (MH_obj rfl rfl) rfl (by decide) rfl rfl) (by rfl) (Nat.le_of_ble_eq_true rfl) (Nat.le_of_ble_eq_true rfl) rfl (by rfl) ?_
  refine w_m0 (pc1 := 517) rfl rfl (n_ls (e := r.length + 1 + 1 - 1 - 1) rfl rfl rfl (by omega)) rfl ?_
  refine w_r rfl rfl rfl (fun _ _ => rfl) rfl ?_
  exact W1_i (st' := .inr (u_t 14 x y) :: r) (by rw [fo_14, hq]; rfl) (by rw [fo_14, u2_np (by decide), hq]; rfl) rfl (PIL_2 (v := .inr (u_t 14 x y)) hS) hz (frW_t (frW_I (Or.inl rfl)) frW_J)
set_option maxRecDepth 100000 in
theorem w_b15 {u : Int64} {x y : Option Int32} {r : List tv_T} (hp : p ≤ 40) (hk : k < 620) (hw : C.1 106 (620 * p + k) = 12) (hv : C.2.1 107 (620 * p + k) = 60) (hz : C.1 76 74 = ck z) (hS : PIL C (.inl y :: .inl x :: r)) (hl : r.length + 1 + 1 < 700) : Wd L xs (d + 2) y_252 (0, [(0, .ref 176), (1, .int (nI (p))), (2, .int (nI (k))), (3, .int (nI (row))), (4, .int (nI (f))), (5, .int (ck g))], [], MH C t, sl) (W1 C t sl g z R N O (15, b) (.inl y :: .inl x :: r) (true :: r.map tyv)) nX := by
  have hq : u_2 true 15 (.inl x) (.inl y) = some (.inr (u_t 15 x y)) := u2_B (by unfold isB; decide)
  have hm := m_254_15 (d := d) (sl := 0) (v := x) (w := y) (g := g) (L := L) (xs := xs) (C := sI C 76 73 (nI (r.length + 1))) (t := t)
  rw [hq] at hm
  refine w_p (pc1 := 1) rfl rfl ?_
  refine w_m0 (pc1 := 4) rfl rfl (h_gC rfl rfl rfl rfl) rfl ?_
  refine w_p (pc1 := 7) (st1 := .int 620 :: _) rfl rfl ?_
  refine w_p (pc1 := 8) rfl rfl ?_
  refine w_imul (pc1 := 9) (u := nI (620)) (v := nI (p)) (z := nI (620 * p)) rfl (nK_mul) rfl ?_
  refine w_p (pc1 := 10) rfl rfl ?_
  refine w_iadd (pc1 := 11) (u := nI (620 * p)) (v := nI (k)) (z := nI (620 * p + k)) rfl (nK_add) rfl ?_
  refine w_m0 (pc1 := 12) (st1 := .long 60 :: _) rfl rfl (n_lle (e := 620 * p + k) rfl rfl rfl (by omega) (hv)) rfl ?_
  refine w_p (pc1 := 14) (al1 := [(6, .long 60), (0, .ref 176), (1, .int (nI (p))), (2, .int (nI (k))), (3, .int (nI (row))), (4, .int (nI (f))), (5, .int (ck g))]) rfl rfl ?_
  refine w_p (pc1 := 15) rfl rfl ?_
  refine w_m0 (pc1 := 18) rfl rfl (h_gC rfl rfl rfl rfl) rfl ?_
  refine w_p (pc1 := 21) (st1 := .int 620 :: _) rfl rfl ?_
  refine w_p (pc1 := 22) rfl rfl ?_
  refine w_imul (pc1 := 23) (u := nI (620)) (v := nI (p)) (z := nI (620 * p)) rfl (nK_mul) rfl ?_
  refine w_p (pc1 := 24) rfl rfl ?_
  refine w_iadd (pc1 := 25) (u := nI (620 * p)) (v := nI (k)) (z := nI (620 * p + k)) rfl (nK_add) rfl ?_
  refine w_m0 (pc1 := 26) (st1 := .int 12 :: _) rfl rfl (n_ile (e := 620 * p + k) rfl rfl rfl (by omega) (hw)) rfl ?_
  refine w_p (pc1 := 468) rfl rfl ?_
  refine w_p (pc1 := 469) rfl rfl ?_
  refine w_p (pc1 := 470) rfl rfl ?_
  refine w_m0 (pc1 := 473) (st1 := .int (nI (r.length + 1 + 1)) :: _) rfl rfl (h_gIe (j := 73) rfl rfl rfl rfl rfl (hS.1)) rfl ?_
  refine w_p (pc1 := 474) (st1 := .int 1 :: _) rfl rfl ?_
  refine w_isub (pc1 := 475) (u := nI (r.length + 1 + 1)) (v := nI (1)) (z := nI (r.length + 1 + 1 - 1)) rfl (nK_sub (by omega)) rfl ?_
  refine w_m0 (pc1 := 478) rfl rfl (h_pI (j := 73) rfl rfl rfl rfl rfl rfl rfl ⟨rfl, rfl⟩ rfl) rfl ?_
  refine w_p (pc1 := 479) rfl rfl ?_
  refine w_m0 (pc1 := 482) rfl rfl (h_gC rfl rfl rfl rfl) rfl ?_
  refine w_p (pc1 := 483) rfl rfl ?_
  refine w_m0 (pc1 := 486) (st1 := .int (nI (r.length + 1 + 1 - 1)) :: _) rfl rfl (h_gIe (j := 73) rfl rfl rfl rfl rfl (rfl)) rfl ?_
  refine w_p (pc1 := 487) (st1 := .int 1 :: _) rfl rfl ?_
  refine w_isub (pc1 := 488) (u := nI (r.length + 1 + 1 - 1)) (v := nI (1)) (z := nI (r.length + 1 + 1 - 1 - 1)) rfl (nK_sub (by omega)) rfl ?_
  refine w_p (pc1 := 489) rfl rfl ?_
  refine w_p (pc1 := 491) rfl rfl ?_
  refine w_p (pc1 := 492) rfl rfl ?_
  refine w_m0 (pc1 := 495) rfl rfl (h_gC rfl rfl rfl rfl) rfl ?_
  refine w_p (pc1 := 496) rfl rfl ?_
  refine w_m0 (pc1 := 499) (st1 := .int (nI (r.length + 1 + 1 - 1)) :: _) rfl rfl (h_gIe (j := 73) rfl rfl rfl rfl rfl (rfl)) rfl ?_
  refine w_p (pc1 := 500) (st1 := .int 1 :: _) rfl rfl ?_
  refine w_isub (pc1 := 501) (u := nI (r.length + 1 + 1 - 1)) (v := nI (1)) (z := nI (r.length + 1 + 1 - 1 - 1)) rfl (nK_sub (by omega)) rfl ?_
  refine w_m0 (pc1 := 502) (st1 := .long (e_V x) :: _) rfl rfl (n_lle (e := r.length + 1 + 1 - 1 - 1) rfl rfl rfl (by omega) (hS.2.2.1)) rfl ?_
  refine w_p (pc1 := 503) rfl rfl ?_
  refine w_m0 (pc1 := 506) rfl rfl (h_gC rfl rfl rfl rfl) rfl ?_
  refine w_p (pc1 := 507) rfl rfl ?_
  refine w_m0 (pc1 := 510) (st1 := .int (nI (r.length + 1 + 1 - 1)) :: _) rfl rfl (h_gIe (j := 73) rfl rfl rfl rfl rfl (rfl)) rfl ?_
  refine w_m0 (pc1 := 511) (st1 := .long (e_V y) :: _) rfl rfl (n_lle (e := r.length + 1 + 1 - 1) rfl rfl rfl (by omega) (hS.2.1)) rfl ?_
  refine w_p (pc1 := 513) rfl rfl ?_
  refine w_je (pc1 := 516) (vs := [.ref 176, .long 60, .long (e_V x), .long (e_V y), .int (ck g)]) (rest := [.int (nI (r.length + 1 + 1 - 1 - 1)), .ref 224]) (st1 := [.long (v_M (.inr (u_t 15 x y))), .int (nI (r.length + 1 + 1 - 1 - 1)), .ref 224]) (hm) rfl rfl rfl (fun _ _ => rfl) rfl (by exact cl_v my_254 rfl rfl rfl (Nat.le_of_ble_eq_true rfl) rfl (MH_obj rfl rfl) rfl (by decide) rfl rfl) (by rfl) (Nat.le_of_ble_eq_true rfl) (Nat.le_of_ble_eq_true rfl) rfl (by rfl) ?_
  refine w_m0 (pc1 := 517) rfl rfl (n_ls (e := r.length + 1 + 1 - 1 - 1) rfl rfl rfl (by omega)) rfl ?_
  refine w_r rfl rfl rfl (fun _ _ => rfl) rfl ?_
  exact W1_i (st' := .inr (u_t 15 x y) :: r) (by rw [fo_15, hq]; rfl) (by rw [fo_15, u2_np (by decide), hq]; rfl) rfl (PIL_2 (v := .inr (u_t 15 x y)) hS) hz (frW_t (frW_I (Or.inl rfl)) frW_J)
set_option maxRecDepth 100000 in
theorem w_b16 {u : Int64} {x y : Option Int32} {r : List tv_T} (hp : p ≤ 40) (hk : k < 620) (hw : C.1 106 (620 * p + k) = 12) (hv : C.2.1 107 (620 * p + k) = 160) (hz : C.1 76 74 = ck z) (hS : PIL C (.inl y :: .inl x :: r)) (hl : r.length + 1 + 1 < 700) : Wd L xs (d + 2) y_252 (0, [(0, .ref 176), (1, .int (nI (p))), (2, .int (nI (k))), (3, .int (nI (row))), (4, .int (nI (f))), (5, .int (ck g))], [], MH C t, sl) (W1 C t sl g z R N O (16, b) (.inl y :: .inl x :: r) (true :: r.map tyv)) nX := by
  have hq : u_2 true 16 (.inl x) (.inl y) = some (.inr (u_t 16 x y)) := u2_B (by unfold isB; decide)
  have hm := m_254_16 (d := d) (sl := 0) (v := x) (w := y) (g := g) (L := L) (xs := xs) (C := sI C 76 73 (nI (r.length + 1))) (t := t)
  rw [hq] at hm
  refine w_p (pc1 := 1) rfl rfl ?_
  refine w_m0 (pc1 := 4) rfl rfl (h_gC rfl rfl rfl rfl) rfl ?_
  refine w_p (pc1 := 7) (st1 := .int 620 :: _) rfl rfl ?_
  refine w_p (pc1 := 8) rfl rfl ?_
  refine w_imul (pc1 := 9) (u := nI (620)) (v := nI (p)) (z := nI (620 * p)) rfl (nK_mul) rfl ?_
  refine w_p (pc1 := 10) rfl rfl ?_
  refine w_iadd (pc1 := 11) (u := nI (620 * p)) (v := nI (k)) (z := nI (620 * p + k)) rfl (nK_add) rfl ?_
  refine w_m0 (pc1 := 12) (st1 := .long 160 :: _) rfl rfl (n_lle (e := 620 * p + k) rfl rfl rfl (by omega) (hv)) rfl ?_
  refine w_p (pc1 := 14) (al1 := [(6, .long 160), (0, .ref 176), (1, .int (nI (p))), (2, .int (nI (k))), (3, .int (nI (row))), (4, .int (nI (f))), (5, .int (ck g))]) rfl rfl ?_
  refine w_p (pc1 := 15) rfl rfl ?_
  refine w_m0 (pc1 := 18) rfl rfl (h_gC rfl rfl rfl rfl) rfl ?_
  refine w_p (pc1 := 21) (st1 := .int 620 :: _) rfl rfl ?_
  refine w_p (pc1 := 22) rfl rfl ?_
  refine w_imul (pc1 := 23) (u := nI (620)) (v := nI (p)) (z := nI (620 * p)) rfl (nK_mul) rfl ?_
  refine w_p (pc1 := 24) rfl rfl ?_
  refine w_iadd (pc1 := 25) (u := nI (620 * p)) (v := nI (k)) (z := nI (620 * p + k)) rfl (nK_add) rfl ?_
  refine w_m0 (pc1 := 26) (st1 := .int 12 :: _) rfl rfl (n_ile (e := 620 * p + k) rfl rfl rfl (by omega) (hw)) rfl ?_
  refine w_p (pc1 := 468) rfl rfl ?_
  refine w_p (pc1 := 469) rfl rfl ?_
  refine w_p (pc1 := 470) rfl rfl ?_
  refine w_m0 (pc1 := 473) (st1 := .int (nI (r.length + 1 + 1)) :: _) rfl rfl (h_gIe (j := 73) rfl rfl rfl rfl rfl (hS.1)) rfl ?_
  refine w_p (pc1 := 474) (st1 := .int 1 :: _) rfl rfl ?_
  refine w_isub (pc1 := 475) (u := nI (r.length + 1 + 1)) (v := nI (1)) (z := nI (r.length + 1 + 1 - 1)) rfl (nK_sub (by omega)) rfl ?_
  refine w_m0 (pc1 := 478) rfl rfl (h_pI (j := 73) rfl rfl rfl rfl rfl rfl rfl ⟨rfl, rfl⟩ rfl) rfl ?_
  refine w_p (pc1 := 479) rfl rfl ?_
  refine w_m0 (pc1 := 482) rfl rfl (h_gC rfl rfl rfl rfl) rfl ?_
  refine w_p (pc1 := 483) rfl rfl ?_
  refine w_m0 (pc1 := 486) (st1 := .int (nI (r.length + 1 + 1 - 1)) :: _) rfl rfl (h_gIe (j := 73) rfl rfl rfl rfl rfl (rfl)) rfl ?_
  refine w_p (pc1 := 487) (st1 := .int 1 :: _) rfl rfl ?_
  refine w_isub (pc1 := 488) (u := nI (r.length + 1 + 1 - 1)) (v := nI (1)) (z := nI (r.length + 1 + 1 - 1 - 1)) rfl (nK_sub (by omega)) rfl ?_
  refine w_p (pc1 := 489) rfl rfl ?_
  refine w_p (pc1 := 491) rfl rfl ?_
  refine w_p (pc1 := 492) rfl rfl ?_
  refine w_m0 (pc1 := 495) rfl rfl (h_gC rfl rfl rfl rfl) rfl ?_
  refine w_p (pc1 := 496) rfl rfl ?_
  refine w_m0 (pc1 := 499) (st1 := .int (nI (r.length + 1 + 1 - 1)) :: _) rfl rfl (h_gIe (j := 73) rfl rfl rfl rfl rfl (rfl)) rfl ?_
  refine w_p (pc1 := 500) (st1 := .int 1 :: _) rfl rfl ?_
  refine w_isub (pc1 := 501) (u := nI (r.length + 1 + 1 - 1)) (v := nI (1)) (z := nI (r.length + 1 + 1 - 1 - 1)) rfl (nK_sub (by omega)) rfl ?_
  refine w_m0 (pc1 := 502) (st1 := .long (e_V x) :: _) rfl rfl (n_lle (e := r.length + 1 + 1 - 1 - 1) rfl rfl rfl (by omega) (hS.2.2.1)) rfl ?_
  refine w_p (pc1 := 503) rfl rfl ?_
  refine w_m0 (pc1 := 506) rfl rfl (h_gC rfl rfl rfl rfl) rfl ?_
  refine w_p (pc1 := 507) rfl rfl ?_
  refine w_m0 (pc1 := 510) (st1 := .int (nI (r.length + 1 + 1 - 1)) :: _) rfl rfl (h_gIe (j := 73) rfl rfl rfl rfl rfl (rfl)) rfl ?_
  refine w_m0 (pc1 := 511) (st1 := .long (e_V y) :: _) rfl rfl (n_lle (e := r.length + 1 + 1 - 1) rfl rfl rfl (by omega) (hS.2.1)) rfl ?_
  refine w_p (pc1 := 513) rfl rfl ?_
  refine w_je (pc1 := 516) (vs := [.ref 176, .long 160, .long (e_V x), .long (e_V y), .int (ck g)]) (rest := [.int (nI (r.length + 1 + 1 - 1 - 1)), .ref 224]) (st1 := [.long (v_M (.inr (u_t 16 x y))), .int (nI (r.length + 1 + 1 - 1 - 1)), .ref 224]) (hm) rfl rfl rfl (fun _ _ => rfl) rfl (by exact cl_v my_254 rfl rfl rfl (Nat.le_of_ble_eq_true rfl) rfl (MH_obj rfl rfl) rfl (by decide) rfl rfl) (by rfl) (Nat.le_of_ble_eq_true rfl) (Nat.le_of_ble_eq_true rfl) rfl (by rfl) ?_
  refine w_m0 (pc1 := 517) rfl rfl (n_ls (e := r.length + 1 + 1 - 1 - 1) rfl rfl rfl (by omega)) rfl ?_
  refine w_r rfl rfl rfl (fun _ _ => rfl) rfl ?_
  exact W1_i (st' := .inr (u_t 16 x y) :: r) (by rw [fo_16, hq]; rfl) (by rw [fo_16, u2_np (by decide), hq]; rfl) rfl (PIL_2 (v := .inr (u_t 16 x y)) hS) hz (frW_t (frW_I (Or.inl rfl)) frW_J)
set_option maxRecDepth 100000 in
theorem w_b17 {u : Int64} {x y : Option Int32} {r : List tv_T} (hp : p ≤ 40) (hk : k < 620) (hw : C.1 106 (620 * p + k) = 12) (hv : C.2.1 107 (620 * p + k) = 62) (hz : C.1 76 74 = ck z) (hS : PIL C (.inl y :: .inl x :: r)) (hl : r.length + 1 + 1 < 700) : Wd L xs (d + 2) y_252 (0, [(0, .ref 176), (1, .int (nI (p))), (2, .int (nI (k))), (3, .int (nI (row))), (4, .int (nI (f))), (5, .int (ck g))], [], MH C t, sl) (W1 C t sl g z R N O (17, b) (.inl y :: .inl x :: r) (true :: r.map tyv)) nX := by
  have hq : u_2 true 17 (.inl x) (.inl y) = some (.inr (u_t 17 x y)) := u2_B (by unfold isB; decide)
  have hm := m_254_17 (d := d) (sl := 0) (v := x) (w := y) (g := g) (L := L) (xs := xs) (C := sI C 76 73 (nI (r.length + 1))) (t := t)
  rw [hq] at hm
  refine w_p (pc1 := 1) rfl rfl ?_
  refine w_m0 (pc1 := 4) rfl rfl (h_gC rfl rfl rfl rfl) rfl ?_
  refine w_p (pc1 := 7) (st1 := .int 620 :: _) rfl rfl ?_
  refine w_p (pc1 := 8) rfl rfl ?_
  refine w_imul (pc1 := 9) (u := nI (620)) (v := nI (p)) (z := nI (620 * p)) rfl (nK_mul) rfl ?_
  refine w_p (pc1 := 10) rfl rfl ?_
  refine w_iadd (pc1 := 11) (u := nI (620 * p)) (v := nI (k)) (z := nI (620 * p + k)) rfl (nK_add) rfl ?_
  refine w_m0 (pc1 := 12) (st1 := .long 62 :: _) rfl rfl (n_lle (e := 620 * p + k) rfl rfl rfl (by omega) (hv)) rfl ?_
  refine w_p (pc1 := 14) (al1 := [(6, .long 62), (0, .ref 176), (1, .int (nI (p))), (2, .int (nI (k))), (3, .int (nI (row))), (4, .int (nI (f))), (5, .int (ck g))]) rfl rfl ?_
  refine w_p (pc1 := 15) rfl rfl ?_
  refine w_m0 (pc1 := 18) rfl rfl (h_gC rfl rfl rfl rfl) rfl ?_
  refine w_p (pc1 := 21) (st1 := .int 620 :: _) rfl rfl ?_
  refine w_p (pc1 := 22) rfl rfl ?_
  refine w_imul (pc1 := 23) (u := nI (620)) (v := nI (p)) (z := nI (620 * p)) rfl (nK_mul) rfl ?_
  refine w_p (pc1 := 24) rfl rfl ?_
  refine w_iadd (pc1 := 25) (u := nI (620 * p)) (v := nI (k)) (z := nI (620 * p + k)) rfl (nK_add) rfl ?_
  refine w_m0 (pc1 := 26) (st1 := .int 12 :: _) rfl rfl (n_ile (e := 620 * p + k) rfl rfl rfl (by omega) (hw)) rfl ?_
  refine w_p (pc1 := 468) rfl rfl ?_
  refine w_p (pc1 := 469) rfl rfl ?_
  refine w_p (pc1 := 470) rfl rfl ?_
  refine w_m0 (pc1 := 473) (st1 := .int (nI (r.length + 1 + 1)) :: _) rfl rfl (h_gIe (j := 73) rfl rfl rfl rfl rfl (hS.1)) rfl ?_
  refine w_p (pc1 := 474) (st1 := .int 1 :: _) rfl rfl ?_
  refine w_isub (pc1 := 475) (u := nI (r.length + 1 + 1)) (v := nI (1)) (z := nI (r.length + 1 + 1 - 1)) rfl (nK_sub (by omega)) rfl ?_
  refine w_m0 (pc1 := 478) rfl rfl (h_pI (j := 73) rfl rfl rfl rfl rfl rfl rfl ⟨rfl, rfl⟩ rfl) rfl ?_
  refine w_p (pc1 := 479) rfl rfl ?_
  refine w_m0 (pc1 := 482) rfl rfl (h_gC rfl rfl rfl rfl) rfl ?_
  refine w_p (pc1 := 483) rfl rfl ?_
  refine w_m0 (pc1 := 486) (st1 := .int (nI (r.length + 1 + 1 - 1)) :: _) rfl rfl (h_gIe (j := 73) rfl rfl rfl rfl rfl (rfl)) rfl ?_
  refine w_p (pc1 := 487) (st1 := .int 1 :: _) rfl rfl ?_
  refine w_isub (pc1 := 488) (u := nI (r.length + 1 + 1 - 1)) (v := nI (1)) (z := nI (r.length + 1 + 1 - 1 - 1)) rfl (nK_sub (by omega)) rfl ?_
  refine w_p (pc1 := 489) rfl rfl ?_
  refine w_p (pc1 := 491) rfl rfl ?_
  refine w_p (pc1 := 492) rfl rfl ?_
  refine w_m0 (pc1 := 495) rfl rfl (h_gC rfl rfl rfl rfl) rfl ?_
  refine w_p (pc1 := 496) rfl rfl ?_
  refine w_m0 (pc1 := 499) (st1 := .int (nI (r.length + 1 + 1 - 1)) :: _) rfl rfl (h_gIe (j := 73) rfl rfl rfl rfl rfl (rfl)) rfl ?_
  refine w_p (pc1 := 500) (st1 := .int 1 :: _) rfl rfl ?_
  refine w_isub (pc1 := 501) (u := nI (r.length + 1 + 1 - 1)) (v := nI (1)) (z := nI (r.length + 1 + 1 - 1 - 1)) rfl (nK_sub (by omega)) rfl ?_
  refine w_m0 (pc1 := 502) (st1 := .long (e_V x) :: _) rfl rfl (n_lle (e := r.length + 1 + 1 - 1 - 1) rfl rfl rfl (by omega) (hS.2.2.1)) rfl ?_
  refine w_p (pc1 := 503) rfl rfl ?_
  refine w_m0 (pc1 := 506) rfl rfl (h_gC rfl rfl rfl rfl) rfl ?_
  refine w_p (pc1 := 507) rfl rfl ?_
  refine w_m0 (pc1 := 510) (st1 := .int (nI (r.length + 1 + 1 - 1)) :: _) rfl rfl (h_gIe (j := 73) rfl rfl rfl rfl rfl (rfl)) rfl ?_
  refine w_m0 (pc1 := 511) (st1 := .long (e_V y) :: _) rfl rfl (n_lle (e := r.length + 1 + 1 - 1) rfl rfl rfl (by omega) (hS.2.1)) rfl ?_
  refine w_p (pc1 := 513) rfl rfl ?_
  refine w_je (pc1 := 516) (vs := [.ref 176, .long 62, .long (e_V x), .long (e_V y), .int (ck g)]) (rest := [.int (nI (r.length + 1 + 1 - 1 - 1)), .ref 224]) (st1 := [.long (v_M (.inr (u_t 17 x y))), .int (nI (r.length + 1 + 1 - 1 - 1)), .ref 224]) (hm) rfl rfl rfl (fun _ _ => rfl) rfl (by exact cl_v my_254 rfl rfl rfl (Nat.le_of_ble_eq_true rfl) rfl (MH_obj rfl rfl) rfl (by decide) rfl rfl) (by rfl) (Nat.le_of_ble_eq_true rfl) (Nat.le_of_ble_eq_true rfl) rfl (by rfl) ?_
  refine w_m0 (pc1 := 517) rfl rfl (n_ls (e := r.length + 1 + 1 - 1 - 1) rfl rfl rfl (by omega)) rfl ?_
  refine w_r rfl rfl rfl (fun _ _ => rfl) rfl ?_
  exact W1_i (st' := .inr (u_t 17 x y) :: r) (by rw [fo_17, hq]; rfl) (by rw [fo_17, u2_np (by decide), hq]; rfl) rfl (PIL_2 (v := .inr (u_t 17 x y)) hS) hz (frW_t (frW_I (Or.inl rfl)) frW_J)
set_option maxRecDepth 100000 in
theorem w_b18 {u : Int64} {x y : Option Int32} {r : List tv_T} (hp : p ≤ 40) (hk : k < 620) (hw : C.1 106 (620 * p + k) = 12) (hv : C.2.1 107 (620 * p + k) = 162) (hz : C.1 76 74 = ck z) (hS : PIL C (.inl y :: .inl x :: r)) (hl : r.length + 1 + 1 < 700) : Wd L xs (d + 2) y_252 (0, [(0, .ref 176), (1, .int (nI (p))), (2, .int (nI (k))), (3, .int (nI (row))), (4, .int (nI (f))), (5, .int (ck g))], [], MH C t, sl) (W1 C t sl g z R N O (18, b) (.inl y :: .inl x :: r) (true :: r.map tyv)) nX := by
  have hq : u_2 true 18 (.inl x) (.inl y) = some (.inr (u_t 18 x y)) := u2_B (by unfold isB; decide)
  have hm := m_254_18 (d := d) (sl := 0) (v := x) (w := y) (g := g) (L := L) (xs := xs) (C := sI C 76 73 (nI (r.length + 1))) (t := t)
  rw [hq] at hm
  refine w_p (pc1 := 1) rfl rfl ?_
  refine w_m0 (pc1 := 4) rfl rfl (h_gC rfl rfl rfl rfl) rfl ?_
  refine w_p (pc1 := 7) (st1 := .int 620 :: _) rfl rfl ?_
  refine w_p (pc1 := 8) rfl rfl ?_
  refine w_imul (pc1 := 9) (u := nI (620)) (v := nI (p)) (z := nI (620 * p)) rfl (nK_mul) rfl ?_
  refine w_p (pc1 := 10) rfl rfl ?_
  refine w_iadd (pc1 := 11) (u := nI (620 * p)) (v := nI (k)) (z := nI (620 * p + k)) rfl (nK_add) rfl ?_
  refine w_m0 (pc1 := 12) (st1 := .long 162 :: _) rfl rfl (n_lle (e := 620 * p + k) rfl rfl rfl (by omega) (hv)) rfl ?_
  refine w_p (pc1 := 14) (al1 := [(6, .long 162), (0, .ref 176), (1, .int (nI (p))), (2, .int (nI (k))), (3, .int (nI (row))), (4, .int (nI (f))), (5, .int (ck g))]) rfl rfl ?_
  refine w_p (pc1 := 15) rfl rfl ?_
  refine w_m0 (pc1 := 18) rfl rfl (h_gC rfl rfl rfl rfl) rfl ?_
  refine w_p (pc1 := 21) (st1 := .int 620 :: _) rfl rfl ?_
  refine w_p (pc1 := 22) rfl rfl ?_
  refine w_imul (pc1 := 23) (u := nI (620)) (v := nI (p)) (z := nI (620 * p)) rfl (nK_mul) rfl ?_
  refine w_p (pc1 := 24) rfl rfl ?_
  refine w_iadd (pc1 := 25) (u := nI (620 * p)) (v := nI (k)) (z := nI (620 * p + k)) rfl (nK_add) rfl ?_
  refine w_m0 (pc1 := 26) (st1 := .int 12 :: _) rfl rfl (n_ile (e := 620 * p + k) rfl rfl rfl (by omega) (hw)) rfl ?_
  refine w_p (pc1 := 468) rfl rfl ?_
  refine w_p (pc1 := 469) rfl rfl ?_
  refine w_p (pc1 := 470) rfl rfl ?_
  refine w_m0 (pc1 := 473) (st1 := .int (nI (r.length + 1 + 1)) :: _) rfl rfl (h_gIe (j := 73) rfl rfl rfl rfl rfl (hS.1)) rfl ?_
  refine w_p (pc1 := 474) (st1 := .int 1 :: _) rfl rfl ?_
  refine w_isub (pc1 := 475) (u := nI (r.length + 1 + 1)) (v := nI (1)) (z := nI (r.length + 1 + 1 - 1)) rfl (nK_sub (by omega)) rfl ?_
  refine w_m0 (pc1 := 478) rfl rfl (h_pI (j := 73) rfl rfl rfl rfl rfl rfl rfl ⟨rfl, rfl⟩ rfl) rfl ?_
  refine w_p (pc1 := 479) rfl rfl ?_
  refine w_m0 (pc1 := 482) rfl rfl (h_gC rfl rfl rfl rfl) rfl ?_
  refine w_p (pc1 := 483) rfl rfl ?_
  refine w_m0 (pc1 := 486) (st1 := .int (nI (r.length + 1 + 1 - 1)) :: _) rfl rfl (h_gIe (j := 73) rfl rfl rfl rfl rfl (rfl)) rfl ?_
  refine w_p (pc1 := 487) (st1 := .int 1 :: _) rfl rfl ?_
  refine w_isub (pc1 := 488) (u := nI (r.length + 1 + 1 - 1)) (v := nI (1)) (z := nI (r.length + 1 + 1 - 1 - 1)) rfl (nK_sub (by omega)) rfl ?_
  refine w_p (pc1 := 489) rfl rfl ?_
  refine w_p (pc1 := 491) rfl rfl ?_
  refine w_p (pc1 := 492) rfl rfl ?_
  refine w_m0 (pc1 := 495) rfl rfl (h_gC rfl rfl rfl rfl) rfl ?_
  refine w_p (pc1 := 496) rfl rfl ?_
  refine w_m0 (pc1 := 499) (st1 := .int (nI (r.length + 1 + 1 - 1)) :: _) rfl rfl (h_gIe (j := 73) rfl rfl rfl rfl rfl (rfl)) rfl ?_
  refine w_p (pc1 := 500) (st1 := .int 1 :: _) rfl rfl ?_
  refine w_isub (pc1 := 501) (u := nI (r.length + 1 + 1 - 1)) (v := nI (1)) (z := nI (r.length + 1 + 1 - 1 - 1)) rfl (nK_sub (by omega)) rfl ?_
  refine w_m0 (pc1 := 502) (st1 := .long (e_V x) :: _) rfl rfl (n_lle (e := r.length + 1 + 1 - 1 - 1) rfl rfl rfl (by omega) (hS.2.2.1)) rfl ?_
  refine w_p (pc1 := 503) rfl rfl ?_
  refine w_m0 (pc1 := 506) rfl rfl (h_gC rfl rfl rfl rfl) rfl ?_
  refine w_p (pc1 := 507) rfl rfl ?_
  refine w_m0 (pc1 := 510) (st1 := .int (nI (r.length + 1 + 1 - 1)) :: _) rfl rfl (h_gIe (j := 73) rfl rfl rfl rfl rfl (rfl)) rfl ?_
  refine w_m0 (pc1 := 511) (st1 := .long (e_V y) :: _) rfl rfl (n_lle (e := r.length + 1 + 1 - 1) rfl rfl rfl (by omega) (hS.2.1)) rfl ?_
  refine w_p (pc1 := 513) rfl rfl ?_
  refine w_je (pc1 := 516) (vs := [.ref 176, .long 162, .long (e_V x), .long (e_V y), .int (ck g)]) (rest := [.int (nI (r.length + 1 + 1 - 1 - 1)), .ref 224]) (st1 := [.long (v_M (.inr (u_t 18 x y))), .int (nI (r.length + 1 + 1 - 1 - 1)), .ref 224]) (hm) rfl rfl rfl (fun _ _ => rfl) rfl (by exact cl_v my_254 rfl rfl rfl (Nat.le_of_ble_eq_true rfl) rfl (MH_obj rfl rfl) rfl (by decide) rfl rfl) (by rfl) (Nat.le_of_ble_eq_true rfl) (Nat.le_of_ble_eq_true rfl) rfl (by rfl) ?_
  refine w_m0 (pc1 := 517) rfl rfl (n_ls (e := r.length + 1 + 1 - 1 - 1) rfl rfl rfl (by omega)) rfl ?_
  refine w_r rfl rfl rfl (fun _ _ => rfl) rfl ?_
  exact W1_i (st' := .inr (u_t 18 x y) :: r) (by rw [fo_18, hq]; rfl) (by rw [fo_18, u2_np (by decide), hq]; rfl) rfl (PIL_2 (v := .inr (u_t 18 x y)) hS) hz (frW_t (frW_I (Or.inl rfl)) frW_J)
set_option maxRecDepth 100000 in
theorem w_b19 {u : Int64} {x y : Option Bool} {r : List tv_T} (hp : p ≤ 40) (hk : k < 620) (hw : C.1 106 (620 * p + k) = 11) (hv : C.2.1 107 (620 * p + k) = u) (hz : C.1 76 74 = ck z) (hS : PIL C (.inr y :: .inr x :: r)) (hl : r.length + 1 + 1 < 700) : Wd L xs (d + 2) y_252 (0, [(0, .ref 176), (1, .int (nI (p))), (2, .int (nI (k))), (3, .int (nI (row))), (4, .int (nI (f))), (5, .int (ck g))], [], MH C t, sl) (W1 C t sl g z R N O (19, b) (.inr y :: .inr x :: r) (true :: r.map tyv)) nX := by
  have hq : u_2 true 19 (.inr x) (.inr y) = some (.inr (u_b 19 x y)) := rfl
  have hm := m_253_19 (d := d + 1) (sl := 0) (u := x) (z := y) (L := L) (xs := xs) (C := sI C 76 73 (nI (r.length + 1))) (t := t)
  rw [hq] at hm
  refine w_p (pc1 := 1) rfl rfl ?_
  refine w_m0 (pc1 := 4) rfl rfl (h_gC rfl rfl rfl rfl) rfl ?_
  refine w_p (pc1 := 7) (st1 := .int 620 :: _) rfl rfl ?_
  refine w_p (pc1 := 8) rfl rfl ?_
  refine w_imul (pc1 := 9) (u := nI (620)) (v := nI (p)) (z := nI (620 * p)) rfl (nK_mul) rfl ?_
  refine w_p (pc1 := 10) rfl rfl ?_
  refine w_iadd (pc1 := 11) (u := nI (620 * p)) (v := nI (k)) (z := nI (620 * p + k)) rfl (nK_add) rfl ?_
  refine w_m0 (pc1 := 12) (st1 := .long (u) :: _) rfl rfl (n_lle (e := 620 * p + k) rfl rfl rfl (by omega) (hv)) rfl ?_
  refine w_p (pc1 := 14) (al1 := [(6, .long (u)), (0, .ref 176), (1, .int (nI (p))), (2, .int (nI (k))), (3, .int (nI (row))), (4, .int (nI (f))), (5, .int (ck g))]) rfl rfl ?_
  refine w_p (pc1 := 15) rfl rfl ?_
  refine w_m0 (pc1 := 18) rfl rfl (h_gC rfl rfl rfl rfl) rfl ?_
  refine w_p (pc1 := 21) (st1 := .int 620 :: _) rfl rfl ?_
  refine w_p (pc1 := 22) rfl rfl ?_
  refine w_imul (pc1 := 23) (u := nI (620)) (v := nI (p)) (z := nI (620 * p)) rfl (nK_mul) rfl ?_
  refine w_p (pc1 := 24) rfl rfl ?_
  refine w_iadd (pc1 := 25) (u := nI (620 * p)) (v := nI (k)) (z := nI (620 * p + k)) rfl (nK_add) rfl ?_
  refine w_m0 (pc1 := 26) (st1 := .int 11 :: _) rfl rfl (n_ile (e := 620 * p + k) rfl rfl rfl (by omega) (hw)) rfl ?_
  refine w_p (pc1 := 399) rfl rfl ?_
  refine w_p (pc1 := 400) rfl rfl ?_
  refine w_p (pc1 := 401) rfl rfl ?_
  refine w_m0 (pc1 := 404) (st1 := .int (nI (r.length + 1 + 1)) :: _) rfl rfl (h_gIe (j := 73) rfl rfl rfl rfl rfl (hS.1)) rfl ?_
  refine w_p (pc1 := 405) (st1 := .int 1 :: _) rfl rfl ?_
  refine w_isub (pc1 := 406) (u := nI (r.length + 1 + 1)) (v := nI (1)) (z := nI (r.length + 1 + 1 - 1)) rfl (nK_sub (by omega)) rfl ?_
  refine w_m0 (pc1 := 409) rfl rfl (h_pI (j := 73) rfl rfl rfl rfl rfl rfl rfl ⟨rfl, rfl⟩ rfl) rfl ?_
  refine w_p (pc1 := 410) rfl rfl ?_
  refine w_m0 (pc1 := 413) rfl rfl (h_gC rfl rfl rfl rfl) rfl ?_
  refine w_p (pc1 := 414) rfl rfl ?_
  refine w_m0 (pc1 := 417) (st1 := .int (nI (r.length + 1 + 1 - 1)) :: _) rfl rfl (h_gIe (j := 73) rfl rfl rfl rfl rfl (rfl)) rfl ?_
  refine w_p (pc1 := 418) (st1 := .int 1 :: _) rfl rfl ?_
  refine w_isub (pc1 := 419) (u := nI (r.length + 1 + 1 - 1)) (v := nI (1)) (z := nI (r.length + 1 + 1 - 1 - 1)) rfl (nK_sub (by omega)) rfl ?_
  refine w_p (pc1 := 420) rfl rfl ?_
  refine w_m0 (pc1 := 423) rfl rfl (h_gC rfl rfl rfl rfl) rfl ?_
  refine w_p (pc1 := 426) (st1 := .int 620 :: _) rfl rfl ?_
  refine w_p (pc1 := 427) rfl rfl ?_
  refine w_imul (pc1 := 428) (u := nI (620)) (v := nI (p)) (z := nI (620 * p)) rfl (nK_mul) rfl ?_
  refine w_p (pc1 := 429) rfl rfl ?_
  refine w_iadd (pc1 := 430) (u := nI (620 * p)) (v := nI (k)) (z := nI (620 * p + k)) rfl (nK_add) rfl ?_
  refine w_m0 (pc1 := 431) (st1 := .int 11 :: _) rfl rfl (n_ile (e := 620 * p + k) rfl rfl rfl (by omega) (hw)) rfl ?_
  refine w_p (pc1 := 433) (st1 := .int 11 :: _) rfl rfl ?_
  refine w_f (a := 440) (b := 436) rfl rfl rfl ?_
  refine w_p (pc1 := 437) (st1 := .int 1 :: _) rfl rfl ?_
  refine w_p (pc1 := 441) rfl rfl ?_
  refine w_p (pc1 := 442) rfl rfl ?_
  refine w_m0 (pc1 := 445) rfl rfl (h_gC rfl rfl rfl rfl) rfl ?_
  refine w_p (pc1 := 446) rfl rfl ?_
  refine w_m0 (pc1 := 449) (st1 := .int (nI (r.length + 1 + 1 - 1)) :: _) rfl rfl (h_gIe (j := 73) rfl rfl rfl rfl rfl (rfl)) rfl ?_
  refine w_p (pc1 := 450) (st1 := .int 1 :: _) rfl rfl ?_
  refine w_isub (pc1 := 451) (u := nI (r.length + 1 + 1 - 1)) (v := nI (1)) (z := nI (r.length + 1 + 1 - 1 - 1)) rfl (nK_sub (by omega)) rfl ?_
  refine w_m0 (pc1 := 452) (st1 := .long (t_M x) :: _) rfl rfl (n_lle (e := r.length + 1 + 1 - 1 - 1) rfl rfl rfl (by omega) (hS.2.2.1)) rfl ?_
  refine w_p (pc1 := 453) rfl rfl ?_
  refine w_m0 (pc1 := 456) rfl rfl (h_gC rfl rfl rfl rfl) rfl ?_
  refine w_p (pc1 := 457) rfl rfl ?_
  refine w_m0 (pc1 := 460) (st1 := .int (nI (r.length + 1 + 1 - 1)) :: _) rfl rfl (h_gIe (j := 73) rfl rfl rfl rfl rfl (rfl)) rfl ?_
  refine w_m0 (pc1 := 461) (st1 := .long (t_M y) :: _) rfl rfl (n_lle (e := r.length + 1 + 1 - 1) rfl rfl rfl (by omega) (hS.2.1)) rfl ?_
  refine w_je (pc1 := 464) (vs := [.int 1, .long (t_M x), .long (t_M y)]) (rest := [.int (nI (r.length + 1 + 1 - 1 - 1)), .ref 224]) (st1 := [.long (v_M (.inr (u_b 19 x y))), .int (nI (r.length + 1 + 1 - 1 - 1)), .ref 224]) (hm) rfl rfl rfl (fun _ _ => rfl) rfl (by exact cl_s my_253 rfl rfl rfl (Nat.le_of_ble_eq_true rfl) rfl rfl) (by rfl) (Nat.le_of_ble_eq_true rfl) (Nat.le_of_ble_eq_true rfl) rfl (by rfl) ?_
  refine w_m0 (pc1 := 465) rfl rfl (n_ls (e := r.length + 1 + 1 - 1 - 1) rfl rfl rfl (by omega)) rfl ?_
  refine w_p (pc1 := 517) rfl rfl ?_
  refine w_r rfl rfl rfl (fun _ _ => rfl) rfl ?_
  exact W1_i (st' := .inr (u_b 19 x y) :: r) (by rw [fo_19, hq]; rfl) (by rw [fo_19, show u_2 g 19 (.inr x) (.inr y) = u_2 true 19 (.inr x) (.inr y) from rfl, hq]; rfl) rfl (PIL_2 (v := .inr (u_b 19 x y)) hS) hz (frW_t (frW_I (Or.inl rfl)) frW_J)
set_option maxRecDepth 100000 in
theorem w_b20 {u : Int64} {x y : Option Bool} {r : List tv_T} (hp : p ≤ 40) (hk : k < 620) (hw : C.1 106 (620 * p + k) = 10) (hv : C.2.1 107 (620 * p + k) = u) (hz : C.1 76 74 = ck z) (hS : PIL C (.inr y :: .inr x :: r)) (hl : r.length + 1 + 1 < 700) : Wd L xs (d + 2) y_252 (0, [(0, .ref 176), (1, .int (nI (p))), (2, .int (nI (k))), (3, .int (nI (row))), (4, .int (nI (f))), (5, .int (ck g))], [], MH C t, sl) (W1 C t sl g z R N O (20, b) (.inr y :: .inr x :: r) (true :: r.map tyv)) nX := by
  have hq : u_2 true 20 (.inr x) (.inr y) = some (.inr (u_b 20 x y)) := rfl
  have hm := m_253_20 (d := d + 1) (sl := 0) (u := x) (z := y) (L := L) (xs := xs) (C := sI C 76 73 (nI (r.length + 1))) (t := t)
  rw [hq] at hm
  refine w_p (pc1 := 1) rfl rfl ?_
  refine w_m0 (pc1 := 4) rfl rfl (h_gC rfl rfl rfl rfl) rfl ?_
  refine w_p (pc1 := 7) (st1 := .int 620 :: _) rfl rfl ?_
  refine w_p (pc1 := 8) rfl rfl ?_
  refine w_imul (pc1 := 9) (u := nI (620)) (v := nI (p)) (z := nI (620 * p)) rfl (nK_mul) rfl ?_
  refine w_p (pc1 := 10) rfl rfl ?_
  refine w_iadd (pc1 := 11) (u := nI (620 * p)) (v := nI (k)) (z := nI (620 * p + k)) rfl (nK_add) rfl ?_
  refine w_m0 (pc1 := 12) (st1 := .long (u) :: _) rfl rfl (n_lle (e := 620 * p + k) rfl rfl rfl (by omega) (hv)) rfl ?_
  refine w_p (pc1 := 14) (al1 := [(6, .long (u)), (0, .ref 176), (1, .int (nI (p))), (2, .int (nI (k))), (3, .int (nI (row))), (4, .int (nI (f))), (5, .int (ck g))]) rfl rfl ?_
  refine w_p (pc1 := 15) rfl rfl ?_
  refine w_m0 (pc1 := 18) rfl rfl (h_gC rfl rfl rfl rfl) rfl ?_
  refine w_p (pc1 := 21) (st1 := .int 620 :: _) rfl rfl ?_
  refine w_p (pc1 := 22) rfl rfl ?_
  refine w_imul (pc1 := 23) (u := nI (620)) (v := nI (p)) (z := nI (620 * p)) rfl (nK_mul) rfl ?_
  refine w_p (pc1 := 24) rfl rfl ?_
  refine w_iadd (pc1 := 25) (u := nI (620 * p)) (v := nI (k)) (z := nI (620 * p + k)) rfl (nK_add) rfl ?_
  refine w_m0 (pc1 := 26) (st1 := .int 10 :: _) rfl rfl (n_ile (e := 620 * p + k) rfl rfl rfl (by omega) (hw)) rfl ?_
  refine w_p (pc1 := 399) rfl rfl ?_
  refine w_p (pc1 := 400) rfl rfl ?_
  refine w_p (pc1 := 401) rfl rfl ?_
  refine w_m0 (pc1 := 404) (st1 := .int (nI (r.length + 1 + 1)) :: _) rfl rfl (h_gIe (j := 73) rfl rfl rfl rfl rfl (hS.1)) rfl ?_
  refine w_p (pc1 := 405) (st1 := .int 1 :: _) rfl rfl ?_
  refine w_isub (pc1 := 406) (u := nI (r.length + 1 + 1)) (v := nI (1)) (z := nI (r.length + 1 + 1 - 1)) rfl (nK_sub (by omega)) rfl ?_
  refine w_m0 (pc1 := 409) rfl rfl (h_pI (j := 73) rfl rfl rfl rfl rfl rfl rfl ⟨rfl, rfl⟩ rfl) rfl ?_
  refine w_p (pc1 := 410) rfl rfl ?_
  refine w_m0 (pc1 := 413) rfl rfl (h_gC rfl rfl rfl rfl) rfl ?_
  refine w_p (pc1 := 414) rfl rfl ?_
  refine w_m0 (pc1 := 417) (st1 := .int (nI (r.length + 1 + 1 - 1)) :: _) rfl rfl (h_gIe (j := 73) rfl rfl rfl rfl rfl (rfl)) rfl ?_
  refine w_p (pc1 := 418) (st1 := .int 1 :: _) rfl rfl ?_
  refine w_isub (pc1 := 419) (u := nI (r.length + 1 + 1 - 1)) (v := nI (1)) (z := nI (r.length + 1 + 1 - 1 - 1)) rfl (nK_sub (by omega)) rfl ?_
  refine w_p (pc1 := 420) rfl rfl ?_
  refine w_m0 (pc1 := 423) rfl rfl (h_gC rfl rfl rfl rfl) rfl ?_
  refine w_p (pc1 := 426) (st1 := .int 620 :: _) rfl rfl ?_
  refine w_p (pc1 := 427) rfl rfl ?_
  refine w_imul (pc1 := 428) (u := nI (620)) (v := nI (p)) (z := nI (620 * p)) rfl (nK_mul) rfl ?_
  refine w_p (pc1 := 429) rfl rfl ?_
  refine w_iadd (pc1 := 430) (u := nI (620 * p)) (v := nI (k)) (z := nI (620 * p + k)) rfl (nK_add) rfl ?_
  refine w_m0 (pc1 := 431) (st1 := .int 10 :: _) rfl rfl (n_ile (e := 620 * p + k) rfl rfl rfl (by omega) (hw)) rfl ?_
  refine w_p (pc1 := 433) (st1 := .int 11 :: _) rfl rfl ?_
  refine w_t (a := 440) (b := 436) rfl rfl rfl ?_
  refine w_p (pc1 := 441) (st1 := .int 0 :: _) rfl rfl ?_
  refine w_p (pc1 := 442) rfl rfl ?_
  refine w_m0 (pc1 := 445) rfl rfl (h_gC rfl rfl rfl rfl) rfl ?_
  refine w_p (pc1 := 446) rfl rfl ?_
  refine w_m0 (pc1 := 449) (st1 := .int (nI (r.length + 1 + 1 - 1)) :: _) rfl rfl (h_gIe (j := 73) rfl rfl rfl rfl rfl (rfl)) rfl ?_
  refine w_p (pc1 := 450) (st1 := .int 1 :: _) rfl rfl ?_
  refine w_isub (pc1 := 451) (u := nI (r.length + 1 + 1 - 1)) (v := nI (1)) (z := nI (r.length + 1 + 1 - 1 - 1)) rfl (nK_sub (by omega)) rfl ?_
  refine w_m0 (pc1 := 452) (st1 := .long (t_M x) :: _) rfl rfl (n_lle (e := r.length + 1 + 1 - 1 - 1) rfl rfl rfl (by omega) (hS.2.2.1)) rfl ?_
  refine w_p (pc1 := 453) rfl rfl ?_
  refine w_m0 (pc1 := 456) rfl rfl (h_gC rfl rfl rfl rfl) rfl ?_
  refine w_p (pc1 := 457) rfl rfl ?_
  refine w_m0 (pc1 := 460) (st1 := .int (nI (r.length + 1 + 1 - 1)) :: _) rfl rfl (h_gIe (j := 73) rfl rfl rfl rfl rfl (rfl)) rfl ?_
  refine w_m0 (pc1 := 461) (st1 := .long (t_M y) :: _) rfl rfl (n_lle (e := r.length + 1 + 1 - 1) rfl rfl rfl (by omega) (hS.2.1)) rfl ?_
  refine w_je (pc1 := 464) (vs := [.int 0, .long (t_M x), .long (t_M y)]) (rest := [.int (nI (r.length + 1 + 1 - 1 - 1)), .ref 224]) (st1 := [.long (v_M (.inr (u_b 20 x y))), .int (nI (r.length + 1 + 1 - 1 - 1)), .ref 224]) (hm) rfl rfl rfl (fun _ _ => rfl) rfl (by exact cl_s my_253 rfl rfl rfl (Nat.le_of_ble_eq_true rfl) rfl rfl) (by rfl) (Nat.le_of_ble_eq_true rfl) (Nat.le_of_ble_eq_true rfl) rfl (by rfl) ?_
  refine w_m0 (pc1 := 465) rfl rfl (n_ls (e := r.length + 1 + 1 - 1 - 1) rfl rfl rfl (by omega)) rfl ?_
  refine w_p (pc1 := 517) rfl rfl ?_
  refine w_r rfl rfl rfl (fun _ _ => rfl) rfl ?_
  exact W1_i (st' := .inr (u_b 20 x y) :: r) (by rw [fo_20, hq]; rfl) (by rw [fo_20, show u_2 g 20 (.inr x) (.inr y) = u_2 true 20 (.inr x) (.inr y) from rfl, hq]; rfl) rfl (PIL_2 (v := .inr (u_b 20 x y)) hS) hz (frW_t (frW_I (Or.inl rfl)) frW_J)
set_option maxRecDepth 100000 in
theorem w_b12a {x y : Int32} {v : Option Int32} {r : List tv_T} (hp : p ≤ 40) (hk : k < 620) (hw : C.1 106 (620 * p + k) = 12) (hv : C.2.1 107 (620 * p + k) = 47) (hz : C.1 76 74 = ck z) (hS : PIL C (.inl (v) :: .inl (none) :: r)) (hl : r.length + 1 + 1 < 700) : Wd L xs (d + 2) y_252 (0, [(0, .ref 176), (1, .int (nI (p))), (2, .int (nI (k))), (3, .int (nI (row))), (4, .int (nI (f))), (5, .int (ck g))], [], MH C t, sl) (W1 C t sl g z R N O (12, b) (.inl (v) :: .inl (none) :: r) (false :: r.map tyv)) nX := by
  have hm := m_254_12a (d := d) (sl := 0) (w := v) (g := g) (L := L) (xs := xs) (C := sI C 76 73 (nI (r.length + 1))) (t := t)
  refine w_p (pc1 := 1) rfl rfl ?_
  refine w_m0 (pc1 := 4) rfl rfl (h_gC rfl rfl rfl rfl) rfl ?_
  refine w_p (pc1 := 7) (st1 := .int 620 :: _) rfl rfl ?_
  refine w_p (pc1 := 8) rfl rfl ?_
  refine w_imul (pc1 := 9) (u := nI (620)) (v := nI (p)) (z := nI (620 * p)) rfl (nK_mul) rfl ?_
  refine w_p (pc1 := 10) rfl rfl ?_
  refine w_iadd (pc1 := 11) (u := nI (620 * p)) (v := nI (k)) (z := nI (620 * p + k)) rfl (nK_add) rfl ?_
  refine w_m0 (pc1 := 12) (st1 := .long 47 :: _) rfl rfl (n_lle (e := 620 * p + k) rfl rfl rfl (by omega) (hv)) rfl ?_
  refine w_p (pc1 := 14) (al1 := [(6, .long 47), (0, .ref 176), (1, .int (nI (p))), (2, .int (nI (k))), (3, .int (nI (row))), (4, .int (nI (f))), (5, .int (ck g))]) rfl rfl ?_
  refine w_p (pc1 := 15) rfl rfl ?_
  refine w_m0 (pc1 := 18) rfl rfl (h_gC rfl rfl rfl rfl) rfl ?_
  refine w_p (pc1 := 21) (st1 := .int 620 :: _) rfl rfl ?_
  refine w_p (pc1 := 22) rfl rfl ?_
  refine w_imul (pc1 := 23) (u := nI (620)) (v := nI (p)) (z := nI (620 * p)) rfl (nK_mul) rfl ?_
  refine w_p (pc1 := 24) rfl rfl ?_
  refine w_iadd (pc1 := 25) (u := nI (620 * p)) (v := nI (k)) (z := nI (620 * p + k)) rfl (nK_add) rfl ?_
  refine w_m0 (pc1 := 26) (st1 := .int 12 :: _) rfl rfl (n_ile (e := 620 * p + k) rfl rfl rfl (by omega) (hw)) rfl ?_
  refine w_p (pc1 := 468) rfl rfl ?_
  refine w_p (pc1 := 469) rfl rfl ?_
  refine w_p (pc1 := 470) rfl rfl ?_
  refine w_m0 (pc1 := 473) (st1 := .int (nI (r.length + 1 + 1)) :: _) rfl rfl (h_gIe (j := 73) rfl rfl rfl rfl rfl (hS.1)) rfl ?_
  refine w_p (pc1 := 474) (st1 := .int 1 :: _) rfl rfl ?_
  refine w_isub (pc1 := 475) (u := nI (r.length + 1 + 1)) (v := nI (1)) (z := nI (r.length + 1 + 1 - 1)) rfl (nK_sub (by omega)) rfl ?_
  refine w_m0 (pc1 := 478) rfl rfl (h_pI (j := 73) rfl rfl rfl rfl rfl rfl rfl ⟨rfl, rfl⟩ rfl) rfl ?_
  refine w_p (pc1 := 479) rfl rfl ?_
  refine w_m0 (pc1 := 482) rfl rfl (h_gC rfl rfl rfl rfl) rfl ?_
  refine w_p (pc1 := 483) rfl rfl ?_
  refine w_m0 (pc1 := 486) (st1 := .int (nI (r.length + 1 + 1 - 1)) :: _) rfl rfl (h_gIe (j := 73) rfl rfl rfl rfl rfl (rfl)) rfl ?_
  refine w_p (pc1 := 487) (st1 := .int 1 :: _) rfl rfl ?_
  refine w_isub (pc1 := 488) (u := nI (r.length + 1 + 1 - 1)) (v := nI (1)) (z := nI (r.length + 1 + 1 - 1 - 1)) rfl (nK_sub (by omega)) rfl ?_
  refine w_p (pc1 := 489) rfl rfl ?_
  refine w_p (pc1 := 491) rfl rfl ?_
  refine w_p (pc1 := 492) rfl rfl ?_
  refine w_m0 (pc1 := 495) rfl rfl (h_gC rfl rfl rfl rfl) rfl ?_
  refine w_p (pc1 := 496) rfl rfl ?_
  refine w_m0 (pc1 := 499) (st1 := .int (nI (r.length + 1 + 1 - 1)) :: _) rfl rfl (h_gIe (j := 73) rfl rfl rfl rfl rfl (rfl)) rfl ?_
  refine w_p (pc1 := 500) (st1 := .int 1 :: _) rfl rfl ?_
  refine w_isub (pc1 := 501) (u := nI (r.length + 1 + 1 - 1)) (v := nI (1)) (z := nI (r.length + 1 + 1 - 1 - 1)) rfl (nK_sub (by omega)) rfl ?_
  refine w_m0 (pc1 := 502) (st1 := .long (e_V (none)) :: _) rfl rfl (n_lle (e := r.length + 1 + 1 - 1 - 1) rfl rfl rfl (by omega) (hS.2.2.1)) rfl ?_
  refine w_p (pc1 := 503) rfl rfl ?_
  refine w_m0 (pc1 := 506) rfl rfl (h_gC rfl rfl rfl rfl) rfl ?_
  refine w_p (pc1 := 507) rfl rfl ?_
  refine w_m0 (pc1 := 510) (st1 := .int (nI (r.length + 1 + 1 - 1)) :: _) rfl rfl (h_gIe (j := 73) rfl rfl rfl rfl rfl (rfl)) rfl ?_
  refine w_m0 (pc1 := 511) (st1 := .long (e_V (v)) :: _) rfl rfl (n_lle (e := r.length + 1 + 1 - 1) rfl rfl rfl (by omega) (hS.2.1)) rfl ?_
  refine w_p (pc1 := 513) rfl rfl ?_
  refine w_je (pc1 := 516) (vs := [.ref 176, .long 47, .long (e_V (none)), .long (e_V (v)), .int (ck g)]) (rest := [.int (nI (r.length + 1 + 1 - 1 - 1)), .ref 224]) (st1 := [.long (e_V (none)), .int (nI (r.length + 1 + 1 - 1 - 1)), .ref 224]) (hm) rfl rfl rfl (fun _ _ => rfl) rfl (by exact cl_v my_254 rfl rfl rfl (Nat.le_of_ble_eq_true rfl) rfl (MH_obj rfl rfl) rfl (by decide) rfl rfl) (by rfl) (Nat.le_of_ble_eq_true rfl) (Nat.le_of_ble_eq_true rfl) rfl (by rfl) ?_
  refine w_m0 (pc1 := 517) rfl rfl (n_ls (e := r.length + 1 + 1 - 1 - 1) rfl rfl rfl (by omega)) rfl ?_
  refine w_r rfl rfl rfl (fun _ _ => rfl) rfl ?_
  exact W1_i (st' := .inl (none) :: r) (by rw [fo_12, u2_A (by unfold isA; decide)]; rfl) (by rw [fo_12, u2_A (by unfold isA; decide)]; rfl) rfl (PIL_2 (v := .inl (none)) hS) hz (frW_t (frW_I (Or.inl rfl)) frW_J)
set_option maxRecDepth 100000 in
theorem w_b12b {x y : Int32} {v : Option Int32} {r : List tv_T} (hp : p ≤ 40) (hk : k < 620) (hw : C.1 106 (620 * p + k) = 12) (hv : C.2.1 107 (620 * p + k) = 47) (hz : C.1 76 74 = ck z) (hS : PIL C (.inl (none) :: .inl (some x) :: r)) (hl : r.length + 1 + 1 < 700) : Wd L xs (d + 2) y_252 (0, [(0, .ref 176), (1, .int (nI (p))), (2, .int (nI (k))), (3, .int (nI (row))), (4, .int (nI (f))), (5, .int (ck g))], [], MH C t, sl) (W1 C t sl g z R N O (12, b) (.inl (none) :: .inl (some x) :: r) (false :: r.map tyv)) nX := by
  have hm := m_254_12b (d := d) (sl := 0) (x := x) (g := g) (L := L) (xs := xs) (C := sI C 76 73 (nI (r.length + 1))) (t := t)
  refine w_p (pc1 := 1) rfl rfl ?_
  refine w_m0 (pc1 := 4) rfl rfl (h_gC rfl rfl rfl rfl) rfl ?_
  refine w_p (pc1 := 7) (st1 := .int 620 :: _) rfl rfl ?_
  refine w_p (pc1 := 8) rfl rfl ?_
  refine w_imul (pc1 := 9) (u := nI (620)) (v := nI (p)) (z := nI (620 * p)) rfl (nK_mul) rfl ?_
  refine w_p (pc1 := 10) rfl rfl ?_
  refine w_iadd (pc1 := 11) (u := nI (620 * p)) (v := nI (k)) (z := nI (620 * p + k)) rfl (nK_add) rfl ?_
  refine w_m0 (pc1 := 12) (st1 := .long 47 :: _) rfl rfl (n_lle (e := 620 * p + k) rfl rfl rfl (by omega) (hv)) rfl ?_
  refine w_p (pc1 := 14) (al1 := [(6, .long 47), (0, .ref 176), (1, .int (nI (p))), (2, .int (nI (k))), (3, .int (nI (row))), (4, .int (nI (f))), (5, .int (ck g))]) rfl rfl ?_
  refine w_p (pc1 := 15) rfl rfl ?_
  refine w_m0 (pc1 := 18) rfl rfl (h_gC rfl rfl rfl rfl) rfl ?_
  refine w_p (pc1 := 21) (st1 := .int 620 :: _) rfl rfl ?_
  refine w_p (pc1 := 22) rfl rfl ?_
  refine w_imul (pc1 := 23) (u := nI (620)) (v := nI (p)) (z := nI (620 * p)) rfl (nK_mul) rfl ?_
  refine w_p (pc1 := 24) rfl rfl ?_
  refine w_iadd (pc1 := 25) (u := nI (620 * p)) (v := nI (k)) (z := nI (620 * p + k)) rfl (nK_add) rfl ?_
  refine w_m0 (pc1 := 26) (st1 := .int 12 :: _) rfl rfl (n_ile (e := 620 * p + k) rfl rfl rfl (by omega) (hw)) rfl ?_
  refine w_p (pc1 := 468) rfl rfl ?_
  refine w_p (pc1 := 469) rfl rfl ?_
  refine w_p (pc1 := 470) rfl rfl ?_
  refine w_m0 (pc1 := 473) (st1 := .int (nI (r.length + 1 + 1)) :: _) rfl rfl (h_gIe (j := 73) rfl rfl rfl rfl rfl (hS.1)) rfl ?_
  refine w_p (pc1 := 474) (st1 := .int 1 :: _) rfl rfl ?_
  refine w_isub (pc1 := 475) (u := nI (r.length + 1 + 1)) (v := nI (1)) (z := nI (r.length + 1 + 1 - 1)) rfl (nK_sub (by omega)) rfl ?_
  refine w_m0 (pc1 := 478) rfl rfl (h_pI (j := 73) rfl rfl rfl rfl rfl rfl rfl ⟨rfl, rfl⟩ rfl) rfl ?_
  refine w_p (pc1 := 479) rfl rfl ?_
  refine w_m0 (pc1 := 482) rfl rfl (h_gC rfl rfl rfl rfl) rfl ?_
  refine w_p (pc1 := 483) rfl rfl ?_
  refine w_m0 (pc1 := 486) (st1 := .int (nI (r.length + 1 + 1 - 1)) :: _) rfl rfl (h_gIe (j := 73) rfl rfl rfl rfl rfl (rfl)) rfl ?_
  refine w_p (pc1 := 487) (st1 := .int 1 :: _) rfl rfl ?_
  refine w_isub (pc1 := 488) (u := nI (r.length + 1 + 1 - 1)) (v := nI (1)) (z := nI (r.length + 1 + 1 - 1 - 1)) rfl (nK_sub (by omega)) rfl ?_
  refine w_p (pc1 := 489) rfl rfl ?_
  refine w_p (pc1 := 491) rfl rfl ?_
  refine w_p (pc1 := 492) rfl rfl ?_
  refine w_m0 (pc1 := 495) rfl rfl (h_gC rfl rfl rfl rfl) rfl ?_
  refine w_p (pc1 := 496) rfl rfl ?_
  refine w_m0 (pc1 := 499) (st1 := .int (nI (r.length + 1 + 1 - 1)) :: _) rfl rfl (h_gIe (j := 73) rfl rfl rfl rfl rfl (rfl)) rfl ?_
  refine w_p (pc1 := 500) (st1 := .int 1 :: _) rfl rfl ?_
  refine w_isub (pc1 := 501) (u := nI (r.length + 1 + 1 - 1)) (v := nI (1)) (z := nI (r.length + 1 + 1 - 1 - 1)) rfl (nK_sub (by omega)) rfl ?_
  refine w_m0 (pc1 := 502) (st1 := .long (e_V (some x)) :: _) rfl rfl (n_lle (e := r.length + 1 + 1 - 1 - 1) rfl rfl rfl (by omega) (hS.2.2.1)) rfl ?_
  refine w_p (pc1 := 503) rfl rfl ?_
  refine w_m0 (pc1 := 506) rfl rfl (h_gC rfl rfl rfl rfl) rfl ?_
  refine w_p (pc1 := 507) rfl rfl ?_
  refine w_m0 (pc1 := 510) (st1 := .int (nI (r.length + 1 + 1 - 1)) :: _) rfl rfl (h_gIe (j := 73) rfl rfl rfl rfl rfl (rfl)) rfl ?_
  refine w_m0 (pc1 := 511) (st1 := .long (e_V (none)) :: _) rfl rfl (n_lle (e := r.length + 1 + 1 - 1) rfl rfl rfl (by omega) (hS.2.1)) rfl ?_
  refine w_p (pc1 := 513) rfl rfl ?_
  refine w_je (pc1 := 516) (vs := [.ref 176, .long 47, .long (e_V (some x)), .long (e_V (none)), .int (ck g)]) (rest := [.int (nI (r.length + 1 + 1 - 1 - 1)), .ref 224]) (st1 := [.long (e_V (none)), .int (nI (r.length + 1 + 1 - 1 - 1)), .ref 224]) (hm) rfl rfl rfl (fun _ _ => rfl) rfl (by exact cl_v my_254 rfl rfl rfl (Nat.le_of_ble_eq_true rfl) rfl (MH_obj rfl rfl) rfl (by decide) rfl rfl) (by rfl) (Nat.le_of_ble_eq_true rfl) (Nat.le_of_ble_eq_true rfl) rfl (by rfl) ?_
  refine w_m0 (pc1 := 517) rfl rfl (n_ls (e := r.length + 1 + 1 - 1 - 1) rfl rfl rfl (by omega)) rfl ?_
  refine w_r rfl rfl rfl (fun _ _ => rfl) rfl ?_
  exact W1_i (st' := .inl (none) :: r) (by rw [fo_12, u2_A (by unfold isA; decide)]; rfl) (by rw [fo_12, u2_A (by unfold isA; decide)]; rfl) rfl (PIL_2 (v := .inl (none)) hS) hz (frW_t (frW_I (Or.inl rfl)) frW_J)
set_option maxRecDepth 100000 in
theorem ua_d {x y : Int32} (hy : y.toInt64 ≠ 0) : u_2 g 12 (.inl (some x)) (.inl (some y)) = some (.inl (some (x.toInt64 / y.toInt64).toInt32)) := by
  rw [u2_A (by unfold isA; decide)]
  show (u_a g 12 x y).map Sum.inl = _
  unfold u_a
  rw [if_neg (by decide), if_neg (by decide), if_neg (by decide), if_neg hy]
  rfl
set_option maxRecDepth 100000 in
theorem ua_z {x y : Int32} (hy : y.toInt64 = 0) : u_2 g 12 (.inl (some x)) (.inl (some y)) = bif g then some (.inl none) else none := by
  rw [u2_A (by unfold isA; decide)]
  show (u_a g 12 x y).map Sum.inl = _
  unfold u_a
  rw [if_neg (by decide), if_neg (by decide), if_neg (by decide), if_pos hy]
  cases g <;> rfl
set_option maxRecDepth 100000 in
theorem w_b12d {x y : Int32} {v : Option Int32} {r : List tv_T} (hp : p ≤ 40) (hk : k < 620) (hw : C.1 106 (620 * p + k) = 12) (hv : C.2.1 107 (620 * p + k) = 47) (hz : C.1 76 74 = ck z) (hy : y.toInt64 ≠ 0) (hS : PIL C (.inl (some y) :: .inl (some x) :: r)) (hl : r.length + 1 + 1 < 700) : Wd L xs (d + 2) y_252 (0, [(0, .ref 176), (1, .int (nI (p))), (2, .int (nI (k))), (3, .int (nI (row))), (4, .int (nI (f))), (5, .int (ck g))], [], MH C t, sl) (W1 C t sl g z R N O (12, b) (.inl (some y) :: .inl (some x) :: r) (false :: r.map tyv)) nX := by
  have hm := m_254_12d (d := d) (sl := 0) (x := x) (y := y) (g := g) hy (L := L) (xs := xs) (C := sI C 76 73 (nI (r.length + 1))) (t := t)
  refine w_p (pc1 := 1) rfl rfl ?_
  refine w_m0 (pc1 := 4) rfl rfl (h_gC rfl rfl rfl rfl) rfl ?_
  refine w_p (pc1 := 7) (st1 := .int 620 :: _) rfl rfl ?_
  refine w_p (pc1 := 8) rfl rfl ?_
  refine w_imul (pc1 := 9) (u := nI (620)) (v := nI (p)) (z := nI (620 * p)) rfl (nK_mul) rfl ?_
  refine w_p (pc1 := 10) rfl rfl ?_
  refine w_iadd (pc1 := 11) (u := nI (620 * p)) (v := nI (k)) (z := nI (620 * p + k)) rfl (nK_add) rfl ?_
  refine w_m0 (pc1 := 12) (st1 := .long 47 :: _) rfl rfl (n_lle (e := 620 * p + k) rfl rfl rfl (by omega) (hv)) rfl ?_
  refine w_p (pc1 := 14) (al1 := [(6, .long 47), (0, .ref 176), (1, .int (nI (p))), (2, .int (nI (k))), (3, .int (nI (row))), (4, .int (nI (f))), (5, .int (ck g))]) rfl rfl ?_
  refine w_p (pc1 := 15) rfl rfl ?_
  refine w_m0 (pc1 := 18) rfl rfl (h_gC rfl rfl rfl rfl) rfl ?_
  refine w_p (pc1 := 21) (st1 := .int 620 :: _) rfl rfl ?_
  refine w_p (pc1 := 22) rfl rfl ?_
  refine w_imul (pc1 := 23) (u := nI (620)) (v := nI (p)) (z := nI (620 * p)) rfl (nK_mul) rfl ?_
  refine w_p (pc1 := 24) rfl rfl ?_
  refine w_iadd (pc1 := 25) (u := nI (620 * p)) (v := nI (k)) (z := nI (620 * p + k)) rfl (nK_add) rfl ?_
  refine w_m0 (pc1 := 26) (st1 := .int 12 :: _) rfl rfl (n_ile (e := 620 * p + k) rfl rfl rfl (by omega) (hw)) rfl ?_
  refine w_p (pc1 := 468) rfl rfl ?_
  refine w_p (pc1 := 469) rfl rfl ?_
  refine w_p (pc1 := 470) rfl rfl ?_
  refine w_m0 (pc1 := 473) (st1 := .int (nI (r.length + 1 + 1)) :: _) rfl rfl (h_gIe (j := 73) rfl rfl rfl rfl rfl (hS.1)) rfl ?_
  refine w_p (pc1 := 474) (st1 := .int 1 :: _) rfl rfl ?_
  refine w_isub (pc1 := 475) (u := nI (r.length + 1 + 1)) (v := nI (1)) (z := nI (r.length + 1 + 1 - 1)) rfl (nK_sub (by omega)) rfl ?_
  refine w_m0 (pc1 := 478) rfl rfl (h_pI (j := 73) rfl rfl rfl rfl rfl rfl rfl ⟨rfl, rfl⟩ rfl) rfl ?_
  refine w_p (pc1 := 479) rfl rfl ?_
  refine w_m0 (pc1 := 482) rfl rfl (h_gC rfl rfl rfl rfl) rfl ?_
  refine w_p (pc1 := 483) rfl rfl ?_
  refine w_m0 (pc1 := 486) (st1 := .int (nI (r.length + 1 + 1 - 1)) :: _) rfl rfl (h_gIe (j := 73) rfl rfl rfl rfl rfl (rfl)) rfl ?_
  refine w_p (pc1 := 487) (st1 := .int 1 :: _) rfl rfl ?_
  refine w_isub (pc1 := 488) (u := nI (r.length + 1 + 1 - 1)) (v := nI (1)) (z := nI (r.length + 1 + 1 - 1 - 1)) rfl (nK_sub (by omega)) rfl ?_
  refine w_p (pc1 := 489) rfl rfl ?_
  refine w_p (pc1 := 491) rfl rfl ?_
  refine w_p (pc1 := 492) rfl rfl ?_
  refine w_m0 (pc1 := 495) rfl rfl (h_gC rfl rfl rfl rfl) rfl ?_
  refine w_p (pc1 := 496) rfl rfl ?_
  refine w_m0 (pc1 := 499) (st1 := .int (nI (r.length + 1 + 1 - 1)) :: _) rfl rfl (h_gIe (j := 73) rfl rfl rfl rfl rfl (rfl)) rfl ?_
  refine w_p (pc1 := 500) (st1 := .int 1 :: _) rfl rfl ?_
  refine w_isub (pc1 := 501) (u := nI (r.length + 1 + 1 - 1)) (v := nI (1)) (z := nI (r.length + 1 + 1 - 1 - 1)) rfl (nK_sub (by omega)) rfl ?_
  refine w_m0 (pc1 := 502) (st1 := .long (e_V (some x)) :: _) rfl rfl (n_lle (e := r.length + 1 + 1 - 1 - 1) rfl rfl rfl (by omega) (hS.2.2.1)) rfl ?_
  refine w_p (pc1 := 503) rfl rfl ?_
  refine w_m0 (pc1 := 506) rfl rfl (h_gC rfl rfl rfl rfl) rfl ?_
  refine w_p (pc1 := 507) rfl rfl ?_
  refine w_m0 (pc1 := 510) (st1 := .int (nI (r.length + 1 + 1 - 1)) :: _) rfl rfl (h_gIe (j := 73) rfl rfl rfl rfl rfl (rfl)) rfl ?_
  refine w_m0 (pc1 := 511) (st1 := .long (e_V (some y)) :: _) rfl rfl (n_lle (e := r.length + 1 + 1 - 1) rfl rfl rfl (by omega) (hS.2.1)) rfl ?_
  refine w_p (pc1 := 513) rfl rfl ?_
  refine w_je (pc1 := 516) (vs := [.ref 176, .long 47, .long (e_V (some x)), .long (e_V (some y)), .int (ck g)]) (rest := [.int (nI (r.length + 1 + 1 - 1 - 1)), .ref 224]) (st1 := [.long (e_V (some (x.toInt64 / y.toInt64).toInt32)), .int (nI (r.length + 1 + 1 - 1 - 1)), .ref 224]) (hm) rfl rfl rfl (fun _ _ => rfl) rfl (by exact cl_v my_254 rfl rfl rfl (Nat.le_of_ble_eq_true rfl) rfl (MH_obj rfl rfl) rfl (by decide) rfl rfl) (by rfl) (Nat.le_of_ble_eq_true rfl) (Nat.le_of_ble_eq_true rfl) rfl (by rfl) ?_
  refine w_m0 (pc1 := 517) rfl rfl (n_ls (e := r.length + 1 + 1 - 1 - 1) rfl rfl rfl (by omega)) rfl ?_
  refine w_r rfl rfl rfl (fun _ _ => rfl) rfl ?_
  exact W1_i (st' := .inl (some (x.toInt64 / y.toInt64).toInt32) :: r) (by rw [fo_12, ua_d hy]; rfl) (by rw [fo_12, ua_d hy]; rfl) rfl (PIL_2 (v := .inl (some (x.toInt64 / y.toInt64).toInt32)) hS) hz (frW_t (frW_I (Or.inl rfl)) frW_J)
set_option maxRecDepth 100000 in
theorem w_b12z {x y : Int32} {v : Option Int32} {r : List tv_T} (hp : p ≤ 40) (hk : k < 620) (hw : C.1 106 (620 * p + k) = 12) (hv : C.2.1 107 (620 * p + k) = 47) (hz : C.1 76 74 = ck z) (hy : y.toInt64 = 0) (hS : PIL C (.inl (some y) :: .inl (some x) :: r)) (hl : r.length + 1 + 1 < 700) : Wd L xs (d + 2) y_252 (0, [(0, .ref 176), (1, .int (nI (p))), (2, .int (nI (k))), (3, .int (nI (row))), (4, .int (nI (f))), (5, .int (ck g))], [], MH C t, sl) (W1 C t sl g z R N O (12, b) (.inl (some y) :: .inl (some x) :: r) (false :: r.map tyv)) nX := by
  have hm := m_254_12z (d := d) (sl := 0) (x := x) (y := y) (g := g) (z := z) hy (C := sI C 76 73 (nI (r.length + 1))) (L := L) (xs := xs) (t := t) hz
  refine w_p (pc1 := 1) rfl rfl ?_
  refine w_m0 (pc1 := 4) rfl rfl (h_gC rfl rfl rfl rfl) rfl ?_
  refine w_p (pc1 := 7) (st1 := .int 620 :: _) rfl rfl ?_
  refine w_p (pc1 := 8) rfl rfl ?_
  refine w_imul (pc1 := 9) (u := nI (620)) (v := nI (p)) (z := nI (620 * p)) rfl (nK_mul) rfl ?_
  refine w_p (pc1 := 10) rfl rfl ?_
  refine w_iadd (pc1 := 11) (u := nI (620 * p)) (v := nI (k)) (z := nI (620 * p + k)) rfl (nK_add) rfl ?_
  refine w_m0 (pc1 := 12) (st1 := .long 47 :: _) rfl rfl (n_lle (e := 620 * p + k) rfl rfl rfl (by omega) (hv)) rfl ?_
  refine w_p (pc1 := 14) (al1 := [(6, .long 47), (0, .ref 176), (1, .int (nI (p))), (2, .int (nI (k))), (3, .int (nI (row))), (4, .int (nI (f))), (5, .int (ck g))]) rfl rfl ?_
  refine w_p (pc1 := 15) rfl rfl ?_
  refine w_m0 (pc1 := 18) rfl rfl (h_gC rfl rfl rfl rfl) rfl ?_
  refine w_p (pc1 := 21) (st1 := .int 620 :: _) rfl rfl ?_
  refine w_p (pc1 := 22) rfl rfl ?_
  refine w_imul (pc1 := 23) (u := nI (620)) (v := nI (p)) (z := nI (620 * p)) rfl (nK_mul) rfl ?_
  refine w_p (pc1 := 24) rfl rfl ?_
  refine w_iadd (pc1 := 25) (u := nI (620 * p)) (v := nI (k)) (z := nI (620 * p + k)) rfl (nK_add) rfl ?_
  refine w_m0 (pc1 := 26) (st1 := .int 12 :: _) rfl rfl (n_ile (e := 620 * p + k) rfl rfl rfl (by omega) (hw)) rfl ?_
  refine w_p (pc1 := 468) rfl rfl ?_
  refine w_p (pc1 := 469) rfl rfl ?_
  refine w_p (pc1 := 470) rfl rfl ?_
  refine w_m0 (pc1 := 473) (st1 := .int (nI (r.length + 1 + 1)) :: _) rfl rfl (h_gIe (j := 73) rfl rfl rfl rfl rfl (hS.1)) rfl ?_
  refine w_p (pc1 := 474) (st1 := .int 1 :: _) rfl rfl ?_
  refine w_isub (pc1 := 475) (u := nI (r.length + 1 + 1)) (v := nI (1)) (z := nI (r.length + 1 + 1 - 1)) rfl (nK_sub (by omega)) rfl ?_
  refine w_m0 (pc1 := 478) rfl rfl (h_pI (j := 73) rfl rfl rfl rfl rfl rfl rfl ⟨rfl, rfl⟩ rfl) rfl ?_
  refine w_p (pc1 := 479) rfl rfl ?_
  refine w_m0 (pc1 := 482) rfl rfl (h_gC rfl rfl rfl rfl) rfl ?_
  refine w_p (pc1 := 483) rfl rfl ?_
  refine w_m0 (pc1 := 486) (st1 := .int (nI (r.length + 1 + 1 - 1)) :: _) rfl rfl (h_gIe (j := 73) rfl rfl rfl rfl rfl (rfl)) rfl ?_
  refine w_p (pc1 := 487) (st1 := .int 1 :: _) rfl rfl ?_
  refine w_isub (pc1 := 488) (u := nI (r.length + 1 + 1 - 1)) (v := nI (1)) (z := nI (r.length + 1 + 1 - 1 - 1)) rfl (nK_sub (by omega)) rfl ?_
  refine w_p (pc1 := 489) rfl rfl ?_
  refine w_p (pc1 := 491) rfl rfl ?_
  refine w_p (pc1 := 492) rfl rfl ?_
  refine w_m0 (pc1 := 495) rfl rfl (h_gC rfl rfl rfl rfl) rfl ?_
  refine w_p (pc1 := 496) rfl rfl ?_
  refine w_m0 (pc1 := 499) (st1 := .int (nI (r.length + 1 + 1 - 1)) :: _) rfl rfl (h_gIe (j := 73) rfl rfl rfl rfl rfl (rfl)) rfl ?_
  refine w_p (pc1 := 500) (st1 := .int 1 :: _) rfl rfl ?_
  refine w_isub (pc1 := 501) (u := nI (r.length + 1 + 1 - 1)) (v := nI (1)) (z := nI (r.length + 1 + 1 - 1 - 1)) rfl (nK_sub (by omega)) rfl ?_
  refine w_m0 (pc1 := 502) (st1 := .long (e_V (some x)) :: _) rfl rfl (n_lle (e := r.length + 1 + 1 - 1 - 1) rfl rfl rfl (by omega) (hS.2.2.1)) rfl ?_
  refine w_p (pc1 := 503) rfl rfl ?_
  refine w_m0 (pc1 := 506) rfl rfl (h_gC rfl rfl rfl rfl) rfl ?_
  refine w_p (pc1 := 507) rfl rfl ?_
  refine w_m0 (pc1 := 510) (st1 := .int (nI (r.length + 1 + 1 - 1)) :: _) rfl rfl (h_gIe (j := 73) rfl rfl rfl rfl rfl (rfl)) rfl ?_
  refine w_m0 (pc1 := 511) (st1 := .long (e_V (some y)) :: _) rfl rfl (n_lle (e := r.length + 1 + 1 - 1) rfl rfl rfl (by omega) (hS.2.1)) rfl ?_
  refine w_p (pc1 := 513) rfl rfl ?_
  refine w_je (pc1 := 516) (vs := [.ref 176, .long 47, .long (e_V (some x)), .long (e_V (some y)), .int (ck g)]) (rest := [.int (nI (r.length + 1 + 1 - 1 - 1)), .ref 224]) (st1 := [.long (e_V (none)), .int (nI (r.length + 1 + 1 - 1 - 1)), .ref 224]) (hm) rfl rfl rfl (fun _ _ => rfl) rfl (by exact cl_v my_254 rfl rfl rfl (Nat.le_of_ble_eq_true rfl) rfl (MH_obj rfl rfl) rfl (by decide) rfl rfl) (by rfl) (Nat.le_of_ble_eq_true rfl) (Nat.le_of_ble_eq_true rfl) rfl (by rfl) ?_
  refine w_m0 (pc1 := 517) rfl rfl (n_ls (e := r.length + 1 + 1 - 1 - 1) rfl rfl rfl (by omega)) rfl ?_
  refine w_r rfl rfl rfl (fun _ _ => rfl) rfl ?_
  refine ⟨rfl, ⟨_, ⟨.inl none :: r, by rw [fo_12, ua_z hy]; rfl, rfl, PIL_2z (v := .inl none) hS, ?_, frW_t (frW_I (Or.inl rfl)) (frW_t (frW_I (Or.inr rfl)) frW_J)⟩, rfl⟩, rfl⟩
  show ck (z || !g) = _
  rw [fo_12, ua_z hy]
  cases g <;> cases z <;> rfl
end MW1
