
/-! THE OTHER SIDE READS A TABLE, 8: REFER -/
section MTH
variable {L : Nat} {xs : Nat → Int32} {B : Nat → Nat} {n : Nat} {C C' C0 C1 : co_T} {t : ab_H} {d i i0 i1 j b e p k w q : Nat} {U V : Nat → Prop} {c : Int32} {sc : sc_T} {row : Option Nat} {tg : Option (Nat × Nat)} {nl : Option Nat} {E : fe_T} {tr : Nat → Option tr_T}
variable {r e d1 u1 : Nat} {l : List Nat} {o : Option Nat} {Tb : tb_S} {u : ru_T} {P : Option Value → ab_H → Nat → Prop} {cs ts : List Nat} {x y : Int32}
set_option maxRecDepth 100000 in
theorem FS_p (F : FS B n U V C0 C c i) : (0 : Int32).toInt < (C.1 76 8).toInt := by
  rw [F.1.2.1]
  exact F.2.2.2.2
set_option maxRecDepth 100000 in
theorem qf221 (F : FS B n U V C0 C c i) (H : P none (MH C t) 0) : Wd L xs (d + 1) y_218 (221, [(3, .int x), (2, .int y), (0, .ref 176), (1, .int (nI r))], [], MH C t, 0) P nX := by
  have h0 := FS_0 F
  refine w_p (pc1 := 222) rfl rfl ?_
  refine w_p (pc1 := 223) rfl rfl ?_
  refine w_je (pc1 := 226) (vs := [.ref 176, .int (nI (r))]) (rest := []) (st1 := []) (m_217f (d := _) F) rfl rfl rfl (fun _ _ => rfl) rfl (by exact cl_v my_217 rfl rfl rfl (Nat.le_of_ble_eq_true rfl) rfl (MH_obj rfl rfl) rfl (by decide) rfl rfl) (by rfl) (Nat.le_of_ble_eq_true rfl) (Nat.le_of_ble_eq_true rfl) rfl (by rfl) ?_
  refine w_r rfl rfl rfl (fun _ _ => rfl) rfl ?_
  exact H
set_option maxRecDepth 100000 in
theorem qf194 (F : FS B n U V C0 C c i) (H : P none (MH C t) 0) : Wd L xs (d + 1) y_218 (194, [(3, .int x), (2, .int y), (0, .ref 176), (1, .int (nI r))], [], MH C t, 0) P nX := by
  have h0 := FS_0 F
  refine w_p (pc1 := 195) rfl rfl ?_
  refine w_m0 (pc1 := 198) rfl rfl (h_gI (j := 8) rfl rfl rfl rfl rfl) rfl ?_
  refine w_t (a := 221) (b := 201) (cb_ne_t (by exact h0)) rfl rfl ?_
  exact qf221 F H
set_option maxRecDepth 100000 in
theorem qf167 (F : FS B n U V C0 C c i) (H : P none (MH C t) 0) : Wd L xs (d + 1) y_218 (167, [(3, .int x), (2, .int y), (0, .ref 176), (1, .int (nI r))], [], MH C t, 0) P nX := by
  have h0 := FS_0 F
  refine w_p (pc1 := 168) rfl rfl ?_
  refine w_m0 (pc1 := 171) rfl rfl (h_gI (j := 8) rfl rfl rfl rfl rfl) rfl ?_
  refine w_t (a := 194) (b := 174) (cb_ne_t (by exact h0)) rfl rfl ?_
  exact qf194 F H
set_option maxRecDepth 100000 in
theorem qf161 (F : FS B n U V C0 C c i) (H : P none (MH C t) 0) : Wd L xs (d + 1) y_218 (161, [(3, .int x), (2, .int y), (0, .ref 176), (1, .int (nI r))], [], MH C t, 0) P nX := by
  have h0 := FS_0 F
  refine w_p (pc1 := 162) rfl rfl ?_
  refine w_p (pc1 := 164) (st1 := .int 41 :: _) rfl rfl ?_
  refine w_je (pc1 := 167) (vs := [.ref 176, .int 41]) (rest := []) (st1 := []) (m_209f (d := _) F) rfl rfl rfl (fun _ _ => rfl) rfl (by exact cl_v my_209 rfl rfl rfl (Nat.le_of_ble_eq_true rfl) rfl (MH_obj rfl rfl) rfl (by decide) rfl rfl) (by rfl) (Nat.le_of_ble_eq_true rfl) (Nat.le_of_ble_eq_true rfl) rfl (by rfl) ?_
  exact qf167 F H
set_option maxRecDepth 100000 in
theorem qf119 (F : FS B n U V C0 C c i) (H : P none (MH C t) 0) : Wd L xs (d + 1) y_218 (119, [(3, .int x), (2, .int y), (0, .ref 176), (1, .int (nI r))], [], MH C t, 0) P nX := by
  have h0 := FS_0 F
  refine w_p (pc1 := 120) rfl rfl ?_
  refine w_m0 (pc1 := 123) rfl rfl (h_gI (j := 8) rfl rfl rfl rfl rfl) rfl ?_
  refine w_t (a := 161) (b := 126) (cb_ne_t (by exact h0)) rfl rfl ?_
  exact qf161 F H
set_option maxRecDepth 100000 in
theorem q221 (hUr : U r) (hr2 : r < 24) (hr1 : ruN Tb.2.2 = nI r) (M : MS B n U V C0 C i nl) (H : TMo C b Tb l (some r)) (ho : cs.length ≤ 6 ∧ ts.length ≤ 6) (R : RU1 C r 4 (nI b) (nI e) (nI cs.length) 0 (nI d1) (nI u1) cs ts) : Wd L xs (d + 5) y_218 (221, [(3, .int x), (2, .int y), (0, .ref 176), (1, .int (nI r))], [], MH C t, 0) (PTI B n U V C0 t b (rRf5 (tkP B n) Tb b cs e ts d1 u1 i nl)) nX := by
  unfold rRf5
  refine w_p (pc1 := 222) rfl rfl ?_
  refine w_p (pc1 := 223) rfl rfl ?_
  refine w_ji (pc1 := 226) (vs := [.ref 176, .int (nI (r))]) (rest := []) (m_217 (d := _) hUr hr2 M R.2.2.1) rfl rfl rfl (fun _ _ => rfl) rfl (by exact cl_v my_217 rfl rfl rfl (Nat.le_of_ble_eq_true rfl) rfl (MH_obj rfl rfl) rfl (by decide) rfl rfl) (by rfl) (Nat.le_of_ble_eq_true rfl) (Nat.le_of_ble_eq_true rfl) rfl (fun v h1 d1 hq => ?_) (fun _ _ _ e => e.elim)
  rcases hq with ⟨hv, ⟨C6, ⟨g6, M6, e90, e1, e2, e3⟩, hh⟩, hn⟩ | ⟨hv, ⟨C6, ⟨g6, F6⟩, hh⟩, hn⟩
  · subst hv; subst hh; subst hn
    refine w_r rfl rfl rfl (fun _ _ => rfl) rfl ?_
    have U6 := RU1_M (kd0 := 4) (tb0 := b) (tg0 := some e) (RU1_L R ⟨e1, e2, e3⟩ e90)
    have H6 := TMo_P H (Or.inl rfl) (fP_L ⟨e1, e2, e3⟩)
    exact Or.inl ⟨rfl, ⟨_, ⟨_, _, _, _, rfl, g6, M6, TMo_c H6 hr1 U6 ⟨ho.1, ho.2, fun O h => (by cases h)⟩⟩, rfl⟩, rfl⟩
  · subst hv; subst hh; subst hn
    refine w_r rfl rfl rfl (fun _ _ => rfl) rfl ?_
    exact Or.inr ⟨rfl, ⟨_, ⟨1, _, flS_e rfl rfl g6, F6⟩, rfl⟩, rfl⟩
set_option maxRecDepth 100000 in
theorem bd_rf5 (h : kd B n i = 1) : ∃ z : tb_S × Nat × Option Nat, rRf5 (tkP B n) Tb b cs e ts d1 u1 i nl = .inr z ∧ z.2.1 = i := ⟨_, rfl, by show (rDef (tkP B n) i).2 = i; rw [rDef_1 h]⟩
set_option maxRecDepth 100000 in
theorem bd_on {w : Nat} (h : kd B n i = 1) (hw : w ≠ 1) : rOn (tkP B n) w i = .inr (0, i) := if_neg (by show ¬ kd B n i = w; rw [h]; exact fun q => hw q.symm)
set_option maxRecDepth 100000 in
theorem bd_rf4 (h : kd B n i = 1) : ∃ z : tb_S × Nat × Option Nat, rRf4 (tkP B n) Tb b cs e ts d1 i nl = .inr z ∧ z.2.1 = i := by
  unfold rRf4
  rw [pb_r (bd_on h (by decide))]
  exact bd_rf5 h
set_option maxRecDepth 100000 in
theorem bd_rf3 (h : kd B n i = 1) : ∃ z : tb_S × Nat × Option Nat, rRf3 (tkP B n) Tb b cs e ts i nl = .inr z ∧ z.2.1 = i := by
  unfold rRf3
  rw [pb_r (bd_on h (by decide))]
  exact bd_rf4 h
set_option maxRecDepth 100000 in
theorem q194 (hUr : U r) (hr2 : r < 24) (hr1 : ruN Tb.2.2 = nI r) (M : MS B n U V C0 C i nl) (H : TMo C b Tb l (some r)) (ho : cs.length ≤ 6 ∧ ts.length ≤ 6) (R : RU1 C r 4 (nI b) (nI e) (nI cs.length) 0 (nI d1) 0 cs ts) : Wd L xs (d + 5) y_218 (194, [(3, .int x), (2, .int y), (0, .ref 176), (1, .int (nI r))], [], MH C t, 0) (PTI B n U V C0 t b (rRf4 (tkP B n) Tb b cs e ts d1 i nl)) nX := by
  unfold rRf4
  by_cases hk : kd B n i = 41
  · have ho2 : rOn (tkP B n) 41 i = rAcn (tkP B n) (i + 1) := if_pos hk
    rw [ho2]
    refine w_p (pc1 := 195) rfl rfl ?_
    refine w_m0 (pc1 := 198) (st1 := .int 0 :: _) rfl rfl (h_gIe (j := 8) rfl rfl rfl rfl rfl (M.2.1.2.1)) rfl ?_
    refine w_f (a := 221) (b := 201) rfl rfl rfl ?_
    refine w_p (pc1 := 202) rfl rfl ?_
    refine w_m0 (pc1 := 205) (st1 := .long 129125580895333 :: _) rfl rfl rfl rfl ?_
    refine w_je (pc1 := 208) (vs := [.ref 176, .long 129125580895333]) (rest := []) (st1 := [.int 1]) (m_205t (d := _) (sl := 0) ((wd_k (k := 41) M.2.1 (by decide) (by decide)).trans (decide_eq_true hk))) rfl rfl rfl (fun _ _ => rfl) rfl (by exact cl_v my_205 rfl rfl rfl (Nat.le_of_ble_eq_true rfl) rfl (MH_obj rfl rfl) rfl (by decide) rfl rfl) (by rfl) (Nat.le_of_ble_eq_true rfl) (Nat.le_of_ble_eq_true rfl) rfl (by rfl) ?_
    refine w_f (a := 221) (b := 211) rfl rfl rfl ?_
    refine w_p (pc1 := 212) rfl rfl ?_
    refine w_m0 (pc1 := 215) rfl rfl (h_gC rfl rfl rfl rfl) rfl ?_
    refine w_p (pc1 := 216) rfl rfl ?_
    refine w_p (pc1 := 217) rfl rfl ?_
    refine w_ji (pc1 := 220) (vs := [.ref 176]) (rest := [.int (nI (r)), .ref 193]) (m_222 (d := _) M (by rw [hk]; decide)) rfl rfl rfl (fun _ _ => rfl) rfl (by exact cl_v my_222 rfl rfl rfl (Nat.le_of_ble_eq_true rfl) rfl (MH_obj rfl rfl) rfl (by decide) rfl rfl) (by rfl) (Nat.le_of_ble_eq_true rfl) (Nat.le_of_ble_eq_true rfl) rfl (fun v h1 d1 hq => ?_) (fun _ _ _ e => e.elim)
    rcases hq with ⟨a2, hv, ⟨C2, ⟨g2, g3, g4, M2, f2⟩, hh⟩, hn⟩ | ⟨a2, hv, ⟨C2, ⟨c2, j2, g2, F2⟩, hh⟩, hn⟩
    · subst hv; subst hh; subst hn
      refine w_m0 (pc1 := 221) rfl rfl (n_is (e := r) rfl rfl rfl (by omega)) rfl ?_
      rw [pb_r g2]
      exact q221 hUr hr2 hr1 (MS_I M2 (sx_r hUr (by omega)) (by omega)) (TMo_P (TMo_T H f2) (Or.inl rfl) (fP_I (by omega))) ho (RU1_u (RU1_T R f2))
    · subst hv; subst hh; subst hn
      refine w_m0 (pc1 := 221) rfl rfl (n_is (e := r) rfl rfl rfl (by omega)) rfl ?_
      exact qf221 (FS_I F2 (sx_r hUr (by omega)) (by omega)) (Or.inr ⟨rfl, ⟨_, ⟨c2, j2, flS_c g2 (fun q _ hk => Or.inr (bd_rf5 hk)), FS_I F2 (sx_r hUr (by omega)) (by omega)⟩, rfl⟩, rfl⟩)
  · have ho2 : rOn (tkP B n) 41 i = .inr (0, i) := if_neg hk
    rw [pb_r ho2]
    refine w_p (pc1 := 195) rfl rfl ?_
    refine w_m0 (pc1 := 198) (st1 := .int 0 :: _) rfl rfl (h_gIe (j := 8) rfl rfl rfl rfl rfl (M.2.1.2.1)) rfl ?_
    refine w_f (a := 221) (b := 201) rfl rfl rfl ?_
    refine w_p (pc1 := 202) rfl rfl ?_
    refine w_m0 (pc1 := 205) (st1 := .long 129125580895333 :: _) rfl rfl rfl rfl ?_
    refine w_je (pc1 := 208) (vs := [.ref 176, .long 129125580895333]) (rest := []) (st1 := [.int 0]) (m_205f (d := _) (sl := 0) ((wd_k (k := 41) M.2.1 (by decide) (by decide)).trans (decide_eq_false hk))) rfl rfl rfl (fun _ _ => rfl) rfl (by exact cl_v my_205 rfl rfl rfl (Nat.le_of_ble_eq_true rfl) rfl (MH_obj rfl rfl) rfl (by decide) rfl rfl) (by rfl) (Nat.le_of_ble_eq_true rfl) (Nat.le_of_ble_eq_true rfl) rfl (by rfl) ?_
    refine w_t (a := 221) (b := 211) rfl rfl rfl ?_
    exact q221 hUr hr2 hr1 M H ho R
set_option maxRecDepth 100000 in
theorem q167 (hUr : U r) (hr2 : r < 24) (hr1 : ruN Tb.2.2 = nI r) (M : MS B n U V C0 C i nl) (H : TMo C b Tb l (some r)) (ho : cs.length ≤ 6 ∧ ts.length ≤ 6) (R : RU1 C r 4 (nI b) (nI e) (nI cs.length) 0 0 0 cs ts) : Wd L xs (d + 5) y_218 (167, [(3, .int x), (2, .int y), (0, .ref 176), (1, .int (nI r))], [], MH C t, 0) (PTI B n U V C0 t b (rRf3 (tkP B n) Tb b cs e ts i nl)) nX := by
  unfold rRf3
  by_cases hk : kd B n i = 15
  · have ho2 : rOn (tkP B n) 15 i = rAcn (tkP B n) (i + 1) := if_pos hk
    rw [ho2]
    refine w_p (pc1 := 168) rfl rfl ?_
    refine w_m0 (pc1 := 171) (st1 := .int 0 :: _) rfl rfl (h_gIe (j := 8) rfl rfl rfl rfl rfl (M.2.1.2.1)) rfl ?_
    refine w_f (a := 194) (b := 174) rfl rfl rfl ?_
    refine w_p (pc1 := 175) rfl rfl ?_
    refine w_m0 (pc1 := 178) (st1 := .long 110386773062757 :: _) rfl rfl rfl rfl ?_
    refine w_je (pc1 := 181) (vs := [.ref 176, .long 110386773062757]) (rest := []) (st1 := [.int 1]) (m_205t (d := _) (sl := 0) ((wd_k (k := 15) M.2.1 (by decide) (by decide)).trans (decide_eq_true hk))) rfl rfl rfl (fun _ _ => rfl) rfl (by exact cl_v my_205 rfl rfl rfl (Nat.le_of_ble_eq_true rfl) rfl (MH_obj rfl rfl) rfl (by decide) rfl rfl) (by rfl) (Nat.le_of_ble_eq_true rfl) (Nat.le_of_ble_eq_true rfl) rfl (by rfl) ?_
    refine w_f (a := 194) (b := 184) rfl rfl rfl ?_
    refine w_p (pc1 := 185) rfl rfl ?_
    refine w_m0 (pc1 := 188) rfl rfl (h_gC rfl rfl rfl rfl) rfl ?_
    refine w_p (pc1 := 189) rfl rfl ?_
    refine w_p (pc1 := 190) rfl rfl ?_
    refine w_ji (pc1 := 193) (vs := [.ref 176]) (rest := [.int (nI (r)), .ref 192]) (m_222 (d := _) M (by rw [hk]; decide)) rfl rfl rfl (fun _ _ => rfl) rfl (by exact cl_v my_222 rfl rfl rfl (Nat.le_of_ble_eq_true rfl) rfl (MH_obj rfl rfl) rfl (by decide) rfl rfl) (by rfl) (Nat.le_of_ble_eq_true rfl) (Nat.le_of_ble_eq_true rfl) rfl (fun v h1 d1 hq => ?_) (fun _ _ _ e => e.elim)
    rcases hq with ⟨a2, hv, ⟨C2, ⟨g2, g3, g4, M2, f2⟩, hh⟩, hn⟩ | ⟨a2, hv, ⟨C2, ⟨c2, j2, g2, F2⟩, hh⟩, hn⟩
    · subst hv; subst hh; subst hn
      refine w_m0 (pc1 := 194) rfl rfl (n_is (e := r) rfl rfl rfl (by omega)) rfl ?_
      rw [pb_r g2]
      exact q194 hUr hr2 hr1 (MS_I M2 (sx_r hUr (by omega)) (by omega)) (TMo_P (TMo_T H f2) (Or.inl rfl) (fP_I (by omega))) ho (RU1_d (RU1_T R f2))
    · subst hv; subst hh; subst hn
      refine w_m0 (pc1 := 194) rfl rfl (n_is (e := r) rfl rfl rfl (by omega)) rfl ?_
      exact qf194 (FS_I F2 (sx_r hUr (by omega)) (by omega)) (Or.inr ⟨rfl, ⟨_, ⟨c2, j2, flS_c g2 (fun q _ hk => Or.inr (bd_rf4 hk)), FS_I F2 (sx_r hUr (by omega)) (by omega)⟩, rfl⟩, rfl⟩)
  · have ho2 : rOn (tkP B n) 15 i = .inr (0, i) := if_neg hk
    rw [pb_r ho2]
    refine w_p (pc1 := 168) rfl rfl ?_
    refine w_m0 (pc1 := 171) (st1 := .int 0 :: _) rfl rfl (h_gIe (j := 8) rfl rfl rfl rfl rfl (M.2.1.2.1)) rfl ?_
    refine w_f (a := 194) (b := 174) rfl rfl rfl ?_
    refine w_p (pc1 := 175) rfl rfl ?_
    refine w_m0 (pc1 := 178) (st1 := .long 110386773062757 :: _) rfl rfl rfl rfl ?_
    refine w_je (pc1 := 181) (vs := [.ref 176, .long 110386773062757]) (rest := []) (st1 := [.int 0]) (m_205f (d := _) (sl := 0) ((wd_k (k := 15) M.2.1 (by decide) (by decide)).trans (decide_eq_false hk))) rfl rfl rfl (fun _ _ => rfl) rfl (by exact cl_v my_205 rfl rfl rfl (Nat.le_of_ble_eq_true rfl) rfl (MH_obj rfl rfl) rfl (by decide) rfl rfl) (by rfl) (Nat.le_of_ble_eq_true rfl) (Nat.le_of_ble_eq_true rfl) rfl (by rfl) ?_
    refine w_t (a := 194) (b := 184) rfl rfl rfl ?_
    exact q194 hUr hr2 hr1 M H ho R
/-! behind the second names -/
def rRfe (K : tv2) (Tb : tb_S) (b : Nat) (cs : List Nat) (e : Nat) (ts : List Nat) (i : Nat) (nl : Option Nat) : pz_T (tb_S × Nat × Option Nat) := if K.1 i = 45 then (if ts.length = cs.length ∧ kyA Tb.2.2 e ts 24 0 = true then rRf3 K Tb b cs e ts (i + 1) nl else .inl (7, i)) else .inl (2, i)
set_option maxRecDepth 100000 in
theorem q161 (hUr : U r) (hr2 : r < 24) (hr1 : ruN Tb.2.2 = nI r) (M : MS B n U V C0 C i nl) (H : TMo C b Tb l (some r)) (ho : cs.length ≤ 6 ∧ ts.length ≤ 6) (R : RU1 C r 4 (nI b) (nI e) (nI cs.length) 0 0 0 cs ts) : Wd L xs (d + 6) y_218 (161, [(3, .int x), (2, .int y), (0, .ref 176), (1, .int (nI r))], [], MH C t, 0) (PTI B n U V C0 t b (pb (xpP (tkP B n) 45 i) (fun j => rRf3 (tkP B n) Tb b cs e ts j nl))) nX := by
  refine w_p (pc1 := 162) rfl rfl ?_
  refine w_p (pc1 := 164) (st1 := .int 41 :: _) rfl rfl ?_
  refine w_ji (pc1 := 167) (vs := [.ref 176, .int 41]) (rest := []) (m_209 (k := 45) (d := _) (by decide) (by decide) rfl M) rfl rfl rfl (fun _ _ => rfl) rfl (by exact cl_v my_209 rfl rfl rfl (Nat.le_of_ble_eq_true rfl) rfl (MH_obj rfl rfl) rfl (by decide) rfl rfl) (by rfl) (Nat.le_of_ble_eq_true rfl) (Nat.le_of_ble_eq_true rfl) rfl (fun v h1 d1 hq => ?_) (fun _ _ _ e => e.elim)
  rcases hq with ⟨hv, ⟨C5, ⟨g5, g5b, M5, f5⟩, hh⟩, hn⟩ | ⟨hv, ⟨C5, ⟨c5, j5, g5, F5, f5⟩, hh⟩, hn⟩
  · subst hv; subst hh; subst hn
    rw [pb_r (show xpP (tkP B n) 45 i = .inr (i + 1) from if_pos g5)]
    exact q167 hUr hr2 hr1 M5 (TMo_T H f5) ho (RU1_T R f5)
  · subst hv; subst hh; subst hn
    exact qf167 F5 (Or.inr ⟨rfl, ⟨_, ⟨c5, j5, flS_c g5 (fun q _ hk => Or.inr (bd_rf3 hk)), F5⟩, rfl⟩, rfl⟩)
set_option maxRecDepth 100000 in
theorem q119 (hUr : U r) (hr2 : r < 24) (hr1 : ruN Tb.2.2 = nI r) (M : MS B n U V C0 C i nl) (H : TMo C b Tb l (some r)) (ho : cs.length ≤ 6 ∧ ts.length ≤ 6) (he : e < 6) (ht6 : ∀ x, x ∈ ts → x < 6) (hok : ∀ i u, Tb.2.2 i = some u → okRu u) (R : RU1 C r 4 (nI b) (nI e) (nI cs.length) 0 0 0 cs ts) : Wd L xs (d + 6) y_218 (119, [(3, .int (nI ts.length)), (2, .int (nI e)), (0, .ref 176), (1, .int (nI r))], [], MH C t, 0) (PTI B n U V C0 t b (rRfe (tkP B n) Tb b cs e ts i nl)) nX := by
  have hk1 : kd B n i ≠ 1 := M.2.1.1
  have h1 := ho.1
  have h2 := ho.2
  by_cases hk : kd B n i = 45
  · by_cases hlen : ts.length = cs.length
    · by_cases hky : kyA Tb.2.2 e ts 24 0 = true
      · have hx : rRfe (tkP B n) Tb b cs e ts i nl = pb (xpP (tkP B n) 45 i) (fun j => rRf3 (tkP B n) Tb b cs e ts j nl) := by
          unfold rRfe
          rw [if_pos (show (tkP B n).1 i = 45 from hk), if_pos ⟨hlen, hky⟩, pb_r (show xpP (tkP B n) 45 i = .inr (i + 1) from if_pos hk)]
        rw [hx]
        refine w_p (pc1 := 120) rfl rfl ?_
        refine w_m0 (pc1 := 123) (st1 := .int 0 :: _) rfl rfl (h_gIe (j := 8) rfl rfl rfl rfl rfl (M.2.1.2.1)) rfl ?_
        refine w_f (a := 161) (b := 126) rfl rfl rfl ?_
        refine w_p (pc1 := 127) rfl rfl ?_
        refine w_p (pc1 := 129) (st1 := .int 41 :: _) rfl rfl ?_
        refine w_je (pc1 := 132) (vs := [.ref 176, .int 41]) (rest := []) (st1 := [.int 1]) (m_210t (d := _) (sl := 0) (c := 41) ((sg_k (k := 45) M.2.1 (by decide) (by decide)).trans (decide_eq_true hk))) rfl rfl rfl (fun _ _ => rfl) rfl (by exact cl_v my_210 rfl rfl rfl (Nat.le_of_ble_eq_true rfl) rfl (MH_obj rfl rfl) rfl (by decide) rfl rfl) (by rfl) (Nat.le_of_ble_eq_true rfl) (Nat.le_of_ble_eq_true rfl) rfl (by rfl) ?_
        refine w_f (a := 161) (b := 135) rfl rfl rfl ?_
        refine w_p (pc1 := 136) rfl rfl ?_
        refine w_p (pc1 := 137) rfl rfl ?_
        refine w_m0 (pc1 := 140) rfl rfl (h_gC rfl rfl rfl rfl) rfl ?_
        refine w_p (pc1 := 141) rfl rfl ?_
        refine w_m0 (pc1 := 142) (st1 := .int (nI (cs.length)) :: _) rfl rfl (n_ile (e := r) rfl rfl rfl (by omega) (R.1.2.2.2)) rfl ?_
        refine w_f (a := 155) (b := 145) (bN_ne_f (a := ts.length) (b := cs.length) (by omega) (by omega) (by omega)) rfl rfl ?_
        refine w_p (pc1 := 146) rfl rfl ?_
        refine w_p (pc1 := 147) rfl rfl ?_
        refine w_p (pc1 := 148) rfl rfl ?_
        refine w_p (pc1 := 149) rfl rfl ?_
        refine w_je (pc1 := 152) (vs := [.ref 176, .int (nI (e)), .int (nI (r)), .int (nI (ts.length))]) (rest := []) (st1 := [.int 1]) (m_220 (d := _) (z := true) H hr2 he R.2.1.2 rfl ho.2 ht6 hok hky) rfl rfl rfl (fun _ _ => rfl) rfl (by exact cl_v my_220 rfl rfl rfl (Nat.le_of_ble_eq_true rfl) rfl (MH_obj rfl rfl) rfl (by decide) rfl rfl) (by rfl) (Nat.le_of_ble_eq_true rfl) (Nat.le_of_ble_eq_true rfl) rfl (by rfl) ?_
        refine w_t (a := 161) (b := 155) rfl rfl rfl ?_
        exact q161 hUr hr2 hr1 M H ho R
      · have hx : rRfe (tkP B n) Tb b cs e ts i nl = .inl (7, i) := by
          unfold rRfe
          rw [if_pos (show (tkP B n).1 i = 45 from hk), if_neg (fun z => hky z.2)]
        refine w_p (pc1 := 120) rfl rfl ?_
        refine w_m0 (pc1 := 123) (st1 := .int 0 :: _) rfl rfl (h_gIe (j := 8) rfl rfl rfl rfl rfl (M.2.1.2.1)) rfl ?_
        refine w_f (a := 161) (b := 126) rfl rfl rfl ?_
        refine w_p (pc1 := 127) rfl rfl ?_
        refine w_p (pc1 := 129) (st1 := .int 41 :: _) rfl rfl ?_
        refine w_je (pc1 := 132) (vs := [.ref 176, .int 41]) (rest := []) (st1 := [.int 1]) (m_210t (d := _) (sl := 0) (c := 41) ((sg_k (k := 45) M.2.1 (by decide) (by decide)).trans (decide_eq_true hk))) rfl rfl rfl (fun _ _ => rfl) rfl (by exact cl_v my_210 rfl rfl rfl (Nat.le_of_ble_eq_true rfl) rfl (MH_obj rfl rfl) rfl (by decide) rfl rfl) (by rfl) (Nat.le_of_ble_eq_true rfl) (Nat.le_of_ble_eq_true rfl) rfl (by rfl) ?_
        refine w_f (a := 161) (b := 135) rfl rfl rfl ?_
        refine w_p (pc1 := 136) rfl rfl ?_
        refine w_p (pc1 := 137) rfl rfl ?_
        refine w_m0 (pc1 := 140) rfl rfl (h_gC rfl rfl rfl rfl) rfl ?_
        refine w_p (pc1 := 141) rfl rfl ?_
        refine w_m0 (pc1 := 142) (st1 := .int (nI (cs.length)) :: _) rfl rfl (n_ile (e := r) rfl rfl rfl (by omega) (R.1.2.2.2)) rfl ?_
        refine w_f (a := 155) (b := 145) (bN_ne_f (a := ts.length) (b := cs.length) (by omega) (by omega) (by omega)) rfl rfl ?_
        refine w_p (pc1 := 146) rfl rfl ?_
        refine w_p (pc1 := 147) rfl rfl ?_
        refine w_p (pc1 := 148) rfl rfl ?_
        refine w_p (pc1 := 149) rfl rfl ?_
        refine w_je (pc1 := 152) (vs := [.ref 176, .int (nI (e)), .int (nI (r)), .int (nI (ts.length))]) (rest := []) (st1 := [.int 0]) (m_220 (d := _) (z := false) H hr2 he R.2.1.2 rfl ho.2 ht6 hok (by cases h : kyA Tb.2.2 e ts 24 0 with | true => exact absurd h hky | false => rfl)) rfl rfl rfl (fun _ _ => rfl) rfl (by exact cl_v my_220 rfl rfl rfl (Nat.le_of_ble_eq_true rfl) rfl (MH_obj rfl rfl) rfl (by decide) rfl rfl) (by rfl) (Nat.le_of_ble_eq_true rfl) (Nat.le_of_ble_eq_true rfl) rfl (by rfl) ?_
        refine w_f (a := 161) (b := 155) rfl rfl rfl ?_
        refine w_p (pc1 := 156) rfl rfl ?_
        refine w_p (pc1 := 158) (st1 := .int 7 :: _) rfl rfl ?_
        refine w_je (pc1 := 161) (vs := [.ref 176, .int 7]) (rest := []) (st1 := []) (m_200 (d := _) (sl := 0) (fun z => absurd M.2.1.2.1 z)) rfl rfl rfl (fun _ _ => rfl) rfl (by exact cl_v my_200 rfl rfl rfl (Nat.le_of_ble_eq_true rfl) rfl (MH_obj rfl rfl) rfl (by decide) rfl rfl) (by rfl) (Nat.le_of_ble_eq_true rfl) (Nat.le_of_ble_eq_true rfl) rfl (by rfl) ?_
        have F := FS_new (c := 7) M (by decide)
        exact qf161 F (Or.inr ⟨rfl, ⟨_, ⟨7, i, flS_n hx hk1, F⟩, rfl⟩, rfl⟩)
    · have hx : rRfe (tkP B n) Tb b cs e ts i nl = .inl (7, i) := by
        unfold rRfe
        rw [if_pos (show (tkP B n).1 i = 45 from hk), if_neg (fun z => hlen z.1)]
      refine w_p (pc1 := 120) rfl rfl ?_
      refine w_m0 (pc1 := 123) (st1 := .int 0 :: _) rfl rfl (h_gIe (j := 8) rfl rfl rfl rfl rfl (M.2.1.2.1)) rfl ?_
      refine w_f (a := 161) (b := 126) rfl rfl rfl ?_
      refine w_p (pc1 := 127) rfl rfl ?_
      refine w_p (pc1 := 129) (st1 := .int 41 :: _) rfl rfl ?_
      refine w_je (pc1 := 132) (vs := [.ref 176, .int 41]) (rest := []) (st1 := [.int 1]) (m_210t (d := _) (sl := 0) (c := 41) ((sg_k (k := 45) M.2.1 (by decide) (by decide)).trans (decide_eq_true hk))) rfl rfl rfl (fun _ _ => rfl) rfl (by exact cl_v my_210 rfl rfl rfl (Nat.le_of_ble_eq_true rfl) rfl (MH_obj rfl rfl) rfl (by decide) rfl rfl) (by rfl) (Nat.le_of_ble_eq_true rfl) (Nat.le_of_ble_eq_true rfl) rfl (by rfl) ?_
      refine w_f (a := 161) (b := 135) rfl rfl rfl ?_
      refine w_p (pc1 := 136) rfl rfl ?_
      refine w_p (pc1 := 137) rfl rfl ?_
      refine w_m0 (pc1 := 140) rfl rfl (h_gC rfl rfl rfl rfl) rfl ?_
      refine w_p (pc1 := 141) rfl rfl ?_
      refine w_m0 (pc1 := 142) (st1 := .int (nI (cs.length)) :: _) rfl rfl (n_ile (e := r) rfl rfl rfl (by omega) (R.1.2.2.2)) rfl ?_
      refine w_t (a := 155) (b := 145) (bN_ne_t (a := ts.length) (b := cs.length) (by omega) (by omega) (by omega)) rfl rfl ?_
      refine w_p (pc1 := 156) rfl rfl ?_
      refine w_p (pc1 := 158) (st1 := .int 7 :: _) rfl rfl ?_
      refine w_je (pc1 := 161) (vs := [.ref 176, .int 7]) (rest := []) (st1 := []) (m_200 (d := _) (sl := 0) (fun z => absurd M.2.1.2.1 z)) rfl rfl rfl (fun _ _ => rfl) rfl (by exact cl_v my_200 rfl rfl rfl (Nat.le_of_ble_eq_true rfl) rfl (MH_obj rfl rfl) rfl (by decide) rfl rfl) (by rfl) (Nat.le_of_ble_eq_true rfl) (Nat.le_of_ble_eq_true rfl) rfl (by rfl) ?_
      have F := FS_new (c := 7) M (by decide)
      exact qf161 F (Or.inr ⟨rfl, ⟨_, ⟨7, i, flS_n hx hk1, F⟩, rfl⟩, rfl⟩)
  · have hx : rRfe (tkP B n) Tb b cs e ts i nl = pb (xpP (tkP B n) 45 i) (fun j => rRf3 (tkP B n) Tb b cs e ts j nl) := by
      unfold rRfe
      rw [if_neg (show ¬ (tkP B n).1 i = 45 from hk), pb_l (show xpP (tkP B n) 45 i = .inl (2, i) from if_neg hk)]
    rw [hx]
    refine w_p (pc1 := 120) rfl rfl ?_
    refine w_m0 (pc1 := 123) (st1 := .int 0 :: _) rfl rfl (h_gIe (j := 8) rfl rfl rfl rfl rfl (M.2.1.2.1)) rfl ?_
    refine w_f (a := 161) (b := 126) rfl rfl rfl ?_
    refine w_p (pc1 := 127) rfl rfl ?_
    refine w_p (pc1 := 129) (st1 := .int 41 :: _) rfl rfl ?_
    refine w_je (pc1 := 132) (vs := [.ref 176, .int 41]) (rest := []) (st1 := [.int 0]) (m_210f (d := _) (sl := 0) (c := 41) ((sg_k (k := 45) M.2.1 (by decide) (by decide)).trans (decide_eq_false hk))) rfl rfl rfl (fun _ _ => rfl) rfl (by exact cl_v my_210 rfl rfl rfl (Nat.le_of_ble_eq_true rfl) rfl (MH_obj rfl rfl) rfl (by decide) rfl rfl) (by rfl) (Nat.le_of_ble_eq_true rfl) (Nat.le_of_ble_eq_true rfl) rfl (by rfl) ?_
    refine w_t (a := 161) (b := 135) rfl rfl rfl ?_
    exact q161 hUr hr2 hr1 M H ho R
set_option maxRecDepth 100000 in
theorem rRf2_e {K : tv2} : rRf2 K Tb b cs e i nl = pb (rNam K Tb.1 e 7 [] i) (fun y => rRfe K Tb b cs e y.1 y.2 nl) := rfl
set_option maxRecDepth 100000 in
theorem bd_rfe (h : kd B n i = 1) : bdS (rRfe (tkP B n) Tb b cs e ts i nl) i := ⟨2, if_neg (by show ¬ kd B n i = 45; rw [h]; decide)⟩
/-! a table is named: from the token behind its name -/
set_option maxRecDepth 100000 in
theorem q105 (hUr : U r) (hr2 : r < 24) (hr1 : ruN Tb.2.2 = nI r) (M : MS B n U V C0 C i nl) (H : TMo C b Tb l (some r)) (hc6 : cs.length ≤ 6) (he : e < 6) (hz : Tb.1.1 e ≠ 0) (hok : ∀ i u, Tb.2.2 i = some u → okRu u) (R : RU1 C r 4 (nI b) (nI e) (nI cs.length) 0 0 0 cs []) : Wd L xs (d + 6) y_218 (105, [(2, .int (nI e)), (0, .ref 176), (1, .int (nI r))], [], MH C t, 0) (PTI B n U V C0 t b (pb (xpP (tkP B n) 44 i) (fun j4 => rRf2 (tkP B n) Tb b cs e j4 nl))) nX := by
  have hB := (H.2.1 e he hz).2.2.1
  have hx : pb (xpP (tkP B n) 44 i) (fun j4 => rRf2 (tkP B n) Tb b cs e j4 nl) = pb (pb (xpP (tkP B n) 44 i) (fun j => rNam (tkP B n) Tb.1 e 7 [] j)) (fun y => rRfe (tkP B n) Tb b cs e y.1 y.2 nl) := by
    rw [pb_pb]
    rfl
  rw [hx]
  refine w_p (pc1 := 106) rfl rfl ?_
  refine w_p (pc1 := 107) rfl rfl ?_
  refine w_p (pc1 := 108) rfl rfl ?_
  refine w_m0 (pc1 := 111) rfl rfl (h_gC rfl rfl rfl rfl) rfl ?_
  refine w_p (pc1 := 113) (st1 := .int 6 :: _) rfl rfl ?_
  refine w_p (pc1 := 114) rfl rfl ?_
  refine w_imul (pc1 := 115) (u := nI (6)) (v := nI (r)) (z := nI (6 * r)) rfl (nK_mul) rfl ?_
  refine w_ji (pc1 := 118) (vs := [.ref 176, .int (nI (e)), .ref 189, .int (nI (6 * r))]) (rest := []) (m_216_89 (d := _) (b := e) (sc := Tb.1) hUr hr2 M hB) rfl rfl rfl (fun _ _ => rfl) rfl (by exact cl_v my_216 rfl rfl rfl (Nat.le_of_ble_eq_true rfl) rfl (MH_obj rfl rfl) rfl (by decide) rfl rfl) (by rfl) (Nat.le_of_ble_eq_true rfl) (Nat.le_of_ble_eq_true rfl) rfl (fun v h1 d1 hq => ?_) (fun _ _ _ e => e.elim)
  rcases hq with ⟨ts, i3, hv, ⟨C3, ⟨g3, g4, M3, a3, f3⟩, hh⟩, hn⟩ | ⟨a3, hv, ⟨C3, ⟨c3, j3, g3, F3⟩, hh⟩, hn⟩
  · subst hv; subst hh; subst hn
    refine w_p (pc1 := 119) (al1 := [(3, .int (nI (ts.length))), (2, .int (nI (e))), (0, .ref 176), (1, .int (nI (r)))]) rfl rfl ?_
    have h6 := nam_6 hB.2.2.1 g3
    rw [pb_r g3]
    exact q119 hUr hr2 hr1 M3 (TMo_P H (Or.inl rfl) (fP_N (Or.inr rfl) f3)) ⟨hc6, h6.1⟩ he h6.2 hok (RU1_9 R f3 a3)
  · subst hv; subst hh; subst hn
    refine w_p (pc1 := 119) (al1 := [(3, .int (nI (a3))), (2, .int (nI (e))), (0, .ref 176), (1, .int (nI (r)))]) rfl rfl ?_
    exact qf119 F3 (Or.inr ⟨rfl, ⟨_, ⟨c3, j3, flS_b g3 (fun q _ hk => bd_rfe hk), F3⟩, rfl⟩, rfl⟩)
set_option maxRecDepth 100000 in
theorem q105f (F : FS B n U V C0 C c i) (hr2 : r < 24) (H : P none (MH C t) 0) : Wd L xs (d + 2) y_218 (105, [(2, .int (nI e)), (0, .ref 176), (1, .int (nI r))], [], MH C t, 0) P nX := by
  refine w_p (pc1 := 106) rfl rfl ?_
  refine w_p (pc1 := 107) rfl rfl ?_
  refine w_p (pc1 := 108) rfl rfl ?_
  refine w_m0 (pc1 := 111) rfl rfl (h_gC rfl rfl rfl rfl) rfl ?_
  refine w_p (pc1 := 113) (st1 := .int 6 :: _) rfl rfl ?_
  refine w_p (pc1 := 114) rfl rfl ?_
  refine w_imul (pc1 := 115) (u := nI (6)) (v := nI (r)) (z := nI (6 * r)) rfl (nK_mul) rfl ?_
  refine w_ji (pc1 := 118) (vs := [.ref 176, .int (nI (e)), .ref 189, .int (nI (6 * r))]) (rest := []) (m_216_89f (d := _) F) rfl rfl rfl (fun _ _ => rfl) rfl (by exact cl_v my_216 rfl rfl rfl (Nat.le_of_ble_eq_true rfl) rfl (MH_obj rfl rfl) rfl (by decide) rfl rfl) (by rfl) (Nat.le_of_ble_eq_true rfl) (Nat.le_of_ble_eq_true rfl) rfl (fun v h1 d1 hq => ?_) (fun _ _ _ e => e.elim)
  rcases hq with ⟨a3, hv, hh, hn⟩
  · subst hv; subst hh; subst hn
    refine w_p (pc1 := 119) (al1 := [(3, .int (nI (a3))), (2, .int (nI (e))), (0, .ref 176), (1, .int (nI (r)))]) rfl rfl ?_
    exact qf119 F H
end MTH
