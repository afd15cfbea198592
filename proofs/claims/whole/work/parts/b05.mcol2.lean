
/-! THE OTHER SIDE READS A TABLE, 6: columns, their defaults -/
section MTF
variable {L : Nat} {xs : Nat → Int32} {B : Nat → Nat} {n : Nat} {C C' C0 C1 : co_T} {t : ab_H} {d i i0 i1 j b e p k w q : Nat} {U V : Nat → Prop} {c : Int32} {sc : sc_T} {row : Option Nat} {tg : Option (Nat × Nat)} {nl : Option Nat} {E : fe_T} {tr : Nat → Option tr_T}
variable {r : Nat} {l : List Nat} {o : Option Nat} {Tb : tb_S} {u : ru_T} {P : Option Value → ab_H → Nat → Prop}
set_option maxRecDepth 100000 in
theorem c162f_0 (hV : V b) (hb : b < 6) (hw : w < 6) (F : FS B n U V C0 C c i) (H : ∀ C', FS B n U V C0 C' c i → P none (MH C' t) 0) : Wd L xs d y_212 (162, [(3, .int 0), (2, .int (nI w)), (1, .int (nI b)), (0, .ref 176)], [], MH C t, 0) P nX := by
  have h0 := FS_0 F
  refine w_p (pc1 := 163) rfl rfl ?_
  refine w_m0 (pc1 := 166) rfl rfl (h_gC rfl rfl rfl rfl) rfl ?_
  refine w_p (pc1 := 168) (st1 := .int 6 :: _) rfl rfl ?_
  refine w_p (pc1 := 169) rfl rfl ?_
  refine w_imul (pc1 := 170) (u := nI (6)) (v := nI (b)) (z := nI (6 * b)) rfl (nK_mul) rfl ?_
  refine w_p (pc1 := 171) rfl rfl ?_
  refine w_iadd (pc1 := 172) (u := nI (6 * b)) (v := nI (w)) (z := nI (6 * b + w)) rfl (nK_add) rfl ?_
  refine w_p (pc1 := 173) rfl rfl ?_
  refine w_t (a := 184) (b := 176) rfl rfl rfl ?_
  refine w_p (pc1 := 185) rfl rfl ?_
  refine w_m0 (pc1 := 188) (st1 := .long (C.2.1 76 7) :: _) rfl rfl (h_gJe (j := 7) rfl rfl rfl rfl rfl (rfl)) rfl ?_
  refine w_m0 (pc1 := 189) rfl rfl (n_ls (e := 6 * b + w) rfl rfl rfl (by omega)) rfl ?_
  refine w_p (pc1 := 190) rfl rfl ?_
  refine w_m0 (pc1 := 193) rfl rfl (h_gI (j := 8) rfl rfl rfl rfl rfl) rfl ?_
  refine w_t (a := 200) (b := 196) (cb_ne_t (by exact h0)) rfl rfl ?_
  refine Wd_al (al := [(2, .int (nI (w))), (1, .int (nI (b))), (0, .ref 176)]) (sba_p [1, 2, 3] rfl rfl) ?_
  have F2 := FS_J (v := C.2.1 76 7) F (sj_t (k := 82) (j := 6 * b + w) hV (by omega) (by omega))
  exact c200f F2 (H _ F2)
set_option maxRecDepth 100000 in
theorem c162_0 (hU : ∀ r, r < 24 → Tb.2.2 r = none → U r) (hV : V b) (hb : b < 6) (hw : w < 6) (M : MS B n U V C0 C i nl) (H : TMo C b Tb l none) (hc : w < Tb.1.2.1 b) (hk : kd B n i = 4) (hx : (vl B n i) = (vl B n i).toInt32.toInt64) : Wd L xs (d + 5) y_212 (162, [(3, .int 0), (2, .int (nI w)), (1, .int (nI b)), (0, .ref 176)], [], MH C t, 0) (PTI B n U V C0 t b (rNnl (tkP B n) (setD Tb b w (some (vl B n i).toInt32)) b w (i + 1) nl)) nX := by
  have hv : C.2.1 76 7 = vl B n i := by rw [M.2.1.2.2.2.1, hk]; rfl
  have M1 := MS_J (v := (vl B n i)) M (sj_t (k := 82) (j := 6 * b + w) hV (by omega) (by omega)) (by omega)
  have H1 := TMo_d H hc hx
  refine w_p (pc1 := 163) rfl rfl ?_
  refine w_m0 (pc1 := 166) rfl rfl (h_gC rfl rfl rfl rfl) rfl ?_
  refine w_p (pc1 := 168) (st1 := .int 6 :: _) rfl rfl ?_
  refine w_p (pc1 := 169) rfl rfl ?_
  refine w_imul (pc1 := 170) (u := nI (6)) (v := nI (b)) (z := nI (6 * b)) rfl (nK_mul) rfl ?_
  refine w_p (pc1 := 171) rfl rfl ?_
  refine w_iadd (pc1 := 172) (u := nI (6 * b)) (v := nI (w)) (z := nI (6 * b + w)) rfl (nK_add) rfl ?_
  refine w_p (pc1 := 173) rfl rfl ?_
  refine w_t (a := 184) (b := 176) rfl rfl rfl ?_
  refine w_p (pc1 := 185) rfl rfl ?_
  refine w_m0 (pc1 := 188) (st1 := .long (vl B n i) :: _) rfl rfl (h_gJe (j := 7) rfl rfl rfl rfl rfl (hv)) rfl ?_
  refine w_m0 (pc1 := 189) rfl rfl (n_ls (e := 6 * b + w) rfl rfl rfl (by omega)) rfl ?_
  refine w_p (pc1 := 190) rfl rfl ?_
  refine w_m0 (pc1 := 193) (st1 := .int 0 :: _) rfl rfl (h_gIe (j := 8) rfl rfl rfl rfl rfl (M1.2.1.2.1)) rfl ?_
  refine w_f (a := 200) (b := 196) rfl rfl rfl ?_
  refine w_p (pc1 := 197) rfl rfl ?_
  refine w_ji (pc1 := 200) (vs := [.ref 176]) (rest := []) (nS (d := _) M1 (by rw [hk]; decide)) rfl rfl rfl (fun _ _ => rfl) rfl (by exact cl_v my_195 rfl rfl rfl (Nat.le_of_ble_eq_true rfl) rfl (MH_obj rfl rfl) rfl (by decide) rfl rfl) (by rfl) (Nat.le_of_ble_eq_true rfl) (Nat.le_of_ble_eq_true rfl) rfl (fun v h1 d1 hq => ?_) (fun _ _ _ e => e.elim)
  rcases hq with ⟨hv, ⟨C2, ⟨g2, M2, f2⟩, hh⟩, hn⟩ | ⟨hv, ⟨C2, ⟨g2, F2, f2⟩, hh⟩, hn⟩
  · subst hv; subst hh; subst hn
    refine Wd_al (al := [(2, .int (nI (w))), (1, .int (nI (b))), (0, .ref 176)]) (sba_p [1, 2, 3] rfl rfl) ?_
    exact c200 hU M2 (TMo_T H1 f2) hw
  · subst hv; subst hh; subst hn
    refine Wd_al (al := [(2, .int (nI (w))), (1, .int (nI (b))), (0, .ref 176)]) (sba_p [1, 2, 3] rfl rfl) ?_
    refine c200f F2 (Or.inr ⟨rfl, ⟨_, ⟨1, i + 1, ?_, F2⟩, rfl⟩, rfl⟩)
    exact flS_e (if_neg (by show ¬ kd B n (i + 1) = 23; rw [g2]; decide)) rfl g2
set_option maxRecDepth 100000 in
theorem c162f_1 (hV : V b) (hb : b < 6) (hw : w < 6) (F : FS B n U V C0 C c i) (H : ∀ C', FS B n U V C0 C' c i → P none (MH C' t) 0) : Wd L xs d y_212 (162, [(3, .int 1), (2, .int (nI w)), (1, .int (nI b)), (0, .ref 176)], [], MH C t, 0) P nX := by
  have h0 := FS_0 F
  refine w_p (pc1 := 163) rfl rfl ?_
  refine w_m0 (pc1 := 166) rfl rfl (h_gC rfl rfl rfl rfl) rfl ?_
  refine w_p (pc1 := 168) (st1 := .int 6 :: _) rfl rfl ?_
  refine w_p (pc1 := 169) rfl rfl ?_
  refine w_imul (pc1 := 170) (u := nI (6)) (v := nI (b)) (z := nI (6 * b)) rfl (nK_mul) rfl ?_
  refine w_p (pc1 := 171) rfl rfl ?_
  refine w_iadd (pc1 := 172) (u := nI (6 * b)) (v := nI (w)) (z := nI (6 * b + w)) rfl (nK_add) rfl ?_
  refine w_p (pc1 := 173) rfl rfl ?_
  refine w_f (a := 184) (b := 176) rfl rfl rfl ?_
  refine w_p (pc1 := 177) rfl rfl ?_
  refine w_m0 (pc1 := 180) (st1 := .long (C.2.1 76 7) :: _) rfl rfl (h_gJe (j := 7) rfl rfl rfl rfl rfl (rfl)) rfl ?_
  refine w_p (pc1 := 181) (st1 := .long (-(C.2.1 76 7)) :: _) rfl rfl ?_
  refine w_p (pc1 := 188) rfl rfl ?_
  refine w_m0 (pc1 := 189) rfl rfl (n_ls (e := 6 * b + w) rfl rfl rfl (by omega)) rfl ?_
  refine w_p (pc1 := 190) rfl rfl ?_
  refine w_m0 (pc1 := 193) rfl rfl (h_gI (j := 8) rfl rfl rfl rfl rfl) rfl ?_
  refine w_t (a := 200) (b := 196) (cb_ne_t (by exact h0)) rfl rfl ?_
  refine Wd_al (al := [(2, .int (nI (w))), (1, .int (nI (b))), (0, .ref 176)]) (sba_p [1, 2, 3] rfl rfl) ?_
  have F2 := FS_J (v := -(C.2.1 76 7)) F (sj_t (k := 82) (j := 6 * b + w) hV (by omega) (by omega))
  exact c200f F2 (H _ F2)
set_option maxRecDepth 100000 in
theorem c162_1 (hU : ∀ r, r < 24 → Tb.2.2 r = none → U r) (hV : V b) (hb : b < 6) (hw : w < 6) (M : MS B n U V C0 C i nl) (H : TMo C b Tb l none) (hc : w < Tb.1.2.1 b) (hk : kd B n i = 4) (hx : (-(vl B n i)) = (-(vl B n i)).toInt32.toInt64) : Wd L xs (d + 5) y_212 (162, [(3, .int 1), (2, .int (nI w)), (1, .int (nI b)), (0, .ref 176)], [], MH C t, 0) (PTI B n U V C0 t b (rNnl (tkP B n) (setD Tb b w (some (-(vl B n i)).toInt32)) b w (i + 1) nl)) nX := by
  have hv : C.2.1 76 7 = vl B n i := by rw [M.2.1.2.2.2.1, hk]; rfl
  have M1 := MS_J (v := (-(vl B n i))) M (sj_t (k := 82) (j := 6 * b + w) hV (by omega) (by omega)) (by omega)
  have H1 := TMo_d H hc hx
  refine w_p (pc1 := 163) rfl rfl ?_
  refine w_m0 (pc1 := 166) rfl rfl (h_gC rfl rfl rfl rfl) rfl ?_
  refine w_p (pc1 := 168) (st1 := .int 6 :: _) rfl rfl ?_
  refine w_p (pc1 := 169) rfl rfl ?_
  refine w_imul (pc1 := 170) (u := nI (6)) (v := nI (b)) (z := nI (6 * b)) rfl (nK_mul) rfl ?_
  refine w_p (pc1 := 171) rfl rfl ?_
  refine w_iadd (pc1 := 172) (u := nI (6 * b)) (v := nI (w)) (z := nI (6 * b + w)) rfl (nK_add) rfl ?_
  refine w_p (pc1 := 173) rfl rfl ?_
  refine w_f (a := 184) (b := 176) rfl rfl rfl ?_
  refine w_p (pc1 := 177) rfl rfl ?_
  refine w_m0 (pc1 := 180) (st1 := .long (vl B n i) :: _) rfl rfl (h_gJe (j := 7) rfl rfl rfl rfl rfl (hv)) rfl ?_
  refine w_p (pc1 := 181) (st1 := .long (-(vl B n i)) :: _) rfl rfl ?_
  refine w_p (pc1 := 188) rfl rfl ?_
  refine w_m0 (pc1 := 189) rfl rfl (n_ls (e := 6 * b + w) rfl rfl rfl (by omega)) rfl ?_
  refine w_p (pc1 := 190) rfl rfl ?_
  refine w_m0 (pc1 := 193) (st1 := .int 0 :: _) rfl rfl (h_gIe (j := 8) rfl rfl rfl rfl rfl (M1.2.1.2.1)) rfl ?_
  refine w_f (a := 200) (b := 196) rfl rfl rfl ?_
  refine w_p (pc1 := 197) rfl rfl ?_
  refine w_ji (pc1 := 200) (vs := [.ref 176]) (rest := []) (nS (d := _) M1 (by rw [hk]; decide)) rfl rfl rfl (fun _ _ => rfl) rfl (by exact cl_v my_195 rfl rfl rfl (Nat.le_of_ble_eq_true rfl) rfl (MH_obj rfl rfl) rfl (by decide) rfl rfl) (by rfl) (Nat.le_of_ble_eq_true rfl) (Nat.le_of_ble_eq_true rfl) rfl (fun v h1 d1 hq => ?_) (fun _ _ _ e => e.elim)
  rcases hq with ⟨hv, ⟨C2, ⟨g2, M2, f2⟩, hh⟩, hn⟩ | ⟨hv, ⟨C2, ⟨g2, F2, f2⟩, hh⟩, hn⟩
  · subst hv; subst hh; subst hn
    refine Wd_al (al := [(2, .int (nI (w))), (1, .int (nI (b))), (0, .ref 176)]) (sba_p [1, 2, 3] rfl rfl) ?_
    exact c200 hU M2 (TMo_T H1 f2) hw
  · subst hv; subst hh; subst hn
    refine Wd_al (al := [(2, .int (nI (w))), (1, .int (nI (b))), (0, .ref 176)]) (sba_p [1, 2, 3] rfl rfl) ?_
    refine c200f F2 (Or.inr ⟨rfl, ⟨_, ⟨1, i + 1, ?_, F2⟩, rfl⟩, rfl⟩)
    exact flS_e (if_neg (by show ¬ kd B n (i + 1) = 23; rw [g2]; decide)) rfl g2
set_option maxRecDepth 100000 in
theorem bd_int (h : kd B n i = 1) : bdS (rInt (tkP B n) i) i := by
  refine ⟨2, ?_⟩
  unfold rInt
  rw [if_neg (by show ¬ kd B n i = 57; rw [h]; decide), if_neg (by show ¬ kd B n i = 4; rw [h]; decide)]
/-! behind a column's name -/
set_option maxRecDepth 100000 in
theorem c91 (hU : ∀ r, r < 24 → Tb.2.2 r = none → U r) (hV : V b) (hb : b < 6) (hw : w < 6) (M : MS B n U V C0 C i nl) (H : TMo C b Tb l none) (hc : w < Tb.1.2.1 b) : Wd L xs (d + 5) y_212 (91, [(2, .int (nI w)), (1, .int (nI b)), (0, .ref 176)], [], MH C t, 0) (PTI B n U V C0 t b (rDft (tkP B n) Tb b w i nl)) nX := by
  have hk1 : kd B n i ≠ 1 := M.2.1.1
  by_cases hk : kd B n i = 14
  · have hx : rDft (tkP B n) Tb b w i nl = pb (rInt (tkP B n) (i + 1)) (fun x => rNnl (tkP B n) (setD Tb b w (some x.1.toInt32)) b w x.2 nl) := if_pos hk
    rw [hx]
    by_cases h57 : kd B n (i + 1) = 57
    · by_cases h4 : kd B n (i + 1 + 1) = 4
      · have hy : rInt (tkP B n) (i + 1) = .inr (-(vl B n (i + 1 + 1)), i + 1 + 1 + 1) := by
          unfold rInt
          rw [if_pos (show (tkP B n).1 (i + 1) = 57 from h57), if_pos (show (tkP B n).1 (i + 1 + 1) = 4 from h4)]
          rfl
        rw [pb_r hy]
        refine w_p (pc1 := 92) rfl rfl ?_
        refine w_m0 (pc1 := 95) (st1 := .int 0 :: _) rfl rfl (h_gIe (j := 8) rfl rfl rfl rfl rfl (M.2.1.2.1)) rfl ?_
        refine w_f (a := 200) (b := 98) rfl rfl rfl ?_
        refine w_p (pc1 := 99) rfl rfl ?_
        refine w_m0 (pc1 := 102) (st1 := .long 28258988067220596 :: _) rfl rfl rfl rfl ?_
        refine w_je (pc1 := 105) (vs := [.ref 176, .long 28258988067220596]) (rest := []) (st1 := [.int 1]) (m_205t (d := _) (sl := 0) ((wd_k (k := 14) M.2.1 (by decide) (by decide)).trans (decide_eq_true hk))) rfl rfl rfl (fun _ _ => rfl) rfl (by exact cl_v my_205 rfl rfl rfl (Nat.le_of_ble_eq_true rfl) rfl (MH_obj rfl rfl) rfl (by decide) rfl rfl) (by rfl) (Nat.le_of_ble_eq_true rfl) (Nat.le_of_ble_eq_true rfl) rfl (by rfl) ?_
        refine w_f (a := 200) (b := 108) rfl rfl rfl ?_
        refine w_p (pc1 := 109) rfl rfl ?_
        refine w_ji (pc1 := 112) (vs := [.ref 176]) (rest := []) (nS (d := _) M (by rw [hk]; decide)) rfl rfl rfl (fun _ _ => rfl) rfl (by exact cl_v my_195 rfl rfl rfl (Nat.le_of_ble_eq_true rfl) rfl (MH_obj rfl rfl) rfl (by decide) rfl rfl) (by rfl) (Nat.le_of_ble_eq_true rfl) (Nat.le_of_ble_eq_true rfl) rfl (fun v h1 d1 hq => ?_) (fun _ _ _ e => e.elim)
        rcases hq with ⟨hv, ⟨C1, ⟨g1, M1, f1⟩, hh⟩, hn⟩ | ⟨hv, ⟨C1, ⟨g1, F1, f1⟩, hh⟩, hn⟩
        · subst hv; subst hh; subst hn
          refine w_p (pc1 := 113) rfl rfl ?_
          refine w_m0 (pc1 := 116) (st1 := .int 0 :: _) rfl rfl (h_gIe (j := 8) rfl rfl rfl rfl rfl (M1.2.1.2.1)) rfl ?_
          refine w_f (a := 132) (b := 119) rfl rfl rfl ?_
          refine w_p (pc1 := 120) rfl rfl ?_
          refine w_p (pc1 := 122) (st1 := .int 45 :: _) rfl rfl ?_
          refine w_je (pc1 := 125) (vs := [.ref 176, .int 45]) (rest := []) (st1 := [.int 1]) (m_210t (d := _) (sl := 0) (c := 45) ((sg_k (k := 57) M1.2.1 (by decide) (by decide)).trans (decide_eq_true h57))) rfl rfl rfl (fun _ _ => rfl) rfl (by exact cl_v my_210 rfl rfl rfl (Nat.le_of_ble_eq_true rfl) rfl (MH_obj rfl rfl) rfl (by decide) rfl rfl) (by rfl) (Nat.le_of_ble_eq_true rfl) (Nat.le_of_ble_eq_true rfl) rfl (by rfl) ?_
          refine w_f (a := 132) (b := 128) rfl rfl rfl ?_
          refine w_p (pc1 := 129) (st1 := .int 1 :: _) rfl rfl ?_
          refine w_p (pc1 := 133) rfl rfl ?_
          refine w_p (pc1 := 134) (al1 := [(3, .int 1), (2, .int (nI (w))), (1, .int (nI (b))), (0, .ref 176)]) rfl rfl ?_
          refine w_p (pc1 := 135) rfl rfl ?_
          refine w_f (a := 142) (b := 138) rfl rfl rfl ?_
          refine w_p (pc1 := 139) rfl rfl ?_
          refine w_ji (pc1 := 142) (vs := [.ref 176]) (rest := []) (nS (d := _) M1 (by rw [h57]; decide)) rfl rfl rfl (fun _ _ => rfl) rfl (by exact cl_v my_195 rfl rfl rfl (Nat.le_of_ble_eq_true rfl) rfl (MH_obj rfl rfl) rfl (by decide) rfl rfl) (by rfl) (Nat.le_of_ble_eq_true rfl) (Nat.le_of_ble_eq_true rfl) rfl (fun v h1 d1 hq => ?_) (fun _ _ _ e => e.elim)
          rcases hq with ⟨hv, ⟨C2, ⟨g2, M2, f2⟩, hh⟩, hn⟩ | ⟨hv, ⟨C2, ⟨g2, F2, f2⟩, hh⟩, hn⟩
          · subst hv; subst hh; subst hn
            refine w_p (pc1 := 143) rfl rfl ?_
            refine w_m0 (pc1 := 146) (st1 := .int 0 :: _) rfl rfl (h_gIe (j := 8) rfl rfl rfl rfl rfl (M2.2.1.2.1)) rfl ?_
            refine w_f (a := 162) (b := 149) rfl rfl rfl ?_
            refine w_p (pc1 := 150) rfl rfl ?_
            refine w_m0 (pc1 := 153) rfl rfl (h_gI (j := 4) rfl rfl rfl rfl rfl) rfl ?_
            refine w_p (pc1 := 154) (st1 := .int 2 :: _) rfl rfl ?_
            refine w_t (a := 162) (b := 157) (cb_eq_t (by exact (nm_k M2.2.1).2.1.mpr h4)) rfl rfl ?_
            exact c162_1 hU hV hb hw M2 (TMo_T (TMo_T H f1) f2) hc h4 (rInt_fit hy)
          · subst hv; subst hh; subst hn
            refine w_p (pc1 := 143) rfl rfl ?_
            refine w_m0 (pc1 := 146) rfl rfl (h_gI (j := 8) rfl rfl rfl rfl rfl) rfl ?_
            refine w_t (a := 162) (b := 149) (cb_ne_t (by exact FS_0 F2)) rfl rfl ?_
            exact absurd h4 (by rw [g2]; decide)
        · subst hv; subst hh; subst hn
          refine w_p (pc1 := 113) rfl rfl ?_
          refine w_m0 (pc1 := 116) rfl rfl (h_gI (j := 8) rfl rfl rfl rfl rfl) rfl ?_
          refine w_t (a := 132) (b := 119) (cb_ne_t (by exact FS_0 F1)) rfl rfl ?_
          refine w_p (pc1 := 133) (st1 := .int 0 :: _) rfl rfl ?_
          refine w_p (pc1 := 134) (al1 := [(3, .int 0), (2, .int (nI (w))), (1, .int (nI (b))), (0, .ref 176)]) rfl rfl ?_
          refine w_p (pc1 := 135) rfl rfl ?_
          refine w_t (a := 142) (b := 138) rfl rfl rfl ?_
          refine w_p (pc1 := 143) rfl rfl ?_
          refine w_m0 (pc1 := 146) rfl rfl (h_gI (j := 8) rfl rfl rfl rfl rfl) rfl ?_
          refine w_t (a := 162) (b := 149) (cb_ne_t (by exact FS_0 F1)) rfl rfl ?_
          exact c162f_0 hV hb hw F1 (fun C9 F9 => Or.inr ⟨rfl, ⟨_, ⟨1, i + 1, flS_1 (⟨2, absurd h57 (by rw [g1]; decide)⟩) g1, F9⟩, rfl⟩, rfl⟩)
      · have hy : rInt (tkP B n) (i + 1) = .inl (2, i + 1 + 1) := by
          unfold rInt
          rw [if_pos (show (tkP B n).1 (i + 1) = 57 from h57), if_neg (show ¬ (tkP B n).1 (i + 1 + 1) = 4 from h4)]
        refine w_p (pc1 := 92) rfl rfl ?_
        refine w_m0 (pc1 := 95) (st1 := .int 0 :: _) rfl rfl (h_gIe (j := 8) rfl rfl rfl rfl rfl (M.2.1.2.1)) rfl ?_
        refine w_f (a := 200) (b := 98) rfl rfl rfl ?_
        refine w_p (pc1 := 99) rfl rfl ?_
        refine w_m0 (pc1 := 102) (st1 := .long 28258988067220596 :: _) rfl rfl rfl rfl ?_
        refine w_je (pc1 := 105) (vs := [.ref 176, .long 28258988067220596]) (rest := []) (st1 := [.int 1]) (m_205t (d := _) (sl := 0) ((wd_k (k := 14) M.2.1 (by decide) (by decide)).trans (decide_eq_true hk))) rfl rfl rfl (fun _ _ => rfl) rfl (by exact cl_v my_205 rfl rfl rfl (Nat.le_of_ble_eq_true rfl) rfl (MH_obj rfl rfl) rfl (by decide) rfl rfl) (by rfl) (Nat.le_of_ble_eq_true rfl) (Nat.le_of_ble_eq_true rfl) rfl (by rfl) ?_
        refine w_f (a := 200) (b := 108) rfl rfl rfl ?_
        refine w_p (pc1 := 109) rfl rfl ?_
        refine w_ji (pc1 := 112) (vs := [.ref 176]) (rest := []) (nS (d := _) M (by rw [hk]; decide)) rfl rfl rfl (fun _ _ => rfl) rfl (by exact cl_v my_195 rfl rfl rfl (Nat.le_of_ble_eq_true rfl) rfl (MH_obj rfl rfl) rfl (by decide) rfl rfl) (by rfl) (Nat.le_of_ble_eq_true rfl) (Nat.le_of_ble_eq_true rfl) rfl (fun v h1 d1 hq => ?_) (fun _ _ _ e => e.elim)
        rcases hq with ⟨hv, ⟨C1, ⟨g1, M1, f1⟩, hh⟩, hn⟩ | ⟨hv, ⟨C1, ⟨g1, F1, f1⟩, hh⟩, hn⟩
        · subst hv; subst hh; subst hn
          refine w_p (pc1 := 113) rfl rfl ?_
          refine w_m0 (pc1 := 116) (st1 := .int 0 :: _) rfl rfl (h_gIe (j := 8) rfl rfl rfl rfl rfl (M1.2.1.2.1)) rfl ?_
          refine w_f (a := 132) (b := 119) rfl rfl rfl ?_
          refine w_p (pc1 := 120) rfl rfl ?_
          refine w_p (pc1 := 122) (st1 := .int 45 :: _) rfl rfl ?_
          refine w_je (pc1 := 125) (vs := [.ref 176, .int 45]) (rest := []) (st1 := [.int 1]) (m_210t (d := _) (sl := 0) (c := 45) ((sg_k (k := 57) M1.2.1 (by decide) (by decide)).trans (decide_eq_true h57))) rfl rfl rfl (fun _ _ => rfl) rfl (by exact cl_v my_210 rfl rfl rfl (Nat.le_of_ble_eq_true rfl) rfl (MH_obj rfl rfl) rfl (by decide) rfl rfl) (by rfl) (Nat.le_of_ble_eq_true rfl) (Nat.le_of_ble_eq_true rfl) rfl (by rfl) ?_
          refine w_f (a := 132) (b := 128) rfl rfl rfl ?_
          refine w_p (pc1 := 129) (st1 := .int 1 :: _) rfl rfl ?_
          refine w_p (pc1 := 133) rfl rfl ?_
          refine w_p (pc1 := 134) (al1 := [(3, .int 1), (2, .int (nI (w))), (1, .int (nI (b))), (0, .ref 176)]) rfl rfl ?_
          refine w_p (pc1 := 135) rfl rfl ?_
          refine w_f (a := 142) (b := 138) rfl rfl rfl ?_
          refine w_p (pc1 := 139) rfl rfl ?_
          refine w_ji (pc1 := 142) (vs := [.ref 176]) (rest := []) (nS (d := _) M1 (by rw [h57]; decide)) rfl rfl rfl (fun _ _ => rfl) rfl (by exact cl_v my_195 rfl rfl rfl (Nat.le_of_ble_eq_true rfl) rfl (MH_obj rfl rfl) rfl (by decide) rfl rfl) (by rfl) (Nat.le_of_ble_eq_true rfl) (Nat.le_of_ble_eq_true rfl) rfl (fun v h1 d1 hq => ?_) (fun _ _ _ e => e.elim)
          rcases hq with ⟨hv, ⟨C2, ⟨g2, M2, f2⟩, hh⟩, hn⟩ | ⟨hv, ⟨C2, ⟨g2, F2, f2⟩, hh⟩, hn⟩
          · subst hv; subst hh; subst hn
            refine w_p (pc1 := 143) rfl rfl ?_
            refine w_m0 (pc1 := 146) (st1 := .int 0 :: _) rfl rfl (h_gIe (j := 8) rfl rfl rfl rfl rfl (M2.2.1.2.1)) rfl ?_
            refine w_f (a := 162) (b := 149) rfl rfl rfl ?_
            refine w_p (pc1 := 150) rfl rfl ?_
            refine w_m0 (pc1 := 153) rfl rfl (h_gI (j := 4) rfl rfl rfl rfl rfl) rfl ?_
            refine w_p (pc1 := 154) (st1 := .int 2 :: _) rfl rfl ?_
            refine w_f (a := 162) (b := 157) (cb_eq_f (by exact fun e => h4 ((nm_k M2.2.1).2.1.mp e))) rfl rfl ?_
            refine w_p (pc1 := 158) rfl rfl ?_
            refine w_p (pc1 := 159) (st1 := .int 2 :: _) rfl rfl ?_
            refine w_je (pc1 := 162) (vs := [.ref 176, .int 2]) (rest := []) (st1 := []) (m_200 (d := _) (sl := 0) (fun z => absurd M2.2.1.2.1 z)) rfl rfl rfl (fun _ _ => rfl) rfl (by exact cl_v my_200 rfl rfl rfl (Nat.le_of_ble_eq_true rfl) rfl (MH_obj rfl rfl) rfl (by decide) rfl rfl) (by rfl) (Nat.le_of_ble_eq_true rfl) (Nat.le_of_ble_eq_true rfl) rfl (by rfl) ?_
            exact c162f_1 hV hb hw (FS_new (c := 2) M2 (by decide)) (fun C9 F9 => Or.inr ⟨rfl, ⟨_, ⟨2, i + 1 + 1, flS_n (pb_l hy) g2, F9⟩, rfl⟩, rfl⟩)
          · subst hv; subst hh; subst hn
            refine w_p (pc1 := 143) rfl rfl ?_
            refine w_m0 (pc1 := 146) rfl rfl (h_gI (j := 8) rfl rfl rfl rfl rfl) rfl ?_
            refine w_t (a := 162) (b := 149) (cb_ne_t (by exact FS_0 F2)) rfl rfl ?_
            exact c162f_1 hV hb hw F2 (fun C9 F9 => Or.inr ⟨rfl, ⟨_, ⟨1, i + 1 + 1, flS_1 (bdS_b ⟨2, hy⟩) g2, F9⟩, rfl⟩, rfl⟩)
        · subst hv; subst hh; subst hn
          refine w_p (pc1 := 113) rfl rfl ?_
          refine w_m0 (pc1 := 116) rfl rfl (h_gI (j := 8) rfl rfl rfl rfl rfl) rfl ?_
          refine w_t (a := 132) (b := 119) (cb_ne_t (by exact FS_0 F1)) rfl rfl ?_
          refine w_p (pc1 := 133) (st1 := .int 0 :: _) rfl rfl ?_
          refine w_p (pc1 := 134) (al1 := [(3, .int 0), (2, .int (nI (w))), (1, .int (nI (b))), (0, .ref 176)]) rfl rfl ?_
          refine w_p (pc1 := 135) rfl rfl ?_
          refine w_t (a := 142) (b := 138) rfl rfl rfl ?_
          refine w_p (pc1 := 143) rfl rfl ?_
          refine w_m0 (pc1 := 146) rfl rfl (h_gI (j := 8) rfl rfl rfl rfl rfl) rfl ?_
          refine w_t (a := 162) (b := 149) (cb_ne_t (by exact FS_0 F1)) rfl rfl ?_
          exact c162f_0 hV hb hw F1 (fun C9 F9 => Or.inr ⟨rfl, ⟨_, ⟨1, i + 1, flS_1 (bdS_b (bd_int g1)) g1, F9⟩, rfl⟩, rfl⟩)
    · by_cases h4 : kd B n (i + 1) = 4
      · have hy : rInt (tkP B n) (i + 1) = .inr (vl B n (i + 1), i + 1 + 1) := by
          unfold rInt
          rw [if_neg (show ¬ (tkP B n).1 (i + 1) = 57 from h57), if_pos (show (tkP B n).1 (i + 1) = 4 from h4)]
          rfl
        rw [pb_r hy]
        refine w_p (pc1 := 92) rfl rfl ?_
        refine w_m0 (pc1 := 95) (st1 := .int 0 :: _) rfl rfl (h_gIe (j := 8) rfl rfl rfl rfl rfl (M.2.1.2.1)) rfl ?_
        refine w_f (a := 200) (b := 98) rfl rfl rfl ?_
        refine w_p (pc1 := 99) rfl rfl ?_
        refine w_m0 (pc1 := 102) (st1 := .long 28258988067220596 :: _) rfl rfl rfl rfl ?_
        refine w_je (pc1 := 105) (vs := [.ref 176, .long 28258988067220596]) (rest := []) (st1 := [.int 1]) (m_205t (d := _) (sl := 0) ((wd_k (k := 14) M.2.1 (by decide) (by decide)).trans (decide_eq_true hk))) rfl rfl rfl (fun _ _ => rfl) rfl (by exact cl_v my_205 rfl rfl rfl (Nat.le_of_ble_eq_true rfl) rfl (MH_obj rfl rfl) rfl (by decide) rfl rfl) (by rfl) (Nat.le_of_ble_eq_true rfl) (Nat.le_of_ble_eq_true rfl) rfl (by rfl) ?_
        refine w_f (a := 200) (b := 108) rfl rfl rfl ?_
        refine w_p (pc1 := 109) rfl rfl ?_
        refine w_ji (pc1 := 112) (vs := [.ref 176]) (rest := []) (nS (d := _) M (by rw [hk]; decide)) rfl rfl rfl (fun _ _ => rfl) rfl (by exact cl_v my_195 rfl rfl rfl (Nat.le_of_ble_eq_true rfl) rfl (MH_obj rfl rfl) rfl (by decide) rfl rfl) (by rfl) (Nat.le_of_ble_eq_true rfl) (Nat.le_of_ble_eq_true rfl) rfl (fun v h1 d1 hq => ?_) (fun _ _ _ e => e.elim)
        rcases hq with ⟨hv, ⟨C1, ⟨g1, M1, f1⟩, hh⟩, hn⟩ | ⟨hv, ⟨C1, ⟨g1, F1, f1⟩, hh⟩, hn⟩
        · subst hv; subst hh; subst hn
          refine w_p (pc1 := 113) rfl rfl ?_
          refine w_m0 (pc1 := 116) (st1 := .int 0 :: _) rfl rfl (h_gIe (j := 8) rfl rfl rfl rfl rfl (M1.2.1.2.1)) rfl ?_
          refine w_f (a := 132) (b := 119) rfl rfl rfl ?_
          refine w_p (pc1 := 120) rfl rfl ?_
          refine w_p (pc1 := 122) (st1 := .int 45 :: _) rfl rfl ?_
          refine w_je (pc1 := 125) (vs := [.ref 176, .int 45]) (rest := []) (st1 := [.int 0]) (m_210f (d := _) (sl := 0) (c := 45) ((sg_k (k := 57) M1.2.1 (by decide) (by decide)).trans (decide_eq_false h57))) rfl rfl rfl (fun _ _ => rfl) rfl (by exact cl_v my_210 rfl rfl rfl (Nat.le_of_ble_eq_true rfl) rfl (MH_obj rfl rfl) rfl (by decide) rfl rfl) (by rfl) (Nat.le_of_ble_eq_true rfl) (Nat.le_of_ble_eq_true rfl) rfl (by rfl) ?_
          refine w_t (a := 132) (b := 128) rfl rfl rfl ?_
          refine w_p (pc1 := 133) (st1 := .int 0 :: _) rfl rfl ?_
          refine w_p (pc1 := 134) (al1 := [(3, .int 0), (2, .int (nI (w))), (1, .int (nI (b))), (0, .ref 176)]) rfl rfl ?_
          refine w_p (pc1 := 135) rfl rfl ?_
          refine w_t (a := 142) (b := 138) rfl rfl rfl ?_
          refine w_p (pc1 := 143) rfl rfl ?_
          refine w_m0 (pc1 := 146) (st1 := .int 0 :: _) rfl rfl (h_gIe (j := 8) rfl rfl rfl rfl rfl (M1.2.1.2.1)) rfl ?_
          refine w_f (a := 162) (b := 149) rfl rfl rfl ?_
          refine w_p (pc1 := 150) rfl rfl ?_
          refine w_m0 (pc1 := 153) rfl rfl (h_gI (j := 4) rfl rfl rfl rfl rfl) rfl ?_
          refine w_p (pc1 := 154) (st1 := .int 2 :: _) rfl rfl ?_
          refine w_t (a := 162) (b := 157) (cb_eq_t (by exact (nm_k M1.2.1).2.1.mpr h4)) rfl rfl ?_
          exact c162_0 hU hV hb hw M1 (TMo_T H f1) hc h4 (rInt_fit hy)
        · subst hv; subst hh; subst hn
          refine w_p (pc1 := 113) rfl rfl ?_
          refine w_m0 (pc1 := 116) rfl rfl (h_gI (j := 8) rfl rfl rfl rfl rfl) rfl ?_
          refine w_t (a := 132) (b := 119) (cb_ne_t (by exact FS_0 F1)) rfl rfl ?_
          refine w_p (pc1 := 133) (st1 := .int 0 :: _) rfl rfl ?_
          refine w_p (pc1 := 134) (al1 := [(3, .int 0), (2, .int (nI (w))), (1, .int (nI (b))), (0, .ref 176)]) rfl rfl ?_
          refine w_p (pc1 := 135) rfl rfl ?_
          refine w_t (a := 142) (b := 138) rfl rfl rfl ?_
          refine w_p (pc1 := 143) rfl rfl ?_
          refine w_m0 (pc1 := 146) rfl rfl (h_gI (j := 8) rfl rfl rfl rfl rfl) rfl ?_
          refine w_t (a := 162) (b := 149) (cb_ne_t (by exact FS_0 F1)) rfl rfl ?_
          exact c162f_0 hV hb hw F1 (fun C9 F9 => Or.inr ⟨rfl, ⟨_, ⟨1, i + 1, flS_1 (⟨2, absurd h4 (by rw [g1]; decide)⟩) g1, F9⟩, rfl⟩, rfl⟩)
      · have hy : rInt (tkP B n) (i + 1) = .inl (2, i + 1) := by
          unfold rInt
          rw [if_neg (show ¬ (tkP B n).1 (i + 1) = 57 from h57), if_neg (show ¬ (tkP B n).1 (i + 1) = 4 from h4)]
        refine w_p (pc1 := 92) rfl rfl ?_
        refine w_m0 (pc1 := 95) (st1 := .int 0 :: _) rfl rfl (h_gIe (j := 8) rfl rfl rfl rfl rfl (M.2.1.2.1)) rfl ?_
        refine w_f (a := 200) (b := 98) rfl rfl rfl ?_
        refine w_p (pc1 := 99) rfl rfl ?_
        refine w_m0 (pc1 := 102) (st1 := .long 28258988067220596 :: _) rfl rfl rfl rfl ?_
        refine w_je (pc1 := 105) (vs := [.ref 176, .long 28258988067220596]) (rest := []) (st1 := [.int 1]) (m_205t (d := _) (sl := 0) ((wd_k (k := 14) M.2.1 (by decide) (by decide)).trans (decide_eq_true hk))) rfl rfl rfl (fun _ _ => rfl) rfl (by exact cl_v my_205 rfl rfl rfl (Nat.le_of_ble_eq_true rfl) rfl (MH_obj rfl rfl) rfl (by decide) rfl rfl) (by rfl) (Nat.le_of_ble_eq_true rfl) (Nat.le_of_ble_eq_true rfl) rfl (by rfl) ?_
        refine w_f (a := 200) (b := 108) rfl rfl rfl ?_
        refine w_p (pc1 := 109) rfl rfl ?_
        refine w_ji (pc1 := 112) (vs := [.ref 176]) (rest := []) (nS (d := _) M (by rw [hk]; decide)) rfl rfl rfl (fun _ _ => rfl) rfl (by exact cl_v my_195 rfl rfl rfl (Nat.le_of_ble_eq_true rfl) rfl (MH_obj rfl rfl) rfl (by decide) rfl rfl) (by rfl) (Nat.le_of_ble_eq_true rfl) (Nat.le_of_ble_eq_true rfl) rfl (fun v h1 d1 hq => ?_) (fun _ _ _ e => e.elim)
        rcases hq with ⟨hv, ⟨C1, ⟨g1, M1, f1⟩, hh⟩, hn⟩ | ⟨hv, ⟨C1, ⟨g1, F1, f1⟩, hh⟩, hn⟩
        · subst hv; subst hh; subst hn
          refine w_p (pc1 := 113) rfl rfl ?_
          refine w_m0 (pc1 := 116) (st1 := .int 0 :: _) rfl rfl (h_gIe (j := 8) rfl rfl rfl rfl rfl (M1.2.1.2.1)) rfl ?_
          refine w_f (a := 132) (b := 119) rfl rfl rfl ?_
          refine w_p (pc1 := 120) rfl rfl ?_
          refine w_p (pc1 := 122) (st1 := .int 45 :: _) rfl rfl ?_
          refine w_je (pc1 := 125) (vs := [.ref 176, .int 45]) (rest := []) (st1 := [.int 0]) (m_210f (d := _) (sl := 0) (c := 45) ((sg_k (k := 57) M1.2.1 (by decide) (by decide)).trans (decide_eq_false h57))) rfl rfl rfl (fun _ _ => rfl) rfl (by exact cl_v my_210 rfl rfl rfl (Nat.le_of_ble_eq_true rfl) rfl (MH_obj rfl rfl) rfl (by decide) rfl rfl) (by rfl) (Nat.le_of_ble_eq_true rfl) (Nat.le_of_ble_eq_true rfl) rfl (by rfl) ?_
          refine w_t (a := 132) (b := 128) rfl rfl rfl ?_
          refine w_p (pc1 := 133) (st1 := .int 0 :: _) rfl rfl ?_
          refine w_p (pc1 := 134) (al1 := [(3, .int 0), (2, .int (nI (w))), (1, .int (nI (b))), (0, .ref 176)]) rfl rfl ?_
          refine w_p (pc1 := 135) rfl rfl ?_
          refine w_t (a := 142) (b := 138) rfl rfl rfl ?_
          refine w_p (pc1 := 143) rfl rfl ?_
          refine w_m0 (pc1 := 146) (st1 := .int 0 :: _) rfl rfl (h_gIe (j := 8) rfl rfl rfl rfl rfl (M1.2.1.2.1)) rfl ?_
          refine w_f (a := 162) (b := 149) rfl rfl rfl ?_
          refine w_p (pc1 := 150) rfl rfl ?_
          refine w_m0 (pc1 := 153) rfl rfl (h_gI (j := 4) rfl rfl rfl rfl rfl) rfl ?_
          refine w_p (pc1 := 154) (st1 := .int 2 :: _) rfl rfl ?_
          refine w_f (a := 162) (b := 157) (cb_eq_f (by exact fun e => h4 ((nm_k M1.2.1).2.1.mp e))) rfl rfl ?_
          refine w_p (pc1 := 158) rfl rfl ?_
          refine w_p (pc1 := 159) (st1 := .int 2 :: _) rfl rfl ?_
          refine w_je (pc1 := 162) (vs := [.ref 176, .int 2]) (rest := []) (st1 := []) (m_200 (d := _) (sl := 0) (fun z => absurd M1.2.1.2.1 z)) rfl rfl rfl (fun _ _ => rfl) rfl (by exact cl_v my_200 rfl rfl rfl (Nat.le_of_ble_eq_true rfl) rfl (MH_obj rfl rfl) rfl (by decide) rfl rfl) (by rfl) (Nat.le_of_ble_eq_true rfl) (Nat.le_of_ble_eq_true rfl) rfl (by rfl) ?_
          exact c162f_0 hV hb hw (FS_new (c := 2) M1 (by decide)) (fun C9 F9 => Or.inr ⟨rfl, ⟨_, ⟨2, i + 1, flS_n (pb_l hy) g1, F9⟩, rfl⟩, rfl⟩)
        · subst hv; subst hh; subst hn
          refine w_p (pc1 := 113) rfl rfl ?_
          refine w_m0 (pc1 := 116) rfl rfl (h_gI (j := 8) rfl rfl rfl rfl rfl) rfl ?_
          refine w_t (a := 132) (b := 119) (cb_ne_t (by exact FS_0 F1)) rfl rfl ?_
          refine w_p (pc1 := 133) (st1 := .int 0 :: _) rfl rfl ?_
          refine w_p (pc1 := 134) (al1 := [(3, .int 0), (2, .int (nI (w))), (1, .int (nI (b))), (0, .ref 176)]) rfl rfl ?_
          refine w_p (pc1 := 135) rfl rfl ?_
          refine w_t (a := 142) (b := 138) rfl rfl rfl ?_
          refine w_p (pc1 := 143) rfl rfl ?_
          refine w_m0 (pc1 := 146) rfl rfl (h_gI (j := 8) rfl rfl rfl rfl rfl) rfl ?_
          refine w_t (a := 162) (b := 149) (cb_ne_t (by exact FS_0 F1)) rfl rfl ?_
          exact c162f_0 hV hb hw F1 (fun C9 F9 => Or.inr ⟨rfl, ⟨_, ⟨1, i + 1, flS_1 (bdS_b (bd_int g1)) g1, F9⟩, rfl⟩, rfl⟩)
  · have hx : rDft (tkP B n) Tb b w i nl = rNnl (tkP B n) Tb b w i nl := if_neg hk
    rw [hx]
    refine w_p (pc1 := 92) rfl rfl ?_
    refine w_m0 (pc1 := 95) (st1 := .int 0 :: _) rfl rfl (h_gIe (j := 8) rfl rfl rfl rfl rfl (M.2.1.2.1)) rfl ?_
    refine w_f (a := 200) (b := 98) rfl rfl rfl ?_
    refine w_p (pc1 := 99) rfl rfl ?_
    refine w_m0 (pc1 := 102) (st1 := .long 28258988067220596 :: _) rfl rfl rfl rfl ?_
    refine w_je (pc1 := 105) (vs := [.ref 176, .long 28258988067220596]) (rest := []) (st1 := [.int 0]) (m_205f (d := _) (sl := 0) ((wd_k (k := 14) M.2.1 (by decide) (by decide)).trans (decide_eq_false hk))) rfl rfl rfl (fun _ _ => rfl) rfl (by exact cl_v my_205 rfl rfl rfl (Nat.le_of_ble_eq_true rfl) rfl (MH_obj rfl rfl) rfl (by decide) rfl rfl) (by rfl) (Nat.le_of_ble_eq_true rfl) (Nat.le_of_ble_eq_true rfl) rfl (by rfl) ?_
    refine w_t (a := 200) (b := 108) rfl rfl rfl ?_
    exact c200 hU M H hw
set_option maxRecDepth 100000 in
theorem c91f {x : Int32} (F : FS B n U V C0 C c i) (H : P none (MH C t) 0) : Wd L xs d y_212 (91, [(2, .int x), (1, .int (nI b)), (0, .ref 176)], [], MH C t, 0) P nX := by
  have h0 := FS_0 F
  refine w_p (pc1 := 92) rfl rfl ?_
  refine w_m0 (pc1 := 95) rfl rfl (h_gI (j := 8) rfl rfl rfl rfl rfl) rfl ?_
  refine w_t (a := 200) (b := 98) (cb_ne_t (by exact h0)) rfl rfl ?_
  exact c200f F H
set_option maxRecDepth 100000 in
theorem m_212 (hU : ∀ r, r < 24 → Tb.2.2 r = none → U r) (hV : V b) (M : MS B n U V C0 C i nl) (H : TMo C b Tb l none) (hk : kd B n i = 3) : Wd L xs (d + 5) y_212 (0, [(0, .ref 176)], [], MH C t, 0) (PTI B n U V C0 t b (rNwc (tkP B n) Tb b i nl)) nX := by
  have hk1 : kd B n i ≠ 1 := M.2.1.1
  have hb := H.1.2.1
  have hB := (H.2.1 b hb H.1.2.2.2).2.2.1
  have hw6 := hB.2.2.1
  have hv : C.2.1 76 7 = vl B n i := by rw [M.2.1.2.2.2.1, hk]; rfl
  by_cases hf : clF Tb.1 b (vl B n i) = -1
  · by_cases h6 : Tb.1.2.1 b = 6
    · have hx : rNwc (tkP B n) Tb b i nl = .inl (6, i) := by
        unfold rNwc
        rw [if_pos (show clF Tb.1 b ((tkP B n).2 i) = -1 from hf), if_pos (by omega)]
      have F := FS_new (c := 6) M (by decide)
      refine w_p (pc1 := 1) rfl rfl ?_
      refine w_m0 (pc1 := 4) (st1 := .int (nI (b)) :: _) rfl rfl (h_gIe (j := 57) rfl rfl rfl rfl rfl (H.1.1)) rfl ?_
      refine w_p (pc1 := 5) (al1 := [(1, .int (nI (b))), (0, .ref 176)]) rfl rfl ?_
      refine w_p (pc1 := 6) rfl rfl ?_
      refine w_p (pc1 := 7) rfl rfl ?_
      refine w_p (pc1 := 8) rfl rfl ?_
      refine w_m0 (pc1 := 11) (st1 := .long (vl B n i) :: _) rfl rfl (h_gJe (j := 7) rfl rfl rfl rfl rfl (hv)) rfl ?_
      refine w_je (pc1 := 14) (vs := [.ref 176, .int (nI (b)), .long (vl B n i)]) (rest := []) (st1 := [.int (-1)]) (m_213r (d := _) (sl := 0) hB hf) rfl rfl rfl (fun _ _ => rfl) rfl (by exact cl_v my_213 rfl rfl rfl (Nat.le_of_ble_eq_true rfl) rfl (MH_obj rfl rfl) rfl (by decide) rfl rfl) (by rfl) (Nat.le_of_ble_eq_true rfl) (Nat.le_of_ble_eq_true rfl) rfl (by rfl) ?_
      refine w_p (pc1 := 15) (st1 := .int (-1) :: _) rfl rfl ?_
      refine w_t (a := 23) (b := 18) rfl rfl rfl ?_
      refine w_p (pc1 := 24) rfl rfl ?_
      refine w_m0 (pc1 := 27) rfl rfl (h_gC rfl rfl rfl rfl) rfl ?_
      refine w_p (pc1 := 28) rfl rfl ?_
      refine w_m0 (pc1 := 29) (st1 := .int (nI (Tb.1.2.1 b)) :: _) rfl rfl (n_ile (e := b) rfl rfl rfl (by omega) (hB.2.1)) rfl ?_
      refine w_p (pc1 := 31) (st1 := .int 6 :: _) rfl rfl ?_
      refine w_f (a := 41) (b := 34) (bN_ne_f (a := Tb.1.2.1 b) (b := 6) (by omega) (by omega) (by omega)) rfl rfl ?_
      refine w_p (pc1 := 35) rfl rfl ?_
      refine w_p (pc1 := 37) (st1 := .int 6 :: _) rfl rfl ?_
      refine w_je (pc1 := 40) (vs := [.ref 176, .int 6]) (rest := []) (st1 := []) (m_200 (d := _) (sl := 0) (fun z => absurd M.2.1.2.1 z)) rfl rfl rfl (fun _ _ => rfl) rfl (by exact cl_v my_200 rfl rfl rfl (Nat.le_of_ble_eq_true rfl) rfl (MH_obj rfl rfl) rfl (by decide) rfl rfl) (by rfl) (Nat.le_of_ble_eq_true rfl) (Nat.le_of_ble_eq_true rfl) rfl (by rfl) ?_
      refine w_r rfl rfl rfl (fun _ _ => rfl) rfl ?_
      exact Or.inr ⟨rfl, ⟨_, ⟨6, i, flS_n hx hk1, F⟩, rfl⟩, rfl⟩
    · have hx : rNwc (tkP B n) Tb b i nl = rDft (tkP B n) (addC Tb b (vl B n i)) b (Tb.1.2.1 b) (i + 1) nl := by
        unfold rNwc
        rw [if_pos (show clF Tb.1 b ((tkP B n).2 i) = -1 from hf), if_neg (by omega)]
        rfl
      rw [hx]
      have hw5 : Tb.1.2.1 b < 6 := by omega
      have M1 := MS_a (v := vl B n i) hV M hw5
      have H1 := TMo_a (v := vl B n i) H hw5
      have hc1 : Tb.1.2.1 b < (addC Tb b (vl B n i)).1.2.1 b := by
        show _ < (if b = b then Tb.1.2.1 b + 1 else _)
        rw [if_pos rfl]
        omega
      refine w_p (pc1 := 1) rfl rfl ?_
      refine w_m0 (pc1 := 4) (st1 := .int (nI (b)) :: _) rfl rfl (h_gIe (j := 57) rfl rfl rfl rfl rfl (H.1.1)) rfl ?_
      refine w_p (pc1 := 5) (al1 := [(1, .int (nI (b))), (0, .ref 176)]) rfl rfl ?_
      refine w_p (pc1 := 6) rfl rfl ?_
      refine w_p (pc1 := 7) rfl rfl ?_
      refine w_p (pc1 := 8) rfl rfl ?_
      refine w_m0 (pc1 := 11) (st1 := .long (vl B n i) :: _) rfl rfl (h_gJe (j := 7) rfl rfl rfl rfl rfl (hv)) rfl ?_
      refine w_je (pc1 := 14) (vs := [.ref 176, .int (nI (b)), .long (vl B n i)]) (rest := []) (st1 := [.int (-1)]) (m_213r (d := _) (sl := 0) hB hf) rfl rfl rfl (fun _ _ => rfl) rfl (by exact cl_v my_213 rfl rfl rfl (Nat.le_of_ble_eq_true rfl) rfl (MH_obj rfl rfl) rfl (by decide) rfl rfl) (by rfl) (Nat.le_of_ble_eq_true rfl) (Nat.le_of_ble_eq_true rfl) rfl (by rfl) ?_
      refine w_p (pc1 := 15) (st1 := .int (-1) :: _) rfl rfl ?_
      refine w_t (a := 23) (b := 18) rfl rfl rfl ?_
      refine w_p (pc1 := 24) rfl rfl ?_
      refine w_m0 (pc1 := 27) rfl rfl (h_gC rfl rfl rfl rfl) rfl ?_
      refine w_p (pc1 := 28) rfl rfl ?_
      refine w_m0 (pc1 := 29) (st1 := .int (nI (Tb.1.2.1 b)) :: _) rfl rfl (n_ile (e := b) rfl rfl rfl (by omega) (hB.2.1)) rfl ?_
      refine w_p (pc1 := 31) (st1 := .int 6 :: _) rfl rfl ?_
      refine w_t (a := 41) (b := 34) (bN_ne_t (a := Tb.1.2.1 b) (b := 6) (by omega) (by omega) (by omega)) rfl rfl ?_
      refine w_p (pc1 := 42) rfl rfl ?_
      refine w_m0 (pc1 := 45) rfl rfl (h_gC rfl rfl rfl rfl) rfl ?_
      refine w_p (pc1 := 46) rfl rfl ?_
      refine w_m0 (pc1 := 47) (st1 := .int (nI (Tb.1.2.1 b)) :: _) rfl rfl (n_ile (e := b) rfl rfl rfl (by omega) (hB.2.1)) rfl ?_
      refine w_p (pc1 := 48) (al1 := [(2, .int (nI (Tb.1.2.1 b))), (1, .int (nI (b))), (0, .ref 176)]) rfl rfl ?_
      refine w_p (pc1 := 49) rfl rfl ?_
      refine w_m0 (pc1 := 52) rfl rfl (h_gC rfl rfl rfl rfl) rfl ?_
      refine w_p (pc1 := 54) (st1 := .int 6 :: _) rfl rfl ?_
      refine w_p (pc1 := 55) rfl rfl ?_
      refine w_imul (pc1 := 56) (u := nI (6)) (v := nI (b)) (z := nI (6 * b)) rfl (nK_mul) rfl ?_
      refine w_p (pc1 := 57) rfl rfl ?_
      refine w_iadd (pc1 := 58) (u := nI (6 * b)) (v := nI (Tb.1.2.1 b)) (z := nI (6 * b + (Tb.1.2.1 b))) rfl (nK_add) rfl ?_
      refine w_p (pc1 := 59) rfl rfl ?_
      refine w_m0 (pc1 := 62) (st1 := .long (vl B n i) :: _) rfl rfl (h_gJe (j := 7) rfl rfl rfl rfl rfl (hv)) rfl ?_
      refine w_m0 (pc1 := 63) rfl rfl (n_ls (e := 6 * b + (Tb.1.2.1 b)) rfl rfl rfl (by omega)) rfl ?_
      refine w_p (pc1 := 64) rfl rfl ?_
      refine w_m0 (pc1 := 67) rfl rfl (h_gC rfl rfl rfl rfl) rfl ?_
      refine w_p (pc1 := 69) (st1 := .int 6 :: _) rfl rfl ?_
      refine w_p (pc1 := 70) rfl rfl ?_
      refine w_imul (pc1 := 71) (u := nI (6)) (v := nI (b)) (z := nI (6 * b)) rfl (nK_mul) rfl ?_
      refine w_p (pc1 := 72) rfl rfl ?_
      refine w_iadd (pc1 := 73) (u := nI (6 * b)) (v := nI (Tb.1.2.1 b)) (z := nI (6 * b + (Tb.1.2.1 b))) rfl (nK_add) rfl ?_
      refine w_m0 (pc1 := 76) (st1 := .long (-9223372036854775808) :: _) rfl rfl rfl rfl ?_
      refine w_m0 (pc1 := 77) rfl rfl (n_ls (e := 6 * b + (Tb.1.2.1 b)) rfl rfl rfl (by omega)) rfl ?_
      refine w_p (pc1 := 78) rfl rfl ?_
      refine w_m0 (pc1 := 81) rfl rfl (h_gC rfl rfl rfl rfl) rfl ?_
      refine w_p (pc1 := 82) rfl rfl ?_
      refine w_p (pc1 := 83) rfl rfl ?_
      refine w_m0 (pc1 := 84) (st1 := .int (nI (Tb.1.2.1 b)) :: _) rfl rfl (n_ile (e := b) rfl rfl rfl (by omega) (hB.2.1)) rfl ?_
      refine w_p (pc1 := 85) (st1 := .int 1 :: _) rfl rfl ?_
      refine w_iadd (pc1 := 86) (u := nI (Tb.1.2.1 b)) (v := nI (1)) (z := nI (Tb.1.2.1 b + 1)) rfl (nK_add) rfl ?_
      refine w_m0 (pc1 := 87) rfl rfl (n_is (e := b) rfl rfl rfl (by omega)) rfl ?_
      refine w_p (pc1 := 88) rfl rfl ?_
      refine w_ji (pc1 := 91) (vs := [.ref 176]) (rest := []) (nS (d := _) M1 (by rw [hk]; decide)) rfl rfl rfl (fun _ _ => rfl) rfl (by exact cl_v my_195 rfl rfl rfl (Nat.le_of_ble_eq_true rfl) rfl (MH_obj rfl rfl) rfl (by decide) rfl rfl) (by rfl) (Nat.le_of_ble_eq_true rfl) (Nat.le_of_ble_eq_true rfl) rfl (fun v h1 d1 hq => ?_) (fun _ _ _ e => e.elim)
      rcases hq with ⟨hv, ⟨C2, ⟨g2, M2, f2⟩, hh⟩, hn⟩ | ⟨hv, ⟨C2, ⟨g2, F2, f2⟩, hh⟩, hn⟩
      · subst hv; subst hh; subst hn
        exact c91 hU hV hb hw5 M2 (TMo_T H1 f2) hc1
      · subst hv; subst hh; subst hn
        refine w_p (pc1 := 92) rfl rfl ?_
        refine w_m0 (pc1 := 95) rfl rfl (h_gI (j := 8) rfl rfl rfl rfl rfl) rfl ?_
        refine w_t (a := 200) (b := 98) (cb_ne_t (by exact FS_0 F2)) rfl rfl ?_
        refine c200f F2 (Or.inr ⟨rfl, ⟨_, ⟨1, i + 1, ?_, F2⟩, rfl⟩, rfl⟩)
        have e1 : rDft (tkP B n) (addC Tb b (vl B n i)) b (Tb.1.2.1 b) (i + 1) nl = .inr (addC Tb b (vl B n i), i + 1, nl) := by
          unfold rDft
          rw [if_neg (by show ¬ kd B n (i + 1) = 14; rw [g2]; decide)]
          exact if_neg (by show ¬ kd B n (i + 1) = 23; rw [g2]; decide)
        exact flS_e e1 rfl g2
  · obtain ⟨q, hq1, hq2, hq3⟩ := clF_b hw6 hf
    have hx : rNwc (tkP B n) Tb b i nl = .inl (3, i) := by
      unfold rNwc
      rw [if_neg (show ¬ clF Tb.1 b ((tkP B n).2 i) = -1 from hf)]
    have F := FS_new (c := 3) M (by decide)
    have eW : (fl_ C 3 (C.1 76 5)).1 80 b = nI (Tb.1.2.1 b) := (flt_1 (by omega)).trans hB.2.1
    have eV : (fl_ C 3 (C.1 76 5)).2.1 76 7 = vl B n i := by rw [flt_2]; exact hv
    by_cases h6 : Tb.1.2.1 b = 6
    · skip
      refine w_p (pc1 := 1) rfl rfl ?_
      refine w_m0 (pc1 := 4) (st1 := .int (nI (b)) :: _) rfl rfl (h_gIe (j := 57) rfl rfl rfl rfl rfl (H.1.1)) rfl ?_
      refine w_p (pc1 := 5) (al1 := [(1, .int (nI (b))), (0, .ref 176)]) rfl rfl ?_
      refine w_p (pc1 := 6) rfl rfl ?_
      refine w_p (pc1 := 7) rfl rfl ?_
      refine w_p (pc1 := 8) rfl rfl ?_
      refine w_m0 (pc1 := 11) (st1 := .long (vl B n i) :: _) rfl rfl (h_gJe (j := 7) rfl rfl rfl rfl rfl (hv)) rfl ?_
      refine w_je (pc1 := 14) (vs := [.ref 176, .int (nI (b)), .long (vl B n i)]) (rest := []) (st1 := [.int (nI (q))]) (m_213r (d := _) (sl := 0) hB hq1) rfl rfl rfl (fun _ _ => rfl) rfl (by exact cl_v my_213 rfl rfl rfl (Nat.le_of_ble_eq_true rfl) rfl (MH_obj rfl rfl) rfl (by decide) rfl rfl) (by rfl) (Nat.le_of_ble_eq_true rfl) (Nat.le_of_ble_eq_true rfl) rfl (by rfl) ?_
      refine w_p (pc1 := 15) (st1 := .int (-1) :: _) rfl rfl ?_
      refine w_f (a := 23) (b := 18) (cb_eq_f (by exact nK_m1 (by omega))) rfl rfl ?_
      refine w_p (pc1 := 19) rfl rfl ?_
      refine w_p (pc1 := 20) (st1 := .int 3 :: _) rfl rfl ?_
      refine w_je (pc1 := 23) (vs := [.ref 176, .int 3]) (rest := []) (st1 := []) (m_200 (d := _) (sl := 0) (fun z => absurd M.2.1.2.1 z)) rfl rfl rfl (fun _ _ => rfl) rfl (by exact cl_v my_200 rfl rfl rfl (Nat.le_of_ble_eq_true rfl) rfl (MH_obj rfl rfl) rfl (by decide) rfl rfl) (by rfl) (Nat.le_of_ble_eq_true rfl) (Nat.le_of_ble_eq_true rfl) rfl (by rfl) ?_
      refine w_p (pc1 := 24) rfl rfl ?_
      refine w_m0 (pc1 := 27) rfl rfl (h_gC rfl rfl rfl rfl) rfl ?_
      refine w_p (pc1 := 28) rfl rfl ?_
      refine w_m0 (pc1 := 29) (st1 := .int (nI (Tb.1.2.1 b)) :: _) rfl rfl (n_ile (e := b) rfl rfl rfl (by omega) (eW)) rfl ?_
      refine w_p (pc1 := 31) (st1 := .int 6 :: _) rfl rfl ?_
      refine w_f (a := 41) (b := 34) (bN_ne_f (a := Tb.1.2.1 b) (b := 6) (by omega) (by omega) (by omega)) rfl rfl ?_
      refine w_p (pc1 := 35) rfl rfl ?_
      refine w_p (pc1 := 37) (st1 := .int 6 :: _) rfl rfl ?_
      refine w_je (pc1 := 40) (vs := [.ref 176, .int 6]) (rest := []) (st1 := []) (hF (d := _) (c' := 6) F (by decide)) rfl rfl rfl (fun _ _ => rfl) rfl (by exact cl_v my_200 rfl rfl rfl (Nat.le_of_ble_eq_true rfl) rfl (MH_obj rfl rfl) rfl (by decide) rfl rfl) (by rfl) (Nat.le_of_ble_eq_true rfl) (Nat.le_of_ble_eq_true rfl) rfl (by rfl) ?_
      refine w_r rfl rfl rfl (fun _ _ => rfl) rfl ?_
      exact Or.inr ⟨rfl, ⟨_, ⟨3, i, flS_n hx hk1, F⟩, rfl⟩, rfl⟩
    · have F1 := FS_a (v := vl B n i) hV F (show Tb.1.2.1 b < 6 by omega)
      refine w_p (pc1 := 1) rfl rfl ?_
      refine w_m0 (pc1 := 4) (st1 := .int (nI (b)) :: _) rfl rfl (h_gIe (j := 57) rfl rfl rfl rfl rfl (H.1.1)) rfl ?_
      refine w_p (pc1 := 5) (al1 := [(1, .int (nI (b))), (0, .ref 176)]) rfl rfl ?_
      refine w_p (pc1 := 6) rfl rfl ?_
      refine w_p (pc1 := 7) rfl rfl ?_
      refine w_p (pc1 := 8) rfl rfl ?_
      refine w_m0 (pc1 := 11) (st1 := .long (vl B n i) :: _) rfl rfl (h_gJe (j := 7) rfl rfl rfl rfl rfl (hv)) rfl ?_
      refine w_je (pc1 := 14) (vs := [.ref 176, .int (nI (b)), .long (vl B n i)]) (rest := []) (st1 := [.int (nI (q))]) (m_213r (d := _) (sl := 0) hB hq1) rfl rfl rfl (fun _ _ => rfl) rfl (by exact cl_v my_213 rfl rfl rfl (Nat.le_of_ble_eq_true rfl) rfl (MH_obj rfl rfl) rfl (by decide) rfl rfl) (by rfl) (Nat.le_of_ble_eq_true rfl) (Nat.le_of_ble_eq_true rfl) rfl (by rfl) ?_
      refine w_p (pc1 := 15) (st1 := .int (-1) :: _) rfl rfl ?_
      refine w_f (a := 23) (b := 18) (cb_eq_f (by exact nK_m1 (by omega))) rfl rfl ?_
      refine w_p (pc1 := 19) rfl rfl ?_
      refine w_p (pc1 := 20) (st1 := .int 3 :: _) rfl rfl ?_
      refine w_je (pc1 := 23) (vs := [.ref 176, .int 3]) (rest := []) (st1 := []) (m_200 (d := _) (sl := 0) (fun z => absurd M.2.1.2.1 z)) rfl rfl rfl (fun _ _ => rfl) rfl (by exact cl_v my_200 rfl rfl rfl (Nat.le_of_ble_eq_true rfl) rfl (MH_obj rfl rfl) rfl (by decide) rfl rfl) (by rfl) (Nat.le_of_ble_eq_true rfl) (Nat.le_of_ble_eq_true rfl) rfl (by rfl) ?_
      refine w_p (pc1 := 24) rfl rfl ?_
      refine w_m0 (pc1 := 27) rfl rfl (h_gC rfl rfl rfl rfl) rfl ?_
      refine w_p (pc1 := 28) rfl rfl ?_
      refine w_m0 (pc1 := 29) (st1 := .int (nI (Tb.1.2.1 b)) :: _) rfl rfl (n_ile (e := b) rfl rfl rfl (by omega) (eW)) rfl ?_
      refine w_p (pc1 := 31) (st1 := .int 6 :: _) rfl rfl ?_
      refine w_t (a := 41) (b := 34) (bN_ne_t (a := Tb.1.2.1 b) (b := 6) (by omega) (by omega) (by omega)) rfl rfl ?_
      refine w_p (pc1 := 42) rfl rfl ?_
      refine w_m0 (pc1 := 45) rfl rfl (h_gC rfl rfl rfl rfl) rfl ?_
      refine w_p (pc1 := 46) rfl rfl ?_
      refine w_m0 (pc1 := 47) (st1 := .int (nI (Tb.1.2.1 b)) :: _) rfl rfl (n_ile (e := b) rfl rfl rfl (by omega) (eW)) rfl ?_
      refine w_p (pc1 := 48) (al1 := [(2, .int (nI (Tb.1.2.1 b))), (1, .int (nI (b))), (0, .ref 176)]) rfl rfl ?_
      refine w_p (pc1 := 49) rfl rfl ?_
      refine w_m0 (pc1 := 52) rfl rfl (h_gC rfl rfl rfl rfl) rfl ?_
      refine w_p (pc1 := 54) (st1 := .int 6 :: _) rfl rfl ?_
      refine w_p (pc1 := 55) rfl rfl ?_
      refine w_imul (pc1 := 56) (u := nI (6)) (v := nI (b)) (z := nI (6 * b)) rfl (nK_mul) rfl ?_
      refine w_p (pc1 := 57) rfl rfl ?_
      refine w_iadd (pc1 := 58) (u := nI (6 * b)) (v := nI (Tb.1.2.1 b)) (z := nI (6 * b + (Tb.1.2.1 b))) rfl (nK_add) rfl ?_
      refine w_p (pc1 := 59) rfl rfl ?_
      refine w_m0 (pc1 := 62) (st1 := .long (vl B n i) :: _) rfl rfl (h_gJe (j := 7) rfl rfl rfl rfl rfl (eV)) rfl ?_
      refine w_m0 (pc1 := 63) rfl rfl (n_ls (e := 6 * b + (Tb.1.2.1 b)) rfl rfl rfl (by omega)) rfl ?_
      refine w_p (pc1 := 64) rfl rfl ?_
      refine w_m0 (pc1 := 67) rfl rfl (h_gC rfl rfl rfl rfl) rfl ?_
      refine w_p (pc1 := 69) (st1 := .int 6 :: _) rfl rfl ?_
      refine w_p (pc1 := 70) rfl rfl ?_
      refine w_imul (pc1 := 71) (u := nI (6)) (v := nI (b)) (z := nI (6 * b)) rfl (nK_mul) rfl ?_
      refine w_p (pc1 := 72) rfl rfl ?_
      refine w_iadd (pc1 := 73) (u := nI (6 * b)) (v := nI (Tb.1.2.1 b)) (z := nI (6 * b + (Tb.1.2.1 b))) rfl (nK_add) rfl ?_
      refine w_m0 (pc1 := 76) (st1 := .long (-9223372036854775808) :: _) rfl rfl rfl rfl ?_
      refine w_m0 (pc1 := 77) rfl rfl (n_ls (e := 6 * b + (Tb.1.2.1 b)) rfl rfl rfl (by omega)) rfl ?_
      refine w_p (pc1 := 78) rfl rfl ?_
      refine w_m0 (pc1 := 81) rfl rfl (h_gC rfl rfl rfl rfl) rfl ?_
      refine w_p (pc1 := 82) rfl rfl ?_
      refine w_p (pc1 := 83) rfl rfl ?_
      refine w_m0 (pc1 := 84) (st1 := .int (nI (Tb.1.2.1 b)) :: _) rfl rfl (n_ile (e := b) rfl rfl rfl (by omega) (eW)) rfl ?_
      refine w_p (pc1 := 85) (st1 := .int 1 :: _) rfl rfl ?_
      refine w_iadd (pc1 := 86) (u := nI (Tb.1.2.1 b)) (v := nI (1)) (z := nI (Tb.1.2.1 b + 1)) rfl (nK_add) rfl ?_
      refine w_m0 (pc1 := 87) rfl rfl (n_is (e := b) rfl rfl rfl (by omega)) rfl ?_
      refine w_p (pc1 := 88) rfl rfl ?_
      refine w_ji (pc1 := 91) (vs := [.ref 176]) (rest := []) (nFS (d := _) F1) rfl rfl rfl (fun _ _ => rfl) rfl (by exact cl_v my_195 rfl rfl rfl (Nat.le_of_ble_eq_true rfl) rfl (MH_obj rfl rfl) rfl (by decide) rfl rfl) (by rfl) (Nat.le_of_ble_eq_true rfl) (Nat.le_of_ble_eq_true rfl) rfl (fun v h1 d1 hq => ?_) (fun _ _ _ e => e.elim)
      rcases hq with ⟨hv, ⟨C2, ⟨F2, f2⟩, hh⟩, hn⟩
      · subst hv; subst hh; subst hn
        exact c91f F2 (Or.inr ⟨rfl, ⟨_, ⟨3, i, flS_n hx hk1, F2⟩, rfl⟩, rfl⟩)
end MTF
