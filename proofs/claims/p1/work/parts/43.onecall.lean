/-! THE LAW on a script that holds one call -/
section LW1
variable {xs : Nat → Int32} {C : co_T} {d : Nat}
def lawP : Option Value → ab_H → Nat → Prop := fun v h n => some (.int 1) = v ∧ h.length ≤ 600002 ∧ n ≤ 7293034
set_option maxRecDepth 100000 in
theorem lx_lt {L : Nat} {h : ab_H} (hL : L < 4) (hh : h.length ≤ 600002) : Wd L xs d y_296 (23, al0 0, [], h, 80247) lawP nX := by
  refine w_p (pc1 := 25) rfl rfl ?_
  refine w_p (pc1 := 26) rfl rfl ?_
  refine w_m0 (pc1 := 27) rfl rfl (h_lnS) rfl ?_
  refine w_p (pc1 := 28) (st1 := .int 4 :: _) rfl rfl ?_
  refine w_p (pc1 := 29) rfl rfl ?_
  refine w_t (a := 775) (b := 32) (cb_gt_t (by rw [sub_int (by rw [nK_int (by omega)]; show _ ≤ (L : Int) - 4; omega) (by rw [nK_int (by omega)]; show (L : Int) - 4 < _; omega), nK_int (by omega)]; show (L : Int) - 4 < 0; omega)) rfl rfl ?_
  refine w_p (pc1 := 776) (st1 := .int 1 :: _) rfl rfl ?_
  refine w_r rfl rfl rfl (fun _ _ => rfl) rfl ?_
  exact ⟨rfl, hh, by decide⟩
set_option maxRecDepth 100000 in
theorem lx_end {h : ab_H} {n : Nat} (hh : h.length ≤ 600002) (hn : n ≤ 7293034) : Wd 4 xs d y_296 (769, al0 0, [], h, n) lawP nX := by
  refine w_p (pc1 := 772) (al1 := [(4, .int 4), (3, .ref 240), (2, .ref 176), (1, .ref 100), (0, .ref 0)]) rfl rfl ?_
  refine w_p (pc1 := 23) rfl rfl ?_
  refine w_p (pc1 := 25) rfl rfl ?_
  refine w_p (pc1 := 26) rfl rfl ?_
  refine w_m0 (pc1 := 27) (st1 := .int 4 :: _) rfl rfl (h_lnS) rfl ?_
  refine w_p (pc1 := 28) (st1 := .int 4 :: _) rfl rfl ?_
  refine w_p (pc1 := 29) (st1 := .int 0 :: _) rfl rfl ?_
  refine w_t (a := 775) (b := 32) rfl rfl rfl ?_
  refine w_p (pc1 := 776) (st1 := .int 1 :: _) rfl rfl ?_
  refine w_r rfl rfl rfl (fun _ _ => rfl) rfl ?_
  exact ⟨rfl, hh, hn⟩
set_option maxRecDepth 100000 in
theorem m_162I {L : Nat} {xs : Nat → Int32} {t : ab_H} {sl : Nat} {b : Int64} {x : Int32} {m l : Nat} (hx : x = nI m) (hl : C.1 1 4 = nI l) (h1 : 1 ≤ m) (h8 : m ≤ 8) (h6 : l + m ≤ 600) : Wd L xs (d + 2) y_162 (0, [(0, .ref 100), (1, .long b), (3, .int x), (4, .ref 240)], [], MH C t, sl) (Rt (some (.int 0)) (MH (sJ (apK C b m) 140 0 (nI (l + m)).toInt64) t) sl) nX := by
  subst hx
  exact m_162i hl h1 h8 h6
set_option maxRecDepth 100000 in
theorem m_188I {L : Nat} {xs : Nat → Int32} {t : ab_H} {sl : Nat} {b : Int64} {x : Int32} {m l : Nat} (hx : x = nI m) (hl : C.1 76 2 = nI l) (h1 : 1 ≤ m) (h8 : m ≤ 8) (h6 : l + m ≤ 600) : Wd L xs (d + 1) y_188 (0, [(0, .ref 176), (1, .long b), (3, .int x)], [], MH C t, sl) (Rt (some (.int (nI (l + m)))) (MH (apM (sI C 76 0 0) b m) t) sl) nX := by
  subst hx
  exact m_188i hl h1 h8 h6
set_option maxRecDepth 100000 in
theorem lc_0 (F : frK C) (G : frM C) : Wd 4 xs (d + 12) y_296 (96, al0 0, [], MH C [], 80247) lawP nX := by
  have hK : C.1 1 4 = nI 0 := F.2.2.2.2.2.2
  have hM : C.1 76 2 = nI 0 := G.2.2.2.2.2
  by_cases hx : 1 ≤ (xs 3).toInt ∧ (xs 3).toInt ≤ 8
  · obtain ⟨m, hm, h1, h8⟩ : ∃ m, xs 3 = nI m ∧ 1 ≤ m ∧ m ≤ 8 := by
      have h3 : (xs 3).toNatClampNeg = (xs 3).toInt.toNat := rfl
      exact ⟨_, nK_of (by omega), by omega, by omega⟩
    refine w_p (pc1 := 97) rfl rfl ?_
    refine w_p (pc1 := 98) rfl rfl ?_
    refine w_p (pc1 := 100) rfl rfl ?_
    refine w_p (pc1 := 101) (st1 := .int 1 :: _) rfl rfl ?_
    refine w_p (pc1 := 102) (st1 := .int 1 :: _) rfl rfl ?_
    refine w_m0 (pc1 := 103) rfl rfl (h_xs rfl) rfl ?_
    refine w_p (pc1 := 104) rfl rfl ?_
    refine w_p (pc1 := 106) (st1 := .int 32 :: _) rfl rfl ?_
    refine w_p (pc1 := 107) rfl rfl ?_
    refine w_p (pc1 := 108) rfl rfl ?_
    refine w_p (pc1 := 110) rfl rfl ?_
    refine w_p (pc1 := 111) (st1 := .int 2 :: _) rfl rfl ?_
    refine w_p (pc1 := 112) (st1 := .int 2 :: _) rfl rfl ?_
    refine w_m0 (pc1 := 113) rfl rfl (h_xs rfl) rfl ?_
    refine w_p (pc1 := 114) rfl rfl ?_
    refine w_m0 (pc1 := 117) (st1 := .long 4294967295 :: _) rfl rfl rfl rfl ?_
    refine w_p (pc1 := 118) rfl rfl ?_
    refine w_p (pc1 := 119) rfl rfl ?_
    refine w_p (pc1 := 120) rfl rfl ?_
    refine w_p (pc1 := 122) rfl rfl ?_
    refine w_p (pc1 := 123) (st1 := .int 3 :: _) rfl rfl ?_
    refine w_p (pc1 := 124) (st1 := .int 3 :: _) rfl rfl ?_
    refine w_m0 (pc1 := 125) rfl rfl (h_xs rfl) rfl ?_
    refine w_p (pc1 := 126) rfl rfl ?_
    refine w_je (pc1 := 129) (vs := [.ref 100, _, _, .ref 240]) (rest := []) (st1 := [.int 0]) (m_162I (d := _) (sl := 0) hm hK h1 h8 (by omega)) rfl rfl rfl (fun _ _ => rfl) rfl (by exact cl_s my_162 rfl rfl rfl (Nat.le_of_ble_eq_true rfl) rfl rfl) (by rfl) (Nat.le_of_ble_eq_true rfl) (Nat.le_of_ble_eq_true rfl) rfl (by rfl) ?_
    refine w_p (pc1 := 131) (al1 := [(5, .int 0), (4, .int 0), (3, .ref 240), (2, .ref 176), (1, .ref 100), (0, .ref 0)]) rfl rfl ?_
    refine w_p (pc1 := 132) rfl rfl ?_
    refine w_p (pc1 := 133) rfl rfl ?_
    refine w_p (pc1 := 135) rfl rfl ?_
    refine w_p (pc1 := 136) (st1 := .int 1 :: _) rfl rfl ?_
    refine w_p (pc1 := 137) (st1 := .int 1 :: _) rfl rfl ?_
    refine w_m0 (pc1 := 138) rfl rfl (h_xs rfl) rfl ?_
    refine w_p (pc1 := 139) rfl rfl ?_
    refine w_p (pc1 := 141) (st1 := .int 32 :: _) rfl rfl ?_
    refine w_p (pc1 := 142) rfl rfl ?_
    refine w_p (pc1 := 143) rfl rfl ?_
    refine w_p (pc1 := 145) rfl rfl ?_
    refine w_p (pc1 := 146) (st1 := .int 2 :: _) rfl rfl ?_
    refine w_p (pc1 := 147) (st1 := .int 2 :: _) rfl rfl ?_
    refine w_m0 (pc1 := 148) rfl rfl (h_xs rfl) rfl ?_
    refine w_p (pc1 := 149) rfl rfl ?_
    refine w_m0 (pc1 := 152) (st1 := .long 4294967295 :: _) rfl rfl rfl rfl ?_
    refine w_p (pc1 := 153) rfl rfl ?_
    refine w_p (pc1 := 154) rfl rfl ?_
    refine w_p (pc1 := 155) rfl rfl ?_
    refine w_p (pc1 := 157) rfl rfl ?_
    refine w_p (pc1 := 158) (st1 := .int 3 :: _) rfl rfl ?_
    refine w_p (pc1 := 159) (st1 := .int 3 :: _) rfl rfl ?_
    refine w_m0 (pc1 := 160) rfl rfl (h_xs rfl) rfl ?_
    refine w_je (pc1 := 163) (vs := [.ref 176, _, _]) (rest := []) (st1 := [_]) (m_188I (d := _) (sl := 0) (l := 0) hm (by show (apK C _ m).1 76 2 = _; rw [apK_o m C 76 (by decide) (by decide)]; exact hM) h1 h8 (by omega)) rfl rfl rfl (fun _ _ => rfl) rfl (by exact cl_v my_188 rfl rfl rfl (Nat.le_of_ble_eq_true rfl) rfl (MH_obj rfl rfl) rfl (by decide) rfl rfl) (by rfl) (Nat.le_of_ble_eq_true rfl) (Nat.le_of_ble_eq_true rfl) rfl (by rfl) ?_
    refine w_p (pc1 := 165) (al1 := [(6, _), (5, .int 0), (4, .int 0), (3, .ref 240), (2, .ref 176), (1, .ref 100), (0, .ref 0)]) rfl rfl ?_
    refine w_p (pc1 := 166) rfl rfl ?_
    refine w_je (pc1 := 169) (vs := [.ref 176]) (rest := []) (st1 := [_]) (m_187 (d := _) (sl := 0)) rfl rfl rfl (fun _ _ => rfl) rfl (by exact cl_v my_187 rfl rfl rfl (Nat.le_of_ble_eq_true rfl) rfl (MH_obj rfl rfl) rfl (by decide) rfl rfl) (by rfl) (Nat.le_of_ble_eq_true rfl) (Nat.le_of_ble_eq_true rfl) rfl (by rfl) ?_
    refine w_p (pc1 := 171) rfl rfl ?_
    refine w_t (a := 176) (b := 174) (cb_eq_t (by show (apM _ _ m).1 76 0 = 0; rw [apM_0]; rfl)) rfl rfl ?_
    refine w_p (pc1 := 178) rfl rfl ?_
    refine w_f (a := 193) (b := 181) rfl rfl rfl ?_
    refine w_p (pc1 := 182) rfl rfl ?_
    refine w_p (pc1 := 183) (st1 := .int 0 :: _) rfl rfl ?_
    refine w_m0 (pc1 := 184) rfl rfl (h_ll rfl rfl rfl) rfl ?_
    refine w_p (pc1 := 186) rfl rfl ?_
    refine w_p (pc1 := 187) rfl rfl ?_
    refine w_p (pc1 := 188) rfl rfl ?_
    refine w_t (a := 193) (b := 191) (lb_eq_t (by show (apM _ _ m).2.1 140 0 = _; rw [apM_2]; rfl)) rfl rfl ?_
    refine w_p (pc1 := 769) rfl rfl ?_
    refine w_p (pc1 := 772) (al1 := [(4, .int 4), (6, _), (5, .int 0), (3, .ref 240), (2, .ref 176), (1, .ref 100), (0, .ref 0)]) rfl rfl ?_
    refine w_p (pc1 := 23) rfl rfl ?_
    refine w_p (pc1 := 25) rfl rfl ?_
    refine w_p (pc1 := 26) rfl rfl ?_
    refine w_m0 (pc1 := 27) (st1 := .int 4 :: _) rfl rfl (h_lnS) rfl ?_
    refine w_p (pc1 := 28) (st1 := .int 4 :: _) rfl rfl ?_
    refine w_p (pc1 := 29) (st1 := .int 0 :: _) rfl rfl ?_
    refine w_t (a := 775) (b := 32) rfl rfl rfl ?_
    refine w_p (pc1 := 776) (st1 := .int 1 :: _) rfl rfl ?_
    refine w_r rfl rfl rfl (fun _ _ => rfl) rfl ?_
    exact ⟨rfl, by rw [MH_len]; exact Nat.le_of_ble_eq_true rfl, Nat.le_of_ble_eq_true rfl⟩
  · skip
    refine w_p (pc1 := 97) rfl rfl ?_
    refine w_p (pc1 := 98) rfl rfl ?_
    refine w_p (pc1 := 100) rfl rfl ?_
    refine w_p (pc1 := 101) (st1 := .int 1 :: _) rfl rfl ?_
    refine w_p (pc1 := 102) (st1 := .int 1 :: _) rfl rfl ?_
    refine w_m0 (pc1 := 103) rfl rfl (h_xs rfl) rfl ?_
    refine w_p (pc1 := 104) rfl rfl ?_
    refine w_p (pc1 := 106) (st1 := .int 32 :: _) rfl rfl ?_
    refine w_p (pc1 := 107) rfl rfl ?_
    refine w_p (pc1 := 108) rfl rfl ?_
    refine w_p (pc1 := 110) rfl rfl ?_
    refine w_p (pc1 := 111) (st1 := .int 2 :: _) rfl rfl ?_
    refine w_p (pc1 := 112) (st1 := .int 2 :: _) rfl rfl ?_
    refine w_m0 (pc1 := 113) rfl rfl (h_xs rfl) rfl ?_
    refine w_p (pc1 := 114) rfl rfl ?_
    refine w_m0 (pc1 := 117) (st1 := .long 4294967295 :: _) rfl rfl rfl rfl ?_
    refine w_p (pc1 := 118) rfl rfl ?_
    refine w_p (pc1 := 119) rfl rfl ?_
    refine w_p (pc1 := 120) rfl rfl ?_
    refine w_p (pc1 := 122) rfl rfl ?_
    refine w_p (pc1 := 123) (st1 := .int 3 :: _) rfl rfl ?_
    refine w_p (pc1 := 124) (st1 := .int 3 :: _) rfl rfl ?_
    refine w_m0 (pc1 := 125) rfl rfl (h_xs rfl) rfl ?_
    refine w_p (pc1 := 126) rfl rfl ?_
    refine w_je (pc1 := 129) (vs := [.ref 100, _, _, .ref 240]) (rest := []) (st1 := [.int 1]) (m_162a (d := _) (sl := 0) hx) rfl rfl rfl (fun _ _ => rfl) rfl (by exact cl_s my_162 rfl rfl rfl (Nat.le_of_ble_eq_true rfl) rfl rfl) (by rfl) (Nat.le_of_ble_eq_true rfl) (Nat.le_of_ble_eq_true rfl) rfl (by rfl) ?_
    refine w_p (pc1 := 131) (al1 := [(5, .int 1), (4, .int 0), (3, .ref 240), (2, .ref 176), (1, .ref 100), (0, .ref 0)]) rfl rfl ?_
    refine w_p (pc1 := 132) rfl rfl ?_
    refine w_p (pc1 := 133) rfl rfl ?_
    refine w_p (pc1 := 135) rfl rfl ?_
    refine w_p (pc1 := 136) (st1 := .int 1 :: _) rfl rfl ?_
    refine w_p (pc1 := 137) (st1 := .int 1 :: _) rfl rfl ?_
    refine w_m0 (pc1 := 138) rfl rfl (h_xs rfl) rfl ?_
    refine w_p (pc1 := 139) rfl rfl ?_
    refine w_p (pc1 := 141) (st1 := .int 32 :: _) rfl rfl ?_
    refine w_p (pc1 := 142) rfl rfl ?_
    refine w_p (pc1 := 143) rfl rfl ?_
    refine w_p (pc1 := 145) rfl rfl ?_
    refine w_p (pc1 := 146) (st1 := .int 2 :: _) rfl rfl ?_
    refine w_p (pc1 := 147) (st1 := .int 2 :: _) rfl rfl ?_
    refine w_m0 (pc1 := 148) rfl rfl (h_xs rfl) rfl ?_
    refine w_p (pc1 := 149) rfl rfl ?_
    refine w_m0 (pc1 := 152) (st1 := .long 4294967295 :: _) rfl rfl rfl rfl ?_
    refine w_p (pc1 := 153) rfl rfl ?_
    refine w_p (pc1 := 154) rfl rfl ?_
    refine w_p (pc1 := 155) rfl rfl ?_
    refine w_p (pc1 := 157) rfl rfl ?_
    refine w_p (pc1 := 158) (st1 := .int 3 :: _) rfl rfl ?_
    refine w_p (pc1 := 159) (st1 := .int 3 :: _) rfl rfl ?_
    refine w_m0 (pc1 := 160) rfl rfl (h_xs rfl) rfl ?_
    refine w_je (pc1 := 163) (vs := [.ref 176, _, _]) (rest := []) (st1 := [.int 0]) (m_188a (d := _) (sl := 0) hx) rfl rfl rfl (fun _ _ => rfl) rfl (by exact cl_v my_188 rfl rfl rfl (Nat.le_of_ble_eq_true rfl) rfl (MH_obj rfl rfl) rfl (by decide) rfl rfl) (by rfl) (Nat.le_of_ble_eq_true rfl) (Nat.le_of_ble_eq_true rfl) rfl (by rfl) ?_
    refine w_p (pc1 := 165) (al1 := [(6, .int 0), (5, .int 1), (4, .int 0), (3, .ref 240), (2, .ref 176), (1, .ref 100), (0, .ref 0)]) rfl rfl ?_
    refine w_p (pc1 := 166) rfl rfl ?_
    refine w_je (pc1 := 169) (vs := [.ref 176]) (rest := []) (st1 := [.int 1]) (m_187 (d := _) (sl := 0)) rfl rfl rfl (fun _ _ => rfl) rfl (by exact cl_v my_187 rfl rfl rfl (Nat.le_of_ble_eq_true rfl) rfl (MH_obj rfl rfl) rfl (by decide) rfl rfl) (by rfl) (Nat.le_of_ble_eq_true rfl) (Nat.le_of_ble_eq_true rfl) rfl (by rfl) ?_
    refine w_p (pc1 := 171) rfl rfl ?_
    refine w_t (a := 176) (b := 174) rfl rfl rfl ?_
    refine w_p (pc1 := 178) rfl rfl ?_
    refine w_t (a := 193) (b := 181) rfl rfl rfl ?_
    refine w_p (pc1 := 769) rfl rfl ?_
    refine w_p (pc1 := 772) (al1 := [(4, .int 4), (6, .int 0), (5, .int 1), (3, .ref 240), (2, .ref 176), (1, .ref 100), (0, .ref 0)]) rfl rfl ?_
    refine w_p (pc1 := 23) rfl rfl ?_
    refine w_p (pc1 := 25) rfl rfl ?_
    refine w_p (pc1 := 26) rfl rfl ?_
    refine w_m0 (pc1 := 27) (st1 := .int 4 :: _) rfl rfl (h_lnS) rfl ?_
    refine w_p (pc1 := 28) (st1 := .int 4 :: _) rfl rfl ?_
    refine w_p (pc1 := 29) (st1 := .int 0 :: _) rfl rfl ?_
    refine w_t (a := 775) (b := 32) rfl rfl rfl ?_
    refine w_p (pc1 := 776) (st1 := .int 1 :: _) rfl rfl ?_
    refine w_r rfl rfl rfl (fun _ _ => rfl) rfl ?_
    exact ⟨rfl, by rw [MH_len]; exact Nat.le_of_ble_eq_true rfl, Nat.le_of_ble_eq_true rfl⟩
set_option maxRecDepth 100000 in
theorem lc_2 (hD : ∀ (x : Int32) (v : Int64), 0 ≤ x.toInt → x.toInt < 8 → (C.1 75 x.toNatClampNeg).toInt64 = (tld (sJ C 140 0 v) x).toInt64) : Wd 4 xs (d + 12) y_296 (209, al0 0, [], MH C [], 80247) lawP nX := by
  refine w_p (pc1 := 210) rfl rfl ?_
  refine w_p (pc1 := 211) rfl rfl ?_
  refine w_p (pc1 := 213) rfl rfl ?_
  refine w_p (pc1 := 214) (st1 := .int 1 :: _) rfl rfl ?_
  refine w_p (pc1 := 215) (st1 := .int 1 :: _) rfl rfl ?_
  refine w_m0 (pc1 := 216) rfl rfl (h_xs rfl) rfl ?_
  refine w_p (pc1 := 217) rfl rfl ?_
  refine w_ji (pc1 := 220) (vs := [.ref 100, _, .ref 240]) (rest := []) (m_165 (d := _) (sl := 0)) rfl rfl rfl (fun _ _ => rfl) rfl (by exact cl_s my_165 rfl rfl rfl (Nat.le_of_ble_eq_true rfl) rfl rfl) (by rfl) (Nat.le_of_ble_eq_true rfl) (Nat.le_of_ble_eq_true rfl) rfl (fun v h1 d1 hq => ?_) (fun _ _ _ e => e.elim)
  rcases hq with ⟨hr, hv, hh, hn⟩ | ⟨hr, hv, hh, hn⟩
  · subst hv; subst hh; subst hn
    refine w_p (pc1 := 222) (al1 := [(5, .int 0), (4, .int 0), (3, .ref 240), (2, .ref 176), (1, .ref 100), (0, .ref 0)]) rfl rfl ?_
    refine w_p (pc1 := 223) rfl rfl ?_
    refine w_p (pc1 := 224) rfl rfl ?_
    refine w_p (pc1 := 226) rfl rfl ?_
    refine w_p (pc1 := 227) (st1 := .int 1 :: _) rfl rfl ?_
    refine w_p (pc1 := 228) (st1 := .int 1 :: _) rfl rfl ?_
    refine w_m0 (pc1 := 229) rfl rfl (h_xs rfl) rfl ?_
    refine w_je (pc1 := 232) (vs := [.ref 176, _]) (rest := []) (st1 := [_]) (m_287i (d := _) (sl := 0) hr.1 hr.2) rfl rfl rfl (fun _ _ => rfl) rfl (by exact cl_v my_287 rfl rfl rfl (Nat.le_of_ble_eq_true rfl) rfl (MH_obj rfl rfl) rfl (by decide) rfl rfl) (by rfl) (Nat.le_of_ble_eq_true rfl) (Nat.le_of_ble_eq_true rfl) rfl (by rfl) ?_
    refine w_p (pc1 := 234) (al1 := [(6, _), (5, .int 0), (4, .int 0), (3, .ref 240), (2, .ref 176), (1, .ref 100), (0, .ref 0)]) rfl rfl ?_
    refine w_p (pc1 := 235) rfl rfl ?_
    refine w_je (pc1 := 238) (vs := [.ref 176]) (rest := []) (st1 := [.int 0]) (m_187 (d := _) (sl := 0)) rfl rfl rfl (fun _ _ => rfl) rfl (by exact cl_v my_187 rfl rfl rfl (Nat.le_of_ble_eq_true rfl) rfl (MH_obj rfl rfl) rfl (by decide) rfl rfl) (by rfl) (Nat.le_of_ble_eq_true rfl) (Nat.le_of_ble_eq_true rfl) rfl (by rfl) ?_
    refine w_p (pc1 := 240) rfl rfl ?_
    refine w_t (a := 245) (b := 243) rfl rfl rfl ?_
    refine w_p (pc1 := 247) rfl rfl ?_
    refine w_f (a := 262) (b := 250) rfl rfl rfl ?_
    refine w_p (pc1 := 251) rfl rfl ?_
    refine w_p (pc1 := 252) (st1 := .int 0 :: _) rfl rfl ?_
    refine w_m0 (pc1 := 253) rfl rfl (h_ll rfl rfl rfl) rfl ?_
    refine w_p (pc1 := 255) rfl rfl ?_
    refine w_p (pc1 := 256) rfl rfl ?_
    refine w_p (pc1 := 257) rfl rfl ?_
    refine w_t (a := 262) (b := 260) (lb_eq_t (by exact hD _ _ hr.1 hr.2)) rfl rfl ?_
    refine w_p (pc1 := 769) rfl rfl ?_
    refine w_p (pc1 := 772) (al1 := [(4, .int 4), (6, _), (5, .int 0), (3, .ref 240), (2, .ref 176), (1, .ref 100), (0, .ref 0)]) rfl rfl ?_
    refine w_p (pc1 := 23) rfl rfl ?_
    refine w_p (pc1 := 25) rfl rfl ?_
    refine w_p (pc1 := 26) rfl rfl ?_
    refine w_m0 (pc1 := 27) (st1 := .int 4 :: _) rfl rfl (h_lnS) rfl ?_
    refine w_p (pc1 := 28) (st1 := .int 4 :: _) rfl rfl ?_
    refine w_p (pc1 := 29) (st1 := .int 0 :: _) rfl rfl ?_
    refine w_t (a := 775) (b := 32) rfl rfl rfl ?_
    refine w_p (pc1 := 776) (st1 := .int 1 :: _) rfl rfl ?_
    refine w_r rfl rfl rfl (fun _ _ => rfl) rfl ?_
    exact ⟨rfl, by rw [MH_len]; exact Nat.le_of_ble_eq_true rfl, Nat.le_of_ble_eq_true rfl⟩
  · subst hv; subst hh; subst hn
    refine w_p (pc1 := 222) (al1 := [(5, .int 1), (4, .int 0), (3, .ref 240), (2, .ref 176), (1, .ref 100), (0, .ref 0)]) rfl rfl ?_
    refine w_p (pc1 := 223) rfl rfl ?_
    refine w_p (pc1 := 224) rfl rfl ?_
    refine w_p (pc1 := 226) rfl rfl ?_
    refine w_p (pc1 := 227) (st1 := .int 1 :: _) rfl rfl ?_
    refine w_p (pc1 := 228) (st1 := .int 1 :: _) rfl rfl ?_
    refine w_m0 (pc1 := 229) rfl rfl (h_xs rfl) rfl ?_
    refine w_je (pc1 := 232) (vs := [.ref 176, _]) (rest := []) (st1 := [.int 0]) (m_287o (d := _) (sl := 0) hr) rfl rfl rfl (fun _ _ => rfl) rfl (by exact cl_v my_287 rfl rfl rfl (Nat.le_of_ble_eq_true rfl) rfl (MH_obj rfl rfl) rfl (by decide) rfl rfl) (by rfl) (Nat.le_of_ble_eq_true rfl) (Nat.le_of_ble_eq_true rfl) rfl (by rfl) ?_
    refine w_p (pc1 := 234) (al1 := [(6, .int 0), (5, .int 1), (4, .int 0), (3, .ref 240), (2, .ref 176), (1, .ref 100), (0, .ref 0)]) rfl rfl ?_
    refine w_p (pc1 := 235) rfl rfl ?_
    refine w_je (pc1 := 238) (vs := [.ref 176]) (rest := []) (st1 := [.int 1]) (m_187 (d := _) (sl := 0)) rfl rfl rfl (fun _ _ => rfl) rfl (by exact cl_v my_187 rfl rfl rfl (Nat.le_of_ble_eq_true rfl) rfl (MH_obj rfl rfl) rfl (by decide) rfl rfl) (by rfl) (Nat.le_of_ble_eq_true rfl) (Nat.le_of_ble_eq_true rfl) rfl (by rfl) ?_
    refine w_p (pc1 := 240) rfl rfl ?_
    refine w_t (a := 245) (b := 243) rfl rfl rfl ?_
    refine w_p (pc1 := 247) rfl rfl ?_
    refine w_t (a := 262) (b := 250) rfl rfl rfl ?_
    refine w_p (pc1 := 769) rfl rfl ?_
    refine w_p (pc1 := 772) (al1 := [(4, .int 4), (6, .int 0), (5, .int 1), (3, .ref 240), (2, .ref 176), (1, .ref 100), (0, .ref 0)]) rfl rfl ?_
    refine w_p (pc1 := 23) rfl rfl ?_
    refine w_p (pc1 := 25) rfl rfl ?_
    refine w_p (pc1 := 26) rfl rfl ?_
    refine w_m0 (pc1 := 27) (st1 := .int 4 :: _) rfl rfl (h_lnS) rfl ?_
    refine w_p (pc1 := 28) (st1 := .int 4 :: _) rfl rfl ?_
    refine w_p (pc1 := 29) (st1 := .int 0 :: _) rfl rfl ?_
    refine w_t (a := 775) (b := 32) rfl rfl rfl ?_
    refine w_p (pc1 := 776) (st1 := .int 1 :: _) rfl rfl ?_
    refine w_r rfl rfl rfl (fun _ _ => rfl) rfl ?_
    exact ⟨rfl, by rw [MH_len]; exact Nat.le_of_ble_eq_true rfl, Nat.le_of_ble_eq_true rfl⟩
set_option maxRecDepth 100000 in
theorem dj {a b c : Prop} (h : (a ∧ b) ∨ (¬ a ∧ c)) : (a → b) ∧ (¬ a → c) := by
  rcases h with ⟨ha, hb⟩ | ⟨ha, hc⟩
  · exact ⟨fun _ => hb, fun n => absurd ha n⟩
  · exact ⟨fun y => absurd y ha, fun _ => hc⟩
set_option maxRecDepth 100000 in
theorem m_288i {L : Nat} {xs : Nat → Int32} {t : ab_H} {sl : Nat} {x : Int32} (F : frM C) (h : 0 ≤ x.toInt ∧ x.toInt < 7) : Wd L xs (d + 2) y_288 (0, [(0, .ref 176), (1, .int x)], [], MH C t, sl) (Rt (some (.int 0)) (MH (sI C 76 0 0) t) sl) nX := Wd_q (m_288z F) (fun _ _ _ e => (dj e).1 h) (fun _ _ _ e => e)
set_option maxRecDepth 100000 in
theorem m_288o {L : Nat} {xs : Nat → Int32} {t : ab_H} {sl : Nat} {x : Int32} (F : frM C) (h : ¬ (0 ≤ x.toInt ∧ x.toInt < 7)) : Wd L xs (d + 2) y_288 (0, [(0, .ref 176), (1, .int x)], [], MH C t, sl) (Rt (some (.int 0)) (MH (sI C 76 0 1) t) sl) nX := Wd_q (m_288z F) (fun _ _ _ e => (dj e).2 h) (fun _ _ _ e => e)
set_option maxRecDepth 100000 in
theorem m_289i {L : Nat} {xs : Nat → Int32} {t : ab_H} {sl : Nat} {x : Int32} {a : Int64} (F : frM C) (h : 0 ≤ x.toInt ∧ x.toInt < 9) : Wd L xs (d + 2) y_289 (0, [(0, .ref 176), (1, .int x), (2, .long a)], [], MH C t, sl) (Rt (some (.int (-1))) (MH (sI C 76 0 0) t) sl) nX := Wd_q (m_289z F) (fun _ _ _ e => (dj e).1 h) (fun _ _ _ e => e)
set_option maxRecDepth 100000 in
theorem m_289o {L : Nat} {xs : Nat → Int32} {t : ab_H} {sl : Nat} {x : Int32} {a : Int64} (F : frM C) (h : ¬ (0 ≤ x.toInt ∧ x.toInt < 9)) : Wd L xs (d + 2) y_289 (0, [(0, .ref 176), (1, .int x), (2, .long a)], [], MH C t, sl) (Rt (some (.int 0)) (MH (sI C 76 0 1) t) sl) nX := Wd_q (m_289z F) (fun _ _ _ e => (dj e).2 h) (fun _ _ _ e => e)
set_option maxRecDepth 100000 in
theorem lc_3 (F : frK C) (G : frM C) : Wd 4 xs (d + 12) y_296 (265, al0 0, [], MH C [], 80247) lawP nX := by
  refine w_p (pc1 := 266) rfl rfl ?_
  refine w_p (pc1 := 267) rfl rfl ?_
  refine w_p (pc1 := 269) rfl rfl ?_
  refine w_p (pc1 := 270) (st1 := .int 1 :: _) rfl rfl ?_
  refine w_p (pc1 := 271) (st1 := .int 1 :: _) rfl rfl ?_
  refine w_m0 (pc1 := 272) rfl rfl (h_xs rfl) rfl ?_
  refine w_p (pc1 := 273) rfl rfl ?_
  refine w_ji (pc1 := 276) (vs := [.ref 100, _, .ref 240]) (rest := []) (m_167z (d := _) (sl := 0) F) rfl rfl rfl (fun _ _ => rfl) rfl (by exact cl_s my_167 rfl rfl rfl (Nat.le_of_ble_eq_true rfl) rfl rfl) (by rfl) (Nat.le_of_ble_eq_true rfl) (Nat.le_of_ble_eq_true rfl) rfl (fun v h1 d1 hq => ?_) (fun _ _ _ e => e.elim)
  rcases hq with ⟨hr, hv, hh, hn⟩ | ⟨hr, hv, hh, hn⟩
  · subst hv; subst hh; subst hn
    refine w_p (pc1 := 278) (al1 := [(5, .int 0), (4, .int 0), (3, .ref 240), (2, .ref 176), (1, .ref 100), (0, .ref 0)]) rfl rfl ?_
    refine w_p (pc1 := 279) rfl rfl ?_
    refine w_p (pc1 := 280) rfl rfl ?_
    refine w_p (pc1 := 282) rfl rfl ?_
    refine w_p (pc1 := 283) (st1 := .int 1 :: _) rfl rfl ?_
    refine w_p (pc1 := 284) (st1 := .int 1 :: _) rfl rfl ?_
    refine w_m0 (pc1 := 285) rfl rfl (h_xs rfl) rfl ?_
    refine w_je (pc1 := 288) (vs := [.ref 176, _]) (rest := []) (st1 := [.int 0]) (m_288i (d := _) (sl := 0) G hr) rfl rfl rfl (fun _ _ => rfl) rfl (by exact cl_v my_288 rfl rfl rfl (Nat.le_of_ble_eq_true rfl) rfl (MH_obj rfl rfl) rfl (by decide) rfl rfl) (by rfl) (Nat.le_of_ble_eq_true rfl) (Nat.le_of_ble_eq_true rfl) rfl (by rfl) ?_
    refine w_p (pc1 := 290) (al1 := [(6, .int 0), (5, .int 0), (4, .int 0), (3, .ref 240), (2, .ref 176), (1, .ref 100), (0, .ref 0)]) rfl rfl ?_
    refine w_p (pc1 := 291) rfl rfl ?_
    refine w_je (pc1 := 294) (vs := [.ref 176]) (rest := []) (st1 := [.int 0]) (m_187 (d := _) (sl := 0)) rfl rfl rfl (fun _ _ => rfl) rfl (by exact cl_v my_187 rfl rfl rfl (Nat.le_of_ble_eq_true rfl) rfl (MH_obj rfl rfl) rfl (by decide) rfl rfl) (by rfl) (Nat.le_of_ble_eq_true rfl) (Nat.le_of_ble_eq_true rfl) rfl (by rfl) ?_
    refine w_p (pc1 := 296) rfl rfl ?_
    refine w_t (a := 301) (b := 299) rfl rfl rfl ?_
    refine w_p (pc1 := 303) rfl rfl ?_
    refine w_f (a := 318) (b := 306) rfl rfl rfl ?_
    refine w_p (pc1 := 307) rfl rfl ?_
    refine w_p (pc1 := 308) (st1 := .int 0 :: _) rfl rfl ?_
    refine w_m0 (pc1 := 309) rfl rfl (h_ll rfl rfl rfl) rfl ?_
    refine w_p (pc1 := 311) rfl rfl ?_
    refine w_p (pc1 := 312) (st1 := .long 0 :: _) rfl rfl ?_
    refine w_p (pc1 := 313) rfl rfl ?_
    refine w_t (a := 318) (b := 316) (lb_eq_t (by rfl)) rfl rfl ?_
    refine w_p (pc1 := 769) rfl rfl ?_
    refine w_p (pc1 := 772) (al1 := [(4, .int 4), (6, .int 0), (5, .int 0), (3, .ref 240), (2, .ref 176), (1, .ref 100), (0, .ref 0)]) rfl rfl ?_
    refine w_p (pc1 := 23) rfl rfl ?_
    refine w_p (pc1 := 25) rfl rfl ?_
    refine w_p (pc1 := 26) rfl rfl ?_
    refine w_m0 (pc1 := 27) (st1 := .int 4 :: _) rfl rfl (h_lnS) rfl ?_
    refine w_p (pc1 := 28) (st1 := .int 4 :: _) rfl rfl ?_
    refine w_p (pc1 := 29) (st1 := .int 0 :: _) rfl rfl ?_
    refine w_t (a := 775) (b := 32) rfl rfl rfl ?_
    refine w_p (pc1 := 776) (st1 := .int 1 :: _) rfl rfl ?_
    refine w_r rfl rfl rfl (fun _ _ => rfl) rfl ?_
    exact ⟨rfl, by rw [MH_len]; exact Nat.le_of_ble_eq_true rfl, Nat.le_of_ble_eq_true rfl⟩
  · subst hv; subst hh; subst hn
    refine w_p (pc1 := 278) (al1 := [(5, .int 1), (4, .int 0), (3, .ref 240), (2, .ref 176), (1, .ref 100), (0, .ref 0)]) rfl rfl ?_
    refine w_p (pc1 := 279) rfl rfl ?_
    refine w_p (pc1 := 280) rfl rfl ?_
    refine w_p (pc1 := 282) rfl rfl ?_
    refine w_p (pc1 := 283) (st1 := .int 1 :: _) rfl rfl ?_
    refine w_p (pc1 := 284) (st1 := .int 1 :: _) rfl rfl ?_
    refine w_m0 (pc1 := 285) rfl rfl (h_xs rfl) rfl ?_
    refine w_je (pc1 := 288) (vs := [.ref 176, _]) (rest := []) (st1 := [.int 0]) (m_288o (d := _) (sl := 0) G hr) rfl rfl rfl (fun _ _ => rfl) rfl (by exact cl_v my_288 rfl rfl rfl (Nat.le_of_ble_eq_true rfl) rfl (MH_obj rfl rfl) rfl (by decide) rfl rfl) (by rfl) (Nat.le_of_ble_eq_true rfl) (Nat.le_of_ble_eq_true rfl) rfl (by rfl) ?_
    refine w_p (pc1 := 290) (al1 := [(6, .int 0), (5, .int 1), (4, .int 0), (3, .ref 240), (2, .ref 176), (1, .ref 100), (0, .ref 0)]) rfl rfl ?_
    refine w_p (pc1 := 291) rfl rfl ?_
    refine w_je (pc1 := 294) (vs := [.ref 176]) (rest := []) (st1 := [.int 1]) (m_187 (d := _) (sl := 0)) rfl rfl rfl (fun _ _ => rfl) rfl (by exact cl_v my_187 rfl rfl rfl (Nat.le_of_ble_eq_true rfl) rfl (MH_obj rfl rfl) rfl (by decide) rfl rfl) (by rfl) (Nat.le_of_ble_eq_true rfl) (Nat.le_of_ble_eq_true rfl) rfl (by rfl) ?_
    refine w_p (pc1 := 296) rfl rfl ?_
    refine w_t (a := 301) (b := 299) rfl rfl rfl ?_
    refine w_p (pc1 := 303) rfl rfl ?_
    refine w_t (a := 318) (b := 306) rfl rfl rfl ?_
    refine w_p (pc1 := 769) rfl rfl ?_
    refine w_p (pc1 := 772) (al1 := [(4, .int 4), (6, .int 0), (5, .int 1), (3, .ref 240), (2, .ref 176), (1, .ref 100), (0, .ref 0)]) rfl rfl ?_
    refine w_p (pc1 := 23) rfl rfl ?_
    refine w_p (pc1 := 25) rfl rfl ?_
    refine w_p (pc1 := 26) rfl rfl ?_
    refine w_m0 (pc1 := 27) (st1 := .int 4 :: _) rfl rfl (h_lnS) rfl ?_
    refine w_p (pc1 := 28) (st1 := .int 4 :: _) rfl rfl ?_
    refine w_p (pc1 := 29) (st1 := .int 0 :: _) rfl rfl ?_
    refine w_t (a := 775) (b := 32) rfl rfl rfl ?_
    refine w_p (pc1 := 776) (st1 := .int 1 :: _) rfl rfl ?_
    refine w_r rfl rfl rfl (fun _ _ => rfl) rfl ?_
    exact ⟨rfl, by rw [MH_len]; exact Nat.le_of_ble_eq_true rfl, Nat.le_of_ble_eq_true rfl⟩
set_option maxRecDepth 100000 in
theorem lc_4 (F : frK C) (G : frM C) : Wd 4 xs (d + 12) y_296 (321, al0 0, [], MH C [], 80247) lawP nX := by
  refine w_p (pc1 := 322) rfl rfl ?_
  refine w_p (pc1 := 323) rfl rfl ?_
  refine w_p (pc1 := 325) rfl rfl ?_
  refine w_p (pc1 := 326) (st1 := .int 1 :: _) rfl rfl ?_
  refine w_p (pc1 := 327) (st1 := .int 1 :: _) rfl rfl ?_
  refine w_m0 (pc1 := 328) rfl rfl (h_xs rfl) rfl ?_
  refine w_p (pc1 := 329) rfl rfl ?_
  refine w_p (pc1 := 331) rfl rfl ?_
  refine w_p (pc1 := 332) (st1 := .int 2 :: _) rfl rfl ?_
  refine w_p (pc1 := 333) (st1 := .int 2 :: _) rfl rfl ?_
  refine w_m0 (pc1 := 334) rfl rfl (h_xs rfl) rfl ?_
  refine w_p (pc1 := 335) rfl rfl ?_
  refine w_p (pc1 := 337) (st1 := .int 32 :: _) rfl rfl ?_
  refine w_p (pc1 := 338) rfl rfl ?_
  refine w_p (pc1 := 339) rfl rfl ?_
  refine w_p (pc1 := 341) rfl rfl ?_
  refine w_p (pc1 := 342) (st1 := .int 3 :: _) rfl rfl ?_
  refine w_p (pc1 := 343) (st1 := .int 3 :: _) rfl rfl ?_
  refine w_m0 (pc1 := 344) rfl rfl (h_xs rfl) rfl ?_
  refine w_p (pc1 := 345) rfl rfl ?_
  refine w_m0 (pc1 := 348) (st1 := .long 4294967295 :: _) rfl rfl rfl rfl ?_
  refine w_p (pc1 := 349) rfl rfl ?_
  refine w_p (pc1 := 350) rfl rfl ?_
  refine w_p (pc1 := 351) rfl rfl ?_
  refine w_ji (pc1 := 354) (vs := [.ref 100, _, _, .ref 240]) (rest := []) (m_172z (d := _) (sl := 0) F) rfl rfl rfl (fun _ _ => rfl) rfl (by exact cl_s my_172 rfl rfl rfl (Nat.le_of_ble_eq_true rfl) rfl rfl) (by rfl) (Nat.le_of_ble_eq_true rfl) (Nat.le_of_ble_eq_true rfl) rfl (fun v h1 d1 hq => ?_) (fun _ _ _ e => e.elim)
  rcases hq with ⟨hr, hv, hh, hn⟩ | ⟨hr, hv, hh, hn⟩
  · subst hv; subst hh; subst hn
    refine w_p (pc1 := 356) (al1 := [(5, .int 0), (4, .int 0), (3, .ref 240), (2, .ref 176), (1, .ref 100), (0, .ref 0)]) rfl rfl ?_
    refine w_p (pc1 := 357) rfl rfl ?_
    refine w_p (pc1 := 358) rfl rfl ?_
    refine w_p (pc1 := 360) rfl rfl ?_
    refine w_p (pc1 := 361) (st1 := .int 1 :: _) rfl rfl ?_
    refine w_p (pc1 := 362) (st1 := .int 1 :: _) rfl rfl ?_
    refine w_m0 (pc1 := 363) rfl rfl (h_xs rfl) rfl ?_
    refine w_p (pc1 := 364) rfl rfl ?_
    refine w_p (pc1 := 366) rfl rfl ?_
    refine w_p (pc1 := 367) (st1 := .int 2 :: _) rfl rfl ?_
    refine w_p (pc1 := 368) (st1 := .int 2 :: _) rfl rfl ?_
    refine w_m0 (pc1 := 369) rfl rfl (h_xs rfl) rfl ?_
    refine w_p (pc1 := 370) rfl rfl ?_
    refine w_p (pc1 := 372) (st1 := .int 32 :: _) rfl rfl ?_
    refine w_p (pc1 := 373) rfl rfl ?_
    refine w_p (pc1 := 374) rfl rfl ?_
    refine w_p (pc1 := 376) rfl rfl ?_
    refine w_p (pc1 := 377) (st1 := .int 3 :: _) rfl rfl ?_
    refine w_p (pc1 := 378) (st1 := .int 3 :: _) rfl rfl ?_
    refine w_m0 (pc1 := 379) rfl rfl (h_xs rfl) rfl ?_
    refine w_p (pc1 := 380) rfl rfl ?_
    refine w_m0 (pc1 := 383) (st1 := .long 4294967295 :: _) rfl rfl rfl rfl ?_
    refine w_p (pc1 := 384) rfl rfl ?_
    refine w_p (pc1 := 385) rfl rfl ?_
    refine w_je (pc1 := 388) (vs := [.ref 176, _, _]) (rest := []) (st1 := [.int (-1)]) (m_289i (d := _) (sl := 0) G hr) rfl rfl rfl (fun _ _ => rfl) rfl (by exact cl_v my_289 rfl rfl rfl (Nat.le_of_ble_eq_true rfl) rfl (MH_obj rfl rfl) rfl (by decide) rfl rfl) (by rfl) (Nat.le_of_ble_eq_true rfl) (Nat.le_of_ble_eq_true rfl) rfl (by rfl) ?_
    refine w_p (pc1 := 390) (al1 := [(6, .int (-1)), (5, .int 0), (4, .int 0), (3, .ref 240), (2, .ref 176), (1, .ref 100), (0, .ref 0)]) rfl rfl ?_
    refine w_p (pc1 := 391) rfl rfl ?_
    refine w_je (pc1 := 394) (vs := [.ref 176]) (rest := []) (st1 := [.int 0]) (m_187 (d := _) (sl := 0)) rfl rfl rfl (fun _ _ => rfl) rfl (by exact cl_v my_187 rfl rfl rfl (Nat.le_of_ble_eq_true rfl) rfl (MH_obj rfl rfl) rfl (by decide) rfl rfl) (by rfl) (Nat.le_of_ble_eq_true rfl) (Nat.le_of_ble_eq_true rfl) rfl (by rfl) ?_
    refine w_p (pc1 := 396) rfl rfl ?_
    refine w_t (a := 401) (b := 399) rfl rfl rfl ?_
    refine w_p (pc1 := 403) rfl rfl ?_
    refine w_f (a := 418) (b := 406) rfl rfl rfl ?_
    refine w_p (pc1 := 407) rfl rfl ?_
    refine w_p (pc1 := 408) (st1 := .int 0 :: _) rfl rfl ?_
    refine w_m0 (pc1 := 409) rfl rfl (h_ll rfl rfl rfl) rfl ?_
    refine w_p (pc1 := 411) rfl rfl ?_
    refine w_p (pc1 := 412) (st1 := .long (-1) :: _) rfl rfl ?_
    refine w_p (pc1 := 413) rfl rfl ?_
    refine w_t (a := 418) (b := 416) (lb_eq_t (by rfl)) rfl rfl ?_
    refine w_p (pc1 := 769) rfl rfl ?_
    refine w_p (pc1 := 772) (al1 := [(4, .int 4), (6, .int (-1)), (5, .int 0), (3, .ref 240), (2, .ref 176), (1, .ref 100), (0, .ref 0)]) rfl rfl ?_
    refine w_p (pc1 := 23) rfl rfl ?_
    refine w_p (pc1 := 25) rfl rfl ?_
    refine w_p (pc1 := 26) rfl rfl ?_
    refine w_m0 (pc1 := 27) (st1 := .int 4 :: _) rfl rfl (h_lnS) rfl ?_
    refine w_p (pc1 := 28) (st1 := .int 4 :: _) rfl rfl ?_
    refine w_p (pc1 := 29) (st1 := .int 0 :: _) rfl rfl ?_
    refine w_t (a := 775) (b := 32) rfl rfl rfl ?_
    refine w_p (pc1 := 776) (st1 := .int 1 :: _) rfl rfl ?_
    refine w_r rfl rfl rfl (fun _ _ => rfl) rfl ?_
    exact ⟨rfl, by rw [MH_len]; exact Nat.le_of_ble_eq_true rfl, Nat.le_of_ble_eq_true rfl⟩
  · subst hv; subst hh; subst hn
    refine w_p (pc1 := 356) (al1 := [(5, .int 1), (4, .int 0), (3, .ref 240), (2, .ref 176), (1, .ref 100), (0, .ref 0)]) rfl rfl ?_
    refine w_p (pc1 := 357) rfl rfl ?_
    refine w_p (pc1 := 358) rfl rfl ?_
    refine w_p (pc1 := 360) rfl rfl ?_
    refine w_p (pc1 := 361) (st1 := .int 1 :: _) rfl rfl ?_
    refine w_p (pc1 := 362) (st1 := .int 1 :: _) rfl rfl ?_
    refine w_m0 (pc1 := 363) rfl rfl (h_xs rfl) rfl ?_
    refine w_p (pc1 := 364) rfl rfl ?_
    refine w_p (pc1 := 366) rfl rfl ?_
    refine w_p (pc1 := 367) (st1 := .int 2 :: _) rfl rfl ?_
    refine w_p (pc1 := 368) (st1 := .int 2 :: _) rfl rfl ?_
    refine w_m0 (pc1 := 369) rfl rfl (h_xs rfl) rfl ?_
    refine w_p (pc1 := 370) rfl rfl ?_
    refine w_p (pc1 := 372) (st1 := .int 32 :: _) rfl rfl ?_
    refine w_p (pc1 := 373) rfl rfl ?_
    refine w_p (pc1 := 374) rfl rfl ?_
    refine w_p (pc1 := 376) rfl rfl ?_
    refine w_p (pc1 := 377) (st1 := .int 3 :: _) rfl rfl ?_
    refine w_p (pc1 := 378) (st1 := .int 3 :: _) rfl rfl ?_
    refine w_m0 (pc1 := 379) rfl rfl (h_xs rfl) rfl ?_
    refine w_p (pc1 := 380) rfl rfl ?_
    refine w_m0 (pc1 := 383) (st1 := .long 4294967295 :: _) rfl rfl rfl rfl ?_
    refine w_p (pc1 := 384) rfl rfl ?_
    refine w_p (pc1 := 385) rfl rfl ?_
    refine w_je (pc1 := 388) (vs := [.ref 176, _, _]) (rest := []) (st1 := [.int 0]) (m_289o (d := _) (sl := 0) G hr) rfl rfl rfl (fun _ _ => rfl) rfl (by exact cl_v my_289 rfl rfl rfl (Nat.le_of_ble_eq_true rfl) rfl (MH_obj rfl rfl) rfl (by decide) rfl rfl) (by rfl) (Nat.le_of_ble_eq_true rfl) (Nat.le_of_ble_eq_true rfl) rfl (by rfl) ?_
    refine w_p (pc1 := 390) (al1 := [(6, .int 0), (5, .int 1), (4, .int 0), (3, .ref 240), (2, .ref 176), (1, .ref 100), (0, .ref 0)]) rfl rfl ?_
    refine w_p (pc1 := 391) rfl rfl ?_
    refine w_je (pc1 := 394) (vs := [.ref 176]) (rest := []) (st1 := [.int 1]) (m_187 (d := _) (sl := 0)) rfl rfl rfl (fun _ _ => rfl) rfl (by exact cl_v my_187 rfl rfl rfl (Nat.le_of_ble_eq_true rfl) rfl (MH_obj rfl rfl) rfl (by decide) rfl rfl) (by rfl) (Nat.le_of_ble_eq_true rfl) (Nat.le_of_ble_eq_true rfl) rfl (by rfl) ?_
    refine w_p (pc1 := 396) rfl rfl ?_
    refine w_t (a := 401) (b := 399) rfl rfl rfl ?_
    refine w_p (pc1 := 403) rfl rfl ?_
    refine w_t (a := 418) (b := 406) rfl rfl rfl ?_
    refine w_p (pc1 := 769) rfl rfl ?_
    refine w_p (pc1 := 772) (al1 := [(4, .int 4), (6, .int 0), (5, .int 1), (3, .ref 240), (2, .ref 176), (1, .ref 100), (0, .ref 0)]) rfl rfl ?_
    refine w_p (pc1 := 23) rfl rfl ?_
    refine w_p (pc1 := 25) rfl rfl ?_
    refine w_p (pc1 := 26) rfl rfl ?_
    refine w_m0 (pc1 := 27) (st1 := .int 4 :: _) rfl rfl (h_lnS) rfl ?_
    refine w_p (pc1 := 28) (st1 := .int 4 :: _) rfl rfl ?_
    refine w_p (pc1 := 29) (st1 := .int 0 :: _) rfl rfl ?_
    refine w_t (a := 775) (b := 32) rfl rfl rfl ?_
    refine w_p (pc1 := 776) (st1 := .int 1 :: _) rfl rfl ?_
    refine w_r rfl rfl rfl (fun _ _ => rfl) rfl ?_
    exact ⟨rfl, by rw [MH_len]; exact Nat.le_of_ble_eq_true rfl, Nat.le_of_ble_eq_true rfl⟩
set_option maxRecDepth 100000 in
theorem lc_5 (F : frK C) (G : frM C) : Wd 4 xs (d + 12) y_296 (421, al0 0, [], MH C [], 80247) lawP nX := by
  refine w_p (pc1 := 422) rfl rfl ?_
  refine w_p (pc1 := 423) rfl rfl ?_
  refine w_p (pc1 := 425) rfl rfl ?_
  refine w_p (pc1 := 426) (st1 := .int 1 :: _) rfl rfl ?_
  refine w_p (pc1 := 427) (st1 := .int 1 :: _) rfl rfl ?_
  refine w_m0 (pc1 := 428) rfl rfl (h_xs rfl) rfl ?_
  refine w_p (pc1 := 429) rfl rfl ?_
  refine w_p (pc1 := 431) rfl rfl ?_
  refine w_p (pc1 := 432) (st1 := .int 2 :: _) rfl rfl ?_
  refine w_p (pc1 := 433) (st1 := .int 2 :: _) rfl rfl ?_
  refine w_m0 (pc1 := 434) rfl rfl (h_xs rfl) rfl ?_
  refine w_p (pc1 := 435) rfl rfl ?_
  refine w_je (pc1 := 438) (vs := [.ref 100, _, _, .ref 240]) (rest := []) (st1 := [.int 1]) (m_174n (d := _) (sl := 0) F) rfl rfl rfl (fun _ _ => rfl) rfl (by exact cl_s my_174 rfl rfl rfl (Nat.le_of_ble_eq_true rfl) rfl rfl) (by rfl) (Nat.le_of_ble_eq_true rfl) (Nat.le_of_ble_eq_true rfl) rfl (by rfl) ?_
  refine w_p (pc1 := 440) (al1 := [(5, .int 1), (4, .int 0), (3, .ref 240), (2, .ref 176), (1, .ref 100), (0, .ref 0)]) rfl rfl ?_
  refine w_p (pc1 := 441) rfl rfl ?_
  refine w_p (pc1 := 442) rfl rfl ?_
  refine w_p (pc1 := 444) rfl rfl ?_
  refine w_p (pc1 := 445) (st1 := .int 1 :: _) rfl rfl ?_
  refine w_p (pc1 := 446) (st1 := .int 1 :: _) rfl rfl ?_
  refine w_m0 (pc1 := 447) rfl rfl (h_xs rfl) rfl ?_
  refine w_p (pc1 := 448) rfl rfl ?_
  refine w_p (pc1 := 450) rfl rfl ?_
  refine w_p (pc1 := 451) (st1 := .int 2 :: _) rfl rfl ?_
  refine w_p (pc1 := 452) (st1 := .int 2 :: _) rfl rfl ?_
  refine w_m0 (pc1 := 453) rfl rfl (h_xs rfl) rfl ?_
  refine w_je (pc1 := 456) (vs := [.ref 176, _, _]) (rest := []) (st1 := [.long 0]) (m_290n (d := _) (sl := 0) G) rfl rfl rfl (fun _ _ => rfl) rfl (by exact cl_v my_290 rfl rfl rfl (Nat.le_of_ble_eq_true rfl) rfl (MH_obj rfl rfl) rfl (by decide) rfl rfl) (by rfl) (Nat.le_of_ble_eq_true rfl) (Nat.le_of_ble_eq_true rfl) rfl (by rfl) ?_
  refine w_p (pc1 := 458) (al1 := [(6, .long 0), (5, .int 1), (4, .int 0), (3, .ref 240), (2, .ref 176), (1, .ref 100), (0, .ref 0)]) rfl rfl ?_
  refine w_p (pc1 := 459) rfl rfl ?_
  refine w_je (pc1 := 462) (vs := [.ref 176]) (rest := []) (st1 := [.int 1]) (m_187 (d := _) (sl := 0)) rfl rfl rfl (fun _ _ => rfl) rfl (by exact cl_v my_187 rfl rfl rfl (Nat.le_of_ble_eq_true rfl) rfl (MH_obj rfl rfl) rfl (by decide) rfl rfl) (by rfl) (Nat.le_of_ble_eq_true rfl) (Nat.le_of_ble_eq_true rfl) rfl (by rfl) ?_
  refine w_p (pc1 := 464) rfl rfl ?_
  refine w_t (a := 469) (b := 467) rfl rfl rfl ?_
  refine w_p (pc1 := 471) rfl rfl ?_
  refine w_t (a := 485) (b := 474) rfl rfl rfl ?_
  refine w_p (pc1 := 769) rfl rfl ?_
  refine w_p (pc1 := 772) (al1 := [(4, .int 4), (6, .long 0), (5, .int 1), (3, .ref 240), (2, .ref 176), (1, .ref 100), (0, .ref 0)]) rfl rfl ?_
  refine w_p (pc1 := 23) rfl rfl ?_
  refine w_p (pc1 := 25) rfl rfl ?_
  refine w_p (pc1 := 26) rfl rfl ?_
  refine w_m0 (pc1 := 27) (st1 := .int 4 :: _) rfl rfl (h_lnS) rfl ?_
  refine w_p (pc1 := 28) (st1 := .int 4 :: _) rfl rfl ?_
  refine w_p (pc1 := 29) (st1 := .int 0 :: _) rfl rfl ?_
  refine w_t (a := 775) (b := 32) rfl rfl rfl ?_
  refine w_p (pc1 := 776) (st1 := .int 1 :: _) rfl rfl ?_
  refine w_r rfl rfl rfl (fun _ _ => rfl) rfl ?_
  exact ⟨rfl, by rw [MH_len]; exact Nat.le_of_ble_eq_true rfl, Nat.le_of_ble_eq_true rfl⟩
set_option maxRecDepth 100000 in
theorem lc_6 (F : frK C) (G : frM C) : Wd 4 xs (d + 12) y_296 (488, al0 0, [], MH C [], 80247) lawP nX := by
  refine w_p (pc1 := 489) rfl rfl ?_
  refine w_p (pc1 := 490) rfl rfl ?_
  refine w_p (pc1 := 492) rfl rfl ?_
  refine w_p (pc1 := 493) (st1 := .int 1 :: _) rfl rfl ?_
  refine w_p (pc1 := 494) (st1 := .int 1 :: _) rfl rfl ?_
  refine w_m0 (pc1 := 495) rfl rfl (h_xs rfl) rfl ?_
  refine w_p (pc1 := 496) rfl rfl ?_
  refine w_p (pc1 := 498) rfl rfl ?_
  refine w_p (pc1 := 499) (st1 := .int 2 :: _) rfl rfl ?_
  refine w_p (pc1 := 500) (st1 := .int 2 :: _) rfl rfl ?_
  refine w_m0 (pc1 := 501) rfl rfl (h_xs rfl) rfl ?_
  refine w_p (pc1 := 502) rfl rfl ?_
  refine w_p (pc1 := 504) rfl rfl ?_
  refine w_p (pc1 := 505) (st1 := .int 3 :: _) rfl rfl ?_
  refine w_p (pc1 := 506) (st1 := .int 3 :: _) rfl rfl ?_
  refine w_m0 (pc1 := 507) rfl rfl (h_xs rfl) rfl ?_
  refine w_p (pc1 := 508) rfl rfl ?_
  refine w_je (pc1 := 511) (vs := [.ref 100, _, _, _, .ref 240]) (rest := []) (st1 := [.int 1]) (m_176n (d := _) (sl := 0) F) rfl rfl rfl (fun _ _ => rfl) rfl (by exact cl_s my_176 rfl rfl rfl (Nat.le_of_ble_eq_true rfl) rfl rfl) (by rfl) (Nat.le_of_ble_eq_true rfl) (Nat.le_of_ble_eq_true rfl) rfl (by rfl) ?_
  refine w_p (pc1 := 513) (al1 := [(5, .int 1), (4, .int 0), (3, .ref 240), (2, .ref 176), (1, .ref 100), (0, .ref 0)]) rfl rfl ?_
  refine w_p (pc1 := 514) rfl rfl ?_
  refine w_p (pc1 := 515) rfl rfl ?_
  refine w_p (pc1 := 517) rfl rfl ?_
  refine w_p (pc1 := 518) (st1 := .int 1 :: _) rfl rfl ?_
  refine w_p (pc1 := 519) (st1 := .int 1 :: _) rfl rfl ?_
  refine w_m0 (pc1 := 520) rfl rfl (h_xs rfl) rfl ?_
  refine w_p (pc1 := 521) rfl rfl ?_
  refine w_p (pc1 := 523) rfl rfl ?_
  refine w_p (pc1 := 524) (st1 := .int 2 :: _) rfl rfl ?_
  refine w_p (pc1 := 525) (st1 := .int 2 :: _) rfl rfl ?_
  refine w_m0 (pc1 := 526) rfl rfl (h_xs rfl) rfl ?_
  refine w_p (pc1 := 527) rfl rfl ?_
  refine w_p (pc1 := 529) rfl rfl ?_
  refine w_p (pc1 := 530) (st1 := .int 3 :: _) rfl rfl ?_
  refine w_p (pc1 := 531) (st1 := .int 3 :: _) rfl rfl ?_
  refine w_m0 (pc1 := 532) rfl rfl (h_xs rfl) rfl ?_
  refine w_je (pc1 := 535) (vs := [.ref 176, _, _, _]) (rest := []) (st1 := [.long 0]) (m_291n (d := _) (sl := 0) G) rfl rfl rfl (fun _ _ => rfl) rfl (by exact cl_v my_291 rfl rfl rfl (Nat.le_of_ble_eq_true rfl) rfl (MH_obj rfl rfl) rfl (by decide) rfl rfl) (by rfl) (Nat.le_of_ble_eq_true rfl) (Nat.le_of_ble_eq_true rfl) rfl (by rfl) ?_
  refine w_p (pc1 := 537) (al1 := [(6, .long 0), (5, .int 1), (4, .int 0), (3, .ref 240), (2, .ref 176), (1, .ref 100), (0, .ref 0)]) rfl rfl ?_
  refine w_p (pc1 := 538) rfl rfl ?_
  refine w_je (pc1 := 541) (vs := [.ref 176]) (rest := []) (st1 := [.int 1]) (m_187 (d := _) (sl := 0)) rfl rfl rfl (fun _ _ => rfl) rfl (by exact cl_v my_187 rfl rfl rfl (Nat.le_of_ble_eq_true rfl) rfl (MH_obj rfl rfl) rfl (by decide) rfl rfl) (by rfl) (Nat.le_of_ble_eq_true rfl) (Nat.le_of_ble_eq_true rfl) rfl (by rfl) ?_
  refine w_p (pc1 := 543) rfl rfl ?_
  refine w_t (a := 548) (b := 546) rfl rfl rfl ?_
  refine w_p (pc1 := 550) rfl rfl ?_
  refine w_t (a := 564) (b := 553) rfl rfl rfl ?_
  refine w_p (pc1 := 769) rfl rfl ?_
  refine w_p (pc1 := 772) (al1 := [(4, .int 4), (6, .long 0), (5, .int 1), (3, .ref 240), (2, .ref 176), (1, .ref 100), (0, .ref 0)]) rfl rfl ?_
  refine w_p (pc1 := 23) rfl rfl ?_
  refine w_p (pc1 := 25) rfl rfl ?_
  refine w_p (pc1 := 26) rfl rfl ?_
  refine w_m0 (pc1 := 27) (st1 := .int 4 :: _) rfl rfl (h_lnS) rfl ?_
  refine w_p (pc1 := 28) (st1 := .int 4 :: _) rfl rfl ?_
  refine w_p (pc1 := 29) (st1 := .int 0 :: _) rfl rfl ?_
  refine w_t (a := 775) (b := 32) rfl rfl rfl ?_
  refine w_p (pc1 := 776) (st1 := .int 1 :: _) rfl rfl ?_
  refine w_r rfl rfl rfl (fun _ _ => rfl) rfl ?_
  exact ⟨rfl, by rw [MH_len]; exact Nat.le_of_ble_eq_true rfl, Nat.le_of_ble_eq_true rfl⟩
set_option maxRecDepth 100000 in
theorem lc_7 (F : frK C) (G : frM C) : Wd 4 xs (d + 12) y_296 (567, al0 0, [], MH C [], 80247) lawP nX := by
  refine w_p (pc1 := 568) rfl rfl ?_
  refine w_p (pc1 := 569) rfl rfl ?_
  refine w_p (pc1 := 571) rfl rfl ?_
  refine w_p (pc1 := 572) (st1 := .int 1 :: _) rfl rfl ?_
  refine w_p (pc1 := 573) (st1 := .int 1 :: _) rfl rfl ?_
  refine w_m0 (pc1 := 574) rfl rfl (h_xs rfl) rfl ?_
  refine w_p (pc1 := 575) rfl rfl ?_
  refine w_p (pc1 := 577) rfl rfl ?_
  refine w_p (pc1 := 578) (st1 := .int 2 :: _) rfl rfl ?_
  refine w_p (pc1 := 579) (st1 := .int 2 :: _) rfl rfl ?_
  refine w_m0 (pc1 := 580) rfl rfl (h_xs rfl) rfl ?_
  refine w_p (pc1 := 581) rfl rfl ?_
  refine w_je (pc1 := 584) (vs := [.ref 100, _, _, .ref 240]) (rest := []) (st1 := [.int 1]) (m_178n (d := _) (sl := 0) F) rfl rfl rfl (fun _ _ => rfl) rfl (by exact cl_s my_178 rfl rfl rfl (Nat.le_of_ble_eq_true rfl) rfl rfl) (by rfl) (Nat.le_of_ble_eq_true rfl) (Nat.le_of_ble_eq_true rfl) rfl (by rfl) ?_
  refine w_p (pc1 := 586) (al1 := [(5, .int 1), (4, .int 0), (3, .ref 240), (2, .ref 176), (1, .ref 100), (0, .ref 0)]) rfl rfl ?_
  refine w_p (pc1 := 587) rfl rfl ?_
  refine w_p (pc1 := 588) rfl rfl ?_
  refine w_p (pc1 := 590) rfl rfl ?_
  refine w_p (pc1 := 591) (st1 := .int 1 :: _) rfl rfl ?_
  refine w_p (pc1 := 592) (st1 := .int 1 :: _) rfl rfl ?_
  refine w_m0 (pc1 := 593) rfl rfl (h_xs rfl) rfl ?_
  refine w_p (pc1 := 594) rfl rfl ?_
  refine w_p (pc1 := 596) rfl rfl ?_
  refine w_p (pc1 := 597) (st1 := .int 2 :: _) rfl rfl ?_
  refine w_p (pc1 := 598) (st1 := .int 2 :: _) rfl rfl ?_
  refine w_m0 (pc1 := 599) rfl rfl (h_xs rfl) rfl ?_
  refine w_je (pc1 := 602) (vs := [.ref 176, _, _]) (rest := []) (st1 := [.int 0]) (m_292n (d := _) (sl := 0) G) rfl rfl rfl (fun _ _ => rfl) rfl (by exact cl_v my_292 rfl rfl rfl (Nat.le_of_ble_eq_true rfl) rfl (MH_obj rfl rfl) rfl (by decide) rfl rfl) (by rfl) (Nat.le_of_ble_eq_true rfl) (Nat.le_of_ble_eq_true rfl) rfl (by rfl) ?_
  refine w_p (pc1 := 604) (al1 := [(6, .int 0), (5, .int 1), (4, .int 0), (3, .ref 240), (2, .ref 176), (1, .ref 100), (0, .ref 0)]) rfl rfl ?_
  refine w_p (pc1 := 605) rfl rfl ?_
  refine w_je (pc1 := 608) (vs := [.ref 176]) (rest := []) (st1 := [.int 1]) (m_187 (d := _) (sl := 0)) rfl rfl rfl (fun _ _ => rfl) rfl (by exact cl_v my_187 rfl rfl rfl (Nat.le_of_ble_eq_true rfl) rfl (MH_obj rfl rfl) rfl (by decide) rfl rfl) (by rfl) (Nat.le_of_ble_eq_true rfl) (Nat.le_of_ble_eq_true rfl) rfl (by rfl) ?_
  refine w_p (pc1 := 610) rfl rfl ?_
  refine w_t (a := 615) (b := 613) rfl rfl rfl ?_
  refine w_p (pc1 := 617) rfl rfl ?_
  refine w_t (a := 632) (b := 620) rfl rfl rfl ?_
  refine w_p (pc1 := 769) rfl rfl ?_
  refine w_p (pc1 := 772) (al1 := [(4, .int 4), (6, .int 0), (5, .int 1), (3, .ref 240), (2, .ref 176), (1, .ref 100), (0, .ref 0)]) rfl rfl ?_
  refine w_p (pc1 := 23) rfl rfl ?_
  refine w_p (pc1 := 25) rfl rfl ?_
  refine w_p (pc1 := 26) rfl rfl ?_
  refine w_m0 (pc1 := 27) (st1 := .int 4 :: _) rfl rfl (h_lnS) rfl ?_
  refine w_p (pc1 := 28) (st1 := .int 4 :: _) rfl rfl ?_
  refine w_p (pc1 := 29) (st1 := .int 0 :: _) rfl rfl ?_
  refine w_t (a := 775) (b := 32) rfl rfl rfl ?_
  refine w_p (pc1 := 776) (st1 := .int 1 :: _) rfl rfl ?_
  refine w_r rfl rfl rfl (fun _ _ => rfl) rfl ?_
  exact ⟨rfl, by rw [MH_len]; exact Nat.le_of_ble_eq_true rfl, Nat.le_of_ble_eq_true rfl⟩
set_option maxRecDepth 100000 in
theorem lc_8 (F : frK C) (G : frM C) : Wd 4 xs (d + 12) y_296 (635, al0 0, [], MH C [], 80247) lawP nX := by
  refine w_p (pc1 := 636) rfl rfl ?_
  refine w_p (pc1 := 637) rfl rfl ?_
  refine w_p (pc1 := 639) rfl rfl ?_
  refine w_p (pc1 := 640) (st1 := .int 1 :: _) rfl rfl ?_
  refine w_p (pc1 := 641) (st1 := .int 1 :: _) rfl rfl ?_
  refine w_m0 (pc1 := 642) rfl rfl (h_xs rfl) rfl ?_
  refine w_p (pc1 := 643) rfl rfl ?_
  refine w_p (pc1 := 645) rfl rfl ?_
  refine w_p (pc1 := 646) (st1 := .int 2 :: _) rfl rfl ?_
  refine w_p (pc1 := 647) (st1 := .int 2 :: _) rfl rfl ?_
  refine w_m0 (pc1 := 648) rfl rfl (h_xs rfl) rfl ?_
  refine w_p (pc1 := 649) rfl rfl ?_
  refine w_je (pc1 := 652) (vs := [.ref 100, _, _, .ref 240]) (rest := []) (st1 := [.int 1]) (m_181n (d := _) (sl := 0) F) rfl rfl rfl (fun _ _ => rfl) rfl (by exact cl_s my_181 rfl rfl rfl (Nat.le_of_ble_eq_true rfl) rfl rfl) (by rfl) (Nat.le_of_ble_eq_true rfl) (Nat.le_of_ble_eq_true rfl) rfl (by rfl) ?_
  refine w_p (pc1 := 654) (al1 := [(5, .int 1), (4, .int 0), (3, .ref 240), (2, .ref 176), (1, .ref 100), (0, .ref 0)]) rfl rfl ?_
  refine w_p (pc1 := 655) rfl rfl ?_
  refine w_p (pc1 := 656) rfl rfl ?_
  refine w_p (pc1 := 658) rfl rfl ?_
  refine w_p (pc1 := 659) (st1 := .int 1 :: _) rfl rfl ?_
  refine w_p (pc1 := 660) (st1 := .int 1 :: _) rfl rfl ?_
  refine w_m0 (pc1 := 661) rfl rfl (h_xs rfl) rfl ?_
  refine w_p (pc1 := 662) rfl rfl ?_
  refine w_p (pc1 := 664) rfl rfl ?_
  refine w_p (pc1 := 665) (st1 := .int 2 :: _) rfl rfl ?_
  refine w_p (pc1 := 666) (st1 := .int 2 :: _) rfl rfl ?_
  refine w_m0 (pc1 := 667) rfl rfl (h_xs rfl) rfl ?_
  refine w_je (pc1 := 670) (vs := [.ref 176, _, _]) (rest := []) (st1 := [.long 0]) (m_293n (d := _) (sl := 0) G) rfl rfl rfl (fun _ _ => rfl) rfl (by exact cl_v my_293 rfl rfl rfl (Nat.le_of_ble_eq_true rfl) rfl (MH_obj rfl rfl) rfl (by decide) rfl rfl) (by rfl) (Nat.le_of_ble_eq_true rfl) (Nat.le_of_ble_eq_true rfl) rfl (by rfl) ?_
  refine w_p (pc1 := 672) (al1 := [(6, .long 0), (5, .int 1), (4, .int 0), (3, .ref 240), (2, .ref 176), (1, .ref 100), (0, .ref 0)]) rfl rfl ?_
  refine w_p (pc1 := 673) rfl rfl ?_
  refine w_je (pc1 := 676) (vs := [.ref 176]) (rest := []) (st1 := [.int 1]) (m_187 (d := _) (sl := 0)) rfl rfl rfl (fun _ _ => rfl) rfl (by exact cl_v my_187 rfl rfl rfl (Nat.le_of_ble_eq_true rfl) rfl (MH_obj rfl rfl) rfl (by decide) rfl rfl) (by rfl) (Nat.le_of_ble_eq_true rfl) (Nat.le_of_ble_eq_true rfl) rfl (by rfl) ?_
  refine w_p (pc1 := 678) rfl rfl ?_
  refine w_t (a := 683) (b := 681) rfl rfl rfl ?_
  refine w_p (pc1 := 685) rfl rfl ?_
  refine w_t (a := 699) (b := 688) rfl rfl rfl ?_
  refine w_p (pc1 := 769) rfl rfl ?_
  refine w_p (pc1 := 772) (al1 := [(4, .int 4), (6, .long 0), (5, .int 1), (3, .ref 240), (2, .ref 176), (1, .ref 100), (0, .ref 0)]) rfl rfl ?_
  refine w_p (pc1 := 23) rfl rfl ?_
  refine w_p (pc1 := 25) rfl rfl ?_
  refine w_p (pc1 := 26) rfl rfl ?_
  refine w_m0 (pc1 := 27) (st1 := .int 4 :: _) rfl rfl (h_lnS) rfl ?_
  refine w_p (pc1 := 28) (st1 := .int 4 :: _) rfl rfl ?_
  refine w_p (pc1 := 29) (st1 := .int 0 :: _) rfl rfl ?_
  refine w_t (a := 775) (b := 32) rfl rfl rfl ?_
  refine w_p (pc1 := 776) (st1 := .int 1 :: _) rfl rfl ?_
  refine w_r rfl rfl rfl (fun _ _ => rfl) rfl ?_
  exact ⟨rfl, by rw [MH_len]; exact Nat.le_of_ble_eq_true rfl, Nat.le_of_ble_eq_true rfl⟩
set_option maxRecDepth 100000 in
theorem lc_9 (F : frK C) (G : frM C) : Wd 4 xs (d + 12) y_296 (702, al0 0, [], MH C [], 80247) lawP nX := by
  refine w_p (pc1 := 703) rfl rfl ?_
  refine w_p (pc1 := 704) rfl rfl ?_
  refine w_p (pc1 := 706) rfl rfl ?_
  refine w_p (pc1 := 707) (st1 := .int 1 :: _) rfl rfl ?_
  refine w_p (pc1 := 708) (st1 := .int 1 :: _) rfl rfl ?_
  refine w_m0 (pc1 := 709) rfl rfl (h_xs rfl) rfl ?_
  refine w_p (pc1 := 710) rfl rfl ?_
  refine w_je (pc1 := 713) (vs := [.ref 100, _, .ref 240]) (rest := []) (st1 := [.int 1]) (m_183n (d := _) (sl := 0) F) rfl rfl rfl (fun _ _ => rfl) rfl (by exact cl_s my_183 rfl rfl rfl (Nat.le_of_ble_eq_true rfl) rfl rfl) (by rfl) (Nat.le_of_ble_eq_true rfl) (Nat.le_of_ble_eq_true rfl) rfl (by rfl) ?_
  refine w_p (pc1 := 715) (al1 := [(5, .int 1), (4, .int 0), (3, .ref 240), (2, .ref 176), (1, .ref 100), (0, .ref 0)]) rfl rfl ?_
  refine w_p (pc1 := 716) rfl rfl ?_
  refine w_p (pc1 := 717) rfl rfl ?_
  refine w_p (pc1 := 719) rfl rfl ?_
  refine w_p (pc1 := 720) (st1 := .int 1 :: _) rfl rfl ?_
  refine w_p (pc1 := 721) (st1 := .int 1 :: _) rfl rfl ?_
  refine w_m0 (pc1 := 722) rfl rfl (h_xs rfl) rfl ?_
  refine w_je (pc1 := 725) (vs := [.ref 176, _]) (rest := []) (st1 := [.int 0]) (m_294n (d := _) (sl := 0) G) rfl rfl rfl (fun _ _ => rfl) rfl (by exact cl_v my_294 rfl rfl rfl (Nat.le_of_ble_eq_true rfl) rfl (MH_obj rfl rfl) rfl (by decide) rfl rfl) (by rfl) (Nat.le_of_ble_eq_true rfl) (Nat.le_of_ble_eq_true rfl) rfl (by rfl) ?_
  refine w_p (pc1 := 727) (al1 := [(6, .int 0), (5, .int 1), (4, .int 0), (3, .ref 240), (2, .ref 176), (1, .ref 100), (0, .ref 0)]) rfl rfl ?_
  refine w_p (pc1 := 728) rfl rfl ?_
  refine w_je (pc1 := 731) (vs := [.ref 176]) (rest := []) (st1 := [.int 1]) (m_187 (d := _) (sl := 0)) rfl rfl rfl (fun _ _ => rfl) rfl (by exact cl_v my_187 rfl rfl rfl (Nat.le_of_ble_eq_true rfl) rfl (MH_obj rfl rfl) rfl (by decide) rfl rfl) (by rfl) (Nat.le_of_ble_eq_true rfl) (Nat.le_of_ble_eq_true rfl) rfl (by rfl) ?_
  refine w_p (pc1 := 733) rfl rfl ?_
  refine w_t (a := 738) (b := 736) rfl rfl rfl ?_
  refine w_p (pc1 := 740) rfl rfl ?_
  refine w_t (a := 755) (b := 743) rfl rfl rfl ?_
  refine w_p (pc1 := 769) rfl rfl ?_
  refine w_p (pc1 := 772) (al1 := [(4, .int 4), (6, .int 0), (5, .int 1), (3, .ref 240), (2, .ref 176), (1, .ref 100), (0, .ref 0)]) rfl rfl ?_
  refine w_p (pc1 := 23) rfl rfl ?_
  refine w_p (pc1 := 25) rfl rfl ?_
  refine w_p (pc1 := 26) rfl rfl ?_
  refine w_m0 (pc1 := 27) (st1 := .int 4 :: _) rfl rfl (h_lnS) rfl ?_
  refine w_p (pc1 := 28) (st1 := .int 4 :: _) rfl rfl ?_
  refine w_p (pc1 := 29) (st1 := .int 0 :: _) rfl rfl ?_
  refine w_t (a := 775) (b := 32) rfl rfl rfl ?_
  refine w_p (pc1 := 776) (st1 := .int 1 :: _) rfl rfl ?_
  refine w_r rfl rfl rfl (fun _ _ => rfl) rfl ?_
  exact ⟨rfl, by rw [MH_len]; exact Nat.le_of_ble_eq_true rfl, Nat.le_of_ble_eq_true rfl⟩
end LW1
