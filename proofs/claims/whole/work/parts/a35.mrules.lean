
/-! THE OTHER SIDE'S ENGINE: rules that follow -/
def frY (F : Nat) (C C' : co_T) : Prop := (∀ k j, ¬ ((k = 134 ∨ k = 135) ∧ j = F) → ¬ (k = 133 ∧ 40 * F ≤ j ∧ j < 40 * F + 40) → C'.1 k j = C.1 k j) ∧ C'.2 = C.2
set_option maxRecDepth 100000 in
theorem frY_r {F : Nat} {C : co_T} : frY F C C := ⟨fun _ _ _ _ => rfl, rfl⟩
set_option maxRecDepth 100000 in
theorem frY_t {F : Nat} {C1 C2 C3 : co_T} (h : frY F C1 C2) (g : frY F C2 C3) : frY F C1 C3 := ⟨fun k j a b => (g.1 k j a b).trans (h.1 k j a b), g.2.trans h.2⟩
set_option maxRecDepth 100000 in
theorem frY_m {F k : Nat} {C : co_T} {v : Int32} (hk : k = 134 ∨ k = 135) : frY F C (sI C k F v) := ⟨fun q j a b => by rw [sI_1, if_neg (by omega)], rfl⟩
set_option maxRecDepth 100000 in
theorem frY_i {F j : Nat} {C : co_T} {v : Int32} (h : 40 * F ≤ j ∧ j < 40 * F + 40) : frY F C (sI C 133 j v) := ⟨fun q i a b => by rw [sI_1, if_neg (by omega)], rfl⟩
set_option maxRecDepth 100000 in
theorem frY_Q {F : Nat} {C C' : co_T} (h : frY F C C') : frQ F C C' := ⟨fun k j _ _ c e => h.1 k j (by omega) (by omega), fun k j _ _ _ => by rw [h.2], by rw [h.2]⟩
set_option maxRecDepth 100000 in
theorem frY_V {F : Nat} {C C' : co_T} (h : frY F C C') : frV C C' := ⟨fun j => h.1 115 j (by omega) (by omega), fun j => h.1 117 j (by omega) (by omega), fun j => h.1 118 j (by omega) (by omega), fun j => by rw [h.2]⟩
section MEc
variable {L : Nat} {xs : Nat → Int32} {C C0 : co_T} {t : ab_H} {d sl b k m n F D kd i : Nat} {S : st_T} {N O : rw_F} {r : ro_T} {σ : es_T} {i0 ph nx jj : Int32} {P : Option Value → ab_H → Nat → Prop} {X : Nat → ab_H → Nat → Prop} {u : ru_T}
set_option maxRecDepth 100000 in
theorem TB_Y {C' : co_T} (h : frY F C C') (B : TB S σ D F b kd i0 ph nx N O C) : TB S σ D F b kd i0 ph nx N O C' := ⟨MSt_Q (frY_Q h) B.1, MEn_k (frY_V h) (fun j _ => h.1 76 j (by omega) (by omega)) B.2.1, ⟨(h.1 125 F (by omega) (by omega)).trans B.2.2.1.1, (h.1 128 F (by omega) (by omega)).trans B.2.2.1.2.1, (h.1 129 F (by omega) (by omega)).trans B.2.2.1.2.2.1, (h.1 130 F (by omega) (by omega)).trans B.2.2.1.2.2.2.1, (h.1 131 F (by omega) (by omega)).trans B.2.2.1.2.2.2.2.1, (h.1 132 F (by omega) (by omega)).trans B.2.2.1.2.2.2.2.2⟩, fun c hc => by rw [h.2]; exact B.2.2.2.1 c hc, fun c hc => by rw [h.2]; exact B.2.2.2.2 c hc⟩
set_option maxRecDepth 100000 in
theorem m_269e (hF : F < 40) (hs : C.1 132 F = nI 24) : Wd L xs d y_269 (0, [(0, .ref 176), (1, .int (nI (F)))], [], MH C t, 0) (QR t (fun C' => sI (sI C 131 F 4) 132 F 0 = C')) nX := by
  refine w_p (pc1 := 1) rfl rfl ?_
  refine w_m0 (pc1 := 4) rfl rfl (h_gC rfl rfl rfl rfl) rfl ?_
  refine w_p (pc1 := 5) rfl rfl ?_
  refine w_m0 (pc1 := 6) (st1 := .int (nI (24)) :: _) rfl rfl (n_ile (e := F) rfl rfl rfl (by omega) (hs)) rfl ?_
  refine w_p (pc1 := 7) (al1 := [(2, .int (nI (24))), (0, .ref 176), (1, .int (nI (F)))]) rfl rfl ?_
  refine w_p (pc1 := 8) rfl rfl ?_
  refine w_p (pc1 := 10) (st1 := .int 24 :: _) rfl rfl ?_
  refine w_f (a := 28) (b := 13) (bN_ne_f (a := 24) (b := 24) (by omega) (by omega) (by omega)) rfl rfl ?_
  refine w_p (pc1 := 14) rfl rfl ?_
  refine w_m0 (pc1 := 17) rfl rfl (h_gC rfl rfl rfl rfl) rfl ?_
  refine w_p (pc1 := 18) rfl rfl ?_
  refine w_p (pc1 := 19) (st1 := .int 4 :: _) rfl rfl ?_
  refine w_m0 (pc1 := 20) rfl rfl (n_is (e := F) rfl rfl rfl (by omega)) rfl ?_
  refine w_p (pc1 := 21) rfl rfl ?_
  refine w_m0 (pc1 := 24) rfl rfl (h_gC rfl rfl rfl rfl) rfl ?_
  refine w_p (pc1 := 25) rfl rfl ?_
  refine w_p (pc1 := 26) (st1 := .int 0 :: _) rfl rfl ?_
  refine w_m0 (pc1 := 27) rfl rfl (n_is (e := F) rfl rfl rfl (by omega)) rfl ?_
  refine w_r rfl rfl rfl (fun _ _ => rfl) rfl ?_
  exact ⟨rfl, ⟨_, rfl, rfl⟩, rfl⟩
set_option maxRecDepth 100000 in
theorem lp_269 {ac : Nat} {V0 : List Int32} (hF : F < 39) (hi : i < 24) (ho : okSt S) (hR : okR (sWd S) u) (hK : rKd u = 4) (hb1 : rTg u = some b) (hb : b < 6) (W : RWM C0 (sWd S) σ.1) (U : RUM C0 i u) (hO : bfM C0 137 F (sWd S b) O) (H : ∀ C', frY F C0 C' → C'.1 134 F = nI V0.length → V0.length ≤ 40 → idsM C' F V0 → C'.1 135 F = C0.1 135 F → Wd L xs (d + 6) y_269 (205, [(4, .int (nI (rTb u))), (3, .int (nI (ac))), (2, .int (nI (i))), (0, .ref 176), (1, .int (nI (F)))], [], MH C' t, sl) P X) : ∀ (suf pre : List ro_T) (is : List Int32) (C : co_T), pre ++ suf = (σ.1 (rTb u)).1 → is ++ rids u O suf = V0 → is.length ≤ pre.length → frY F C0 C → C.1 134 F = nI is.length → idsM C F is → C.1 135 F = C0.1 135 F → Wd L xs (d + 6) y_269 (137, [(5, .int (nI (pre.length))), (4, .int (nI (rTb u))), (3, .int (nI (ac))), (2, .int (nI (i))), (0, .ref 176), (1, .int (nI (F)))], [], MH C t, sl) P X
  | [], pre, is, C, hp, hV, hl, hf, hm, hid, h5 => by
    rw [List.append_nil] at hp
    have hll := congrArg List.length hp
    have hV : is ++ [] = V0 := hV
    rw [List.append_nil] at hV
    obtain ⟨g1, g2, g3, g4⟩ := RWM_V (frY_V hf) W (rTb u) hR.1.2.1
    have hb6 := hR.1.2.1
    refine w_p (pc1 := 139) rfl rfl ?_
    refine w_p (pc1 := 140) rfl rfl ?_
    refine w_m0 (pc1 := 143) rfl rfl (h_gC rfl rfl rfl rfl) rfl ?_
    refine w_p (pc1 := 145) rfl rfl ?_
    refine w_m0 (pc1 := 146) (st1 := .int (nI ((σ.1 (rTb u)).1.length)) :: _) rfl rfl (n_ile (e := rTb u) rfl rfl rfl (by omega) (g2)) rfl ?_
    refine w_t (a := 205) (b := 149) (bN_ge_t (a := pre.length) (b := (σ.1 (rTb u)).1.length) (by omega) (by omega) (by omega)) rfl rfl ?_
    refine Wd_al (al := [(4, .int (nI (rTb u))), (3, .int (nI (ac))), (2, .int (nI (i))), (0, .ref 176), (1, .int (nI (F)))]) (sba_p [1, 2, 3, 4, 5] rfl rfl) ?_
    subst hV
    exact H C hf hm (by omega) hid h5
  | q :: suf, pre, is, C, hp, hV, hl, hf, hm, hid, h5 => by
    obtain ⟨h1, h2, h3⟩ := get_ap hp
    have W1 := RWM_V (frY_V hf) W
    obtain ⟨g1, g2, g3, g4⟩ := W1 (rTb u) hR.1.2.1
    have hb6 := hR.1.2.1
    have h6b := ho.1 b hb
    have hrf := m_271 (L := L) (xs := xs) (t := t) (d := d + 4) (sl := 0) W1 (RUM_Q (frY_Q hf) U) hi hR hK hb1 h6b (f := F) (by omega) (fun c hc => by rw [hf.2]; exact hO c hc : bfM C 137 F (sWd S b) O) h1
    have hrid : C.1 115 (40 * rTb u + pre.length) = q.1 := by rw [show 40 * rTb u + pre.length = rTb u * 40 + pre.length by omega]; exact (g4 _ _ h1).1
    have IH := lp_269 (ac := ac) (V0 := V0) hF hi ho hR hK hb1 hb W U hO H suf (pre ++ [q])
    rw [len_s] at IH
    cases hx : rfg u O q with
    | false =>
      rw [hx] at hrf
      rw [rids_f hx] at hV
      refine w_p (pc1 := 139) rfl rfl ?_
      refine w_p (pc1 := 140) rfl rfl ?_
      refine w_m0 (pc1 := 143) rfl rfl (h_gC rfl rfl rfl rfl) rfl ?_
      refine w_p (pc1 := 145) rfl rfl ?_
      refine w_m0 (pc1 := 146) (st1 := .int (nI ((σ.1 (rTb u)).1.length)) :: _) rfl rfl (n_ile (e := rTb u) rfl rfl rfl (by omega) (g2)) rfl ?_
      refine w_f (a := 205) (b := 149) (bN_ge_f (a := pre.length) (b := (σ.1 (rTb u)).1.length) (by omega) (by omega) (by omega)) rfl rfl ?_
      refine w_p (pc1 := 150) rfl rfl ?_
      refine w_p (pc1 := 151) rfl rfl ?_
      refine w_p (pc1 := 153) rfl rfl ?_
      refine w_p (pc1 := 154) rfl rfl ?_
      refine w_je (pc1 := 157) (vs := [.ref 176, .int (nI (i)), .int (nI (pre.length)), .int (nI (F))]) (rest := []) (st1 := [.int 0]) (hrf) rfl rfl rfl (fun _ _ => rfl) rfl (by exact cl_v my_271 rfl rfl rfl (Nat.le_of_ble_eq_true rfl) rfl (MH_obj rfl rfl) rfl (by decide) rfl rfl) (by rfl) (Nat.le_of_ble_eq_true rfl) (Nat.le_of_ble_eq_true rfl) rfl (by rfl) ?_
      refine w_t (a := 199) (b := 160) rfl rfl rfl ?_
      refine w_iinc (pc1 := 202) (u := nI (pre.length)) (z := nI (pre.length + 1)) (al1 := [(5, .int (nI (pre.length + 1))), (4, .int (nI (rTb u))), (3, .int (nI (ac))), (2, .int (nI (i))), (0, .ref 176), (1, .int (nI (F)))]) rfl rfl rfl nK_1 rfl rfl ?_
      refine w_p (pc1 := 137) rfl rfl ?_
      exact IH is C h3 hV (by omega) hf hm hid h5
    | true =>
      rw [hx] at hrf
      rw [rids_t hx] at hV
      refine w_p (pc1 := 139) rfl rfl ?_
      refine w_p (pc1 := 140) rfl rfl ?_
      refine w_m0 (pc1 := 143) rfl rfl (h_gC rfl rfl rfl rfl) rfl ?_
      refine w_p (pc1 := 145) rfl rfl ?_
      refine w_m0 (pc1 := 146) (st1 := .int (nI ((σ.1 (rTb u)).1.length)) :: _) rfl rfl (n_ile (e := rTb u) rfl rfl rfl (by omega) (g2)) rfl ?_
      refine w_f (a := 205) (b := 149) (bN_ge_f (a := pre.length) (b := (σ.1 (rTb u)).1.length) (by omega) (by omega) (by omega)) rfl rfl ?_
      refine w_p (pc1 := 150) rfl rfl ?_
      refine w_p (pc1 := 151) rfl rfl ?_
      refine w_p (pc1 := 153) rfl rfl ?_
      refine w_p (pc1 := 154) rfl rfl ?_
      refine w_je (pc1 := 157) (vs := [.ref 176, .int (nI (i)), .int (nI (pre.length)), .int (nI (F))]) (rest := []) (st1 := [.int 1]) (hrf) rfl rfl rfl (fun _ _ => rfl) rfl (by exact cl_v my_271 rfl rfl rfl (Nat.le_of_ble_eq_true rfl) rfl (MH_obj rfl rfl) rfl (by decide) rfl rfl) (by rfl) (Nat.le_of_ble_eq_true rfl) (Nat.le_of_ble_eq_true rfl) rfl (by rfl) ?_
      refine w_f (a := 199) (b := 160) rfl rfl rfl ?_
      refine w_p (pc1 := 161) rfl rfl ?_
      refine w_m0 (pc1 := 164) rfl rfl (h_gC rfl rfl rfl rfl) rfl ?_
      refine w_p (pc1 := 166) (st1 := .int 40 :: _) rfl rfl ?_
      refine w_p (pc1 := 167) rfl rfl ?_
      refine w_imul (pc1 := 168) (u := nI (40)) (v := nI (F)) (z := nI (40 * F)) rfl (nK_mul) rfl ?_
      refine w_p (pc1 := 169) rfl rfl ?_
      refine w_m0 (pc1 := 172) rfl rfl (h_gC rfl rfl rfl rfl) rfl ?_
      refine w_p (pc1 := 173) rfl rfl ?_
      refine w_m0 (pc1 := 174) (st1 := .int (nI (is.length)) :: _) rfl rfl (n_ile (e := F) rfl rfl rfl (by omega) (hm)) rfl ?_
      refine w_iadd (pc1 := 175) (u := nI (40 * F)) (v := nI (is.length)) (z := nI (40 * F + (is.length))) rfl (nK_add) rfl ?_
      refine w_p (pc1 := 176) rfl rfl ?_
      refine w_m0 (pc1 := 179) rfl rfl (h_gC rfl rfl rfl rfl) rfl ?_
      refine w_p (pc1 := 181) (st1 := .int 40 :: _) rfl rfl ?_
      refine w_p (pc1 := 183) rfl rfl ?_
      refine w_imul (pc1 := 184) (u := nI (40)) (v := nI (rTb u)) (z := nI (40 * (rTb u))) rfl (nK_mul) rfl ?_
      refine w_p (pc1 := 186) rfl rfl ?_
      refine w_iadd (pc1 := 187) (u := nI (40 * (rTb u))) (v := nI (pre.length)) (z := nI (40 * (rTb u) + (pre.length))) rfl (nK_add) rfl ?_
      refine w_m0 (pc1 := 188) (st1 := .int (q.1) :: _) rfl rfl (n_ile (e := 40 * (rTb u) + (pre.length)) rfl rfl rfl (by omega) (hrid)) rfl ?_
      refine w_m0 (pc1 := 189) rfl rfl (n_is (e := 40 * F + (is.length)) rfl rfl rfl (by omega)) rfl ?_
      refine w_p (pc1 := 190) rfl rfl ?_
      refine w_m0 (pc1 := 193) rfl rfl (h_gC rfl rfl rfl rfl) rfl ?_
      refine w_p (pc1 := 194) rfl rfl ?_
      refine w_p (pc1 := 195) rfl rfl ?_
      refine w_m0 (pc1 := 196) (st1 := .int (nI (is.length)) :: _) rfl rfl (n_ile (e := F) rfl rfl rfl (by omega) ((by rw [sI_1, if_neg (by omega)]; exact hm))) rfl ?_
      refine w_p (pc1 := 197) (st1 := .int 1 :: _) rfl rfl ?_
      refine w_iadd (pc1 := 198) (u := nI (is.length)) (v := nI (1)) (z := nI (is.length + 1)) rfl (nK_add) rfl ?_
      refine w_m0 (pc1 := 199) rfl rfl (n_is (e := F) rfl rfl rfl (by omega)) rfl ?_
      refine w_iinc (pc1 := 202) (u := nI (pre.length)) (z := nI (pre.length + 1)) (al1 := [(5, .int (nI (pre.length + 1))), (4, .int (nI (rTb u))), (3, .int (nI (ac))), (2, .int (nI (i))), (0, .ref 176), (1, .int (nI (F)))]) rfl rfl rfl nK_1 rfl rfl ?_
      refine w_p (pc1 := 137) rfl rfl ?_
      refine IH (is ++ [q.1]) _ h3 (by rw [← hV, List.append_assoc]; rfl) (by rw [len_s]; omega) (frY_t hf (frY_t (frY_i (by omega)) (frY_m (by omega)))) (by rw [sI_1, if_pos ⟨rfl, rfl⟩, len_s]) (fun j x hj => ?_) (by rw [sI_1, if_neg (by omega), sI_1, if_neg (by omega)]; exact h5)
      rw [sI_1, if_neg (by omega), sI_1]
      by_cases e : j < is.length
      · rw [List.getElem?_append_left e] at hj
        rw [if_neg (by omega)]
        exact hid j x hj
      · have hjl := get_lt hj
        rw [len_s] at hjl
        obtain rfl : j = is.length := by omega
        rw [List.getElem?_append_right (Nat.le_refl _), Nat.sub_self] at hj
        cases hj
        rw [if_pos ⟨rfl, rfl⟩]
def RLd (S : st_T) (m b kd : Nat) (i0 : Int32) (O N : rw_F) (σ : es_T) (D F i : Nat) (C C' : co_T) : Prop :=
  (fol1 S (stp S m) b kd i0 O N i σ = (σ, none) ∧ sI C 132 F (nI (i + 1)) = C') ∨
  (∃ u is, sRu S i = some u ∧ rKd u = 4 ∧ rTg u = some b ∧ dos kd u ≠ 0 ∧ fol1 S (stp S m) b kd i0 O N i σ = lop (rf1 S (stp S m) i u (dos kd u) kd i0 O N) is σ ∧ is.length ≤ 40 ∧ TB S σ D F b kd i0 3 (nI i) N O C' ∧ C'.1 134 F = nI is.length ∧ C'.1 135 F = nI 0 ∧ idsM C' F is ∧ frQ F C C')
set_option maxRecDepth 100000 in
theorem m_269_1 (hi : i < 24) (hF : F < 39) (hb : b < 6) (ho : okSt S) (B : TB S σ D F b 1 i0 2 (nI i) N O C) : Wd L xs (d + 6) y_269 (0, [(0, .ref 176), (1, .int (nI (F)))], [], MH C t, 0) (QR t (RLd S m b 1 i0 O N σ D F i C)) nX := by
  have hs := B.2.2.1
  have hRu := B.1.2.1 i hi
  have h6b := ho.1 b hb
  have e0 : fol1 S (stp S m) b 1 i0 O N i σ = match sRu S i with | none => (σ, none) | some u => (if rTg u = some b ∧ tch 1 (rOs u) O N = true ∧ dos 1 u ≠ 0 then lop (rf1 S (stp S m) i u (dos 1 u) 1 i0 O N) (rids u O (σ.1 (rTb u)).1) σ else (σ, none)) := rfl
  cases hG : sRu S i with
  | none =>
    rw [hG] at hRu
    have t0 : C.1 83 i = 0 := hRu
    have e1 : fol1 S (stp S m) b 1 i0 O N i σ = (σ, none) := by rw [e0, hG]
    refine w_p (pc1 := 1) rfl rfl ?_
    refine w_m0 (pc1 := 4) rfl rfl (h_gC rfl rfl rfl rfl) rfl ?_
    refine w_p (pc1 := 5) rfl rfl ?_
    refine w_m0 (pc1 := 6) (st1 := .int (nI (i)) :: _) rfl rfl (n_ile (e := F) rfl rfl rfl (by omega) (hs.2.2.2.2.2)) rfl ?_
    refine w_p (pc1 := 7) (al1 := [(2, .int (nI (i))), (0, .ref 176), (1, .int (nI (F)))]) rfl rfl ?_
    refine w_p (pc1 := 8) rfl rfl ?_
    refine w_p (pc1 := 10) (st1 := .int 24 :: _) rfl rfl ?_
    refine w_t (a := 28) (b := 13) (bN_ne_t (a := i) (b := 24) (by omega) (by omega) (by omega)) rfl rfl ?_
    refine w_p (pc1 := 29) rfl rfl ?_
    refine w_m0 (pc1 := 32) rfl rfl (h_gC rfl rfl rfl rfl) rfl ?_
    refine w_p (pc1 := 33) rfl rfl ?_
    refine w_m0 (pc1 := 34) (st1 := .int 1 :: _) rfl rfl (n_ile (e := F) rfl rfl rfl (by omega) (hs.2.1)) rfl ?_
    refine w_p (pc1 := 35) (st1 := .int 2 :: _) rfl rfl ?_
    refine w_t (a := 47) (b := 38) rfl rfl rfl ?_
    refine w_p (pc1 := 48) rfl rfl ?_
    refine w_m0 (pc1 := 51) rfl rfl (h_gC rfl rfl rfl rfl) rfl ?_
    refine w_p (pc1 := 52) rfl rfl ?_
    refine w_m0 (pc1 := 53) rfl rfl (n_il (e := i) rfl rfl rfl (by omega)) rfl ?_
    refine w_p (pc1 := 54) (al1 := [(3, _), (2, .int (nI (i))), (0, .ref 176), (1, .int (nI (F)))]) rfl rfl ?_
    refine w_p (pc1 := 55) rfl rfl ?_
    refine w_m0 (pc1 := 58) rfl rfl (h_gC rfl rfl rfl rfl) rfl ?_
    refine w_p (pc1 := 59) rfl rfl ?_
    refine w_m0 (pc1 := 60) (st1 := .int 0 :: _) rfl rfl (n_ble (e := i) rfl rfl (by decide) rfl (by omega) (t0)) rfl ?_
    refine w_t (a := 101) (b := 63) rfl rfl rfl ?_
    refine w_p (pc1 := 102) rfl rfl ?_
    refine w_m0 (pc1 := 105) rfl rfl (h_gC rfl rfl rfl rfl) rfl ?_
    refine w_p (pc1 := 106) rfl rfl ?_
    refine w_p (pc1 := 107) rfl rfl ?_
    refine w_m0 (pc1 := 108) (st1 := .int (nI (i)) :: _) rfl rfl (n_ile (e := F) rfl rfl rfl (by omega) (hs.2.2.2.2.2)) rfl ?_
    refine w_p (pc1 := 109) (st1 := .int 1 :: _) rfl rfl ?_
    refine w_iadd (pc1 := 110) (u := nI (i)) (v := nI (1)) (z := nI (i + 1)) rfl (nK_add) rfl ?_
    refine w_m0 (pc1 := 111) rfl rfl (n_is (e := F) rfl rfl rfl (by omega)) rfl ?_
    refine w_r rfl rfl rfl (fun _ _ => rfl) rfl ?_
    exact ⟨rfl, ⟨_, Or.inl ⟨e1, rfl⟩, rfl⟩, rfl⟩
  | some u =>
    rw [hG] at hRu
    obtain ⟨t0, U⟩ : C.1 83 i = 1 ∧ RUM C i u := hRu
    have hR := ho.2.1 i u hi hG
    have hb6 := hR.1.2.1
    have hk4 := hR.1.1
    have hd4 := hR.2.2.2.2
    by_cases hK : rKd u = 4
    · obtain ⟨⟨b2, hb1, hb2, hb3⟩, hll⟩ := hR.2.1 hK
      have uto := U.1.2.2.1
      rw [hb1] at uto
      have uto : C.1 86 i = nI b2 := uto
      by_cases hbb : b2 = b
      · subst hbb
        by_cases hd0 : dos 1 u = 0
        · have e1 : fol1 S (stp S m) b2 1 i0 O N i σ = (σ, none) := by rw [e0, hG]; exact if_neg (fun z => z.2.2 hd0)
          have hd0 : rUp u = 0 := hd0
          refine w_p (pc1 := 1) rfl rfl ?_
          refine w_m0 (pc1 := 4) rfl rfl (h_gC rfl rfl rfl rfl) rfl ?_
          refine w_p (pc1 := 5) rfl rfl ?_
          refine w_m0 (pc1 := 6) (st1 := .int (nI (i)) :: _) rfl rfl (n_ile (e := F) rfl rfl rfl (by omega) (hs.2.2.2.2.2)) rfl ?_
          refine w_p (pc1 := 7) (al1 := [(2, .int (nI (i))), (0, .ref 176), (1, .int (nI (F)))]) rfl rfl ?_
          refine w_p (pc1 := 8) rfl rfl ?_
          refine w_p (pc1 := 10) (st1 := .int 24 :: _) rfl rfl ?_
          refine w_t (a := 28) (b := 13) (bN_ne_t (a := i) (b := 24) (by omega) (by omega) (by omega)) rfl rfl ?_
          refine w_p (pc1 := 29) rfl rfl ?_
          refine w_m0 (pc1 := 32) rfl rfl (h_gC rfl rfl rfl rfl) rfl ?_
          refine w_p (pc1 := 33) rfl rfl ?_
          refine w_m0 (pc1 := 34) (st1 := .int 1 :: _) rfl rfl (n_ile (e := F) rfl rfl rfl (by omega) (hs.2.1)) rfl ?_
          refine w_p (pc1 := 35) (st1 := .int 2 :: _) rfl rfl ?_
          refine w_t (a := 47) (b := 38) rfl rfl rfl ?_
          refine w_p (pc1 := 48) rfl rfl ?_
          refine w_m0 (pc1 := 51) rfl rfl (h_gC rfl rfl rfl rfl) rfl ?_
          refine w_p (pc1 := 52) rfl rfl ?_
          refine w_m0 (pc1 := 53) (st1 := .int (nI (rUp u)) :: _) rfl rfl (n_ile (e := i) rfl rfl rfl (by omega) (U.2.1.2.2)) rfl ?_
          refine w_p (pc1 := 54) (al1 := [(3, .int (nI (rUp u))), (2, .int (nI (i))), (0, .ref 176), (1, .int (nI (F)))]) rfl rfl ?_
          refine w_p (pc1 := 55) rfl rfl ?_
          refine w_m0 (pc1 := 58) rfl rfl (h_gC rfl rfl rfl rfl) rfl ?_
          refine w_p (pc1 := 59) rfl rfl ?_
          refine w_m0 (pc1 := 60) (st1 := .int 1 :: _) rfl rfl (n_ble (e := i) rfl rfl (by decide) rfl (by omega) (t0)) rfl ?_
          refine w_f (a := 101) (b := 63) rfl rfl rfl ?_
          refine w_p (pc1 := 64) rfl rfl ?_
          refine w_m0 (pc1 := 67) rfl rfl (h_gC rfl rfl rfl rfl) rfl ?_
          refine w_p (pc1 := 68) rfl rfl ?_
          refine w_m0 (pc1 := 69) (st1 := .int (nI (rKd u)) :: _) rfl rfl (n_ile (e := i) rfl rfl rfl (by omega) (U.1.1)) rfl ?_
          refine w_p (pc1 := 70) (st1 := .int 4 :: _) rfl rfl ?_
          refine w_f (a := 101) (b := 73) (bN_ne_f (a := rKd u) (b := 4) (by omega) (by omega) (by omega)) rfl rfl ?_
          refine w_p (pc1 := 74) rfl rfl ?_
          refine w_m0 (pc1 := 77) rfl rfl (h_gC rfl rfl rfl rfl) rfl ?_
          refine w_p (pc1 := 78) rfl rfl ?_
          refine w_m0 (pc1 := 79) (st1 := .int (nI (b2)) :: _) rfl rfl (n_ile (e := i) rfl rfl rfl (by omega) (uto)) rfl ?_
          refine w_p (pc1 := 80) rfl rfl ?_
          refine w_m0 (pc1 := 83) rfl rfl (h_gC rfl rfl rfl rfl) rfl ?_
          refine w_p (pc1 := 84) rfl rfl ?_
          refine w_m0 (pc1 := 85) (st1 := .int (nI (b2)) :: _) rfl rfl (n_ile (e := F) rfl rfl rfl (by omega) (hs.2.2.1)) rfl ?_
          refine w_f (a := 101) (b := 88) (bN_ne_f (a := b2) (b := b2) (by omega) (by omega) (by omega)) rfl rfl ?_
          refine w_p (pc1 := 89) rfl rfl ?_
          refine w_t (a := 101) (b := 92) (bN_eq_t (a := rUp u) (b := 0) (by omega) (by omega) (by omega)) rfl rfl ?_
          refine w_p (pc1 := 102) rfl rfl ?_
          refine w_m0 (pc1 := 105) rfl rfl (h_gC rfl rfl rfl rfl) rfl ?_
          refine w_p (pc1 := 106) rfl rfl ?_
          refine w_p (pc1 := 107) rfl rfl ?_
          refine w_m0 (pc1 := 108) (st1 := .int (nI (i)) :: _) rfl rfl (n_ile (e := F) rfl rfl rfl (by omega) (hs.2.2.2.2.2)) rfl ?_
          refine w_p (pc1 := 109) (st1 := .int 1 :: _) rfl rfl ?_
          refine w_iadd (pc1 := 110) (u := nI (i)) (v := nI (1)) (z := nI (i + 1)) rfl (nK_add) rfl ?_
          refine w_m0 (pc1 := 111) rfl rfl (n_is (e := F) rfl rfl rfl (by omega)) rfl ?_
          refine w_r rfl rfl rfl (fun _ _ => rfl) rfl ?_
          exact ⟨rfl, ⟨_, Or.inl ⟨e1, rfl⟩, rfl⟩, rfl⟩
        · have hdn : rUp u ≠ 0 := hd0
          have hmt := m_270_1 (L := L) (xs := xs) (t := t) (d := d + 5) (sl := 0) (N := N) U hi hR hK hb1 h6b (f := F) (by omega) B.2.2.2.2 B.2.2.2.1 hs.2.1
          cases hx : tch 1 (rOs u) O N with
          | false =>
            rw [hx] at hmt
            have e1 : fol1 S (stp S m) b2 1 i0 O N i σ = (σ, none) := by rw [e0, hG]; exact if_neg (by rw [hx]; intro z; cases z.2.1)
            refine w_p (pc1 := 1) rfl rfl ?_
            refine w_m0 (pc1 := 4) rfl rfl (h_gC rfl rfl rfl rfl) rfl ?_
            refine w_p (pc1 := 5) rfl rfl ?_
            refine w_m0 (pc1 := 6) (st1 := .int (nI (i)) :: _) rfl rfl (n_ile (e := F) rfl rfl rfl (by omega) (hs.2.2.2.2.2)) rfl ?_
            refine w_p (pc1 := 7) (al1 := [(2, .int (nI (i))), (0, .ref 176), (1, .int (nI (F)))]) rfl rfl ?_
            refine w_p (pc1 := 8) rfl rfl ?_
            refine w_p (pc1 := 10) (st1 := .int 24 :: _) rfl rfl ?_
            refine w_t (a := 28) (b := 13) (bN_ne_t (a := i) (b := 24) (by omega) (by omega) (by omega)) rfl rfl ?_
            refine w_p (pc1 := 29) rfl rfl ?_
            refine w_m0 (pc1 := 32) rfl rfl (h_gC rfl rfl rfl rfl) rfl ?_
            refine w_p (pc1 := 33) rfl rfl ?_
            refine w_m0 (pc1 := 34) (st1 := .int 1 :: _) rfl rfl (n_ile (e := F) rfl rfl rfl (by omega) (hs.2.1)) rfl ?_
            refine w_p (pc1 := 35) (st1 := .int 2 :: _) rfl rfl ?_
            refine w_t (a := 47) (b := 38) rfl rfl rfl ?_
            refine w_p (pc1 := 48) rfl rfl ?_
            refine w_m0 (pc1 := 51) rfl rfl (h_gC rfl rfl rfl rfl) rfl ?_
            refine w_p (pc1 := 52) rfl rfl ?_
            refine w_m0 (pc1 := 53) (st1 := .int (nI (rUp u)) :: _) rfl rfl (n_ile (e := i) rfl rfl rfl (by omega) (U.2.1.2.2)) rfl ?_
            refine w_p (pc1 := 54) (al1 := [(3, .int (nI (rUp u))), (2, .int (nI (i))), (0, .ref 176), (1, .int (nI (F)))]) rfl rfl ?_
            refine w_p (pc1 := 55) rfl rfl ?_
            refine w_m0 (pc1 := 58) rfl rfl (h_gC rfl rfl rfl rfl) rfl ?_
            refine w_p (pc1 := 59) rfl rfl ?_
            refine w_m0 (pc1 := 60) (st1 := .int 1 :: _) rfl rfl (n_ble (e := i) rfl rfl (by decide) rfl (by omega) (t0)) rfl ?_
            refine w_f (a := 101) (b := 63) rfl rfl rfl ?_
            refine w_p (pc1 := 64) rfl rfl ?_
            refine w_m0 (pc1 := 67) rfl rfl (h_gC rfl rfl rfl rfl) rfl ?_
            refine w_p (pc1 := 68) rfl rfl ?_
            refine w_m0 (pc1 := 69) (st1 := .int (nI (rKd u)) :: _) rfl rfl (n_ile (e := i) rfl rfl rfl (by omega) (U.1.1)) rfl ?_
            refine w_p (pc1 := 70) (st1 := .int 4 :: _) rfl rfl ?_
            refine w_f (a := 101) (b := 73) (bN_ne_f (a := rKd u) (b := 4) (by omega) (by omega) (by omega)) rfl rfl ?_
            refine w_p (pc1 := 74) rfl rfl ?_
            refine w_m0 (pc1 := 77) rfl rfl (h_gC rfl rfl rfl rfl) rfl ?_
            refine w_p (pc1 := 78) rfl rfl ?_
            refine w_m0 (pc1 := 79) (st1 := .int (nI (b2)) :: _) rfl rfl (n_ile (e := i) rfl rfl rfl (by omega) (uto)) rfl ?_
            refine w_p (pc1 := 80) rfl rfl ?_
            refine w_m0 (pc1 := 83) rfl rfl (h_gC rfl rfl rfl rfl) rfl ?_
            refine w_p (pc1 := 84) rfl rfl ?_
            refine w_m0 (pc1 := 85) (st1 := .int (nI (b2)) :: _) rfl rfl (n_ile (e := F) rfl rfl rfl (by omega) (hs.2.2.1)) rfl ?_
            refine w_f (a := 101) (b := 88) (bN_ne_f (a := b2) (b := b2) (by omega) (by omega) (by omega)) rfl rfl ?_
            refine w_p (pc1 := 89) rfl rfl ?_
            refine w_f (a := 101) (b := 92) (bN_eq_f (a := rUp u) (b := 0) (by omega) (by omega) (by omega)) rfl rfl ?_
            refine w_p (pc1 := 93) rfl rfl ?_
            refine w_p (pc1 := 94) rfl rfl ?_
            refine w_p (pc1 := 95) rfl rfl ?_
            refine w_je (pc1 := 98) (vs := [.ref 176, .int (nI (i)), .int (nI (F))]) (rest := []) (st1 := [.int 0]) (hmt) rfl rfl rfl (fun _ _ => rfl) rfl (by exact cl_v my_270 rfl rfl rfl (Nat.le_of_ble_eq_true rfl) rfl (MH_obj rfl rfl) rfl (by decide) rfl rfl) (by rfl) (Nat.le_of_ble_eq_true rfl) (Nat.le_of_ble_eq_true rfl) rfl (by rfl) ?_
            refine w_f (a := 112) (b := 101) rfl rfl rfl ?_
            refine w_p (pc1 := 102) rfl rfl ?_
            refine w_m0 (pc1 := 105) rfl rfl (h_gC rfl rfl rfl rfl) rfl ?_
            refine w_p (pc1 := 106) rfl rfl ?_
            refine w_p (pc1 := 107) rfl rfl ?_
            refine w_m0 (pc1 := 108) (st1 := .int (nI (i)) :: _) rfl rfl (n_ile (e := F) rfl rfl rfl (by omega) (hs.2.2.2.2.2)) rfl ?_
            refine w_p (pc1 := 109) (st1 := .int 1 :: _) rfl rfl ?_
            refine w_iadd (pc1 := 110) (u := nI (i)) (v := nI (1)) (z := nI (i + 1)) rfl (nK_add) rfl ?_
            refine w_m0 (pc1 := 111) rfl rfl (n_is (e := F) rfl rfl rfl (by omega)) rfl ?_
            refine w_r rfl rfl rfl (fun _ _ => rfl) rfl ?_
            exact ⟨rfl, ⟨_, Or.inl ⟨e1, rfl⟩, rfl⟩, rfl⟩
          | true =>
            rw [hx] at hmt
            have e1 : fol1 S (stp S m) b2 1 i0 O N i σ = lop (rf1 S (stp S m) i u (dos 1 u) 1 i0 O N) (rids u O (σ.1 (rTb u)).1) σ := by rw [e0, hG]; exact if_pos ⟨hb1, hx, hd0⟩
            have y1 : frY F C (sI (sI C 134 F 0) 135 F 0) := frY_t (frY_m (by omega)) (frY_m (by omega))
            have ut : (sI (sI C 134 F 0) 135 F 0).1 85 i = nI (rTb u) := by rw [sI_1, if_neg (by omega), sI_1, if_neg (by omega)]; exact U.1.2.1
            refine w_p (pc1 := 1) rfl rfl ?_
            refine w_m0 (pc1 := 4) rfl rfl (h_gC rfl rfl rfl rfl) rfl ?_
            refine w_p (pc1 := 5) rfl rfl ?_
            refine w_m0 (pc1 := 6) (st1 := .int (nI (i)) :: _) rfl rfl (n_ile (e := F) rfl rfl rfl (by omega) (hs.2.2.2.2.2)) rfl ?_
            refine w_p (pc1 := 7) (al1 := [(2, .int (nI (i))), (0, .ref 176), (1, .int (nI (F)))]) rfl rfl ?_
            refine w_p (pc1 := 8) rfl rfl ?_
            refine w_p (pc1 := 10) (st1 := .int 24 :: _) rfl rfl ?_
            refine w_t (a := 28) (b := 13) (bN_ne_t (a := i) (b := 24) (by omega) (by omega) (by omega)) rfl rfl ?_
            refine w_p (pc1 := 29) rfl rfl ?_
            refine w_m0 (pc1 := 32) rfl rfl (h_gC rfl rfl rfl rfl) rfl ?_
            refine w_p (pc1 := 33) rfl rfl ?_
            refine w_m0 (pc1 := 34) (st1 := .int 1 :: _) rfl rfl (n_ile (e := F) rfl rfl rfl (by omega) (hs.2.1)) rfl ?_
            refine w_p (pc1 := 35) (st1 := .int 2 :: _) rfl rfl ?_
            refine w_t (a := 47) (b := 38) rfl rfl rfl ?_
            refine w_p (pc1 := 48) rfl rfl ?_
            refine w_m0 (pc1 := 51) rfl rfl (h_gC rfl rfl rfl rfl) rfl ?_
            refine w_p (pc1 := 52) rfl rfl ?_
            refine w_m0 (pc1 := 53) (st1 := .int (nI (rUp u)) :: _) rfl rfl (n_ile (e := i) rfl rfl rfl (by omega) (U.2.1.2.2)) rfl ?_
            refine w_p (pc1 := 54) (al1 := [(3, .int (nI (rUp u))), (2, .int (nI (i))), (0, .ref 176), (1, .int (nI (F)))]) rfl rfl ?_
            refine w_p (pc1 := 55) rfl rfl ?_
            refine w_m0 (pc1 := 58) rfl rfl (h_gC rfl rfl rfl rfl) rfl ?_
            refine w_p (pc1 := 59) rfl rfl ?_
            refine w_m0 (pc1 := 60) (st1 := .int 1 :: _) rfl rfl (n_ble (e := i) rfl rfl (by decide) rfl (by omega) (t0)) rfl ?_
            refine w_f (a := 101) (b := 63) rfl rfl rfl ?_
            refine w_p (pc1 := 64) rfl rfl ?_
            refine w_m0 (pc1 := 67) rfl rfl (h_gC rfl rfl rfl rfl) rfl ?_
            refine w_p (pc1 := 68) rfl rfl ?_
            refine w_m0 (pc1 := 69) (st1 := .int (nI (rKd u)) :: _) rfl rfl (n_ile (e := i) rfl rfl rfl (by omega) (U.1.1)) rfl ?_
            refine w_p (pc1 := 70) (st1 := .int 4 :: _) rfl rfl ?_
            refine w_f (a := 101) (b := 73) (bN_ne_f (a := rKd u) (b := 4) (by omega) (by omega) (by omega)) rfl rfl ?_
            refine w_p (pc1 := 74) rfl rfl ?_
            refine w_m0 (pc1 := 77) rfl rfl (h_gC rfl rfl rfl rfl) rfl ?_
            refine w_p (pc1 := 78) rfl rfl ?_
            refine w_m0 (pc1 := 79) (st1 := .int (nI (b2)) :: _) rfl rfl (n_ile (e := i) rfl rfl rfl (by omega) (uto)) rfl ?_
            refine w_p (pc1 := 80) rfl rfl ?_
            refine w_m0 (pc1 := 83) rfl rfl (h_gC rfl rfl rfl rfl) rfl ?_
            refine w_p (pc1 := 84) rfl rfl ?_
            refine w_m0 (pc1 := 85) (st1 := .int (nI (b2)) :: _) rfl rfl (n_ile (e := F) rfl rfl rfl (by omega) (hs.2.2.1)) rfl ?_
            refine w_f (a := 101) (b := 88) (bN_ne_f (a := b2) (b := b2) (by omega) (by omega) (by omega)) rfl rfl ?_
            refine w_p (pc1 := 89) rfl rfl ?_
            refine w_f (a := 101) (b := 92) (bN_eq_f (a := rUp u) (b := 0) (by omega) (by omega) (by omega)) rfl rfl ?_
            refine w_p (pc1 := 93) rfl rfl ?_
            refine w_p (pc1 := 94) rfl rfl ?_
            refine w_p (pc1 := 95) rfl rfl ?_
            refine w_je (pc1 := 98) (vs := [.ref 176, .int (nI (i)), .int (nI (F))]) (rest := []) (st1 := [.int 1]) (hmt) rfl rfl rfl (fun _ _ => rfl) rfl (by exact cl_v my_270 rfl rfl rfl (Nat.le_of_ble_eq_true rfl) rfl (MH_obj rfl rfl) rfl (by decide) rfl rfl) (by rfl) (Nat.le_of_ble_eq_true rfl) (Nat.le_of_ble_eq_true rfl) rfl (by rfl) ?_
            refine w_t (a := 112) (b := 101) rfl rfl rfl ?_
            refine w_p (pc1 := 113) rfl rfl ?_
            refine w_m0 (pc1 := 116) rfl rfl (h_gC rfl rfl rfl rfl) rfl ?_
            refine w_p (pc1 := 117) rfl rfl ?_
            refine w_p (pc1 := 118) (st1 := .int 0 :: _) rfl rfl ?_
            refine w_m0 (pc1 := 119) rfl rfl (n_is (e := F) rfl rfl rfl (by omega)) rfl ?_
            refine w_p (pc1 := 120) rfl rfl ?_
            refine w_m0 (pc1 := 123) rfl rfl (h_gC rfl rfl rfl rfl) rfl ?_
            refine w_p (pc1 := 124) rfl rfl ?_
            refine w_p (pc1 := 125) (st1 := .int 0 :: _) rfl rfl ?_
            refine w_m0 (pc1 := 126) rfl rfl (n_is (e := F) rfl rfl rfl (by omega)) rfl ?_
            refine w_p (pc1 := 127) rfl rfl ?_
            refine w_m0 (pc1 := 130) rfl rfl (h_gC rfl rfl rfl rfl) rfl ?_
            refine w_p (pc1 := 131) rfl rfl ?_
            refine w_m0 (pc1 := 132) (st1 := .int (nI (rTb u)) :: _) rfl rfl (n_ile (e := i) rfl rfl rfl (by omega) (ut)) rfl ?_
            refine w_p (pc1 := 134) (al1 := [(4, .int (nI (rTb u))), (3, .int (nI (rUp u))), (2, .int (nI (i))), (0, .ref 176), (1, .int (nI (F)))]) rfl rfl ?_
            refine w_p (pc1 := 135) (st1 := .int 0 :: _) rfl rfl ?_
            refine w_p (pc1 := 137) (al1 := [(5, .int 0), (4, .int (nI (rTb u))), (3, .int (nI (rUp u))), (2, .int (nI (i))), (0, .ref 176), (1, .int (nI (F)))]) rfl rfl ?_
            refine lp_269 (C0 := sI (sI C 134 F 0) 135 F 0) (ac := rUp u) (V0 := rids u O (σ.1 (rTb u)).1) hF hi ho hR hK hb1 hb2 (RWM_V (frY_V y1) B.2.1.1) (RUM_Q (frY_Q y1) U) B.2.2.2.2 (fun C1 f1 f2 f3 f4 f5 => ?_) (σ.1 (rTb u)).1 [] [] _ rfl rfl (Nat.le_refl _) frY_r (by rw [sI_1, if_neg (by omega), sI_1, if_pos ⟨rfl, rfl⟩]; rfl) (fun j x hj => by cases hj) rfl
            refine w_p (pc1 := 206) rfl rfl ?_
            refine w_m0 (pc1 := 209) rfl rfl (h_gC rfl rfl rfl rfl) rfl ?_
            refine w_p (pc1 := 210) rfl rfl ?_
            refine w_p (pc1 := 211) (st1 := .int 3 :: _) rfl rfl ?_
            refine w_m0 (pc1 := 212) rfl rfl (n_is (e := F) rfl rfl rfl (by omega)) rfl ?_
            refine w_r rfl rfl rfl (fun _ _ => rfl) rfl ?_
            have B1 := TB_p (v := 3) (TB_Y (frY_t y1 f1) B)
            refine ⟨rfl, ⟨_, Or.inr ⟨u, rids u O (σ.1 (rTb u)).1, hG, hK, hb1, hd0, e1, f3, B1, ?_, ?_, fun j x hj => ?_, frQ_t (frY_Q (frY_t y1 f1)) (frQ_I (by omega))⟩, rfl⟩, rfl⟩
            · rw [sI_1, if_neg (by omega)]
              exact f2
            · rw [sI_1, if_neg (by omega), f5, sI_1, if_pos ⟨rfl, rfl⟩]
              rfl
            · rw [sI_1, if_neg (by omega)]
              exact f4 j x hj
      · have e1 : fol1 S (stp S m) b 1 i0 O N i σ = (σ, none) := by rw [e0, hG]; exact if_neg (by rw [hb1]; intro z; exact hbb (Option.some.inj z.1))
        refine w_p (pc1 := 1) rfl rfl ?_
        refine w_m0 (pc1 := 4) rfl rfl (h_gC rfl rfl rfl rfl) rfl ?_
        refine w_p (pc1 := 5) rfl rfl ?_
        refine w_m0 (pc1 := 6) (st1 := .int (nI (i)) :: _) rfl rfl (n_ile (e := F) rfl rfl rfl (by omega) (hs.2.2.2.2.2)) rfl ?_
        refine w_p (pc1 := 7) (al1 := [(2, .int (nI (i))), (0, .ref 176), (1, .int (nI (F)))]) rfl rfl ?_
        refine w_p (pc1 := 8) rfl rfl ?_
        refine w_p (pc1 := 10) (st1 := .int 24 :: _) rfl rfl ?_
        refine w_t (a := 28) (b := 13) (bN_ne_t (a := i) (b := 24) (by omega) (by omega) (by omega)) rfl rfl ?_
        refine w_p (pc1 := 29) rfl rfl ?_
        refine w_m0 (pc1 := 32) rfl rfl (h_gC rfl rfl rfl rfl) rfl ?_
        refine w_p (pc1 := 33) rfl rfl ?_
        refine w_m0 (pc1 := 34) (st1 := .int 1 :: _) rfl rfl (n_ile (e := F) rfl rfl rfl (by omega) (hs.2.1)) rfl ?_
        refine w_p (pc1 := 35) (st1 := .int 2 :: _) rfl rfl ?_
        refine w_t (a := 47) (b := 38) rfl rfl rfl ?_
        refine w_p (pc1 := 48) rfl rfl ?_
        refine w_m0 (pc1 := 51) rfl rfl (h_gC rfl rfl rfl rfl) rfl ?_
        refine w_p (pc1 := 52) rfl rfl ?_
        refine w_m0 (pc1 := 53) (st1 := .int (nI (rUp u)) :: _) rfl rfl (n_ile (e := i) rfl rfl rfl (by omega) (U.2.1.2.2)) rfl ?_
        refine w_p (pc1 := 54) (al1 := [(3, .int (nI (rUp u))), (2, .int (nI (i))), (0, .ref 176), (1, .int (nI (F)))]) rfl rfl ?_
        refine w_p (pc1 := 55) rfl rfl ?_
        refine w_m0 (pc1 := 58) rfl rfl (h_gC rfl rfl rfl rfl) rfl ?_
        refine w_p (pc1 := 59) rfl rfl ?_
        refine w_m0 (pc1 := 60) (st1 := .int 1 :: _) rfl rfl (n_ble (e := i) rfl rfl (by decide) rfl (by omega) (t0)) rfl ?_
        refine w_f (a := 101) (b := 63) rfl rfl rfl ?_
        refine w_p (pc1 := 64) rfl rfl ?_
        refine w_m0 (pc1 := 67) rfl rfl (h_gC rfl rfl rfl rfl) rfl ?_
        refine w_p (pc1 := 68) rfl rfl ?_
        refine w_m0 (pc1 := 69) (st1 := .int (nI (rKd u)) :: _) rfl rfl (n_ile (e := i) rfl rfl rfl (by omega) (U.1.1)) rfl ?_
        refine w_p (pc1 := 70) (st1 := .int 4 :: _) rfl rfl ?_
        refine w_f (a := 101) (b := 73) (bN_ne_f (a := rKd u) (b := 4) (by omega) (by omega) (by omega)) rfl rfl ?_
        refine w_p (pc1 := 74) rfl rfl ?_
        refine w_m0 (pc1 := 77) rfl rfl (h_gC rfl rfl rfl rfl) rfl ?_
        refine w_p (pc1 := 78) rfl rfl ?_
        refine w_m0 (pc1 := 79) (st1 := .int (nI (b2)) :: _) rfl rfl (n_ile (e := i) rfl rfl rfl (by omega) (uto)) rfl ?_
        refine w_p (pc1 := 80) rfl rfl ?_
        refine w_m0 (pc1 := 83) rfl rfl (h_gC rfl rfl rfl rfl) rfl ?_
        refine w_p (pc1 := 84) rfl rfl ?_
        refine w_m0 (pc1 := 85) (st1 := .int (nI (b)) :: _) rfl rfl (n_ile (e := F) rfl rfl rfl (by omega) (hs.2.2.1)) rfl ?_
        refine w_t (a := 101) (b := 88) (bN_ne_t (a := b2) (b := b) (by omega) (by omega) (by omega)) rfl rfl ?_
        refine w_p (pc1 := 102) rfl rfl ?_
        refine w_m0 (pc1 := 105) rfl rfl (h_gC rfl rfl rfl rfl) rfl ?_
        refine w_p (pc1 := 106) rfl rfl ?_
        refine w_p (pc1 := 107) rfl rfl ?_
        refine w_m0 (pc1 := 108) (st1 := .int (nI (i)) :: _) rfl rfl (n_ile (e := F) rfl rfl rfl (by omega) (hs.2.2.2.2.2)) rfl ?_
        refine w_p (pc1 := 109) (st1 := .int 1 :: _) rfl rfl ?_
        refine w_iadd (pc1 := 110) (u := nI (i)) (v := nI (1)) (z := nI (i + 1)) rfl (nK_add) rfl ?_
        refine w_m0 (pc1 := 111) rfl rfl (n_is (e := F) rfl rfl rfl (by omega)) rfl ?_
        refine w_r rfl rfl rfl (fun _ _ => rfl) rfl ?_
        exact ⟨rfl, ⟨_, Or.inl ⟨e1, rfl⟩, rfl⟩, rfl⟩
    · have e1 : fol1 S (stp S m) b 1 i0 O N i σ = (σ, none) := by rw [e0, hG]; exact if_neg (by rw [hR.2.2.1 hK]; intro z; cases z.1)
      refine w_p (pc1 := 1) rfl rfl ?_
      refine w_m0 (pc1 := 4) rfl rfl (h_gC rfl rfl rfl rfl) rfl ?_
      refine w_p (pc1 := 5) rfl rfl ?_
      refine w_m0 (pc1 := 6) (st1 := .int (nI (i)) :: _) rfl rfl (n_ile (e := F) rfl rfl rfl (by omega) (hs.2.2.2.2.2)) rfl ?_
      refine w_p (pc1 := 7) (al1 := [(2, .int (nI (i))), (0, .ref 176), (1, .int (nI (F)))]) rfl rfl ?_
      refine w_p (pc1 := 8) rfl rfl ?_
      refine w_p (pc1 := 10) (st1 := .int 24 :: _) rfl rfl ?_
      refine w_t (a := 28) (b := 13) (bN_ne_t (a := i) (b := 24) (by omega) (by omega) (by omega)) rfl rfl ?_
      refine w_p (pc1 := 29) rfl rfl ?_
      refine w_m0 (pc1 := 32) rfl rfl (h_gC rfl rfl rfl rfl) rfl ?_
      refine w_p (pc1 := 33) rfl rfl ?_
      refine w_m0 (pc1 := 34) (st1 := .int 1 :: _) rfl rfl (n_ile (e := F) rfl rfl rfl (by omega) (hs.2.1)) rfl ?_
      refine w_p (pc1 := 35) (st1 := .int 2 :: _) rfl rfl ?_
      refine w_t (a := 47) (b := 38) rfl rfl rfl ?_
      refine w_p (pc1 := 48) rfl rfl ?_
      refine w_m0 (pc1 := 51) rfl rfl (h_gC rfl rfl rfl rfl) rfl ?_
      refine w_p (pc1 := 52) rfl rfl ?_
      refine w_m0 (pc1 := 53) (st1 := .int (nI (rUp u)) :: _) rfl rfl (n_ile (e := i) rfl rfl rfl (by omega) (U.2.1.2.2)) rfl ?_
      refine w_p (pc1 := 54) (al1 := [(3, .int (nI (rUp u))), (2, .int (nI (i))), (0, .ref 176), (1, .int (nI (F)))]) rfl rfl ?_
      refine w_p (pc1 := 55) rfl rfl ?_
      refine w_m0 (pc1 := 58) rfl rfl (h_gC rfl rfl rfl rfl) rfl ?_
      refine w_p (pc1 := 59) rfl rfl ?_
      refine w_m0 (pc1 := 60) (st1 := .int 1 :: _) rfl rfl (n_ble (e := i) rfl rfl (by decide) rfl (by omega) (t0)) rfl ?_
      refine w_f (a := 101) (b := 63) rfl rfl rfl ?_
      refine w_p (pc1 := 64) rfl rfl ?_
      refine w_m0 (pc1 := 67) rfl rfl (h_gC rfl rfl rfl rfl) rfl ?_
      refine w_p (pc1 := 68) rfl rfl ?_
      refine w_m0 (pc1 := 69) (st1 := .int (nI (rKd u)) :: _) rfl rfl (n_ile (e := i) rfl rfl rfl (by omega) (U.1.1)) rfl ?_
      refine w_p (pc1 := 70) (st1 := .int 4 :: _) rfl rfl ?_
      refine w_t (a := 101) (b := 73) (bN_ne_t (a := rKd u) (b := 4) (by omega) (by omega) (by omega)) rfl rfl ?_
      refine w_p (pc1 := 102) rfl rfl ?_
      refine w_m0 (pc1 := 105) rfl rfl (h_gC rfl rfl rfl rfl) rfl ?_
      refine w_p (pc1 := 106) rfl rfl ?_
      refine w_p (pc1 := 107) rfl rfl ?_
      refine w_m0 (pc1 := 108) (st1 := .int (nI (i)) :: _) rfl rfl (n_ile (e := F) rfl rfl rfl (by omega) (hs.2.2.2.2.2)) rfl ?_
      refine w_p (pc1 := 109) (st1 := .int 1 :: _) rfl rfl ?_
      refine w_iadd (pc1 := 110) (u := nI (i)) (v := nI (1)) (z := nI (i + 1)) rfl (nK_add) rfl ?_
      refine w_m0 (pc1 := 111) rfl rfl (n_is (e := F) rfl rfl rfl (by omega)) rfl ?_
      refine w_r rfl rfl rfl (fun _ _ => rfl) rfl ?_
      exact ⟨rfl, ⟨_, Or.inl ⟨e1, rfl⟩, rfl⟩, rfl⟩
set_option maxRecDepth 100000 in
theorem m_269_2 (hi : i < 24) (hF : F < 39) (hb : b < 6) (ho : okSt S) (B : TB S σ D F b 2 i0 2 (nI i) N O C) : Wd L xs (d + 6) y_269 (0, [(0, .ref 176), (1, .int (nI (F)))], [], MH C t, 0) (QR t (RLd S m b 2 i0 O N σ D F i C)) nX := by
  have hs := B.2.2.1
  have hRu := B.1.2.1 i hi
  have h6b := ho.1 b hb
  have e0 : fol1 S (stp S m) b 2 i0 O N i σ = match sRu S i with | none => (σ, none) | some u => (if rTg u = some b ∧ tch 2 (rOs u) O N = true ∧ dos 2 u ≠ 0 then lop (rf1 S (stp S m) i u (dos 2 u) 2 i0 O N) (rids u O (σ.1 (rTb u)).1) σ else (σ, none)) := rfl
  cases hG : sRu S i with
  | none =>
    rw [hG] at hRu
    have t0 : C.1 83 i = 0 := hRu
    have e1 : fol1 S (stp S m) b 2 i0 O N i σ = (σ, none) := by rw [e0, hG]
    refine w_p (pc1 := 1) rfl rfl ?_
    refine w_m0 (pc1 := 4) rfl rfl (h_gC rfl rfl rfl rfl) rfl ?_
    refine w_p (pc1 := 5) rfl rfl ?_
    refine w_m0 (pc1 := 6) (st1 := .int (nI (i)) :: _) rfl rfl (n_ile (e := F) rfl rfl rfl (by omega) (hs.2.2.2.2.2)) rfl ?_
    refine w_p (pc1 := 7) (al1 := [(2, .int (nI (i))), (0, .ref 176), (1, .int (nI (F)))]) rfl rfl ?_
    refine w_p (pc1 := 8) rfl rfl ?_
    refine w_p (pc1 := 10) (st1 := .int 24 :: _) rfl rfl ?_
    refine w_t (a := 28) (b := 13) (bN_ne_t (a := i) (b := 24) (by omega) (by omega) (by omega)) rfl rfl ?_
    refine w_p (pc1 := 29) rfl rfl ?_
    refine w_m0 (pc1 := 32) rfl rfl (h_gC rfl rfl rfl rfl) rfl ?_
    refine w_p (pc1 := 33) rfl rfl ?_
    refine w_m0 (pc1 := 34) (st1 := .int 2 :: _) rfl rfl (n_ile (e := F) rfl rfl rfl (by omega) (hs.2.1)) rfl ?_
    refine w_p (pc1 := 35) (st1 := .int 2 :: _) rfl rfl ?_
    refine w_f (a := 47) (b := 38) rfl rfl rfl ?_
    refine w_p (pc1 := 39) rfl rfl ?_
    refine w_m0 (pc1 := 42) rfl rfl (h_gC rfl rfl rfl rfl) rfl ?_
    refine w_p (pc1 := 43) rfl rfl ?_
    refine w_m0 (pc1 := 44) rfl rfl (n_il (e := i) rfl rfl rfl (by omega)) rfl ?_
    refine w_p (pc1 := 53) rfl rfl ?_
    refine w_p (pc1 := 54) (al1 := [(3, _), (2, .int (nI (i))), (0, .ref 176), (1, .int (nI (F)))]) rfl rfl ?_
    refine w_p (pc1 := 55) rfl rfl ?_
    refine w_m0 (pc1 := 58) rfl rfl (h_gC rfl rfl rfl rfl) rfl ?_
    refine w_p (pc1 := 59) rfl rfl ?_
    refine w_m0 (pc1 := 60) (st1 := .int 0 :: _) rfl rfl (n_ble (e := i) rfl rfl (by decide) rfl (by omega) (t0)) rfl ?_
    refine w_t (a := 101) (b := 63) rfl rfl rfl ?_
    refine w_p (pc1 := 102) rfl rfl ?_
    refine w_m0 (pc1 := 105) rfl rfl (h_gC rfl rfl rfl rfl) rfl ?_
    refine w_p (pc1 := 106) rfl rfl ?_
    refine w_p (pc1 := 107) rfl rfl ?_
    refine w_m0 (pc1 := 108) (st1 := .int (nI (i)) :: _) rfl rfl (n_ile (e := F) rfl rfl rfl (by omega) (hs.2.2.2.2.2)) rfl ?_
    refine w_p (pc1 := 109) (st1 := .int 1 :: _) rfl rfl ?_
    refine w_iadd (pc1 := 110) (u := nI (i)) (v := nI (1)) (z := nI (i + 1)) rfl (nK_add) rfl ?_
    refine w_m0 (pc1 := 111) rfl rfl (n_is (e := F) rfl rfl rfl (by omega)) rfl ?_
    refine w_r rfl rfl rfl (fun _ _ => rfl) rfl ?_
    exact ⟨rfl, ⟨_, Or.inl ⟨e1, rfl⟩, rfl⟩, rfl⟩
  | some u =>
    rw [hG] at hRu
    obtain ⟨t0, U⟩ : C.1 83 i = 1 ∧ RUM C i u := hRu
    have hR := ho.2.1 i u hi hG
    have hb6 := hR.1.2.1
    have hk4 := hR.1.1
    have hd4 := hR.2.2.2.2
    by_cases hK : rKd u = 4
    · obtain ⟨⟨b2, hb1, hb2, hb3⟩, hll⟩ := hR.2.1 hK
      have uto := U.1.2.2.1
      rw [hb1] at uto
      have uto : C.1 86 i = nI b2 := uto
      by_cases hbb : b2 = b
      · subst hbb
        by_cases hd0 : dos 2 u = 0
        · have e1 : fol1 S (stp S m) b2 2 i0 O N i σ = (σ, none) := by rw [e0, hG]; exact if_neg (fun z => z.2.2 hd0)
          have hd0 : rDl u = 0 := hd0
          refine w_p (pc1 := 1) rfl rfl ?_
          refine w_m0 (pc1 := 4) rfl rfl (h_gC rfl rfl rfl rfl) rfl ?_
          refine w_p (pc1 := 5) rfl rfl ?_
          refine w_m0 (pc1 := 6) (st1 := .int (nI (i)) :: _) rfl rfl (n_ile (e := F) rfl rfl rfl (by omega) (hs.2.2.2.2.2)) rfl ?_
          refine w_p (pc1 := 7) (al1 := [(2, .int (nI (i))), (0, .ref 176), (1, .int (nI (F)))]) rfl rfl ?_
          refine w_p (pc1 := 8) rfl rfl ?_
          refine w_p (pc1 := 10) (st1 := .int 24 :: _) rfl rfl ?_
          refine w_t (a := 28) (b := 13) (bN_ne_t (a := i) (b := 24) (by omega) (by omega) (by omega)) rfl rfl ?_
          refine w_p (pc1 := 29) rfl rfl ?_
          refine w_m0 (pc1 := 32) rfl rfl (h_gC rfl rfl rfl rfl) rfl ?_
          refine w_p (pc1 := 33) rfl rfl ?_
          refine w_m0 (pc1 := 34) (st1 := .int 2 :: _) rfl rfl (n_ile (e := F) rfl rfl rfl (by omega) (hs.2.1)) rfl ?_
          refine w_p (pc1 := 35) (st1 := .int 2 :: _) rfl rfl ?_
          refine w_f (a := 47) (b := 38) rfl rfl rfl ?_
          refine w_p (pc1 := 39) rfl rfl ?_
          refine w_m0 (pc1 := 42) rfl rfl (h_gC rfl rfl rfl rfl) rfl ?_
          refine w_p (pc1 := 43) rfl rfl ?_
          refine w_m0 (pc1 := 44) (st1 := .int (nI (rDl u)) :: _) rfl rfl (n_ile (e := i) rfl rfl rfl (by omega) (U.2.1.2.1)) rfl ?_
          refine w_p (pc1 := 53) rfl rfl ?_
          refine w_p (pc1 := 54) (al1 := [(3, .int (nI (rDl u))), (2, .int (nI (i))), (0, .ref 176), (1, .int (nI (F)))]) rfl rfl ?_
          refine w_p (pc1 := 55) rfl rfl ?_
          refine w_m0 (pc1 := 58) rfl rfl (h_gC rfl rfl rfl rfl) rfl ?_
          refine w_p (pc1 := 59) rfl rfl ?_
          refine w_m0 (pc1 := 60) (st1 := .int 1 :: _) rfl rfl (n_ble (e := i) rfl rfl (by decide) rfl (by omega) (t0)) rfl ?_
          refine w_f (a := 101) (b := 63) rfl rfl rfl ?_
          refine w_p (pc1 := 64) rfl rfl ?_
          refine w_m0 (pc1 := 67) rfl rfl (h_gC rfl rfl rfl rfl) rfl ?_
          refine w_p (pc1 := 68) rfl rfl ?_
          refine w_m0 (pc1 := 69) (st1 := .int (nI (rKd u)) :: _) rfl rfl (n_ile (e := i) rfl rfl rfl (by omega) (U.1.1)) rfl ?_
          refine w_p (pc1 := 70) (st1 := .int 4 :: _) rfl rfl ?_
          refine w_f (a := 101) (b := 73) (bN_ne_f (a := rKd u) (b := 4) (by omega) (by omega) (by omega)) rfl rfl ?_
          refine w_p (pc1 := 74) rfl rfl ?_
          refine w_m0 (pc1 := 77) rfl rfl (h_gC rfl rfl rfl rfl) rfl ?_
          refine w_p (pc1 := 78) rfl rfl ?_
          refine w_m0 (pc1 := 79) (st1 := .int (nI (b2)) :: _) rfl rfl (n_ile (e := i) rfl rfl rfl (by omega) (uto)) rfl ?_
          refine w_p (pc1 := 80) rfl rfl ?_
          refine w_m0 (pc1 := 83) rfl rfl (h_gC rfl rfl rfl rfl) rfl ?_
          refine w_p (pc1 := 84) rfl rfl ?_
          refine w_m0 (pc1 := 85) (st1 := .int (nI (b2)) :: _) rfl rfl (n_ile (e := F) rfl rfl rfl (by omega) (hs.2.2.1)) rfl ?_
          refine w_f (a := 101) (b := 88) (bN_ne_f (a := b2) (b := b2) (by omega) (by omega) (by omega)) rfl rfl ?_
          refine w_p (pc1 := 89) rfl rfl ?_
          refine w_t (a := 101) (b := 92) (bN_eq_t (a := rDl u) (b := 0) (by omega) (by omega) (by omega)) rfl rfl ?_
          refine w_p (pc1 := 102) rfl rfl ?_
          refine w_m0 (pc1 := 105) rfl rfl (h_gC rfl rfl rfl rfl) rfl ?_
          refine w_p (pc1 := 106) rfl rfl ?_
          refine w_p (pc1 := 107) rfl rfl ?_
          refine w_m0 (pc1 := 108) (st1 := .int (nI (i)) :: _) rfl rfl (n_ile (e := F) rfl rfl rfl (by omega) (hs.2.2.2.2.2)) rfl ?_
          refine w_p (pc1 := 109) (st1 := .int 1 :: _) rfl rfl ?_
          refine w_iadd (pc1 := 110) (u := nI (i)) (v := nI (1)) (z := nI (i + 1)) rfl (nK_add) rfl ?_
          refine w_m0 (pc1 := 111) rfl rfl (n_is (e := F) rfl rfl rfl (by omega)) rfl ?_
          refine w_r rfl rfl rfl (fun _ _ => rfl) rfl ?_
          exact ⟨rfl, ⟨_, Or.inl ⟨e1, rfl⟩, rfl⟩, rfl⟩
        · have hdn : rDl u ≠ 0 := hd0
          have hmt := m_270_2 (L := L) (xs := xs) (t := t) (d := d + 5) (sl := 0) (N := N) U hi hR hK hb1 h6b (f := F) (by omega) B.2.2.2.2 hs.2.1
          cases hx : tch 2 (rOs u) O N with
          | false =>
            rw [hx] at hmt
            have e1 : fol1 S (stp S m) b2 2 i0 O N i σ = (σ, none) := by rw [e0, hG]; exact if_neg (by rw [hx]; intro z; cases z.2.1)
            refine w_p (pc1 := 1) rfl rfl ?_
            refine w_m0 (pc1 := 4) rfl rfl (h_gC rfl rfl rfl rfl) rfl ?_
            refine w_p (pc1 := 5) rfl rfl ?_
            refine w_m0 (pc1 := 6) (st1 := .int (nI (i)) :: _) rfl rfl (n_ile (e := F) rfl rfl rfl (by omega) (hs.2.2.2.2.2)) rfl ?_
            refine w_p (pc1 := 7) (al1 := [(2, .int (nI (i))), (0, .ref 176), (1, .int (nI (F)))]) rfl rfl ?_
            refine w_p (pc1 := 8) rfl rfl ?_
            refine w_p (pc1 := 10) (st1 := .int 24 :: _) rfl rfl ?_
            refine w_t (a := 28) (b := 13) (bN_ne_t (a := i) (b := 24) (by omega) (by omega) (by omega)) rfl rfl ?_
            refine w_p (pc1 := 29) rfl rfl ?_
            refine w_m0 (pc1 := 32) rfl rfl (h_gC rfl rfl rfl rfl) rfl ?_
            refine w_p (pc1 := 33) rfl rfl ?_
            refine w_m0 (pc1 := 34) (st1 := .int 2 :: _) rfl rfl (n_ile (e := F) rfl rfl rfl (by omega) (hs.2.1)) rfl ?_
            refine w_p (pc1 := 35) (st1 := .int 2 :: _) rfl rfl ?_
            refine w_f (a := 47) (b := 38) rfl rfl rfl ?_
            refine w_p (pc1 := 39) rfl rfl ?_
            refine w_m0 (pc1 := 42) rfl rfl (h_gC rfl rfl rfl rfl) rfl ?_
            refine w_p (pc1 := 43) rfl rfl ?_
            refine w_m0 (pc1 := 44) (st1 := .int (nI (rDl u)) :: _) rfl rfl (n_ile (e := i) rfl rfl rfl (by omega) (U.2.1.2.1)) rfl ?_
            refine w_p (pc1 := 53) rfl rfl ?_
            refine w_p (pc1 := 54) (al1 := [(3, .int (nI (rDl u))), (2, .int (nI (i))), (0, .ref 176), (1, .int (nI (F)))]) rfl rfl ?_
            refine w_p (pc1 := 55) rfl rfl ?_
            refine w_m0 (pc1 := 58) rfl rfl (h_gC rfl rfl rfl rfl) rfl ?_
            refine w_p (pc1 := 59) rfl rfl ?_
            refine w_m0 (pc1 := 60) (st1 := .int 1 :: _) rfl rfl (n_ble (e := i) rfl rfl (by decide) rfl (by omega) (t0)) rfl ?_
            refine w_f (a := 101) (b := 63) rfl rfl rfl ?_
            refine w_p (pc1 := 64) rfl rfl ?_
            refine w_m0 (pc1 := 67) rfl rfl (h_gC rfl rfl rfl rfl) rfl ?_
            refine w_p (pc1 := 68) rfl rfl ?_
            refine w_m0 (pc1 := 69) (st1 := .int (nI (rKd u)) :: _) rfl rfl (n_ile (e := i) rfl rfl rfl (by omega) (U.1.1)) rfl ?_
            refine w_p (pc1 := 70) (st1 := .int 4 :: _) rfl rfl ?_
            refine w_f (a := 101) (b := 73) (bN_ne_f (a := rKd u) (b := 4) (by omega) (by omega) (by omega)) rfl rfl ?_
            refine w_p (pc1 := 74) rfl rfl ?_
            refine w_m0 (pc1 := 77) rfl rfl (h_gC rfl rfl rfl rfl) rfl ?_
            refine w_p (pc1 := 78) rfl rfl ?_
            refine w_m0 (pc1 := 79) (st1 := .int (nI (b2)) :: _) rfl rfl (n_ile (e := i) rfl rfl rfl (by omega) (uto)) rfl ?_
            refine w_p (pc1 := 80) rfl rfl ?_
            refine w_m0 (pc1 := 83) rfl rfl (h_gC rfl rfl rfl rfl) rfl ?_
            refine w_p (pc1 := 84) rfl rfl ?_
            refine w_m0 (pc1 := 85) (st1 := .int (nI (b2)) :: _) rfl rfl (n_ile (e := F) rfl rfl rfl (by omega) (hs.2.2.1)) rfl ?_
            refine w_f (a := 101) (b := 88) (bN_ne_f (a := b2) (b := b2) (by omega) (by omega) (by omega)) rfl rfl ?_
            refine w_p (pc1 := 89) rfl rfl ?_
            refine w_f (a := 101) (b := 92) (bN_eq_f (a := rDl u) (b := 0) (by omega) (by omega) (by omega)) rfl rfl ?_
            refine w_p (pc1 := 93) rfl rfl ?_
            refine w_p (pc1 := 94) rfl rfl ?_
            refine w_p (pc1 := 95) rfl rfl ?_
            refine w_je (pc1 := 98) (vs := [.ref 176, .int (nI (i)), .int (nI (F))]) (rest := []) (st1 := [.int 0]) (hmt) rfl rfl rfl (fun _ _ => rfl) rfl (by exact cl_v my_270 rfl rfl rfl (Nat.le_of_ble_eq_true rfl) rfl (MH_obj rfl rfl) rfl (by decide) rfl rfl) (by rfl) (Nat.le_of_ble_eq_true rfl) (Nat.le_of_ble_eq_true rfl) rfl (by rfl) ?_
            refine w_f (a := 112) (b := 101) rfl rfl rfl ?_
            refine w_p (pc1 := 102) rfl rfl ?_
            refine w_m0 (pc1 := 105) rfl rfl (h_gC rfl rfl rfl rfl) rfl ?_
            refine w_p (pc1 := 106) rfl rfl ?_
            refine w_p (pc1 := 107) rfl rfl ?_
            refine w_m0 (pc1 := 108) (st1 := .int (nI (i)) :: _) rfl rfl (n_ile (e := F) rfl rfl rfl (by omega) (hs.2.2.2.2.2)) rfl ?_
            refine w_p (pc1 := 109) (st1 := .int 1 :: _) rfl rfl ?_
            refine w_iadd (pc1 := 110) (u := nI (i)) (v := nI (1)) (z := nI (i + 1)) rfl (nK_add) rfl ?_
            refine w_m0 (pc1 := 111) rfl rfl (n_is (e := F) rfl rfl rfl (by omega)) rfl ?_
            refine w_r rfl rfl rfl (fun _ _ => rfl) rfl ?_
            exact ⟨rfl, ⟨_, Or.inl ⟨e1, rfl⟩, rfl⟩, rfl⟩
          | true =>
            rw [hx] at hmt
            have e1 : fol1 S (stp S m) b2 2 i0 O N i σ = lop (rf1 S (stp S m) i u (dos 2 u) 2 i0 O N) (rids u O (σ.1 (rTb u)).1) σ := by rw [e0, hG]; exact if_pos ⟨hb1, hx, hd0⟩
            have y1 : frY F C (sI (sI C 134 F 0) 135 F 0) := frY_t (frY_m (by omega)) (frY_m (by omega))
            have ut : (sI (sI C 134 F 0) 135 F 0).1 85 i = nI (rTb u) := by rw [sI_1, if_neg (by omega), sI_1, if_neg (by omega)]; exact U.1.2.1
            refine w_p (pc1 := 1) rfl rfl ?_
            refine w_m0 (pc1 := 4) rfl rfl (h_gC rfl rfl rfl rfl) rfl ?_
            refine w_p (pc1 := 5) rfl rfl ?_
            refine w_m0 (pc1 := 6) (st1 := .int (nI (i)) :: _) rfl rfl (n_ile (e := F) rfl rfl rfl (by omega) (hs.2.2.2.2.2)) rfl ?_
            refine w_p (pc1 := 7) (al1 := [(2, .int (nI (i))), (0, .ref 176), (1, .int (nI (F)))]) rfl rfl ?_
            refine w_p (pc1 := 8) rfl rfl ?_
            refine w_p (pc1 := 10) (st1 := .int 24 :: _) rfl rfl ?_
            refine w_t (a := 28) (b := 13) (bN_ne_t (a := i) (b := 24) (by omega) (by omega) (by omega)) rfl rfl ?_
            refine w_p (pc1 := 29) rfl rfl ?_
            refine w_m0 (pc1 := 32) rfl rfl (h_gC rfl rfl rfl rfl) rfl ?_
            refine w_p (pc1 := 33) rfl rfl ?_
            refine w_m0 (pc1 := 34) (st1 := .int 2 :: _) rfl rfl (n_ile (e := F) rfl rfl rfl (by omega) (hs.2.1)) rfl ?_
            refine w_p (pc1 := 35) (st1 := .int 2 :: _) rfl rfl ?_
            refine w_f (a := 47) (b := 38) rfl rfl rfl ?_
            refine w_p (pc1 := 39) rfl rfl ?_
            refine w_m0 (pc1 := 42) rfl rfl (h_gC rfl rfl rfl rfl) rfl ?_
            refine w_p (pc1 := 43) rfl rfl ?_
            refine w_m0 (pc1 := 44) (st1 := .int (nI (rDl u)) :: _) rfl rfl (n_ile (e := i) rfl rfl rfl (by omega) (U.2.1.2.1)) rfl ?_
            refine w_p (pc1 := 53) rfl rfl ?_
            refine w_p (pc1 := 54) (al1 := [(3, .int (nI (rDl u))), (2, .int (nI (i))), (0, .ref 176), (1, .int (nI (F)))]) rfl rfl ?_
            refine w_p (pc1 := 55) rfl rfl ?_
            refine w_m0 (pc1 := 58) rfl rfl (h_gC rfl rfl rfl rfl) rfl ?_
            refine w_p (pc1 := 59) rfl rfl ?_
            refine w_m0 (pc1 := 60) (st1 := .int 1 :: _) rfl rfl (n_ble (e := i) rfl rfl (by decide) rfl (by omega) (t0)) rfl ?_
            refine w_f (a := 101) (b := 63) rfl rfl rfl ?_
            refine w_p (pc1 := 64) rfl rfl ?_
            refine w_m0 (pc1 := 67) rfl rfl (h_gC rfl rfl rfl rfl) rfl ?_
            refine w_p (pc1 := 68) rfl rfl ?_
            refine w_m0 (pc1 := 69) (st1 := .int (nI (rKd u)) :: _) rfl rfl (n_ile (e := i) rfl rfl rfl (by omega) (U.1.1)) rfl ?_
            refine w_p (pc1 := 70) (st1 := .int 4 :: _) rfl rfl ?_
            refine w_f (a := 101) (b := 73) (bN_ne_f (a := rKd u) (b := 4) (by omega) (by omega) (by omega)) rfl rfl ?_
            refine w_p (pc1 := 74) rfl rfl ?_
            refine w_m0 (pc1 := 77) rfl rfl (h_gC rfl rfl rfl rfl) rfl ?_
            refine w_p (pc1 := 78) rfl rfl ?_
            refine w_m0 (pc1 := 79) (st1 := .int (nI (b2)) :: _) rfl rfl (n_ile (e := i) rfl rfl rfl (by omega) (uto)) rfl ?_
            refine w_p (pc1 := 80) rfl rfl ?_
            refine w_m0 (pc1 := 83) rfl rfl (h_gC rfl rfl rfl rfl) rfl ?_
            refine w_p (pc1 := 84) rfl rfl ?_
            refine w_m0 (pc1 := 85) (st1 := .int (nI (b2)) :: _) rfl rfl (n_ile (e := F) rfl rfl rfl (by omega) (hs.2.2.1)) rfl ?_
            refine w_f (a := 101) (b := 88) (bN_ne_f (a := b2) (b := b2) (by omega) (by omega) (by omega)) rfl rfl ?_
            refine w_p (pc1 := 89) rfl rfl ?_
            refine w_f (a := 101) (b := 92) (bN_eq_f (a := rDl u) (b := 0) (by omega) (by omega) (by omega)) rfl rfl ?_
            refine w_p (pc1 := 93) rfl rfl ?_
            refine w_p (pc1 := 94) rfl rfl ?_
            refine w_p (pc1 := 95) rfl rfl ?_
            refine w_je (pc1 := 98) (vs := [.ref 176, .int (nI (i)), .int (nI (F))]) (rest := []) (st1 := [.int 1]) (hmt) rfl rfl rfl (fun _ _ => rfl) rfl (by exact cl_v my_270 rfl rfl rfl (Nat.le_of_ble_eq_true rfl) rfl (MH_obj rfl rfl) rfl (by decide) rfl rfl) (by rfl) (Nat.le_of_ble_eq_true rfl) (Nat.le_of_ble_eq_true rfl) rfl (by rfl) ?_
            refine w_t (a := 112) (b := 101) rfl rfl rfl ?_
            refine w_p (pc1 := 113) rfl rfl ?_
            refine w_m0 (pc1 := 116) rfl rfl (h_gC rfl rfl rfl rfl) rfl ?_
            refine w_p (pc1 := 117) rfl rfl ?_
            refine w_p (pc1 := 118) (st1 := .int 0 :: _) rfl rfl ?_
            refine w_m0 (pc1 := 119) rfl rfl (n_is (e := F) rfl rfl rfl (by omega)) rfl ?_
            refine w_p (pc1 := 120) rfl rfl ?_
            refine w_m0 (pc1 := 123) rfl rfl (h_gC rfl rfl rfl rfl) rfl ?_
            refine w_p (pc1 := 124) rfl rfl ?_
            refine w_p (pc1 := 125) (st1 := .int 0 :: _) rfl rfl ?_
            refine w_m0 (pc1 := 126) rfl rfl (n_is (e := F) rfl rfl rfl (by omega)) rfl ?_
            refine w_p (pc1 := 127) rfl rfl ?_
            refine w_m0 (pc1 := 130) rfl rfl (h_gC rfl rfl rfl rfl) rfl ?_
            refine w_p (pc1 := 131) rfl rfl ?_
            refine w_m0 (pc1 := 132) (st1 := .int (nI (rTb u)) :: _) rfl rfl (n_ile (e := i) rfl rfl rfl (by omega) (ut)) rfl ?_
            refine w_p (pc1 := 134) (al1 := [(4, .int (nI (rTb u))), (3, .int (nI (rDl u))), (2, .int (nI (i))), (0, .ref 176), (1, .int (nI (F)))]) rfl rfl ?_
            refine w_p (pc1 := 135) (st1 := .int 0 :: _) rfl rfl ?_
            refine w_p (pc1 := 137) (al1 := [(5, .int 0), (4, .int (nI (rTb u))), (3, .int (nI (rDl u))), (2, .int (nI (i))), (0, .ref 176), (1, .int (nI (F)))]) rfl rfl ?_
            refine lp_269 (C0 := sI (sI C 134 F 0) 135 F 0) (ac := rDl u) (V0 := rids u O (σ.1 (rTb u)).1) hF hi ho hR hK hb1 hb2 (RWM_V (frY_V y1) B.2.1.1) (RUM_Q (frY_Q y1) U) B.2.2.2.2 (fun C1 f1 f2 f3 f4 f5 => ?_) (σ.1 (rTb u)).1 [] [] _ rfl rfl (Nat.le_refl _) frY_r (by rw [sI_1, if_neg (by omega), sI_1, if_pos ⟨rfl, rfl⟩]; rfl) (fun j x hj => by cases hj) rfl
            refine w_p (pc1 := 206) rfl rfl ?_
            refine w_m0 (pc1 := 209) rfl rfl (h_gC rfl rfl rfl rfl) rfl ?_
            refine w_p (pc1 := 210) rfl rfl ?_
            refine w_p (pc1 := 211) (st1 := .int 3 :: _) rfl rfl ?_
            refine w_m0 (pc1 := 212) rfl rfl (n_is (e := F) rfl rfl rfl (by omega)) rfl ?_
            refine w_r rfl rfl rfl (fun _ _ => rfl) rfl ?_
            have B1 := TB_p (v := 3) (TB_Y (frY_t y1 f1) B)
            refine ⟨rfl, ⟨_, Or.inr ⟨u, rids u O (σ.1 (rTb u)).1, hG, hK, hb1, hd0, e1, f3, B1, ?_, ?_, fun j x hj => ?_, frQ_t (frY_Q (frY_t y1 f1)) (frQ_I (by omega))⟩, rfl⟩, rfl⟩
            · rw [sI_1, if_neg (by omega)]
              exact f2
            · rw [sI_1, if_neg (by omega), f5, sI_1, if_pos ⟨rfl, rfl⟩]
              rfl
            · rw [sI_1, if_neg (by omega)]
              exact f4 j x hj
      · have e1 : fol1 S (stp S m) b 2 i0 O N i σ = (σ, none) := by rw [e0, hG]; exact if_neg (by rw [hb1]; intro z; exact hbb (Option.some.inj z.1))
        refine w_p (pc1 := 1) rfl rfl ?_
        refine w_m0 (pc1 := 4) rfl rfl (h_gC rfl rfl rfl rfl) rfl ?_
        refine w_p (pc1 := 5) rfl rfl ?_
        refine w_m0 (pc1 := 6) (st1 := .int (nI (i)) :: _) rfl rfl (n_ile (e := F) rfl rfl rfl (by omega) (hs.2.2.2.2.2)) rfl ?_
        refine w_p (pc1 := 7) (al1 := [(2, .int (nI (i))), (0, .ref 176), (1, .int (nI (F)))]) rfl rfl ?_
        refine w_p (pc1 := 8) rfl rfl ?_
        refine w_p (pc1 := 10) (st1 := .int 24 :: _) rfl rfl ?_
        refine w_t (a := 28) (b := 13) (bN_ne_t (a := i) (b := 24) (by omega) (by omega) (by omega)) rfl rfl ?_
        refine w_p (pc1 := 29) rfl rfl ?_
        refine w_m0 (pc1 := 32) rfl rfl (h_gC rfl rfl rfl rfl) rfl ?_
        refine w_p (pc1 := 33) rfl rfl ?_
        refine w_m0 (pc1 := 34) (st1 := .int 2 :: _) rfl rfl (n_ile (e := F) rfl rfl rfl (by omega) (hs.2.1)) rfl ?_
        refine w_p (pc1 := 35) (st1 := .int 2 :: _) rfl rfl ?_
        refine w_f (a := 47) (b := 38) rfl rfl rfl ?_
        refine w_p (pc1 := 39) rfl rfl ?_
        refine w_m0 (pc1 := 42) rfl rfl (h_gC rfl rfl rfl rfl) rfl ?_
        refine w_p (pc1 := 43) rfl rfl ?_
        refine w_m0 (pc1 := 44) (st1 := .int (nI (rDl u)) :: _) rfl rfl (n_ile (e := i) rfl rfl rfl (by omega) (U.2.1.2.1)) rfl ?_
        refine w_p (pc1 := 53) rfl rfl ?_
        refine w_p (pc1 := 54) (al1 := [(3, .int (nI (rDl u))), (2, .int (nI (i))), (0, .ref 176), (1, .int (nI (F)))]) rfl rfl ?_
        refine w_p (pc1 := 55) rfl rfl ?_
        refine w_m0 (pc1 := 58) rfl rfl (h_gC rfl rfl rfl rfl) rfl ?_
        refine w_p (pc1 := 59) rfl rfl ?_
        refine w_m0 (pc1 := 60) (st1 := .int 1 :: _) rfl rfl (n_ble (e := i) rfl rfl (by decide) rfl (by omega) (t0)) rfl ?_
        refine w_f (a := 101) (b := 63) rfl rfl rfl ?_
        refine w_p (pc1 := 64) rfl rfl ?_
        refine w_m0 (pc1 := 67) rfl rfl (h_gC rfl rfl rfl rfl) rfl ?_
        refine w_p (pc1 := 68) rfl rfl ?_
        refine w_m0 (pc1 := 69) (st1 := .int (nI (rKd u)) :: _) rfl rfl (n_ile (e := i) rfl rfl rfl (by omega) (U.1.1)) rfl ?_
        refine w_p (pc1 := 70) (st1 := .int 4 :: _) rfl rfl ?_
        refine w_f (a := 101) (b := 73) (bN_ne_f (a := rKd u) (b := 4) (by omega) (by omega) (by omega)) rfl rfl ?_
        refine w_p (pc1 := 74) rfl rfl ?_
        refine w_m0 (pc1 := 77) rfl rfl (h_gC rfl rfl rfl rfl) rfl ?_
        refine w_p (pc1 := 78) rfl rfl ?_
        refine w_m0 (pc1 := 79) (st1 := .int (nI (b2)) :: _) rfl rfl (n_ile (e := i) rfl rfl rfl (by omega) (uto)) rfl ?_
        refine w_p (pc1 := 80) rfl rfl ?_
        refine w_m0 (pc1 := 83) rfl rfl (h_gC rfl rfl rfl rfl) rfl ?_
        refine w_p (pc1 := 84) rfl rfl ?_
        refine w_m0 (pc1 := 85) (st1 := .int (nI (b)) :: _) rfl rfl (n_ile (e := F) rfl rfl rfl (by omega) (hs.2.2.1)) rfl ?_
        refine w_t (a := 101) (b := 88) (bN_ne_t (a := b2) (b := b) (by omega) (by omega) (by omega)) rfl rfl ?_
        refine w_p (pc1 := 102) rfl rfl ?_
        refine w_m0 (pc1 := 105) rfl rfl (h_gC rfl rfl rfl rfl) rfl ?_
        refine w_p (pc1 := 106) rfl rfl ?_
        refine w_p (pc1 := 107) rfl rfl ?_
        refine w_m0 (pc1 := 108) (st1 := .int (nI (i)) :: _) rfl rfl (n_ile (e := F) rfl rfl rfl (by omega) (hs.2.2.2.2.2)) rfl ?_
        refine w_p (pc1 := 109) (st1 := .int 1 :: _) rfl rfl ?_
        refine w_iadd (pc1 := 110) (u := nI (i)) (v := nI (1)) (z := nI (i + 1)) rfl (nK_add) rfl ?_
        refine w_m0 (pc1 := 111) rfl rfl (n_is (e := F) rfl rfl rfl (by omega)) rfl ?_
        refine w_r rfl rfl rfl (fun _ _ => rfl) rfl ?_
        exact ⟨rfl, ⟨_, Or.inl ⟨e1, rfl⟩, rfl⟩, rfl⟩
    · have e1 : fol1 S (stp S m) b 2 i0 O N i σ = (σ, none) := by rw [e0, hG]; exact if_neg (by rw [hR.2.2.1 hK]; intro z; cases z.1)
      refine w_p (pc1 := 1) rfl rfl ?_
      refine w_m0 (pc1 := 4) rfl rfl (h_gC rfl rfl rfl rfl) rfl ?_
      refine w_p (pc1 := 5) rfl rfl ?_
      refine w_m0 (pc1 := 6) (st1 := .int (nI (i)) :: _) rfl rfl (n_ile (e := F) rfl rfl rfl (by omega) (hs.2.2.2.2.2)) rfl ?_
      refine w_p (pc1 := 7) (al1 := [(2, .int (nI (i))), (0, .ref 176), (1, .int (nI (F)))]) rfl rfl ?_
      refine w_p (pc1 := 8) rfl rfl ?_
      refine w_p (pc1 := 10) (st1 := .int 24 :: _) rfl rfl ?_
      refine w_t (a := 28) (b := 13) (bN_ne_t (a := i) (b := 24) (by omega) (by omega) (by omega)) rfl rfl ?_
      refine w_p (pc1 := 29) rfl rfl ?_
      refine w_m0 (pc1 := 32) rfl rfl (h_gC rfl rfl rfl rfl) rfl ?_
      refine w_p (pc1 := 33) rfl rfl ?_
      refine w_m0 (pc1 := 34) (st1 := .int 2 :: _) rfl rfl (n_ile (e := F) rfl rfl rfl (by omega) (hs.2.1)) rfl ?_
      refine w_p (pc1 := 35) (st1 := .int 2 :: _) rfl rfl ?_
      refine w_f (a := 47) (b := 38) rfl rfl rfl ?_
      refine w_p (pc1 := 39) rfl rfl ?_
      refine w_m0 (pc1 := 42) rfl rfl (h_gC rfl rfl rfl rfl) rfl ?_
      refine w_p (pc1 := 43) rfl rfl ?_
      refine w_m0 (pc1 := 44) (st1 := .int (nI (rDl u)) :: _) rfl rfl (n_ile (e := i) rfl rfl rfl (by omega) (U.2.1.2.1)) rfl ?_
      refine w_p (pc1 := 53) rfl rfl ?_
      refine w_p (pc1 := 54) (al1 := [(3, .int (nI (rDl u))), (2, .int (nI (i))), (0, .ref 176), (1, .int (nI (F)))]) rfl rfl ?_
      refine w_p (pc1 := 55) rfl rfl ?_
      refine w_m0 (pc1 := 58) rfl rfl (h_gC rfl rfl rfl rfl) rfl ?_
      refine w_p (pc1 := 59) rfl rfl ?_
      refine w_m0 (pc1 := 60) (st1 := .int 1 :: _) rfl rfl (n_ble (e := i) rfl rfl (by decide) rfl (by omega) (t0)) rfl ?_
      refine w_f (a := 101) (b := 63) rfl rfl rfl ?_
      refine w_p (pc1 := 64) rfl rfl ?_
      refine w_m0 (pc1 := 67) rfl rfl (h_gC rfl rfl rfl rfl) rfl ?_
      refine w_p (pc1 := 68) rfl rfl ?_
      refine w_m0 (pc1 := 69) (st1 := .int (nI (rKd u)) :: _) rfl rfl (n_ile (e := i) rfl rfl rfl (by omega) (U.1.1)) rfl ?_
      refine w_p (pc1 := 70) (st1 := .int 4 :: _) rfl rfl ?_
      refine w_t (a := 101) (b := 73) (bN_ne_t (a := rKd u) (b := 4) (by omega) (by omega) (by omega)) rfl rfl ?_
      refine w_p (pc1 := 102) rfl rfl ?_
      refine w_m0 (pc1 := 105) rfl rfl (h_gC rfl rfl rfl rfl) rfl ?_
      refine w_p (pc1 := 106) rfl rfl ?_
      refine w_p (pc1 := 107) rfl rfl ?_
      refine w_m0 (pc1 := 108) (st1 := .int (nI (i)) :: _) rfl rfl (n_ile (e := F) rfl rfl rfl (by omega) (hs.2.2.2.2.2)) rfl ?_
      refine w_p (pc1 := 109) (st1 := .int 1 :: _) rfl rfl ?_
      refine w_iadd (pc1 := 110) (u := nI (i)) (v := nI (1)) (z := nI (i + 1)) rfl (nK_add) rfl ?_
      refine w_m0 (pc1 := 111) rfl rfl (n_is (e := F) rfl rfl rfl (by omega)) rfl ?_
      refine w_r rfl rfl rfl (fun _ _ => rfl) rfl ?_
      exact ⟨rfl, ⟨_, Or.inl ⟨e1, rfl⟩, rfl⟩, rfl⟩
set_option maxRecDepth 100000 in
theorem m_272e (hF : F < 40) (h1 : C.1 132 F = nI i) (hi : i < 24) (hn : n ≤ 40) (h2 : C.1 134 F = nI n) (h3 : C.1 135 F = nI n) : Wd L xs d y_272 (0, [(0, .ref 176), (1, .int (nI (F)))], [], MH C t, 0) (QR t (fun C' => sI (sI C 132 F (nI (i + 1))) 131 F 2 = C')) nX := by
  refine w_p (pc1 := 1) rfl rfl ?_
  refine w_m0 (pc1 := 4) rfl rfl (h_gC rfl rfl rfl rfl) rfl ?_
  refine w_p (pc1 := 5) rfl rfl ?_
  refine w_m0 (pc1 := 6) (st1 := .int (nI (i)) :: _) rfl rfl (n_ile (e := F) rfl rfl rfl (by omega) (h1)) rfl ?_
  refine w_p (pc1 := 7) (al1 := [(2, .int (nI (i))), (0, .ref 176), (1, .int (nI (F)))]) rfl rfl ?_
  refine w_p (pc1 := 8) rfl rfl ?_
  refine w_m0 (pc1 := 11) rfl rfl (h_gC rfl rfl rfl rfl) rfl ?_
  refine w_p (pc1 := 12) rfl rfl ?_
  refine w_m0 (pc1 := 13) (st1 := .int (nI (n)) :: _) rfl rfl (n_ile (e := F) rfl rfl rfl (by omega) (h3)) rfl ?_
  refine w_p (pc1 := 14) rfl rfl ?_
  refine w_m0 (pc1 := 17) rfl rfl (h_gC rfl rfl rfl rfl) rfl ?_
  refine w_p (pc1 := 18) rfl rfl ?_
  refine w_m0 (pc1 := 19) (st1 := .int (nI (n)) :: _) rfl rfl (n_ile (e := F) rfl rfl rfl (by omega) (h2)) rfl ?_
  refine w_f (a := 40) (b := 22) (bN_ne_f (a := n) (b := n) (by omega) (by omega) (by omega)) rfl rfl ?_
  refine w_p (pc1 := 23) rfl rfl ?_
  refine w_m0 (pc1 := 26) rfl rfl (h_gC rfl rfl rfl rfl) rfl ?_
  refine w_p (pc1 := 27) rfl rfl ?_
  refine w_p (pc1 := 28) rfl rfl ?_
  refine w_m0 (pc1 := 29) (st1 := .int (nI (i)) :: _) rfl rfl (n_ile (e := F) rfl rfl rfl (by omega) (h1)) rfl ?_
  refine w_p (pc1 := 30) (st1 := .int 1 :: _) rfl rfl ?_
  refine w_iadd (pc1 := 31) (u := nI (i)) (v := nI (1)) (z := nI (i + 1)) rfl (nK_add) rfl ?_
  refine w_m0 (pc1 := 32) rfl rfl (n_is (e := F) rfl rfl rfl (by omega)) rfl ?_
  refine w_p (pc1 := 33) rfl rfl ?_
  refine w_m0 (pc1 := 36) rfl rfl (h_gC rfl rfl rfl rfl) rfl ?_
  refine w_p (pc1 := 37) rfl rfl ?_
  refine w_p (pc1 := 38) (st1 := .int 2 :: _) rfl rfl ?_
  refine w_m0 (pc1 := 39) rfl rfl (n_is (e := F) rfl rfl rfl (by omega)) rfl ?_
  refine w_r rfl rfl rfl (fun _ _ => rfl) rfl ?_
  exact ⟨rfl, ⟨_, rfl, rfl⟩, rfl⟩
set_option maxRecDepth 100000 in
theorem m_272n (hi : i < 24) (hF : F < 38) (hb : b < 6) (ho : okSt S) (U : RUM C i u) (hR : okR (sWd S) u) (hK : rKd u = 4) (hb1 : rTg u = some b) {at_ : Nat} (hn : n ≤ 40) (hat : at_ < n) (h134 : C.1 134 F = nI n) (h135 : C.1 135 F = nI at_) (hid : C.1 133 (40 * F + at_) = jj) (B : TB S σ D F b kd i0 3 (nI i) N O C) (hfd : fdr jj (σ.1 (rTb u)).1 0 = none) : Wd L xs (d + 6) y_272 (0, [(0, .ref 176), (1, .int (nI (F)))], [], MH C t, 0) (QR t (fun C' => sI C 135 F (nI (at_ + 1)) = C')) nX := by
  have hs := B.2.2.1
  have hb6 := hR.1.2.1
  have h6b := ho.1 b hb
  have y1 : frY F C (sI C 135 F (nI (at_ + 1))) := frY_m (by omega)
  have U1 := RUM_Q (frY_Q y1) U
  have B1 := TB_Y y1 B
  have ut := U.1.2.1
  have hm1 := m_261 (L := L) (xs := xs) (t := t) (d := d + 5) (sl := 0) (ii := jj) B1.2.1.1 hb6
  rw [hfd] at hm1
  refine w_p (pc1 := 1) rfl rfl ?_
  refine w_m0 (pc1 := 4) rfl rfl (h_gC rfl rfl rfl rfl) rfl ?_
  refine w_p (pc1 := 5) rfl rfl ?_
  refine w_m0 (pc1 := 6) (st1 := .int (nI (i)) :: _) rfl rfl (n_ile (e := F) rfl rfl rfl (by omega) (hs.2.2.2.2.2)) rfl ?_
  refine w_p (pc1 := 7) (al1 := [(2, .int (nI (i))), (0, .ref 176), (1, .int (nI (F)))]) rfl rfl ?_
  refine w_p (pc1 := 8) rfl rfl ?_
  refine w_m0 (pc1 := 11) rfl rfl (h_gC rfl rfl rfl rfl) rfl ?_
  refine w_p (pc1 := 12) rfl rfl ?_
  refine w_m0 (pc1 := 13) (st1 := .int (nI (at_)) :: _) rfl rfl (n_ile (e := F) rfl rfl rfl (by omega) (h135)) rfl ?_
  refine w_p (pc1 := 14) rfl rfl ?_
  refine w_m0 (pc1 := 17) rfl rfl (h_gC rfl rfl rfl rfl) rfl ?_
  refine w_p (pc1 := 18) rfl rfl ?_
  refine w_m0 (pc1 := 19) (st1 := .int (nI (n)) :: _) rfl rfl (n_ile (e := F) rfl rfl rfl (by omega) (h134)) rfl ?_
  refine w_t (a := 40) (b := 22) (bN_ne_t (a := at_) (b := n) (by omega) (by omega) (by omega)) rfl rfl ?_
  refine w_p (pc1 := 41) rfl rfl ?_
  refine w_m0 (pc1 := 44) rfl rfl (h_gC rfl rfl rfl rfl) rfl ?_
  refine w_p (pc1 := 45) rfl rfl ?_
  refine w_m0 (pc1 := 46) (st1 := .int (nI (rTb u)) :: _) rfl rfl (n_ile (e := i) rfl rfl rfl (by omega) (ut)) rfl ?_
  refine w_p (pc1 := 47) (al1 := [(3, .int (nI (rTb u))), (2, .int (nI (i))), (0, .ref 176), (1, .int (nI (F)))]) rfl rfl ?_
  refine w_p (pc1 := 48) rfl rfl ?_
  refine w_m0 (pc1 := 51) rfl rfl (h_gC rfl rfl rfl rfl) rfl ?_
  refine w_p (pc1 := 53) (st1 := .int 40 :: _) rfl rfl ?_
  refine w_p (pc1 := 54) rfl rfl ?_
  refine w_imul (pc1 := 55) (u := nI (40)) (v := nI (F)) (z := nI (40 * F)) rfl (nK_mul) rfl ?_
  refine w_p (pc1 := 56) rfl rfl ?_
  refine w_m0 (pc1 := 59) rfl rfl (h_gC rfl rfl rfl rfl) rfl ?_
  refine w_p (pc1 := 60) rfl rfl ?_
  refine w_m0 (pc1 := 61) (st1 := .int (nI (at_)) :: _) rfl rfl (n_ile (e := F) rfl rfl rfl (by omega) (h135)) rfl ?_
  refine w_iadd (pc1 := 62) (u := nI (40 * F)) (v := nI (at_)) (z := nI (40 * F + (at_))) rfl (nK_add) rfl ?_
  refine w_m0 (pc1 := 63) (st1 := .int (jj) :: _) rfl rfl (n_ile (e := 40 * F + (at_)) rfl rfl rfl (by omega) (hid)) rfl ?_
  refine w_p (pc1 := 65) (al1 := [(4, .int (jj)), (3, .int (nI (rTb u))), (2, .int (nI (i))), (0, .ref 176), (1, .int (nI (F)))]) rfl rfl ?_
  refine w_p (pc1 := 66) rfl rfl ?_
  refine w_m0 (pc1 := 69) rfl rfl (h_gC rfl rfl rfl rfl) rfl ?_
  refine w_p (pc1 := 70) rfl rfl ?_
  refine w_p (pc1 := 71) rfl rfl ?_
  refine w_m0 (pc1 := 72) (st1 := .int (nI (at_)) :: _) rfl rfl (n_ile (e := F) rfl rfl rfl (by omega) (h135)) rfl ?_
  refine w_p (pc1 := 73) (st1 := .int 1 :: _) rfl rfl ?_
  refine w_iadd (pc1 := 74) (u := nI (at_)) (v := nI (1)) (z := nI (at_ + 1)) rfl (nK_add) rfl ?_
  refine w_m0 (pc1 := 75) rfl rfl (n_is (e := F) rfl rfl rfl (by omega)) rfl ?_
  refine w_p (pc1 := 76) rfl rfl ?_
  refine w_p (pc1 := 77) rfl rfl ?_
  refine w_p (pc1 := 79) rfl rfl ?_
  refine w_je (pc1 := 82) (vs := [.ref 176, .int (nI (rTb u)), .int (jj)]) (rest := []) (st1 := [.int (-1)]) (hm1) rfl rfl rfl (fun _ _ => rfl) rfl (by exact cl_v my_261 rfl rfl rfl (Nat.le_of_ble_eq_true rfl) rfl (MH_obj rfl rfl) rfl (by decide) rfl rfl) (by rfl) (Nat.le_of_ble_eq_true rfl) (Nat.le_of_ble_eq_true rfl) rfl (by rfl) ?_
  refine w_p (pc1 := 84) (al1 := [(5, .int (-1)), (4, .int (jj)), (3, .int (nI (rTb u))), (2, .int (nI (i))), (0, .ref 176), (1, .int (nI (F)))]) rfl rfl ?_
  refine w_p (pc1 := 86) rfl rfl ?_
  refine w_p (pc1 := 87) (st1 := .int (-1) :: _) rfl rfl ?_
  refine w_t (a := 101) (b := 90) rfl rfl rfl ?_
  refine w_r rfl rfl rfl (fun _ _ => rfl) rfl ?_
  exact ⟨rfl, ⟨_, rfl, rfl⟩, rfl⟩
set_option maxRecDepth 100000 in
theorem m_272f_1 (hi : i < 24) (hF : F < 38) (hb : b < 6) (ho : okSt S) (U : RUM C i u) (hR : okR (sWd S) u) (hK : rKd u = 4) (hb1 : rTg u = some b) {at_ : Nat} (hn : n ≤ 40) (hat : at_ < n) (h134 : C.1 134 F = nI n) (h135 : C.1 135 F = nI at_) (hid : C.1 133 (40 * F + at_) = jj) (B : TB S σ D F b 1 i0 3 (nI i) N O C) (hfd : fdr jj (σ.1 (rTb u)).1 0 = some (k, r)) (hx : rfg u O r = false) : Wd L xs (d + 6) y_272 (0, [(0, .ref 176), (1, .int (nI (F)))], [], MH C t, 0) (QR t (fun C' => sI C 135 F (nI (at_ + 1)) = C')) nX := by
  have hs := B.2.2.1
  have hb6 := hR.1.2.1
  have h6b := ho.1 b hb
  have y1 : frY F C (sI C 135 F (nI (at_ + 1))) := frY_m (by omega)
  have U1 := RUM_Q (frY_Q y1) U
  have B1 := TB_Y y1 B
  have ut := U.1.2.1
  have hm1 := m_261 (L := L) (xs := xs) (t := t) (d := d + 5) (sl := 0) (ii := jj) B1.2.1.1 hb6
  rw [hfd] at hm1
  obtain ⟨_, hr0, hri⟩ := fdr_s hfd
  rw [Nat.sub_zero] at hr0
  have hkl := get_lt hr0
  obtain ⟨g1, g2, g3, g4⟩ := B1.2.1.1 (rTb u) hb6
  have hrf := m_271 (L := L) (xs := xs) (t := t) (d := d + 4) (sl := 0) B1.2.1.1 U1 hi hR hK hb1 h6b (f := F) (by omega) B1.2.2.2.2 hr0
  rw [hx] at hrf
  refine w_p (pc1 := 1) rfl rfl ?_
  refine w_m0 (pc1 := 4) rfl rfl (h_gC rfl rfl rfl rfl) rfl ?_
  refine w_p (pc1 := 5) rfl rfl ?_
  refine w_m0 (pc1 := 6) (st1 := .int (nI (i)) :: _) rfl rfl (n_ile (e := F) rfl rfl rfl (by omega) (hs.2.2.2.2.2)) rfl ?_
  refine w_p (pc1 := 7) (al1 := [(2, .int (nI (i))), (0, .ref 176), (1, .int (nI (F)))]) rfl rfl ?_
  refine w_p (pc1 := 8) rfl rfl ?_
  refine w_m0 (pc1 := 11) rfl rfl (h_gC rfl rfl rfl rfl) rfl ?_
  refine w_p (pc1 := 12) rfl rfl ?_
  refine w_m0 (pc1 := 13) (st1 := .int (nI (at_)) :: _) rfl rfl (n_ile (e := F) rfl rfl rfl (by omega) (h135)) rfl ?_
  refine w_p (pc1 := 14) rfl rfl ?_
  refine w_m0 (pc1 := 17) rfl rfl (h_gC rfl rfl rfl rfl) rfl ?_
  refine w_p (pc1 := 18) rfl rfl ?_
  refine w_m0 (pc1 := 19) (st1 := .int (nI (n)) :: _) rfl rfl (n_ile (e := F) rfl rfl rfl (by omega) (h134)) rfl ?_
  refine w_t (a := 40) (b := 22) (bN_ne_t (a := at_) (b := n) (by omega) (by omega) (by omega)) rfl rfl ?_
  refine w_p (pc1 := 41) rfl rfl ?_
  refine w_m0 (pc1 := 44) rfl rfl (h_gC rfl rfl rfl rfl) rfl ?_
  refine w_p (pc1 := 45) rfl rfl ?_
  refine w_m0 (pc1 := 46) (st1 := .int (nI (rTb u)) :: _) rfl rfl (n_ile (e := i) rfl rfl rfl (by omega) (ut)) rfl ?_
  refine w_p (pc1 := 47) (al1 := [(3, .int (nI (rTb u))), (2, .int (nI (i))), (0, .ref 176), (1, .int (nI (F)))]) rfl rfl ?_
  refine w_p (pc1 := 48) rfl rfl ?_
  refine w_m0 (pc1 := 51) rfl rfl (h_gC rfl rfl rfl rfl) rfl ?_
  refine w_p (pc1 := 53) (st1 := .int 40 :: _) rfl rfl ?_
  refine w_p (pc1 := 54) rfl rfl ?_
  refine w_imul (pc1 := 55) (u := nI (40)) (v := nI (F)) (z := nI (40 * F)) rfl (nK_mul) rfl ?_
  refine w_p (pc1 := 56) rfl rfl ?_
  refine w_m0 (pc1 := 59) rfl rfl (h_gC rfl rfl rfl rfl) rfl ?_
  refine w_p (pc1 := 60) rfl rfl ?_
  refine w_m0 (pc1 := 61) (st1 := .int (nI (at_)) :: _) rfl rfl (n_ile (e := F) rfl rfl rfl (by omega) (h135)) rfl ?_
  refine w_iadd (pc1 := 62) (u := nI (40 * F)) (v := nI (at_)) (z := nI (40 * F + (at_))) rfl (nK_add) rfl ?_
  refine w_m0 (pc1 := 63) (st1 := .int (jj) :: _) rfl rfl (n_ile (e := 40 * F + (at_)) rfl rfl rfl (by omega) (hid)) rfl ?_
  refine w_p (pc1 := 65) (al1 := [(4, .int (jj)), (3, .int (nI (rTb u))), (2, .int (nI (i))), (0, .ref 176), (1, .int (nI (F)))]) rfl rfl ?_
  refine w_p (pc1 := 66) rfl rfl ?_
  refine w_m0 (pc1 := 69) rfl rfl (h_gC rfl rfl rfl rfl) rfl ?_
  refine w_p (pc1 := 70) rfl rfl ?_
  refine w_p (pc1 := 71) rfl rfl ?_
  refine w_m0 (pc1 := 72) (st1 := .int (nI (at_)) :: _) rfl rfl (n_ile (e := F) rfl rfl rfl (by omega) (h135)) rfl ?_
  refine w_p (pc1 := 73) (st1 := .int 1 :: _) rfl rfl ?_
  refine w_iadd (pc1 := 74) (u := nI (at_)) (v := nI (1)) (z := nI (at_ + 1)) rfl (nK_add) rfl ?_
  refine w_m0 (pc1 := 75) rfl rfl (n_is (e := F) rfl rfl rfl (by omega)) rfl ?_
  refine w_p (pc1 := 76) rfl rfl ?_
  refine w_p (pc1 := 77) rfl rfl ?_
  refine w_p (pc1 := 79) rfl rfl ?_
  refine w_je (pc1 := 82) (vs := [.ref 176, .int (nI (rTb u)), .int (jj)]) (rest := []) (st1 := [.int (nI (k))]) (hm1) rfl rfl rfl (fun _ _ => rfl) rfl (by exact cl_v my_261 rfl rfl rfl (Nat.le_of_ble_eq_true rfl) rfl (MH_obj rfl rfl) rfl (by decide) rfl rfl) (by rfl) (Nat.le_of_ble_eq_true rfl) (Nat.le_of_ble_eq_true rfl) rfl (by rfl) ?_
  refine w_p (pc1 := 84) (al1 := [(5, .int (nI (k))), (4, .int (jj)), (3, .int (nI (rTb u))), (2, .int (nI (i))), (0, .ref 176), (1, .int (nI (F)))]) rfl rfl ?_
  refine w_p (pc1 := 86) rfl rfl ?_
  refine w_p (pc1 := 87) (st1 := .int (-1) :: _) rfl rfl ?_
  refine w_f (a := 101) (b := 90) (cb_eq_f (by exact nK_m1 (by omega))) rfl rfl ?_
  refine w_p (pc1 := 91) rfl rfl ?_
  refine w_p (pc1 := 92) rfl rfl ?_
  refine w_p (pc1 := 94) rfl rfl ?_
  refine w_p (pc1 := 95) rfl rfl ?_
  refine w_je (pc1 := 98) (vs := [.ref 176, .int (nI (i)), .int (nI (k)), .int (nI (F))]) (rest := []) (st1 := [.int 0]) (hrf) rfl rfl rfl (fun _ _ => rfl) rfl (by exact cl_v my_271 rfl rfl rfl (Nat.le_of_ble_eq_true rfl) rfl (MH_obj rfl rfl) rfl (by decide) rfl rfl) (by rfl) (Nat.le_of_ble_eq_true rfl) (Nat.le_of_ble_eq_true rfl) rfl (by rfl) ?_
  refine w_f (a := 102) (b := 101) rfl rfl rfl ?_
  refine w_r rfl rfl rfl (fun _ _ => rfl) rfl ?_
  exact ⟨rfl, ⟨_, rfl, rfl⟩, rfl⟩
set_option maxRecDepth 100000 in
theorem m_272s_1 (hi : i < 24) (hF : F < 38) (hb : b < 6) (ho : okSt S) (U : RUM C i u) (hR : okR (sWd S) u) (hK : rKd u = 4) (hb1 : rTg u = some b) {at_ : Nat} (hn : n ≤ 40) (hat : at_ < n) (h134 : C.1 134 F = nI n) (h135 : C.1 135 F = nI at_) (hid : C.1 133 (40 * F + at_) = jj) (B : TB S σ D F b 1 i0 3 (nI i) N O C) (hfd : fdr jj (σ.1 (rTb u)).1 0 = some (k, r)) (hx : rfg u O r = true) (ha : dos 1 u = 1) : Wd L xs (d + 6) y_272 (0, [(0, .ref 176), (1, .int (nI (F)))], [], MH C t, 0) (QR t (fun C' => C'.1 76 89 ≠ 0 ∧ MX C' σ ∧ spM C' (2, nI i, i0) ∧ (∃ y, C'.1 76 74 = ck y) ∧ frQ F C C')) nX := by
  have hs := B.2.2.1
  have hb6 := hR.1.2.1
  have h6b := ho.1 b hb
  have y1 : frY F C (sI C 135 F (nI (at_ + 1))) := frY_m (by omega)
  have U1 := RUM_Q (frY_Q y1) U
  have B1 := TB_Y y1 B
  have ut := U.1.2.1
  have hm1 := m_261 (L := L) (xs := xs) (t := t) (d := d + 5) (sl := 0) (ii := jj) B1.2.1.1 hb6
  rw [hfd] at hm1
  obtain ⟨_, hr0, hri⟩ := fdr_s hfd
  rw [Nat.sub_zero] at hr0
  have hkl := get_lt hr0
  obtain ⟨g1, g2, g3, g4⟩ := B1.2.1.1 (rTb u) hb6
  have hrf := m_271 (L := L) (xs := xs) (t := t) (d := d + 4) (sl := 0) B1.2.1.1 U1 hi hR hK hb1 h6b (f := F) (by omega) B1.2.2.2.2 hr0
  rw [hx] at hrf
  have s1 := B1.2.2.1
  have hdo : (sI C 135 F (nI (at_ + 1))).1 93 i = 1 := by
    rw [U1.2.1.2.2]
    have ha : rUp u = 1 := ha
    rw [ha]
    rfl
  have h89 : (sI (sI (sI C 135 F (nI (at_ + 1))) 76 90 (nI i)) 76 91 i0).1 76 89 = 0 := B1.2.1.2.2.2.2.2.1
  refine w_p (pc1 := 1) rfl rfl ?_
  refine w_m0 (pc1 := 4) rfl rfl (h_gC rfl rfl rfl rfl) rfl ?_
  refine w_p (pc1 := 5) rfl rfl ?_
  refine w_m0 (pc1 := 6) (st1 := .int (nI (i)) :: _) rfl rfl (n_ile (e := F) rfl rfl rfl (by omega) (hs.2.2.2.2.2)) rfl ?_
  refine w_p (pc1 := 7) (al1 := [(2, .int (nI (i))), (0, .ref 176), (1, .int (nI (F)))]) rfl rfl ?_
  refine w_p (pc1 := 8) rfl rfl ?_
  refine w_m0 (pc1 := 11) rfl rfl (h_gC rfl rfl rfl rfl) rfl ?_
  refine w_p (pc1 := 12) rfl rfl ?_
  refine w_m0 (pc1 := 13) (st1 := .int (nI (at_)) :: _) rfl rfl (n_ile (e := F) rfl rfl rfl (by omega) (h135)) rfl ?_
  refine w_p (pc1 := 14) rfl rfl ?_
  refine w_m0 (pc1 := 17) rfl rfl (h_gC rfl rfl rfl rfl) rfl ?_
  refine w_p (pc1 := 18) rfl rfl ?_
  refine w_m0 (pc1 := 19) (st1 := .int (nI (n)) :: _) rfl rfl (n_ile (e := F) rfl rfl rfl (by omega) (h134)) rfl ?_
  refine w_t (a := 40) (b := 22) (bN_ne_t (a := at_) (b := n) (by omega) (by omega) (by omega)) rfl rfl ?_
  refine w_p (pc1 := 41) rfl rfl ?_
  refine w_m0 (pc1 := 44) rfl rfl (h_gC rfl rfl rfl rfl) rfl ?_
  refine w_p (pc1 := 45) rfl rfl ?_
  refine w_m0 (pc1 := 46) (st1 := .int (nI (rTb u)) :: _) rfl rfl (n_ile (e := i) rfl rfl rfl (by omega) (ut)) rfl ?_
  refine w_p (pc1 := 47) (al1 := [(3, .int (nI (rTb u))), (2, .int (nI (i))), (0, .ref 176), (1, .int (nI (F)))]) rfl rfl ?_
  refine w_p (pc1 := 48) rfl rfl ?_
  refine w_m0 (pc1 := 51) rfl rfl (h_gC rfl rfl rfl rfl) rfl ?_
  refine w_p (pc1 := 53) (st1 := .int 40 :: _) rfl rfl ?_
  refine w_p (pc1 := 54) rfl rfl ?_
  refine w_imul (pc1 := 55) (u := nI (40)) (v := nI (F)) (z := nI (40 * F)) rfl (nK_mul) rfl ?_
  refine w_p (pc1 := 56) rfl rfl ?_
  refine w_m0 (pc1 := 59) rfl rfl (h_gC rfl rfl rfl rfl) rfl ?_
  refine w_p (pc1 := 60) rfl rfl ?_
  refine w_m0 (pc1 := 61) (st1 := .int (nI (at_)) :: _) rfl rfl (n_ile (e := F) rfl rfl rfl (by omega) (h135)) rfl ?_
  refine w_iadd (pc1 := 62) (u := nI (40 * F)) (v := nI (at_)) (z := nI (40 * F + (at_))) rfl (nK_add) rfl ?_
  refine w_m0 (pc1 := 63) (st1 := .int (jj) :: _) rfl rfl (n_ile (e := 40 * F + (at_)) rfl rfl rfl (by omega) (hid)) rfl ?_
  refine w_p (pc1 := 65) (al1 := [(4, .int (jj)), (3, .int (nI (rTb u))), (2, .int (nI (i))), (0, .ref 176), (1, .int (nI (F)))]) rfl rfl ?_
  refine w_p (pc1 := 66) rfl rfl ?_
  refine w_m0 (pc1 := 69) rfl rfl (h_gC rfl rfl rfl rfl) rfl ?_
  refine w_p (pc1 := 70) rfl rfl ?_
  refine w_p (pc1 := 71) rfl rfl ?_
  refine w_m0 (pc1 := 72) (st1 := .int (nI (at_)) :: _) rfl rfl (n_ile (e := F) rfl rfl rfl (by omega) (h135)) rfl ?_
  refine w_p (pc1 := 73) (st1 := .int 1 :: _) rfl rfl ?_
  refine w_iadd (pc1 := 74) (u := nI (at_)) (v := nI (1)) (z := nI (at_ + 1)) rfl (nK_add) rfl ?_
  refine w_m0 (pc1 := 75) rfl rfl (n_is (e := F) rfl rfl rfl (by omega)) rfl ?_
  refine w_p (pc1 := 76) rfl rfl ?_
  refine w_p (pc1 := 77) rfl rfl ?_
  refine w_p (pc1 := 79) rfl rfl ?_
  refine w_je (pc1 := 82) (vs := [.ref 176, .int (nI (rTb u)), .int (jj)]) (rest := []) (st1 := [.int (nI (k))]) (hm1) rfl rfl rfl (fun _ _ => rfl) rfl (by exact cl_v my_261 rfl rfl rfl (Nat.le_of_ble_eq_true rfl) rfl (MH_obj rfl rfl) rfl (by decide) rfl rfl) (by rfl) (Nat.le_of_ble_eq_true rfl) (Nat.le_of_ble_eq_true rfl) rfl (by rfl) ?_
  refine w_p (pc1 := 84) (al1 := [(5, .int (nI (k))), (4, .int (jj)), (3, .int (nI (rTb u))), (2, .int (nI (i))), (0, .ref 176), (1, .int (nI (F)))]) rfl rfl ?_
  refine w_p (pc1 := 86) rfl rfl ?_
  refine w_p (pc1 := 87) (st1 := .int (-1) :: _) rfl rfl ?_
  refine w_f (a := 101) (b := 90) (cb_eq_f (by exact nK_m1 (by omega))) rfl rfl ?_
  refine w_p (pc1 := 91) rfl rfl ?_
  refine w_p (pc1 := 92) rfl rfl ?_
  refine w_p (pc1 := 94) rfl rfl ?_
  refine w_p (pc1 := 95) rfl rfl ?_
  refine w_je (pc1 := 98) (vs := [.ref 176, .int (nI (i)), .int (nI (k)), .int (nI (F))]) (rest := []) (st1 := [.int 1]) (hrf) rfl rfl rfl (fun _ _ => rfl) rfl (by exact cl_v my_271 rfl rfl rfl (Nat.le_of_ble_eq_true rfl) rfl (MH_obj rfl rfl) rfl (by decide) rfl rfl) (by rfl) (Nat.le_of_ble_eq_true rfl) (Nat.le_of_ble_eq_true rfl) rfl (by rfl) ?_
  refine w_t (a := 102) (b := 101) rfl rfl rfl ?_
  refine w_p (pc1 := 103) rfl rfl ?_
  refine w_m0 (pc1 := 106) rfl rfl (h_gC rfl rfl rfl rfl) rfl ?_
  refine w_p (pc1 := 107) rfl rfl ?_
  refine w_m0 (pc1 := 108) (st1 := .int 1 :: _) rfl rfl (n_ile (e := F) rfl rfl rfl (by omega) (s1.2.1)) rfl ?_
  refine w_p (pc1 := 109) (st1 := .int 2 :: _) rfl rfl ?_
  refine w_t (a := 121) (b := 112) rfl rfl rfl ?_
  refine w_p (pc1 := 122) rfl rfl ?_
  refine w_m0 (pc1 := 125) rfl rfl (h_gC rfl rfl rfl rfl) rfl ?_
  refine w_p (pc1 := 126) rfl rfl ?_
  refine w_m0 (pc1 := 127) (st1 := .int 1 :: _) rfl rfl (n_ile (e := i) rfl rfl rfl (by omega) (hdo)) rfl ?_
  refine w_p (pc1 := 129) (al1 := [(6, .int 1), (5, .int (nI (k))), (4, .int (jj)), (3, .int (nI (rTb u))), (2, .int (nI (i))), (0, .ref 176), (1, .int (nI (F)))]) rfl rfl ?_
  refine w_p (pc1 := 131) rfl rfl ?_
  refine w_p (pc1 := 132) (st1 := .int 1 :: _) rfl rfl ?_
  refine w_f (a := 156) (b := 135) rfl rfl rfl ?_
  refine w_p (pc1 := 136) rfl rfl ?_
  refine w_p (pc1 := 137) rfl rfl ?_
  refine w_m0 (pc1 := 140) rfl rfl (h_pI (j := 90) rfl rfl rfl rfl rfl rfl rfl ⟨rfl, rfl⟩ rfl) rfl ?_
  refine w_p (pc1 := 141) rfl rfl ?_
  refine w_p (pc1 := 142) rfl rfl ?_
  refine w_m0 (pc1 := 145) rfl rfl (h_gC rfl rfl rfl rfl) rfl ?_
  refine w_p (pc1 := 146) rfl rfl ?_
  refine w_m0 (pc1 := 147) (st1 := .int (i0) :: _) rfl rfl (n_ile (e := F) rfl rfl rfl (by omega) ((by rw [sI_1, if_neg (by omega)]; exact s1.2.2.2.1))) rfl ?_
  refine w_m0 (pc1 := 150) rfl rfl (h_pI (j := 91) rfl rfl rfl rfl rfl rfl rfl ⟨rfl, rfl⟩ rfl) rfl ?_
  refine w_p (pc1 := 151) rfl rfl ?_
  refine w_p (pc1 := 152) (st1 := .int 2 :: _) rfl rfl ?_
  refine w_je (pc1 := 155) (vs := [.ref 176, .int 2]) (rest := []) (st1 := []) (m_256 (d := d + 5) (sl := 0) h89) rfl rfl rfl (fun _ _ => rfl) rfl (by exact cl_v my_256 rfl rfl rfl (Nat.le_of_ble_eq_true rfl) rfl (MH_obj rfl rfl) rfl (by decide) rfl rfl) (by rfl) (Nat.le_of_ble_eq_true rfl) (Nat.le_of_ble_eq_true rfl) rfl (by rfl) ?_
  refine w_r rfl rfl rfl (fun _ _ => rfl) rfl ?_
  have h9 : (sI (sI (sI (sI C 135 F (nI (at_ + 1))) 76 90 (nI i)) 76 91 i0) 76 89 2).1 76 89 = 2 := rfl
  have h90 : (sI (sI (sI (sI C 135 F (nI (at_ + 1))) 76 90 (nI i)) 76 91 i0) 76 89 2).1 76 90 = nI i := rfl
  have h91 : (sI (sI (sI (sI C 135 F (nI (at_ + 1))) 76 90 (nI i)) 76 91 i0) 76 89 2).1 76 91 = i0 := rfl
  exact ⟨rfl, ⟨sI (sI (sI (sI C 135 F (nI (at_ + 1))) 76 90 (nI i)) 76 91 i0) 76 89 2, ⟨by rw [h9]; decide, B1.2.1.2.2.1, ⟨h9, fun _ => ⟨h90, h91⟩, fun h => absurd h (by show 2 ≠ 3; decide)⟩, ⟨false, B1.2.1.2.2.2.2.2.2⟩, frQ_t (frY_Q y1) (frQ_t (frQ_I (by omega)) (frQ_t (frQ_I (by omega)) (frQ_I (by omega))))⟩, rfl⟩, rfl⟩
set_option maxRecDepth 100000 in
theorem lp_272_2 (hi : i < 24) (hF : F < 38) (ho : okSt S) (hR : okR (sWd S) u) (hK : rKd u = 4) (hb1 : rTg u = some b) (hb : b < 6) (K : MSt C0 S) (U : RUM C0 i u) (hN : bfM C0 136 F (sWd S b) N) : ∀ (suf pre sufe pree : List Nat) (C : co_T) (f : rw_F), pre ++ suf = rCs u → pree ++ sufe = rOs u → pree.length = pre.length → frO (F + 1) C0 C → (∀ q, C.2.1 137 q = C0.2.1 137 q) → bfM C 136 (F + 1) (sWd S (rTb u)) f → Wd L xs d y_272 (217, [(9, .int (nI (pre.length))), (8, .int (nI (F + 1))), (7, .int 0), (6, .int 2), (5, .int (nI (k))), (4, .int (jj)), (3, .int (nI (rTb u))), (2, .int (nI (i))), (0, .ref 176), (1, .int (nI (F)))], [], MH C t, sl) (fun v h m => none = v ∧ (∃ C', (frO (F + 1) C0 C' ∧ (∀ q, C'.2.1 137 q = C0.2.1 137 q) ∧ bfM C' 136 (F + 1) (sWd S (rTb u)) (setR 2 N (sDf S (rTb u)) f suf sufe)) ∧ MH C' t = h) ∧ sl = m) nX
  | [], pre, sufe, pree, C, f, hp, hpe, hpl, hf, h7, hB => by
    rw [List.append_nil] at hp
    have hl2 := congrArg List.length hp
    have h6 := hR.1.2.2.1
    have um : C.1 87 i = nI (rCs u).length := (hf.1 87 i).trans U.1.2.2.2.1
    have e0 : setR 2 N (sDf S (rTb u)) f [] sufe = f := by unfold setR; rfl
    rw [e0]
    refine w_p (pc1 := 219) rfl rfl ?_
    refine w_p (pc1 := 220) rfl rfl ?_
    refine w_m0 (pc1 := 223) rfl rfl (h_gC rfl rfl rfl rfl) rfl ?_
    refine w_p (pc1 := 224) rfl rfl ?_
    refine w_m0 (pc1 := 225) (st1 := .int (nI ((rCs u).length)) :: _) rfl rfl (n_ile (e := i) rfl rfl rfl (by omega) (um)) rfl ?_
    refine w_t (a := 321) (b := 228) (bN_ge_t (a := pre.length) (b := (rCs u).length) (by omega) (by omega) (by omega)) rfl rfl ?_
    refine w_r rfl rfl rfl (fun _ _ => rfl) rfl ?_
    exact ⟨rfl, ⟨C, ⟨hf, h7, hB⟩, rfl⟩, rfl⟩
  | c :: suf, pre, [], pree, C, f, hp, hpe, hpl, hf, h7, hB => by
    obtain ⟨h1, h2, h3⟩ := get_ap hp
    obtain ⟨_, hll⟩ := hR.2.1 hK
    rw [List.append_nil] at hpe
    subst hpe
    omega
  | c :: suf, pre, e :: sufe, pree, C, f, hp, hpe, hpl, hf, h7, hB => by
    obtain ⟨h1, h2, h3⟩ := get_ap hp
    obtain ⟨g1, g2, g3⟩ := get_ap hpe
    obtain ⟨⟨b9, hb9, hb2, hb3⟩, hll⟩ := hR.2.1 hK
    rw [hb1] at hb9
    cases hb9
    have h6 := hR.1.2.2.1
    have hb6 := hR.1.2.1
    have hw1 := ho.1 b hb
    have hw2 := ho.1 (rTb u) hb6
    have hcw := hR.1.2.2.2 c (List.mem_of_getElem? h1)
    have hew := hb3 e (List.mem_of_getElem? g1)
    have um : C.1 87 i = nI (rCs u).length := (hf.1 87 i).trans U.1.2.2.2.1
    have hcf : C.1 88 (6 * i + pre.length) = nI c := (hf.1 88 _).trans (U.1.2.2.2.2.1 _ _ h1)
    have hcf2 : C.1 89 (6 * i + pre.length) = nI e := by rw [hf.1 89, ← hpl]; exact U.1.2.2.2.2.2 _ _ g1
    have e0 : setR 2 N (sDf S (rTb u)) f (c :: suf) (e :: sufe) = setR 2 N (sDf S (rTb u)) (upF f c (N e)) suf sufe := by
      show setR 2 N (sDf S (rTb u)) (upF f c (if 2 = 2 then N e else if 2 = 4 then sDf S (rTb u) c else none)) suf sufe = _
      rfl
    rw [e0]
    have hv2 : C.2.1 136 (6 * F + e) = e_V (N e) := by rw [hf.2.1 136 _ (by omega)]; exact hN e hew
    have hv4 : C.2.1 82 (6 * rTb u + c) = e_V (sDf S (rTb u) c) := by rw [hf.2.1 82 _ (by omega), show 6 * rTb u + c = rTb u * 6 + c by omega]; exact (K.1 (rTb u) hb6).2 c hcw
    have ih := lp_272_2 hi hF ho hR hK hb1 hb K U hN suf (pre ++ [c]) sufe (pree ++ [e]) (sJ C 136 (6 * (F + 1) + c) (e_V (N e))) (upF f c (N e)) h3 g3 (by rw [len_s, len_s, hpl]) (frO_t hf (frO_J (by omega))) (fun q => by rw [sJ_2, if_neg (by omega)]; exact h7 q) (fun q hq => by
      rw [sJ_2]
      unfold upF
      by_cases e : q = c
      · rw [if_pos ⟨rfl, by omega⟩, if_pos e]
      · rw [if_neg (by omega), if_neg e]
        exact hB q hq)
    rw [len_s] at ih
    refine w_p (pc1 := 219) rfl rfl ?_
    refine w_p (pc1 := 220) rfl rfl ?_
    refine w_m0 (pc1 := 223) rfl rfl (h_gC rfl rfl rfl rfl) rfl ?_
    refine w_p (pc1 := 224) rfl rfl ?_
    refine w_m0 (pc1 := 225) (st1 := .int (nI ((rCs u).length)) :: _) rfl rfl (n_ile (e := i) rfl rfl rfl (by omega) (um)) rfl ?_
    refine w_f (a := 321) (b := 228) (bN_ge_f (a := pre.length) (b := (rCs u).length) (by omega) (by omega) (by omega)) rfl rfl ?_
    refine w_p (pc1 := 230) rfl rfl ?_
    refine w_f (a := 321) (b := 233) rfl rfl rfl ?_
    refine w_p (pc1 := 234) rfl rfl ?_
    refine w_m0 (pc1 := 237) rfl rfl (h_gC rfl rfl rfl rfl) rfl ?_
    refine w_p (pc1 := 239) (st1 := .int 6 :: _) rfl rfl ?_
    refine w_p (pc1 := 240) rfl rfl ?_
    refine w_imul (pc1 := 241) (u := nI (6)) (v := nI (i)) (z := nI (6 * i)) rfl (nK_mul) rfl ?_
    refine w_p (pc1 := 243) rfl rfl ?_
    refine w_iadd (pc1 := 244) (u := nI (6 * i)) (v := nI (pre.length)) (z := nI (6 * i + (pre.length))) rfl (nK_add) rfl ?_
    refine w_m0 (pc1 := 245) (st1 := .int (nI (c)) :: _) rfl rfl (n_ile (e := 6 * i + (pre.length)) rfl rfl rfl (by omega) (hcf)) rfl ?_
    refine w_p (pc1 := 247) (al1 := [(10, .int (nI (c))), (9, .int (nI (pre.length))), (8, .int (nI (F + 1))), (7, .int 0), (6, .int 2), (5, .int (nI (k))), (4, .int (jj)), (3, .int (nI (rTb u))), (2, .int (nI (i))), (0, .ref 176), (1, .int (nI (F)))]) rfl rfl ?_
    refine w_p (pc1 := 248) rfl rfl ?_
    refine w_m0 (pc1 := 251) rfl rfl (h_gC rfl rfl rfl rfl) rfl ?_
    refine w_p (pc1 := 253) (st1 := .int 6 :: _) rfl rfl ?_
    refine w_p (pc1 := 255) rfl rfl ?_
    refine w_imul (pc1 := 256) (u := nI (6)) (v := nI (F + 1)) (z := nI (6 * (F + 1))) rfl (nK_mul) rfl ?_
    refine w_p (pc1 := 258) rfl rfl ?_
    refine w_iadd (pc1 := 259) (u := nI (6 * (F + 1))) (v := nI (c)) (z := nI (6 * (F + 1) + c)) rfl (nK_add) rfl ?_
    refine w_p (pc1 := 261) rfl rfl ?_
    refine w_p (pc1 := 262) (st1 := .int 2 :: _) rfl rfl ?_
    refine w_f (a := 290) (b := 265) rfl rfl rfl ?_
    refine w_p (pc1 := 266) rfl rfl ?_
    refine w_m0 (pc1 := 269) rfl rfl (h_gC rfl rfl rfl rfl) rfl ?_
    refine w_p (pc1 := 271) (st1 := .int 6 :: _) rfl rfl ?_
    refine w_p (pc1 := 272) rfl rfl ?_
    refine w_imul (pc1 := 273) (u := nI (6)) (v := nI (F)) (z := nI (6 * F)) rfl (nK_mul) rfl ?_
    refine w_p (pc1 := 274) rfl rfl ?_
    refine w_m0 (pc1 := 277) rfl rfl (h_gC rfl rfl rfl rfl) rfl ?_
    refine w_p (pc1 := 279) (st1 := .int 6 :: _) rfl rfl ?_
    refine w_p (pc1 := 280) rfl rfl ?_
    refine w_imul (pc1 := 281) (u := nI (6)) (v := nI (i)) (z := nI (6 * i)) rfl (nK_mul) rfl ?_
    refine w_p (pc1 := 283) rfl rfl ?_
    refine w_iadd (pc1 := 284) (u := nI (6 * i)) (v := nI (pre.length)) (z := nI (6 * i + (pre.length))) rfl (nK_add) rfl ?_
    refine w_m0 (pc1 := 285) (st1 := .int (nI (e)) :: _) rfl rfl (n_ile (e := 6 * i + (pre.length)) rfl rfl rfl (by omega) (hcf2)) rfl ?_
    refine w_iadd (pc1 := 286) (u := nI (6 * F)) (v := nI (e)) (z := nI (6 * F + e)) rfl (nK_add) rfl ?_
    refine w_m0 (pc1 := 287) (st1 := .long (e_V (N e)) :: _) rfl rfl (n_lle (e := 6 * F + e) rfl rfl rfl (by omega) (hv2)) rfl ?_
    refine w_p (pc1 := 314) rfl rfl ?_
    refine w_m0 (pc1 := 315) rfl rfl (n_ls (e := 6 * (F + 1) + c) rfl rfl rfl (by omega)) rfl ?_
    refine w_iinc (pc1 := 318) (u := nI (pre.length)) (z := nI (pre.length + 1)) (al1 := [(9, .int (nI (pre.length + 1))), (10, .int (nI (c))), (8, .int (nI (F + 1))), (7, .int 0), (6, .int 2), (5, .int (nI (k))), (4, .int (jj)), (3, .int (nI (rTb u))), (2, .int (nI (i))), (0, .ref 176), (1, .int (nI (F)))]) rfl rfl rfl nK_1 rfl rfl ?_
    refine w_p (pc1 := 217) rfl rfl ?_
    refine Wd_al (al := [(9, .int (nI (pre.length + 1))), (8, .int (nI (F + 1))), (7, .int 0), (6, .int 2), (5, .int (nI (k))), (4, .int (jj)), (3, .int (nI (rTb u))), (2, .int (nI (i))), (0, .ref 176), (1, .int (nI (F)))]) (sba_p [0, 2, 3, 4, 5, 6, 7, 8, 9, 10] rfl rfl) ?_
    exact ih
set_option maxRecDepth 100000 in
theorem m_272_1_2 (hi : i < 24) (hF : F < 38) (hb : b < 6) (ho : okSt S) (U : RUM C i u) (hR : okR (sWd S) u) (hK : rKd u = 4) (hb1 : rTg u = some b) {at_ : Nat} (hn : n ≤ 40) (hat : at_ < n) (h134 : C.1 134 F = nI n) (h135 : C.1 135 F = nI at_) (hid : C.1 133 (40 * F + at_) = jj) (B : TB S σ D F b 1 i0 3 (nI i) N O C) (hfd : fdr jj (σ.1 (rTb u)).1 0 = some (k, r)) (hx : rfg u O r = true) (ha : dos 1 u = 2) : Wd L xs (d + 6) y_272 (0, [(0, .ref 176), (1, .int (nI (F)))], [], MH C t, 0) (QR t (fun C' => BSd (sI C 135 F (nI (at_ + 1))) C' (F + 1) σ.2.1 D σ.2.2 1 (nI (rTb u)) jj (sWd S (rTb u)) (sWd S (rTb u)) r.2 (some (setR 2 N (sDf S (rTb u)) r.2 (rCs u) (rOs u))))) nX := by
  have hs := B.2.2.1
  have hb6 := hR.1.2.1
  have h6b := ho.1 b hb
  have y1 : frY F C (sI C 135 F (nI (at_ + 1))) := frY_m (by omega)
  have U1 := RUM_Q (frY_Q y1) U
  have B1 := TB_Y y1 B
  have ut := U.1.2.1
  have hm1 := m_261 (L := L) (xs := xs) (t := t) (d := d + 5) (sl := 0) (ii := jj) B1.2.1.1 hb6
  rw [hfd] at hm1
  obtain ⟨_, hr0, hri⟩ := fdr_s hfd
  rw [Nat.sub_zero] at hr0
  have hkl := get_lt hr0
  obtain ⟨g1, g2, g3, g4⟩ := B1.2.1.1 (rTb u) hb6
  have hrf := m_271 (L := L) (xs := xs) (t := t) (d := d + 4) (sl := 0) B1.2.1.1 U1 hi hR hK hb1 h6b (f := F) (by omega) B1.2.2.2.2 hr0
  rw [hx] at hrf
  have s1 := B1.2.2.1
  have hdo : (sI C 135 F (nI (at_ + 1))).1 93 i = 2 := by
    rw [U1.2.1.2.2]
    have ha : rUp u = 2 := ha
    rw [ha]
    rfl
  have hw2 := ho.1 (rTb u) hb6
  generalize hC1 : sI C 135 F (nI (at_ + 1)) = C1 at U1 B1 hm1 hrf s1 hdo ⊢
  obtain ⟨K1, ⟨hW, hnx, hX, hDp, hFr, h89, h74⟩, s2, hN1, hO1⟩ := id B1
  obtain ⟨g1, g2, g3, g4⟩ := hW (rTb u) hb6
  by_cases hx3 : 300 ≤ σ.2.1 ∨ 12 ≤ D
  · skip
    refine w_p (pc1 := 1) rfl rfl ?_
    refine w_m0 (pc1 := 4) rfl rfl (h_gC rfl rfl rfl rfl) rfl ?_
    refine w_p (pc1 := 5) rfl rfl ?_
    refine w_m0 (pc1 := 6) (st1 := .int (nI (i)) :: _) rfl rfl (n_ile (e := F) rfl rfl rfl (by omega) (hs.2.2.2.2.2)) rfl ?_
    refine w_p (pc1 := 7) (al1 := [(2, .int (nI (i))), (0, .ref 176), (1, .int (nI (F)))]) rfl rfl ?_
    refine w_p (pc1 := 8) rfl rfl ?_
    refine w_m0 (pc1 := 11) rfl rfl (h_gC rfl rfl rfl rfl) rfl ?_
    refine w_p (pc1 := 12) rfl rfl ?_
    refine w_m0 (pc1 := 13) (st1 := .int (nI (at_)) :: _) rfl rfl (n_ile (e := F) rfl rfl rfl (by omega) (h135)) rfl ?_
    refine w_p (pc1 := 14) rfl rfl ?_
    refine w_m0 (pc1 := 17) rfl rfl (h_gC rfl rfl rfl rfl) rfl ?_
    refine w_p (pc1 := 18) rfl rfl ?_
    refine w_m0 (pc1 := 19) (st1 := .int (nI (n)) :: _) rfl rfl (n_ile (e := F) rfl rfl rfl (by omega) (h134)) rfl ?_
    refine w_t (a := 40) (b := 22) (bN_ne_t (a := at_) (b := n) (by omega) (by omega) (by omega)) rfl rfl ?_
    refine w_p (pc1 := 41) rfl rfl ?_
    refine w_m0 (pc1 := 44) rfl rfl (h_gC rfl rfl rfl rfl) rfl ?_
    refine w_p (pc1 := 45) rfl rfl ?_
    refine w_m0 (pc1 := 46) (st1 := .int (nI (rTb u)) :: _) rfl rfl (n_ile (e := i) rfl rfl rfl (by omega) (ut)) rfl ?_
    refine w_p (pc1 := 47) (al1 := [(3, .int (nI (rTb u))), (2, .int (nI (i))), (0, .ref 176), (1, .int (nI (F)))]) rfl rfl ?_
    refine w_p (pc1 := 48) rfl rfl ?_
    refine w_m0 (pc1 := 51) rfl rfl (h_gC rfl rfl rfl rfl) rfl ?_
    refine w_p (pc1 := 53) (st1 := .int 40 :: _) rfl rfl ?_
    refine w_p (pc1 := 54) rfl rfl ?_
    refine w_imul (pc1 := 55) (u := nI (40)) (v := nI (F)) (z := nI (40 * F)) rfl (nK_mul) rfl ?_
    refine w_p (pc1 := 56) rfl rfl ?_
    refine w_m0 (pc1 := 59) rfl rfl (h_gC rfl rfl rfl rfl) rfl ?_
    refine w_p (pc1 := 60) rfl rfl ?_
    refine w_m0 (pc1 := 61) (st1 := .int (nI (at_)) :: _) rfl rfl (n_ile (e := F) rfl rfl rfl (by omega) (h135)) rfl ?_
    refine w_iadd (pc1 := 62) (u := nI (40 * F)) (v := nI (at_)) (z := nI (40 * F + (at_))) rfl (nK_add) rfl ?_
    refine w_m0 (pc1 := 63) (st1 := .int (jj) :: _) rfl rfl (n_ile (e := 40 * F + (at_)) rfl rfl rfl (by omega) (hid)) rfl ?_
    refine w_p (pc1 := 65) (al1 := [(4, .int (jj)), (3, .int (nI (rTb u))), (2, .int (nI (i))), (0, .ref 176), (1, .int (nI (F)))]) rfl rfl ?_
    refine w_p (pc1 := 66) rfl rfl ?_
    refine w_m0 (pc1 := 69) rfl rfl (h_gC rfl rfl rfl rfl) rfl ?_
    refine w_p (pc1 := 70) rfl rfl ?_
    refine w_p (pc1 := 71) rfl rfl ?_
    refine w_m0 (pc1 := 72) (st1 := .int (nI (at_)) :: _) rfl rfl (n_ile (e := F) rfl rfl rfl (by omega) (h135)) rfl ?_
    refine w_p (pc1 := 73) (st1 := .int 1 :: _) rfl rfl ?_
    refine w_iadd (pc1 := 74) (u := nI (at_)) (v := nI (1)) (z := nI (at_ + 1)) rfl (nK_add) rfl ?_
    refine w_m0 (pc1 := 75) rfl rfl (n_is (e := F) rfl rfl rfl (by omega)) rfl ?_
    rw [hC1]
    refine w_p (pc1 := 76) rfl rfl ?_
    refine w_p (pc1 := 77) rfl rfl ?_
    refine w_p (pc1 := 79) rfl rfl ?_
    refine w_je (pc1 := 82) (vs := [.ref 176, .int (nI (rTb u)), .int (jj)]) (rest := []) (st1 := [.int (nI (k))]) (hm1) rfl rfl rfl (fun _ _ => rfl) rfl (by exact cl_v my_261 rfl rfl rfl (Nat.le_of_ble_eq_true rfl) rfl (MH_obj rfl rfl) rfl (by decide) rfl rfl) (by rfl) (Nat.le_of_ble_eq_true rfl) (Nat.le_of_ble_eq_true rfl) rfl (by rfl) ?_
    refine w_p (pc1 := 84) (al1 := [(5, .int (nI (k))), (4, .int (jj)), (3, .int (nI (rTb u))), (2, .int (nI (i))), (0, .ref 176), (1, .int (nI (F)))]) rfl rfl ?_
    refine w_p (pc1 := 86) rfl rfl ?_
    refine w_p (pc1 := 87) (st1 := .int (-1) :: _) rfl rfl ?_
    refine w_f (a := 101) (b := 90) (cb_eq_f (by exact nK_m1 (by omega))) rfl rfl ?_
    refine w_p (pc1 := 91) rfl rfl ?_
    refine w_p (pc1 := 92) rfl rfl ?_
    refine w_p (pc1 := 94) rfl rfl ?_
    refine w_p (pc1 := 95) rfl rfl ?_
    refine w_je (pc1 := 98) (vs := [.ref 176, .int (nI (i)), .int (nI (k)), .int (nI (F))]) (rest := []) (st1 := [.int 1]) (hrf) rfl rfl rfl (fun _ _ => rfl) rfl (by exact cl_v my_271 rfl rfl rfl (Nat.le_of_ble_eq_true rfl) rfl (MH_obj rfl rfl) rfl (by decide) rfl rfl) (by rfl) (Nat.le_of_ble_eq_true rfl) (Nat.le_of_ble_eq_true rfl) rfl (by rfl) ?_
    refine w_t (a := 102) (b := 101) rfl rfl rfl ?_
    refine w_p (pc1 := 103) rfl rfl ?_
    refine w_m0 (pc1 := 106) rfl rfl (h_gC rfl rfl rfl rfl) rfl ?_
    refine w_p (pc1 := 107) rfl rfl ?_
    refine w_m0 (pc1 := 108) (st1 := .int 1 :: _) rfl rfl (n_ile (e := F) rfl rfl rfl (by omega) (s1.2.1)) rfl ?_
    refine w_p (pc1 := 109) (st1 := .int 2 :: _) rfl rfl ?_
    refine w_t (a := 121) (b := 112) rfl rfl rfl ?_
    refine w_p (pc1 := 122) rfl rfl ?_
    refine w_m0 (pc1 := 125) rfl rfl (h_gC rfl rfl rfl rfl) rfl ?_
    refine w_p (pc1 := 126) rfl rfl ?_
    refine w_m0 (pc1 := 127) (st1 := .int 2 :: _) rfl rfl (n_ile (e := i) rfl rfl rfl (by omega) (hdo)) rfl ?_
    refine w_p (pc1 := 129) (al1 := [(6, .int 2), (5, .int (nI (k))), (4, .int (jj)), (3, .int (nI (rTb u))), (2, .int (nI (i))), (0, .ref 176), (1, .int (nI (F)))]) rfl rfl ?_
    refine w_p (pc1 := 131) rfl rfl ?_
    refine w_p (pc1 := 132) (st1 := .int 1 :: _) rfl rfl ?_
    refine w_t (a := 156) (b := 135) rfl rfl rfl ?_
    refine w_p (pc1 := 158) rfl rfl ?_
    refine w_p (pc1 := 159) (st1 := .int 2 :: _) rfl rfl ?_
    refine w_f (a := 176) (b := 162) rfl rfl rfl ?_
    refine w_p (pc1 := 163) rfl rfl ?_
    refine w_m0 (pc1 := 166) rfl rfl (h_gC rfl rfl rfl rfl) rfl ?_
    refine w_p (pc1 := 167) rfl rfl ?_
    refine w_m0 (pc1 := 168) (st1 := .int 1 :: _) rfl rfl (n_ile (e := F) rfl rfl rfl (by omega) (s1.2.1)) rfl ?_
    refine w_p (pc1 := 169) (st1 := .int 2 :: _) rfl rfl ?_
    refine w_t (a := 176) (b := 172) rfl rfl rfl ?_
    refine w_p (pc1 := 177) (st1 := .int 0 :: _) rfl rfl ?_
    refine w_p (pc1 := 179) (al1 := [(7, .int 0), (6, .int 2), (5, .int (nI (k))), (4, .int (jj)), (3, .int (nI (rTb u))), (2, .int (nI (i))), (0, .ref 176), (1, .int (nI (F)))]) rfl rfl ?_
    refine w_p (pc1 := 180) rfl rfl ?_
    refine w_p (pc1 := 182) rfl rfl ?_
    refine w_t (a := 189) (b := 185) rfl rfl rfl ?_
    refine w_p (pc1 := 190) (st1 := .int 1 :: _) rfl rfl ?_
    refine w_p (pc1 := 191) rfl rfl ?_
    refine w_p (pc1 := 193) rfl rfl ?_
    refine w_je (pc1 := 196) (vs := [.ref 176, .int 1, .int (nI (rTb u)), .int (jj)]) (rest := []) (st1 := [.int (-1)]) (m_260x (d := d + 4) (sl := 0) hX.1 hX.2.1 hDp.1 hDp.2 h89 hx3) rfl rfl rfl (fun _ _ => rfl) rfl (by exact cl_v my_260 rfl rfl rfl (Nat.le_of_ble_eq_true rfl) rfl (MH_obj rfl rfl) rfl (by decide) rfl rfl) (by rfl) (Nat.le_of_ble_eq_true rfl) (Nat.le_of_ble_eq_true rfl) rfl (by rfl) ?_
    refine w_p (pc1 := 198) (al1 := [(8, .int (-1)), (7, .int 0), (6, .int 2), (5, .int (nI (k))), (4, .int (jj)), (3, .int (nI (rTb u))), (2, .int (nI (i))), (0, .ref 176), (1, .int (nI (F)))]) rfl rfl ?_
    refine w_p (pc1 := 200) rfl rfl ?_
    refine w_p (pc1 := 201) (st1 := .int (-1) :: _) rfl rfl ?_
    refine w_f (a := 205) (b := 204) rfl rfl rfl ?_
    refine w_r rfl rfl rfl (fun _ _ => rfl) rfl ?_
    exact ⟨rfl, ⟨sI C1 76 89 5, Or.inr ⟨_, rfl, Or.inl ⟨hx3, EDD_S frS_r ⟨false, h74⟩⟩⟩, rfl⟩, rfl⟩
  · have hbs := m_260 (L := L) (xs := xs) (t := t) (d := d + 4) (sl := 0) (kd := 1) (tb := nI (rTb u)) (i := jj) hX.1 (by omega) hDp.1 (by omega) hX.2.2.1 hX.2.2.2 hFr.1 (by omega)
    have fQ := bs_Q (C := C1) (u := σ.2.1) (D := D) (v := σ.2.2) (f := F + 1) (kd := 1) (tb := nI (rTb u)) (i := jj)
    have fV := bs_V (C := C1) (u := σ.2.1) (D := D) (v := σ.2.2) (f := F + 1) (kd := 1) (tb := nI (rTb u)) (i := jj)
    have hc := bs_C (C := C1) (u := σ.2.1) (D := D) (v := σ.2.2) (f := F + 1) (kd := 1) (tb := nI (rTb u)) (i := jj)
    have hsb := bs_S (C := C1) (u := σ.2.1) (D := D) (v := σ.2.2) (f := F + 1) (kd := 1) (tb := nI (rTb u)) (i := jj)
    have hto := m_262 (L := L) (xs := xs) (C := bsC C1 σ.2.1 D σ.2.2 (F + 1) 1 (nI (rTb u)) jj) (t := t) (d := d + 4) (sl := 0) (f := F + 1) (by omega) hb6 (k := k) (by omega)
    refine w_p (pc1 := 1) rfl rfl ?_
    refine w_m0 (pc1 := 4) rfl rfl (h_gC rfl rfl rfl rfl) rfl ?_
    refine w_p (pc1 := 5) rfl rfl ?_
    refine w_m0 (pc1 := 6) (st1 := .int (nI (i)) :: _) rfl rfl (n_ile (e := F) rfl rfl rfl (by omega) (hs.2.2.2.2.2)) rfl ?_
    refine w_p (pc1 := 7) (al1 := [(2, .int (nI (i))), (0, .ref 176), (1, .int (nI (F)))]) rfl rfl ?_
    refine w_p (pc1 := 8) rfl rfl ?_
    refine w_m0 (pc1 := 11) rfl rfl (h_gC rfl rfl rfl rfl) rfl ?_
    refine w_p (pc1 := 12) rfl rfl ?_
    refine w_m0 (pc1 := 13) (st1 := .int (nI (at_)) :: _) rfl rfl (n_ile (e := F) rfl rfl rfl (by omega) (h135)) rfl ?_
    refine w_p (pc1 := 14) rfl rfl ?_
    refine w_m0 (pc1 := 17) rfl rfl (h_gC rfl rfl rfl rfl) rfl ?_
    refine w_p (pc1 := 18) rfl rfl ?_
    refine w_m0 (pc1 := 19) (st1 := .int (nI (n)) :: _) rfl rfl (n_ile (e := F) rfl rfl rfl (by omega) (h134)) rfl ?_
    refine w_t (a := 40) (b := 22) (bN_ne_t (a := at_) (b := n) (by omega) (by omega) (by omega)) rfl rfl ?_
    refine w_p (pc1 := 41) rfl rfl ?_
    refine w_m0 (pc1 := 44) rfl rfl (h_gC rfl rfl rfl rfl) rfl ?_
    refine w_p (pc1 := 45) rfl rfl ?_
    refine w_m0 (pc1 := 46) (st1 := .int (nI (rTb u)) :: _) rfl rfl (n_ile (e := i) rfl rfl rfl (by omega) (ut)) rfl ?_
    refine w_p (pc1 := 47) (al1 := [(3, .int (nI (rTb u))), (2, .int (nI (i))), (0, .ref 176), (1, .int (nI (F)))]) rfl rfl ?_
    refine w_p (pc1 := 48) rfl rfl ?_
    refine w_m0 (pc1 := 51) rfl rfl (h_gC rfl rfl rfl rfl) rfl ?_
    refine w_p (pc1 := 53) (st1 := .int 40 :: _) rfl rfl ?_
    refine w_p (pc1 := 54) rfl rfl ?_
    refine w_imul (pc1 := 55) (u := nI (40)) (v := nI (F)) (z := nI (40 * F)) rfl (nK_mul) rfl ?_
    refine w_p (pc1 := 56) rfl rfl ?_
    refine w_m0 (pc1 := 59) rfl rfl (h_gC rfl rfl rfl rfl) rfl ?_
    refine w_p (pc1 := 60) rfl rfl ?_
    refine w_m0 (pc1 := 61) (st1 := .int (nI (at_)) :: _) rfl rfl (n_ile (e := F) rfl rfl rfl (by omega) (h135)) rfl ?_
    refine w_iadd (pc1 := 62) (u := nI (40 * F)) (v := nI (at_)) (z := nI (40 * F + (at_))) rfl (nK_add) rfl ?_
    refine w_m0 (pc1 := 63) (st1 := .int (jj) :: _) rfl rfl (n_ile (e := 40 * F + (at_)) rfl rfl rfl (by omega) (hid)) rfl ?_
    refine w_p (pc1 := 65) (al1 := [(4, .int (jj)), (3, .int (nI (rTb u))), (2, .int (nI (i))), (0, .ref 176), (1, .int (nI (F)))]) rfl rfl ?_
    refine w_p (pc1 := 66) rfl rfl ?_
    refine w_m0 (pc1 := 69) rfl rfl (h_gC rfl rfl rfl rfl) rfl ?_
    refine w_p (pc1 := 70) rfl rfl ?_
    refine w_p (pc1 := 71) rfl rfl ?_
    refine w_m0 (pc1 := 72) (st1 := .int (nI (at_)) :: _) rfl rfl (n_ile (e := F) rfl rfl rfl (by omega) (h135)) rfl ?_
    refine w_p (pc1 := 73) (st1 := .int 1 :: _) rfl rfl ?_
    refine w_iadd (pc1 := 74) (u := nI (at_)) (v := nI (1)) (z := nI (at_ + 1)) rfl (nK_add) rfl ?_
    refine w_m0 (pc1 := 75) rfl rfl (n_is (e := F) rfl rfl rfl (by omega)) rfl ?_
    rw [hC1]
    refine w_p (pc1 := 76) rfl rfl ?_
    refine w_p (pc1 := 77) rfl rfl ?_
    refine w_p (pc1 := 79) rfl rfl ?_
    refine w_je (pc1 := 82) (vs := [.ref 176, .int (nI (rTb u)), .int (jj)]) (rest := []) (st1 := [.int (nI (k))]) (hm1) rfl rfl rfl (fun _ _ => rfl) rfl (by exact cl_v my_261 rfl rfl rfl (Nat.le_of_ble_eq_true rfl) rfl (MH_obj rfl rfl) rfl (by decide) rfl rfl) (by rfl) (Nat.le_of_ble_eq_true rfl) (Nat.le_of_ble_eq_true rfl) rfl (by rfl) ?_
    refine w_p (pc1 := 84) (al1 := [(5, .int (nI (k))), (4, .int (jj)), (3, .int (nI (rTb u))), (2, .int (nI (i))), (0, .ref 176), (1, .int (nI (F)))]) rfl rfl ?_
    refine w_p (pc1 := 86) rfl rfl ?_
    refine w_p (pc1 := 87) (st1 := .int (-1) :: _) rfl rfl ?_
    refine w_f (a := 101) (b := 90) (cb_eq_f (by exact nK_m1 (by omega))) rfl rfl ?_
    refine w_p (pc1 := 91) rfl rfl ?_
    refine w_p (pc1 := 92) rfl rfl ?_
    refine w_p (pc1 := 94) rfl rfl ?_
    refine w_p (pc1 := 95) rfl rfl ?_
    refine w_je (pc1 := 98) (vs := [.ref 176, .int (nI (i)), .int (nI (k)), .int (nI (F))]) (rest := []) (st1 := [.int 1]) (hrf) rfl rfl rfl (fun _ _ => rfl) rfl (by exact cl_v my_271 rfl rfl rfl (Nat.le_of_ble_eq_true rfl) rfl (MH_obj rfl rfl) rfl (by decide) rfl rfl) (by rfl) (Nat.le_of_ble_eq_true rfl) (Nat.le_of_ble_eq_true rfl) rfl (by rfl) ?_
    refine w_t (a := 102) (b := 101) rfl rfl rfl ?_
    refine w_p (pc1 := 103) rfl rfl ?_
    refine w_m0 (pc1 := 106) rfl rfl (h_gC rfl rfl rfl rfl) rfl ?_
    refine w_p (pc1 := 107) rfl rfl ?_
    refine w_m0 (pc1 := 108) (st1 := .int 1 :: _) rfl rfl (n_ile (e := F) rfl rfl rfl (by omega) (s1.2.1)) rfl ?_
    refine w_p (pc1 := 109) (st1 := .int 2 :: _) rfl rfl ?_
    refine w_t (a := 121) (b := 112) rfl rfl rfl ?_
    refine w_p (pc1 := 122) rfl rfl ?_
    refine w_m0 (pc1 := 125) rfl rfl (h_gC rfl rfl rfl rfl) rfl ?_
    refine w_p (pc1 := 126) rfl rfl ?_
    refine w_m0 (pc1 := 127) (st1 := .int 2 :: _) rfl rfl (n_ile (e := i) rfl rfl rfl (by omega) (hdo)) rfl ?_
    refine w_p (pc1 := 129) (al1 := [(6, .int 2), (5, .int (nI (k))), (4, .int (jj)), (3, .int (nI (rTb u))), (2, .int (nI (i))), (0, .ref 176), (1, .int (nI (F)))]) rfl rfl ?_
    refine w_p (pc1 := 131) rfl rfl ?_
    refine w_p (pc1 := 132) (st1 := .int 1 :: _) rfl rfl ?_
    refine w_t (a := 156) (b := 135) rfl rfl rfl ?_
    refine w_p (pc1 := 158) rfl rfl ?_
    refine w_p (pc1 := 159) (st1 := .int 2 :: _) rfl rfl ?_
    refine w_f (a := 176) (b := 162) rfl rfl rfl ?_
    refine w_p (pc1 := 163) rfl rfl ?_
    refine w_m0 (pc1 := 166) rfl rfl (h_gC rfl rfl rfl rfl) rfl ?_
    refine w_p (pc1 := 167) rfl rfl ?_
    refine w_m0 (pc1 := 168) (st1 := .int 1 :: _) rfl rfl (n_ile (e := F) rfl rfl rfl (by omega) (s1.2.1)) rfl ?_
    refine w_p (pc1 := 169) (st1 := .int 2 :: _) rfl rfl ?_
    refine w_t (a := 176) (b := 172) rfl rfl rfl ?_
    refine w_p (pc1 := 177) (st1 := .int 0 :: _) rfl rfl ?_
    refine w_p (pc1 := 179) (al1 := [(7, .int 0), (6, .int 2), (5, .int (nI (k))), (4, .int (jj)), (3, .int (nI (rTb u))), (2, .int (nI (i))), (0, .ref 176), (1, .int (nI (F)))]) rfl rfl ?_
    refine w_p (pc1 := 180) rfl rfl ?_
    refine w_p (pc1 := 182) rfl rfl ?_
    refine w_t (a := 189) (b := 185) rfl rfl rfl ?_
    refine w_p (pc1 := 190) (st1 := .int 1 :: _) rfl rfl ?_
    refine w_p (pc1 := 191) rfl rfl ?_
    refine w_p (pc1 := 193) rfl rfl ?_
    refine w_je (pc1 := 196) (vs := [.ref 176, .int 1, .int (nI (rTb u)), .int (jj)]) (rest := []) (st1 := [.int (nI (F + 1))]) (hbs) rfl rfl rfl (fun _ _ => rfl) rfl (by exact cl_v my_260 rfl rfl rfl (Nat.le_of_ble_eq_true rfl) rfl (MH_obj rfl rfl) rfl (by decide) rfl rfl) (by rfl) (Nat.le_of_ble_eq_true rfl) (Nat.le_of_ble_eq_true rfl) rfl (by rfl) ?_
    refine w_p (pc1 := 198) (al1 := [(8, .int (nI (F + 1))), (7, .int 0), (6, .int 2), (5, .int (nI (k))), (4, .int (jj)), (3, .int (nI (rTb u))), (2, .int (nI (i))), (0, .ref 176), (1, .int (nI (F)))]) rfl rfl ?_
    refine w_p (pc1 := 200) rfl rfl ?_
    refine w_p (pc1 := 201) (st1 := .int (-1) :: _) rfl rfl ?_
    refine w_t (a := 205) (b := 204) (cb_ne_t (by exact nK_m1 (by omega))) rfl rfl ?_
    refine w_p (pc1 := 206) rfl rfl ?_
    refine w_p (pc1 := 208) rfl rfl ?_
    refine w_p (pc1 := 209) rfl rfl ?_
    refine w_p (pc1 := 211) rfl rfl ?_
    refine w_ji (pc1 := 214) (vs := [.ref 176, .int (nI (F + 1)), .int (nI (rTb u)), .int (nI (k))]) (rest := []) (hto) rfl rfl rfl (fun _ _ => rfl) rfl (by exact cl_v my_262 rfl rfl rfl (Nat.le_of_ble_eq_true rfl) rfl (MH_obj rfl rfl) rfl (by decide) rfl rfl) (by rfl) (Nat.le_of_ble_eq_true rfl) (Nat.le_of_ble_eq_true rfl) rfl (fun v h m hq => ?_) (fun _ _ _ e => e.elim)
    obtain ⟨rfl, ⟨C3, ⟨o1, o2⟩, rfl⟩, rfl⟩ := hq
    refine w_p (pc1 := 215) (st1 := .int 0 :: _) rfl rfl ?_
    refine w_p (pc1 := 217) (al1 := [(9, .int 0), (8, .int (nI (F + 1))), (7, .int 0), (6, .int 2), (5, .int (nI (k))), (4, .int (jj)), (3, .int (nI (rTb u))), (2, .int (nI (i))), (0, .ref 176), (1, .int (nI (F)))]) rfl rfl ?_
    have qq : frQ (F + 1) C1 C3 := frQ_t fQ (frO_Q o1)
    refine Wd_q (lp_272_2 (C0 := C3) (N := N) (b := b) hi hF ho hR hK hb1 hb (MSt_Q qq K1) (RUM_Q qq U1) (bfM_Q qq (by omega) h6b (by omega) hN1) (rCs u) [] (rOs u) [] C3 r.2 rfl rfl rfl frO_r (fun _ => rfl) (fun c hc => ?_)) (fun v0 h m hq => ?_) (fun _ _ _ e => e)
    · rw [(o2 c (by omega)).2, fV.2.2.2]
      exact (g4 k r hr0).2 c hc
    · obtain ⟨p1, ⟨C4, ⟨p2, p3, p4⟩, p5⟩, p6⟩ := hq
      have o3 := frO_t o1 p2
      refine ⟨p1, ⟨C4, Or.inr ⟨_, rfl, Or.inr ⟨by omega, by omega, SFM_O o3 hsb, CNT_O o3 hc h89 h74, ⟨p4, fun c hc => ?_⟩, frQ_t fQ (frO_Q o3), frV_t fV (frO_V o3)⟩⟩, p5⟩, p6⟩
      rw [p3, (o2 c (by omega)).1, fV.2.2.2]
      exact (g4 k r hr0).2 c hc
set_option maxRecDepth 100000 in
theorem lp_272_3 (hi : i < 24) (hF : F < 38) (ho : okSt S) (hR : okR (sWd S) u) (hK : rKd u = 4) (hb1 : rTg u = some b) (hb : b < 6) (K : MSt C0 S) (U : RUM C0 i u) (hN : bfM C0 136 F (sWd S b) N) : ∀ (suf pre sufe pree : List Nat) (C : co_T) (f : rw_F), pre ++ suf = rCs u → pree ++ sufe = rOs u → pree.length = pre.length → frO (F + 1) C0 C → (∀ q, C.2.1 137 q = C0.2.1 137 q) → bfM C 136 (F + 1) (sWd S (rTb u)) f → Wd L xs d y_272 (217, [(9, .int (nI (pre.length))), (8, .int (nI (F + 1))), (7, .int 0), (6, .int 3), (5, .int (nI (k))), (4, .int (jj)), (3, .int (nI (rTb u))), (2, .int (nI (i))), (0, .ref 176), (1, .int (nI (F)))], [], MH C t, sl) (fun v h m => none = v ∧ (∃ C', (frO (F + 1) C0 C' ∧ (∀ q, C'.2.1 137 q = C0.2.1 137 q) ∧ bfM C' 136 (F + 1) (sWd S (rTb u)) (setR 3 N (sDf S (rTb u)) f suf sufe)) ∧ MH C' t = h) ∧ sl = m) nX
  | [], pre, sufe, pree, C, f, hp, hpe, hpl, hf, h7, hB => by
    rw [List.append_nil] at hp
    have hl2 := congrArg List.length hp
    have h6 := hR.1.2.2.1
    have um : C.1 87 i = nI (rCs u).length := (hf.1 87 i).trans U.1.2.2.2.1
    have e0 : setR 3 N (sDf S (rTb u)) f [] sufe = f := by unfold setR; rfl
    rw [e0]
    refine w_p (pc1 := 219) rfl rfl ?_
    refine w_p (pc1 := 220) rfl rfl ?_
    refine w_m0 (pc1 := 223) rfl rfl (h_gC rfl rfl rfl rfl) rfl ?_
    refine w_p (pc1 := 224) rfl rfl ?_
    refine w_m0 (pc1 := 225) (st1 := .int (nI ((rCs u).length)) :: _) rfl rfl (n_ile (e := i) rfl rfl rfl (by omega) (um)) rfl ?_
    refine w_t (a := 321) (b := 228) (bN_ge_t (a := pre.length) (b := (rCs u).length) (by omega) (by omega) (by omega)) rfl rfl ?_
    refine w_r rfl rfl rfl (fun _ _ => rfl) rfl ?_
    exact ⟨rfl, ⟨C, ⟨hf, h7, hB⟩, rfl⟩, rfl⟩
  | c :: suf, pre, [], pree, C, f, hp, hpe, hpl, hf, h7, hB => by
    obtain ⟨h1, h2, h3⟩ := get_ap hp
    obtain ⟨_, hll⟩ := hR.2.1 hK
    rw [List.append_nil] at hpe
    subst hpe
    omega
  | c :: suf, pre, e :: sufe, pree, C, f, hp, hpe, hpl, hf, h7, hB => by
    obtain ⟨h1, h2, h3⟩ := get_ap hp
    obtain ⟨g1, g2, g3⟩ := get_ap hpe
    obtain ⟨⟨b9, hb9, hb2, hb3⟩, hll⟩ := hR.2.1 hK
    rw [hb1] at hb9
    cases hb9
    have h6 := hR.1.2.2.1
    have hb6 := hR.1.2.1
    have hw1 := ho.1 b hb
    have hw2 := ho.1 (rTb u) hb6
    have hcw := hR.1.2.2.2 c (List.mem_of_getElem? h1)
    have hew := hb3 e (List.mem_of_getElem? g1)
    have um : C.1 87 i = nI (rCs u).length := (hf.1 87 i).trans U.1.2.2.2.1
    have hcf : C.1 88 (6 * i + pre.length) = nI c := (hf.1 88 _).trans (U.1.2.2.2.2.1 _ _ h1)
    have hcf2 : C.1 89 (6 * i + pre.length) = nI e := by rw [hf.1 89, ← hpl]; exact U.1.2.2.2.2.2 _ _ g1
    have e0 : setR 3 N (sDf S (rTb u)) f (c :: suf) (e :: sufe) = setR 3 N (sDf S (rTb u)) (upF f c (none)) suf sufe := by
      show setR 3 N (sDf S (rTb u)) (upF f c (if 3 = 2 then N e else if 3 = 4 then sDf S (rTb u) c else none)) suf sufe = _
      rfl
    rw [e0]
    have hv2 : C.2.1 136 (6 * F + e) = e_V (N e) := by rw [hf.2.1 136 _ (by omega)]; exact hN e hew
    have hv4 : C.2.1 82 (6 * rTb u + c) = e_V (sDf S (rTb u) c) := by rw [hf.2.1 82 _ (by omega), show 6 * rTb u + c = rTb u * 6 + c by omega]; exact (K.1 (rTb u) hb6).2 c hcw
    have ih := lp_272_3 hi hF ho hR hK hb1 hb K U hN suf (pre ++ [c]) sufe (pree ++ [e]) (sJ C 136 (6 * (F + 1) + c) (e_V (none))) (upF f c (none)) h3 g3 (by rw [len_s, len_s, hpl]) (frO_t hf (frO_J (by omega))) (fun q => by rw [sJ_2, if_neg (by omega)]; exact h7 q) (fun q hq => by
      rw [sJ_2]
      unfold upF
      by_cases e : q = c
      · rw [if_pos ⟨rfl, by omega⟩, if_pos e]
      · rw [if_neg (by omega), if_neg e]
        exact hB q hq)
    rw [len_s] at ih
    refine w_p (pc1 := 219) rfl rfl ?_
    refine w_p (pc1 := 220) rfl rfl ?_
    refine w_m0 (pc1 := 223) rfl rfl (h_gC rfl rfl rfl rfl) rfl ?_
    refine w_p (pc1 := 224) rfl rfl ?_
    refine w_m0 (pc1 := 225) (st1 := .int (nI ((rCs u).length)) :: _) rfl rfl (n_ile (e := i) rfl rfl rfl (by omega) (um)) rfl ?_
    refine w_f (a := 321) (b := 228) (bN_ge_f (a := pre.length) (b := (rCs u).length) (by omega) (by omega) (by omega)) rfl rfl ?_
    refine w_p (pc1 := 230) rfl rfl ?_
    refine w_f (a := 321) (b := 233) rfl rfl rfl ?_
    refine w_p (pc1 := 234) rfl rfl ?_
    refine w_m0 (pc1 := 237) rfl rfl (h_gC rfl rfl rfl rfl) rfl ?_
    refine w_p (pc1 := 239) (st1 := .int 6 :: _) rfl rfl ?_
    refine w_p (pc1 := 240) rfl rfl ?_
    refine w_imul (pc1 := 241) (u := nI (6)) (v := nI (i)) (z := nI (6 * i)) rfl (nK_mul) rfl ?_
    refine w_p (pc1 := 243) rfl rfl ?_
    refine w_iadd (pc1 := 244) (u := nI (6 * i)) (v := nI (pre.length)) (z := nI (6 * i + (pre.length))) rfl (nK_add) rfl ?_
    refine w_m0 (pc1 := 245) (st1 := .int (nI (c)) :: _) rfl rfl (n_ile (e := 6 * i + (pre.length)) rfl rfl rfl (by omega) (hcf)) rfl ?_
    refine w_p (pc1 := 247) (al1 := [(10, .int (nI (c))), (9, .int (nI (pre.length))), (8, .int (nI (F + 1))), (7, .int 0), (6, .int 3), (5, .int (nI (k))), (4, .int (jj)), (3, .int (nI (rTb u))), (2, .int (nI (i))), (0, .ref 176), (1, .int (nI (F)))]) rfl rfl ?_
    refine w_p (pc1 := 248) rfl rfl ?_
    refine w_m0 (pc1 := 251) rfl rfl (h_gC rfl rfl rfl rfl) rfl ?_
    refine w_p (pc1 := 253) (st1 := .int 6 :: _) rfl rfl ?_
    refine w_p (pc1 := 255) rfl rfl ?_
    refine w_imul (pc1 := 256) (u := nI (6)) (v := nI (F + 1)) (z := nI (6 * (F + 1))) rfl (nK_mul) rfl ?_
    refine w_p (pc1 := 258) rfl rfl ?_
    refine w_iadd (pc1 := 259) (u := nI (6 * (F + 1))) (v := nI (c)) (z := nI (6 * (F + 1) + c)) rfl (nK_add) rfl ?_
    refine w_p (pc1 := 261) rfl rfl ?_
    refine w_p (pc1 := 262) (st1 := .int 2 :: _) rfl rfl ?_
    refine w_t (a := 290) (b := 265) rfl rfl rfl ?_
    refine w_p (pc1 := 292) rfl rfl ?_
    refine w_p (pc1 := 293) (st1 := .int 3 :: _) rfl rfl ?_
    refine w_f (a := 302) (b := 296) rfl rfl rfl ?_
    refine w_m0 (pc1 := 299) (st1 := .long (-9223372036854775808) :: _) rfl rfl rfl rfl ?_
    refine w_p (pc1 := 314) rfl rfl ?_
    refine w_m0 (pc1 := 315) rfl rfl (n_ls (e := 6 * (F + 1) + c) rfl rfl rfl (by omega)) rfl ?_
    refine w_iinc (pc1 := 318) (u := nI (pre.length)) (z := nI (pre.length + 1)) (al1 := [(9, .int (nI (pre.length + 1))), (10, .int (nI (c))), (8, .int (nI (F + 1))), (7, .int 0), (6, .int 3), (5, .int (nI (k))), (4, .int (jj)), (3, .int (nI (rTb u))), (2, .int (nI (i))), (0, .ref 176), (1, .int (nI (F)))]) rfl rfl rfl nK_1 rfl rfl ?_
    refine w_p (pc1 := 217) rfl rfl ?_
    refine Wd_al (al := [(9, .int (nI (pre.length + 1))), (8, .int (nI (F + 1))), (7, .int 0), (6, .int 3), (5, .int (nI (k))), (4, .int (jj)), (3, .int (nI (rTb u))), (2, .int (nI (i))), (0, .ref 176), (1, .int (nI (F)))]) (sba_p [0, 2, 3, 4, 5, 6, 7, 8, 9, 10] rfl rfl) ?_
    exact ih
set_option maxRecDepth 100000 in
theorem m_272_1_3 (hi : i < 24) (hF : F < 38) (hb : b < 6) (ho : okSt S) (U : RUM C i u) (hR : okR (sWd S) u) (hK : rKd u = 4) (hb1 : rTg u = some b) {at_ : Nat} (hn : n ≤ 40) (hat : at_ < n) (h134 : C.1 134 F = nI n) (h135 : C.1 135 F = nI at_) (hid : C.1 133 (40 * F + at_) = jj) (B : TB S σ D F b 1 i0 3 (nI i) N O C) (hfd : fdr jj (σ.1 (rTb u)).1 0 = some (k, r)) (hx : rfg u O r = true) (ha : dos 1 u = 3) : Wd L xs (d + 6) y_272 (0, [(0, .ref 176), (1, .int (nI (F)))], [], MH C t, 0) (QR t (fun C' => BSd (sI C 135 F (nI (at_ + 1))) C' (F + 1) σ.2.1 D σ.2.2 1 (nI (rTb u)) jj (sWd S (rTb u)) (sWd S (rTb u)) r.2 (some (setR 3 N (sDf S (rTb u)) r.2 (rCs u) (rOs u))))) nX := by
  have hs := B.2.2.1
  have hb6 := hR.1.2.1
  have h6b := ho.1 b hb
  have y1 : frY F C (sI C 135 F (nI (at_ + 1))) := frY_m (by omega)
  have U1 := RUM_Q (frY_Q y1) U
  have B1 := TB_Y y1 B
  have ut := U.1.2.1
  have hm1 := m_261 (L := L) (xs := xs) (t := t) (d := d + 5) (sl := 0) (ii := jj) B1.2.1.1 hb6
  rw [hfd] at hm1
  obtain ⟨_, hr0, hri⟩ := fdr_s hfd
  rw [Nat.sub_zero] at hr0
  have hkl := get_lt hr0
  obtain ⟨g1, g2, g3, g4⟩ := B1.2.1.1 (rTb u) hb6
  have hrf := m_271 (L := L) (xs := xs) (t := t) (d := d + 4) (sl := 0) B1.2.1.1 U1 hi hR hK hb1 h6b (f := F) (by omega) B1.2.2.2.2 hr0
  rw [hx] at hrf
  have s1 := B1.2.2.1
  have hdo : (sI C 135 F (nI (at_ + 1))).1 93 i = 3 := by
    rw [U1.2.1.2.2]
    have ha : rUp u = 3 := ha
    rw [ha]
    rfl
  have hw2 := ho.1 (rTb u) hb6
  generalize hC1 : sI C 135 F (nI (at_ + 1)) = C1 at U1 B1 hm1 hrf s1 hdo ⊢
  obtain ⟨K1, ⟨hW, hnx, hX, hDp, hFr, h89, h74⟩, s2, hN1, hO1⟩ := id B1
  obtain ⟨g1, g2, g3, g4⟩ := hW (rTb u) hb6
  by_cases hx3 : 300 ≤ σ.2.1 ∨ 12 ≤ D
  · skip
    refine w_p (pc1 := 1) rfl rfl ?_
    refine w_m0 (pc1 := 4) rfl rfl (h_gC rfl rfl rfl rfl) rfl ?_
    refine w_p (pc1 := 5) rfl rfl ?_
    refine w_m0 (pc1 := 6) (st1 := .int (nI (i)) :: _) rfl rfl (n_ile (e := F) rfl rfl rfl (by omega) (hs.2.2.2.2.2)) rfl ?_
    refine w_p (pc1 := 7) (al1 := [(2, .int (nI (i))), (0, .ref 176), (1, .int (nI (F)))]) rfl rfl ?_
    refine w_p (pc1 := 8) rfl rfl ?_
    refine w_m0 (pc1 := 11) rfl rfl (h_gC rfl rfl rfl rfl) rfl ?_
    refine w_p (pc1 := 12) rfl rfl ?_
    refine w_m0 (pc1 := 13) (st1 := .int (nI (at_)) :: _) rfl rfl (n_ile (e := F) rfl rfl rfl (by omega) (h135)) rfl ?_
    refine w_p (pc1 := 14) rfl rfl ?_
    refine w_m0 (pc1 := 17) rfl rfl (h_gC rfl rfl rfl rfl) rfl ?_
    refine w_p (pc1 := 18) rfl rfl ?_
    refine w_m0 (pc1 := 19) (st1 := .int (nI (n)) :: _) rfl rfl (n_ile (e := F) rfl rfl rfl (by omega) (h134)) rfl ?_
    refine w_t (a := 40) (b := 22) (bN_ne_t (a := at_) (b := n) (by omega) (by omega) (by omega)) rfl rfl ?_
    refine w_p (pc1 := 41) rfl rfl ?_
    refine w_m0 (pc1 := 44) rfl rfl (h_gC rfl rfl rfl rfl) rfl ?_
    refine w_p (pc1 := 45) rfl rfl ?_
    refine w_m0 (pc1 := 46) (st1 := .int (nI (rTb u)) :: _) rfl rfl (n_ile (e := i) rfl rfl rfl (by omega) (ut)) rfl ?_
    refine w_p (pc1 := 47) (al1 := [(3, .int (nI (rTb u))), (2, .int (nI (i))), (0, .ref 176), (1, .int (nI (F)))]) rfl rfl ?_
    refine w_p (pc1 := 48) rfl rfl ?_
    refine w_m0 (pc1 := 51) rfl rfl (h_gC rfl rfl rfl rfl) rfl ?_
    refine w_p (pc1 := 53) (st1 := .int 40 :: _) rfl rfl ?_
    refine w_p (pc1 := 54) rfl rfl ?_
    refine w_imul (pc1 := 55) (u := nI (40)) (v := nI (F)) (z := nI (40 * F)) rfl (nK_mul) rfl ?_
    refine w_p (pc1 := 56) rfl rfl ?_
    refine w_m0 (pc1 := 59) rfl rfl (h_gC rfl rfl rfl rfl) rfl ?_
    refine w_p (pc1 := 60) rfl rfl ?_
    refine w_m0 (pc1 := 61) (st1 := .int (nI (at_)) :: _) rfl rfl (n_ile (e := F) rfl rfl rfl (by omega) (h135)) rfl ?_
    refine w_iadd (pc1 := 62) (u := nI (40 * F)) (v := nI (at_)) (z := nI (40 * F + (at_))) rfl (nK_add) rfl ?_
    refine w_m0 (pc1 := 63) (st1 := .int (jj) :: _) rfl rfl (n_ile (e := 40 * F + (at_)) rfl rfl rfl (by omega) (hid)) rfl ?_
    refine w_p (pc1 := 65) (al1 := [(4, .int (jj)), (3, .int (nI (rTb u))), (2, .int (nI (i))), (0, .ref 176), (1, .int (nI (F)))]) rfl rfl ?_
    refine w_p (pc1 := 66) rfl rfl ?_
    refine w_m0 (pc1 := 69) rfl rfl (h_gC rfl rfl rfl rfl) rfl ?_
    refine w_p (pc1 := 70) rfl rfl ?_
    refine w_p (pc1 := 71) rfl rfl ?_
    refine w_m0 (pc1 := 72) (st1 := .int (nI (at_)) :: _) rfl rfl (n_ile (e := F) rfl rfl rfl (by omega) (h135)) rfl ?_
    refine w_p (pc1 := 73) (st1 := .int 1 :: _) rfl rfl ?_
    refine w_iadd (pc1 := 74) (u := nI (at_)) (v := nI (1)) (z := nI (at_ + 1)) rfl (nK_add) rfl ?_
    refine w_m0 (pc1 := 75) rfl rfl (n_is (e := F) rfl rfl rfl (by omega)) rfl ?_
    rw [hC1]
    refine w_p (pc1 := 76) rfl rfl ?_
    refine w_p (pc1 := 77) rfl rfl ?_
    refine w_p (pc1 := 79) rfl rfl ?_
    refine w_je (pc1 := 82) (vs := [.ref 176, .int (nI (rTb u)), .int (jj)]) (rest := []) (st1 := [.int (nI (k))]) (hm1) rfl rfl rfl (fun _ _ => rfl) rfl (by exact cl_v my_261 rfl rfl rfl (Nat.le_of_ble_eq_true rfl) rfl (MH_obj rfl rfl) rfl (by decide) rfl rfl) (by rfl) (Nat.le_of_ble_eq_true rfl) (Nat.le_of_ble_eq_true rfl) rfl (by rfl) ?_
    refine w_p (pc1 := 84) (al1 := [(5, .int (nI (k))), (4, .int (jj)), (3, .int (nI (rTb u))), (2, .int (nI (i))), (0, .ref 176), (1, .int (nI (F)))]) rfl rfl ?_
    refine w_p (pc1 := 86) rfl rfl ?_
    refine w_p (pc1 := 87) (st1 := .int (-1) :: _) rfl rfl ?_
    refine w_f (a := 101) (b := 90) (cb_eq_f (by exact nK_m1 (by omega))) rfl rfl ?_
    refine w_p (pc1 := 91) rfl rfl ?_
    refine w_p (pc1 := 92) rfl rfl ?_
    refine w_p (pc1 := 94) rfl rfl ?_
    refine w_p (pc1 := 95) rfl rfl ?_
    refine w_je (pc1 := 98) (vs := [.ref 176, .int (nI (i)), .int (nI (k)), .int (nI (F))]) (rest := []) (st1 := [.int 1]) (hrf) rfl rfl rfl (fun _ _ => rfl) rfl (by exact cl_v my_271 rfl rfl rfl (Nat.le_of_ble_eq_true rfl) rfl (MH_obj rfl rfl) rfl (by decide) rfl rfl) (by rfl) (Nat.le_of_ble_eq_true rfl) (Nat.le_of_ble_eq_true rfl) rfl (by rfl) ?_
    refine w_t (a := 102) (b := 101) rfl rfl rfl ?_
    refine w_p (pc1 := 103) rfl rfl ?_
    refine w_m0 (pc1 := 106) rfl rfl (h_gC rfl rfl rfl rfl) rfl ?_
    refine w_p (pc1 := 107) rfl rfl ?_
    refine w_m0 (pc1 := 108) (st1 := .int 1 :: _) rfl rfl (n_ile (e := F) rfl rfl rfl (by omega) (s1.2.1)) rfl ?_
    refine w_p (pc1 := 109) (st1 := .int 2 :: _) rfl rfl ?_
    refine w_t (a := 121) (b := 112) rfl rfl rfl ?_
    refine w_p (pc1 := 122) rfl rfl ?_
    refine w_m0 (pc1 := 125) rfl rfl (h_gC rfl rfl rfl rfl) rfl ?_
    refine w_p (pc1 := 126) rfl rfl ?_
    refine w_m0 (pc1 := 127) (st1 := .int 3 :: _) rfl rfl (n_ile (e := i) rfl rfl rfl (by omega) (hdo)) rfl ?_
    refine w_p (pc1 := 129) (al1 := [(6, .int 3), (5, .int (nI (k))), (4, .int (jj)), (3, .int (nI (rTb u))), (2, .int (nI (i))), (0, .ref 176), (1, .int (nI (F)))]) rfl rfl ?_
    refine w_p (pc1 := 131) rfl rfl ?_
    refine w_p (pc1 := 132) (st1 := .int 1 :: _) rfl rfl ?_
    refine w_t (a := 156) (b := 135) rfl rfl rfl ?_
    refine w_p (pc1 := 158) rfl rfl ?_
    refine w_p (pc1 := 159) (st1 := .int 2 :: _) rfl rfl ?_
    refine w_t (a := 176) (b := 162) rfl rfl rfl ?_
    refine w_p (pc1 := 177) (st1 := .int 0 :: _) rfl rfl ?_
    refine w_p (pc1 := 179) (al1 := [(7, .int 0), (6, .int 3), (5, .int (nI (k))), (4, .int (jj)), (3, .int (nI (rTb u))), (2, .int (nI (i))), (0, .ref 176), (1, .int (nI (F)))]) rfl rfl ?_
    refine w_p (pc1 := 180) rfl rfl ?_
    refine w_p (pc1 := 182) rfl rfl ?_
    refine w_t (a := 189) (b := 185) rfl rfl rfl ?_
    refine w_p (pc1 := 190) (st1 := .int 1 :: _) rfl rfl ?_
    refine w_p (pc1 := 191) rfl rfl ?_
    refine w_p (pc1 := 193) rfl rfl ?_
    refine w_je (pc1 := 196) (vs := [.ref 176, .int 1, .int (nI (rTb u)), .int (jj)]) (rest := []) (st1 := [.int (-1)]) (m_260x (d := d + 4) (sl := 0) hX.1 hX.2.1 hDp.1 hDp.2 h89 hx3) rfl rfl rfl (fun _ _ => rfl) rfl (by exact cl_v my_260 rfl rfl rfl (Nat.le_of_ble_eq_true rfl) rfl (MH_obj rfl rfl) rfl (by decide) rfl rfl) (by rfl) (Nat.le_of_ble_eq_true rfl) (Nat.le_of_ble_eq_true rfl) rfl (by rfl) ?_
    refine w_p (pc1 := 198) (al1 := [(8, .int (-1)), (7, .int 0), (6, .int 3), (5, .int (nI (k))), (4, .int (jj)), (3, .int (nI (rTb u))), (2, .int (nI (i))), (0, .ref 176), (1, .int (nI (F)))]) rfl rfl ?_
    refine w_p (pc1 := 200) rfl rfl ?_
    refine w_p (pc1 := 201) (st1 := .int (-1) :: _) rfl rfl ?_
    refine w_f (a := 205) (b := 204) rfl rfl rfl ?_
    refine w_r rfl rfl rfl (fun _ _ => rfl) rfl ?_
    exact ⟨rfl, ⟨sI C1 76 89 5, Or.inr ⟨_, rfl, Or.inl ⟨hx3, EDD_S frS_r ⟨false, h74⟩⟩⟩, rfl⟩, rfl⟩
  · have hbs := m_260 (L := L) (xs := xs) (t := t) (d := d + 4) (sl := 0) (kd := 1) (tb := nI (rTb u)) (i := jj) hX.1 (by omega) hDp.1 (by omega) hX.2.2.1 hX.2.2.2 hFr.1 (by omega)
    have fQ := bs_Q (C := C1) (u := σ.2.1) (D := D) (v := σ.2.2) (f := F + 1) (kd := 1) (tb := nI (rTb u)) (i := jj)
    have fV := bs_V (C := C1) (u := σ.2.1) (D := D) (v := σ.2.2) (f := F + 1) (kd := 1) (tb := nI (rTb u)) (i := jj)
    have hc := bs_C (C := C1) (u := σ.2.1) (D := D) (v := σ.2.2) (f := F + 1) (kd := 1) (tb := nI (rTb u)) (i := jj)
    have hsb := bs_S (C := C1) (u := σ.2.1) (D := D) (v := σ.2.2) (f := F + 1) (kd := 1) (tb := nI (rTb u)) (i := jj)
    have hto := m_262 (L := L) (xs := xs) (C := bsC C1 σ.2.1 D σ.2.2 (F + 1) 1 (nI (rTb u)) jj) (t := t) (d := d + 4) (sl := 0) (f := F + 1) (by omega) hb6 (k := k) (by omega)
    refine w_p (pc1 := 1) rfl rfl ?_
    refine w_m0 (pc1 := 4) rfl rfl (h_gC rfl rfl rfl rfl) rfl ?_
    refine w_p (pc1 := 5) rfl rfl ?_
    refine w_m0 (pc1 := 6) (st1 := .int (nI (i)) :: _) rfl rfl (n_ile (e := F) rfl rfl rfl (by omega) (hs.2.2.2.2.2)) rfl ?_
    refine w_p (pc1 := 7) (al1 := [(2, .int (nI (i))), (0, .ref 176), (1, .int (nI (F)))]) rfl rfl ?_
    refine w_p (pc1 := 8) rfl rfl ?_
    refine w_m0 (pc1 := 11) rfl rfl (h_gC rfl rfl rfl rfl) rfl ?_
    refine w_p (pc1 := 12) rfl rfl ?_
    refine w_m0 (pc1 := 13) (st1 := .int (nI (at_)) :: _) rfl rfl (n_ile (e := F) rfl rfl rfl (by omega) (h135)) rfl ?_
    refine w_p (pc1 := 14) rfl rfl ?_
    refine w_m0 (pc1 := 17) rfl rfl (h_gC rfl rfl rfl rfl) rfl ?_
    refine w_p (pc1 := 18) rfl rfl ?_
    refine w_m0 (pc1 := 19) (st1 := .int (nI (n)) :: _) rfl rfl (n_ile (e := F) rfl rfl rfl (by omega) (h134)) rfl ?_
    refine w_t (a := 40) (b := 22) (bN_ne_t (a := at_) (b := n) (by omega) (by omega) (by omega)) rfl rfl ?_
    refine w_p (pc1 := 41) rfl rfl ?_
    refine w_m0 (pc1 := 44) rfl rfl (h_gC rfl rfl rfl rfl) rfl ?_
    refine w_p (pc1 := 45) rfl rfl ?_
    refine w_m0 (pc1 := 46) (st1 := .int (nI (rTb u)) :: _) rfl rfl (n_ile (e := i) rfl rfl rfl (by omega) (ut)) rfl ?_
    refine w_p (pc1 := 47) (al1 := [(3, .int (nI (rTb u))), (2, .int (nI (i))), (0, .ref 176), (1, .int (nI (F)))]) rfl rfl ?_
    refine w_p (pc1 := 48) rfl rfl ?_
    refine w_m0 (pc1 := 51) rfl rfl (h_gC rfl rfl rfl rfl) rfl ?_
    refine w_p (pc1 := 53) (st1 := .int 40 :: _) rfl rfl ?_
    refine w_p (pc1 := 54) rfl rfl ?_
    refine w_imul (pc1 := 55) (u := nI (40)) (v := nI (F)) (z := nI (40 * F)) rfl (nK_mul) rfl ?_
    refine w_p (pc1 := 56) rfl rfl ?_
    refine w_m0 (pc1 := 59) rfl rfl (h_gC rfl rfl rfl rfl) rfl ?_
    refine w_p (pc1 := 60) rfl rfl ?_
    refine w_m0 (pc1 := 61) (st1 := .int (nI (at_)) :: _) rfl rfl (n_ile (e := F) rfl rfl rfl (by omega) (h135)) rfl ?_
    refine w_iadd (pc1 := 62) (u := nI (40 * F)) (v := nI (at_)) (z := nI (40 * F + (at_))) rfl (nK_add) rfl ?_
    refine w_m0 (pc1 := 63) (st1 := .int (jj) :: _) rfl rfl (n_ile (e := 40 * F + (at_)) rfl rfl rfl (by omega) (hid)) rfl ?_
    refine w_p (pc1 := 65) (al1 := [(4, .int (jj)), (3, .int (nI (rTb u))), (2, .int (nI (i))), (0, .ref 176), (1, .int (nI (F)))]) rfl rfl ?_
    refine w_p (pc1 := 66) rfl rfl ?_
    refine w_m0 (pc1 := 69) rfl rfl (h_gC rfl rfl rfl rfl) rfl ?_
    refine w_p (pc1 := 70) rfl rfl ?_
    refine w_p (pc1 := 71) rfl rfl ?_
    refine w_m0 (pc1 := 72) (st1 := .int (nI (at_)) :: _) rfl rfl (n_ile (e := F) rfl rfl rfl (by omega) (h135)) rfl ?_
    refine w_p (pc1 := 73) (st1 := .int 1 :: _) rfl rfl ?_
    refine w_iadd (pc1 := 74) (u := nI (at_)) (v := nI (1)) (z := nI (at_ + 1)) rfl (nK_add) rfl ?_
    refine w_m0 (pc1 := 75) rfl rfl (n_is (e := F) rfl rfl rfl (by omega)) rfl ?_
    rw [hC1]
    refine w_p (pc1 := 76) rfl rfl ?_
    refine w_p (pc1 := 77) rfl rfl ?_
    refine w_p (pc1 := 79) rfl rfl ?_
    refine w_je (pc1 := 82) (vs := [.ref 176, .int (nI (rTb u)), .int (jj)]) (rest := []) (st1 := [.int (nI (k))]) (hm1) rfl rfl rfl (fun _ _ => rfl) rfl (by exact cl_v my_261 rfl rfl rfl (Nat.le_of_ble_eq_true rfl) rfl (MH_obj rfl rfl) rfl (by decide) rfl rfl) (by rfl) (Nat.le_of_ble_eq_true rfl) (Nat.le_of_ble_eq_true rfl) rfl (by rfl) ?_
    refine w_p (pc1 := 84) (al1 := [(5, .int (nI (k))), (4, .int (jj)), (3, .int (nI (rTb u))), (2, .int (nI (i))), (0, .ref 176), (1, .int (nI (F)))]) rfl rfl ?_
    refine w_p (pc1 := 86) rfl rfl ?_
    refine w_p (pc1 := 87) (st1 := .int (-1) :: _) rfl rfl ?_
    refine w_f (a := 101) (b := 90) (cb_eq_f (by exact nK_m1 (by omega))) rfl rfl ?_
    refine w_p (pc1 := 91) rfl rfl ?_
    refine w_p (pc1 := 92) rfl rfl ?_
    refine w_p (pc1 := 94) rfl rfl ?_
    refine w_p (pc1 := 95) rfl rfl ?_
    refine w_je (pc1 := 98) (vs := [.ref 176, .int (nI (i)), .int (nI (k)), .int (nI (F))]) (rest := []) (st1 := [.int 1]) (hrf) rfl rfl rfl (fun _ _ => rfl) rfl (by exact cl_v my_271 rfl rfl rfl (Nat.le_of_ble_eq_true rfl) rfl (MH_obj rfl rfl) rfl (by decide) rfl rfl) (by rfl) (Nat.le_of_ble_eq_true rfl) (Nat.le_of_ble_eq_true rfl) rfl (by rfl) ?_
    refine w_t (a := 102) (b := 101) rfl rfl rfl ?_
    refine w_p (pc1 := 103) rfl rfl ?_
    refine w_m0 (pc1 := 106) rfl rfl (h_gC rfl rfl rfl rfl) rfl ?_
    refine w_p (pc1 := 107) rfl rfl ?_
    refine w_m0 (pc1 := 108) (st1 := .int 1 :: _) rfl rfl (n_ile (e := F) rfl rfl rfl (by omega) (s1.2.1)) rfl ?_
    refine w_p (pc1 := 109) (st1 := .int 2 :: _) rfl rfl ?_
    refine w_t (a := 121) (b := 112) rfl rfl rfl ?_
    refine w_p (pc1 := 122) rfl rfl ?_
    refine w_m0 (pc1 := 125) rfl rfl (h_gC rfl rfl rfl rfl) rfl ?_
    refine w_p (pc1 := 126) rfl rfl ?_
    refine w_m0 (pc1 := 127) (st1 := .int 3 :: _) rfl rfl (n_ile (e := i) rfl rfl rfl (by omega) (hdo)) rfl ?_
    refine w_p (pc1 := 129) (al1 := [(6, .int 3), (5, .int (nI (k))), (4, .int (jj)), (3, .int (nI (rTb u))), (2, .int (nI (i))), (0, .ref 176), (1, .int (nI (F)))]) rfl rfl ?_
    refine w_p (pc1 := 131) rfl rfl ?_
    refine w_p (pc1 := 132) (st1 := .int 1 :: _) rfl rfl ?_
    refine w_t (a := 156) (b := 135) rfl rfl rfl ?_
    refine w_p (pc1 := 158) rfl rfl ?_
    refine w_p (pc1 := 159) (st1 := .int 2 :: _) rfl rfl ?_
    refine w_t (a := 176) (b := 162) rfl rfl rfl ?_
    refine w_p (pc1 := 177) (st1 := .int 0 :: _) rfl rfl ?_
    refine w_p (pc1 := 179) (al1 := [(7, .int 0), (6, .int 3), (5, .int (nI (k))), (4, .int (jj)), (3, .int (nI (rTb u))), (2, .int (nI (i))), (0, .ref 176), (1, .int (nI (F)))]) rfl rfl ?_
    refine w_p (pc1 := 180) rfl rfl ?_
    refine w_p (pc1 := 182) rfl rfl ?_
    refine w_t (a := 189) (b := 185) rfl rfl rfl ?_
    refine w_p (pc1 := 190) (st1 := .int 1 :: _) rfl rfl ?_
    refine w_p (pc1 := 191) rfl rfl ?_
    refine w_p (pc1 := 193) rfl rfl ?_
    refine w_je (pc1 := 196) (vs := [.ref 176, .int 1, .int (nI (rTb u)), .int (jj)]) (rest := []) (st1 := [.int (nI (F + 1))]) (hbs) rfl rfl rfl (fun _ _ => rfl) rfl (by exact cl_v my_260 rfl rfl rfl (Nat.le_of_ble_eq_true rfl) rfl (MH_obj rfl rfl) rfl (by decide) rfl rfl) (by rfl) (Nat.le_of_ble_eq_true rfl) (Nat.le_of_ble_eq_true rfl) rfl (by rfl) ?_
    refine w_p (pc1 := 198) (al1 := [(8, .int (nI (F + 1))), (7, .int 0), (6, .int 3), (5, .int (nI (k))), (4, .int (jj)), (3, .int (nI (rTb u))), (2, .int (nI (i))), (0, .ref 176), (1, .int (nI (F)))]) rfl rfl ?_
    refine w_p (pc1 := 200) rfl rfl ?_
    refine w_p (pc1 := 201) (st1 := .int (-1) :: _) rfl rfl ?_
    refine w_t (a := 205) (b := 204) (cb_ne_t (by exact nK_m1 (by omega))) rfl rfl ?_
    refine w_p (pc1 := 206) rfl rfl ?_
    refine w_p (pc1 := 208) rfl rfl ?_
    refine w_p (pc1 := 209) rfl rfl ?_
    refine w_p (pc1 := 211) rfl rfl ?_
    refine w_ji (pc1 := 214) (vs := [.ref 176, .int (nI (F + 1)), .int (nI (rTb u)), .int (nI (k))]) (rest := []) (hto) rfl rfl rfl (fun _ _ => rfl) rfl (by exact cl_v my_262 rfl rfl rfl (Nat.le_of_ble_eq_true rfl) rfl (MH_obj rfl rfl) rfl (by decide) rfl rfl) (by rfl) (Nat.le_of_ble_eq_true rfl) (Nat.le_of_ble_eq_true rfl) rfl (fun v h m hq => ?_) (fun _ _ _ e => e.elim)
    obtain ⟨rfl, ⟨C3, ⟨o1, o2⟩, rfl⟩, rfl⟩ := hq
    refine w_p (pc1 := 215) (st1 := .int 0 :: _) rfl rfl ?_
    refine w_p (pc1 := 217) (al1 := [(9, .int 0), (8, .int (nI (F + 1))), (7, .int 0), (6, .int 3), (5, .int (nI (k))), (4, .int (jj)), (3, .int (nI (rTb u))), (2, .int (nI (i))), (0, .ref 176), (1, .int (nI (F)))]) rfl rfl ?_
    have qq : frQ (F + 1) C1 C3 := frQ_t fQ (frO_Q o1)
    refine Wd_q (lp_272_3 (C0 := C3) (N := N) (b := b) hi hF ho hR hK hb1 hb (MSt_Q qq K1) (RUM_Q qq U1) (bfM_Q qq (by omega) h6b (by omega) hN1) (rCs u) [] (rOs u) [] C3 r.2 rfl rfl rfl frO_r (fun _ => rfl) (fun c hc => ?_)) (fun v0 h m hq => ?_) (fun _ _ _ e => e)
    · rw [(o2 c (by omega)).2, fV.2.2.2]
      exact (g4 k r hr0).2 c hc
    · obtain ⟨p1, ⟨C4, ⟨p2, p3, p4⟩, p5⟩, p6⟩ := hq
      have o3 := frO_t o1 p2
      refine ⟨p1, ⟨C4, Or.inr ⟨_, rfl, Or.inr ⟨by omega, by omega, SFM_O o3 hsb, CNT_O o3 hc h89 h74, ⟨p4, fun c hc => ?_⟩, frQ_t fQ (frO_Q o3), frV_t fV (frO_V o3)⟩⟩, p5⟩, p6⟩
      rw [p3, (o2 c (by omega)).1, fV.2.2.2]
      exact (g4 k r hr0).2 c hc
set_option maxRecDepth 100000 in
theorem lp_272_4 (hi : i < 24) (hF : F < 38) (ho : okSt S) (hR : okR (sWd S) u) (hK : rKd u = 4) (hb1 : rTg u = some b) (hb : b < 6) (K : MSt C0 S) (U : RUM C0 i u) (hN : bfM C0 136 F (sWd S b) N) : ∀ (suf pre sufe pree : List Nat) (C : co_T) (f : rw_F), pre ++ suf = rCs u → pree ++ sufe = rOs u → pree.length = pre.length → frO (F + 1) C0 C → (∀ q, C.2.1 137 q = C0.2.1 137 q) → bfM C 136 (F + 1) (sWd S (rTb u)) f → Wd L xs d y_272 (217, [(9, .int (nI (pre.length))), (8, .int (nI (F + 1))), (7, .int 0), (6, .int 4), (5, .int (nI (k))), (4, .int (jj)), (3, .int (nI (rTb u))), (2, .int (nI (i))), (0, .ref 176), (1, .int (nI (F)))], [], MH C t, sl) (fun v h m => none = v ∧ (∃ C', (frO (F + 1) C0 C' ∧ (∀ q, C'.2.1 137 q = C0.2.1 137 q) ∧ bfM C' 136 (F + 1) (sWd S (rTb u)) (setR 4 N (sDf S (rTb u)) f suf sufe)) ∧ MH C' t = h) ∧ sl = m) nX
  | [], pre, sufe, pree, C, f, hp, hpe, hpl, hf, h7, hB => by
    rw [List.append_nil] at hp
    have hl2 := congrArg List.length hp
    have h6 := hR.1.2.2.1
    have um : C.1 87 i = nI (rCs u).length := (hf.1 87 i).trans U.1.2.2.2.1
    have e0 : setR 4 N (sDf S (rTb u)) f [] sufe = f := by unfold setR; rfl
    rw [e0]
    refine w_p (pc1 := 219) rfl rfl ?_
    refine w_p (pc1 := 220) rfl rfl ?_
    refine w_m0 (pc1 := 223) rfl rfl (h_gC rfl rfl rfl rfl) rfl ?_
    refine w_p (pc1 := 224) rfl rfl ?_
    refine w_m0 (pc1 := 225) (st1 := .int (nI ((rCs u).length)) :: _) rfl rfl (n_ile (e := i) rfl rfl rfl (by omega) (um)) rfl ?_
    refine w_t (a := 321) (b := 228) (bN_ge_t (a := pre.length) (b := (rCs u).length) (by omega) (by omega) (by omega)) rfl rfl ?_
    refine w_r rfl rfl rfl (fun _ _ => rfl) rfl ?_
    exact ⟨rfl, ⟨C, ⟨hf, h7, hB⟩, rfl⟩, rfl⟩
  | c :: suf, pre, [], pree, C, f, hp, hpe, hpl, hf, h7, hB => by
    obtain ⟨h1, h2, h3⟩ := get_ap hp
    obtain ⟨_, hll⟩ := hR.2.1 hK
    rw [List.append_nil] at hpe
    subst hpe
    omega
  | c :: suf, pre, e :: sufe, pree, C, f, hp, hpe, hpl, hf, h7, hB => by
    obtain ⟨h1, h2, h3⟩ := get_ap hp
    obtain ⟨g1, g2, g3⟩ := get_ap hpe
    obtain ⟨⟨b9, hb9, hb2, hb3⟩, hll⟩ := hR.2.1 hK
    rw [hb1] at hb9
    cases hb9
    have h6 := hR.1.2.2.1
    have hb6 := hR.1.2.1
    have hw1 := ho.1 b hb
    have hw2 := ho.1 (rTb u) hb6
    have hcw := hR.1.2.2.2 c (List.mem_of_getElem? h1)
    have hew := hb3 e (List.mem_of_getElem? g1)
    have um : C.1 87 i = nI (rCs u).length := (hf.1 87 i).trans U.1.2.2.2.1
    have hcf : C.1 88 (6 * i + pre.length) = nI c := (hf.1 88 _).trans (U.1.2.2.2.2.1 _ _ h1)
    have hcf2 : C.1 89 (6 * i + pre.length) = nI e := by rw [hf.1 89, ← hpl]; exact U.1.2.2.2.2.2 _ _ g1
    have e0 : setR 4 N (sDf S (rTb u)) f (c :: suf) (e :: sufe) = setR 4 N (sDf S (rTb u)) (upF f c (sDf S (rTb u) c)) suf sufe := by
      show setR 4 N (sDf S (rTb u)) (upF f c (if 4 = 2 then N e else if 4 = 4 then sDf S (rTb u) c else none)) suf sufe = _
      rfl
    rw [e0]
    have hv2 : C.2.1 136 (6 * F + e) = e_V (N e) := by rw [hf.2.1 136 _ (by omega)]; exact hN e hew
    have hv4 : C.2.1 82 (6 * rTb u + c) = e_V (sDf S (rTb u) c) := by rw [hf.2.1 82 _ (by omega), show 6 * rTb u + c = rTb u * 6 + c by omega]; exact (K.1 (rTb u) hb6).2 c hcw
    have ih := lp_272_4 hi hF ho hR hK hb1 hb K U hN suf (pre ++ [c]) sufe (pree ++ [e]) (sJ C 136 (6 * (F + 1) + c) (e_V (sDf S (rTb u) c))) (upF f c (sDf S (rTb u) c)) h3 g3 (by rw [len_s, len_s, hpl]) (frO_t hf (frO_J (by omega))) (fun q => by rw [sJ_2, if_neg (by omega)]; exact h7 q) (fun q hq => by
      rw [sJ_2]
      unfold upF
      by_cases e : q = c
      · rw [if_pos ⟨rfl, by omega⟩, if_pos e]
      · rw [if_neg (by omega), if_neg e]
        exact hB q hq)
    rw [len_s] at ih
    refine w_p (pc1 := 219) rfl rfl ?_
    refine w_p (pc1 := 220) rfl rfl ?_
    refine w_m0 (pc1 := 223) rfl rfl (h_gC rfl rfl rfl rfl) rfl ?_
    refine w_p (pc1 := 224) rfl rfl ?_
    refine w_m0 (pc1 := 225) (st1 := .int (nI ((rCs u).length)) :: _) rfl rfl (n_ile (e := i) rfl rfl rfl (by omega) (um)) rfl ?_
    refine w_f (a := 321) (b := 228) (bN_ge_f (a := pre.length) (b := (rCs u).length) (by omega) (by omega) (by omega)) rfl rfl ?_
    refine w_p (pc1 := 230) rfl rfl ?_
    refine w_f (a := 321) (b := 233) rfl rfl rfl ?_
    refine w_p (pc1 := 234) rfl rfl ?_
    refine w_m0 (pc1 := 237) rfl rfl (h_gC rfl rfl rfl rfl) rfl ?_
    refine w_p (pc1 := 239) (st1 := .int 6 :: _) rfl rfl ?_
    refine w_p (pc1 := 240) rfl rfl ?_
    refine w_imul (pc1 := 241) (u := nI (6)) (v := nI (i)) (z := nI (6 * i)) rfl (nK_mul) rfl ?_
    refine w_p (pc1 := 243) rfl rfl ?_
    refine w_iadd (pc1 := 244) (u := nI (6 * i)) (v := nI (pre.length)) (z := nI (6 * i + (pre.length))) rfl (nK_add) rfl ?_
    refine w_m0 (pc1 := 245) (st1 := .int (nI (c)) :: _) rfl rfl (n_ile (e := 6 * i + (pre.length)) rfl rfl rfl (by omega) (hcf)) rfl ?_
    refine w_p (pc1 := 247) (al1 := [(10, .int (nI (c))), (9, .int (nI (pre.length))), (8, .int (nI (F + 1))), (7, .int 0), (6, .int 4), (5, .int (nI (k))), (4, .int (jj)), (3, .int (nI (rTb u))), (2, .int (nI (i))), (0, .ref 176), (1, .int (nI (F)))]) rfl rfl ?_
    refine w_p (pc1 := 248) rfl rfl ?_
    refine w_m0 (pc1 := 251) rfl rfl (h_gC rfl rfl rfl rfl) rfl ?_
    refine w_p (pc1 := 253) (st1 := .int 6 :: _) rfl rfl ?_
    refine w_p (pc1 := 255) rfl rfl ?_
    refine w_imul (pc1 := 256) (u := nI (6)) (v := nI (F + 1)) (z := nI (6 * (F + 1))) rfl (nK_mul) rfl ?_
    refine w_p (pc1 := 258) rfl rfl ?_
    refine w_iadd (pc1 := 259) (u := nI (6 * (F + 1))) (v := nI (c)) (z := nI (6 * (F + 1) + c)) rfl (nK_add) rfl ?_
    refine w_p (pc1 := 261) rfl rfl ?_
    refine w_p (pc1 := 262) (st1 := .int 2 :: _) rfl rfl ?_
    refine w_t (a := 290) (b := 265) rfl rfl rfl ?_
    refine w_p (pc1 := 292) rfl rfl ?_
    refine w_p (pc1 := 293) (st1 := .int 3 :: _) rfl rfl ?_
    refine w_t (a := 302) (b := 296) rfl rfl rfl ?_
    refine w_p (pc1 := 303) rfl rfl ?_
    refine w_m0 (pc1 := 306) rfl rfl (h_gC rfl rfl rfl rfl) rfl ?_
    refine w_p (pc1 := 308) (st1 := .int 6 :: _) rfl rfl ?_
    refine w_p (pc1 := 309) rfl rfl ?_
    refine w_imul (pc1 := 310) (u := nI (6)) (v := nI (rTb u)) (z := nI (6 * (rTb u))) rfl (nK_mul) rfl ?_
    refine w_p (pc1 := 312) rfl rfl ?_
    refine w_iadd (pc1 := 313) (u := nI (6 * (rTb u))) (v := nI (c)) (z := nI (6 * (rTb u) + c)) rfl (nK_add) rfl ?_
    refine w_m0 (pc1 := 314) (st1 := .long (e_V (sDf S (rTb u) c)) :: _) rfl rfl (n_lle (e := 6 * (rTb u) + c) rfl rfl rfl (by omega) (hv4)) rfl ?_
    refine w_m0 (pc1 := 315) rfl rfl (n_ls (e := 6 * (F + 1) + c) rfl rfl rfl (by omega)) rfl ?_
    refine w_iinc (pc1 := 318) (u := nI (pre.length)) (z := nI (pre.length + 1)) (al1 := [(9, .int (nI (pre.length + 1))), (10, .int (nI (c))), (8, .int (nI (F + 1))), (7, .int 0), (6, .int 4), (5, .int (nI (k))), (4, .int (jj)), (3, .int (nI (rTb u))), (2, .int (nI (i))), (0, .ref 176), (1, .int (nI (F)))]) rfl rfl rfl nK_1 rfl rfl ?_
    refine w_p (pc1 := 217) rfl rfl ?_
    refine Wd_al (al := [(9, .int (nI (pre.length + 1))), (8, .int (nI (F + 1))), (7, .int 0), (6, .int 4), (5, .int (nI (k))), (4, .int (jj)), (3, .int (nI (rTb u))), (2, .int (nI (i))), (0, .ref 176), (1, .int (nI (F)))]) (sba_p [0, 2, 3, 4, 5, 6, 7, 8, 9, 10] rfl rfl) ?_
    exact ih
set_option maxRecDepth 100000 in
theorem m_272_1_4 (hi : i < 24) (hF : F < 38) (hb : b < 6) (ho : okSt S) (U : RUM C i u) (hR : okR (sWd S) u) (hK : rKd u = 4) (hb1 : rTg u = some b) {at_ : Nat} (hn : n ≤ 40) (hat : at_ < n) (h134 : C.1 134 F = nI n) (h135 : C.1 135 F = nI at_) (hid : C.1 133 (40 * F + at_) = jj) (B : TB S σ D F b 1 i0 3 (nI i) N O C) (hfd : fdr jj (σ.1 (rTb u)).1 0 = some (k, r)) (hx : rfg u O r = true) (ha : dos 1 u = 4) : Wd L xs (d + 6) y_272 (0, [(0, .ref 176), (1, .int (nI (F)))], [], MH C t, 0) (QR t (fun C' => BSd (sI C 135 F (nI (at_ + 1))) C' (F + 1) σ.2.1 D σ.2.2 1 (nI (rTb u)) jj (sWd S (rTb u)) (sWd S (rTb u)) r.2 (some (setR 4 N (sDf S (rTb u)) r.2 (rCs u) (rOs u))))) nX := by
  have hs := B.2.2.1
  have hb6 := hR.1.2.1
  have h6b := ho.1 b hb
  have y1 : frY F C (sI C 135 F (nI (at_ + 1))) := frY_m (by omega)
  have U1 := RUM_Q (frY_Q y1) U
  have B1 := TB_Y y1 B
  have ut := U.1.2.1
  have hm1 := m_261 (L := L) (xs := xs) (t := t) (d := d + 5) (sl := 0) (ii := jj) B1.2.1.1 hb6
  rw [hfd] at hm1
  obtain ⟨_, hr0, hri⟩ := fdr_s hfd
  rw [Nat.sub_zero] at hr0
  have hkl := get_lt hr0
  obtain ⟨g1, g2, g3, g4⟩ := B1.2.1.1 (rTb u) hb6
  have hrf := m_271 (L := L) (xs := xs) (t := t) (d := d + 4) (sl := 0) B1.2.1.1 U1 hi hR hK hb1 h6b (f := F) (by omega) B1.2.2.2.2 hr0
  rw [hx] at hrf
  have s1 := B1.2.2.1
  have hdo : (sI C 135 F (nI (at_ + 1))).1 93 i = 4 := by
    rw [U1.2.1.2.2]
    have ha : rUp u = 4 := ha
    rw [ha]
    rfl
  have hw2 := ho.1 (rTb u) hb6
  generalize hC1 : sI C 135 F (nI (at_ + 1)) = C1 at U1 B1 hm1 hrf s1 hdo ⊢
  obtain ⟨K1, ⟨hW, hnx, hX, hDp, hFr, h89, h74⟩, s2, hN1, hO1⟩ := id B1
  obtain ⟨g1, g2, g3, g4⟩ := hW (rTb u) hb6
  by_cases hx3 : 300 ≤ σ.2.1 ∨ 12 ≤ D
  · skip
    refine w_p (pc1 := 1) rfl rfl ?_
    refine w_m0 (pc1 := 4) rfl rfl (h_gC rfl rfl rfl rfl) rfl ?_
    refine w_p (pc1 := 5) rfl rfl ?_
    refine w_m0 (pc1 := 6) (st1 := .int (nI (i)) :: _) rfl rfl (n_ile (e := F) rfl rfl rfl (by omega) (hs.2.2.2.2.2)) rfl ?_
    refine w_p (pc1 := 7) (al1 := [(2, .int (nI (i))), (0, .ref 176), (1, .int (nI (F)))]) rfl rfl ?_
    refine w_p (pc1 := 8) rfl rfl ?_
    refine w_m0 (pc1 := 11) rfl rfl (h_gC rfl rfl rfl rfl) rfl ?_
    refine w_p (pc1 := 12) rfl rfl ?_
    refine w_m0 (pc1 := 13) (st1 := .int (nI (at_)) :: _) rfl rfl (n_ile (e := F) rfl rfl rfl (by omega) (h135)) rfl ?_
    refine w_p (pc1 := 14) rfl rfl ?_
    refine w_m0 (pc1 := 17) rfl rfl (h_gC rfl rfl rfl rfl) rfl ?_
    refine w_p (pc1 := 18) rfl rfl ?_
    refine w_m0 (pc1 := 19) (st1 := .int (nI (n)) :: _) rfl rfl (n_ile (e := F) rfl rfl rfl (by omega) (h134)) rfl ?_
    refine w_t (a := 40) (b := 22) (bN_ne_t (a := at_) (b := n) (by omega) (by omega) (by omega)) rfl rfl ?_
    refine w_p (pc1 := 41) rfl rfl ?_
    refine w_m0 (pc1 := 44) rfl rfl (h_gC rfl rfl rfl rfl) rfl ?_
    refine w_p (pc1 := 45) rfl rfl ?_
    refine w_m0 (pc1 := 46) (st1 := .int (nI (rTb u)) :: _) rfl rfl (n_ile (e := i) rfl rfl rfl (by omega) (ut)) rfl ?_
    refine w_p (pc1 := 47) (al1 := [(3, .int (nI (rTb u))), (2, .int (nI (i))), (0, .ref 176), (1, .int (nI (F)))]) rfl rfl ?_
    refine w_p (pc1 := 48) rfl rfl ?_
    refine w_m0 (pc1 := 51) rfl rfl (h_gC rfl rfl rfl rfl) rfl ?_
    refine w_p (pc1 := 53) (st1 := .int 40 :: _) rfl rfl ?_
    refine w_p (pc1 := 54) rfl rfl ?_
    refine w_imul (pc1 := 55) (u := nI (40)) (v := nI (F)) (z := nI (40 * F)) rfl (nK_mul) rfl ?_
    refine w_p (pc1 := 56) rfl rfl ?_
    refine w_m0 (pc1 := 59) rfl rfl (h_gC rfl rfl rfl rfl) rfl ?_
    refine w_p (pc1 := 60) rfl rfl ?_
    refine w_m0 (pc1 := 61) (st1 := .int (nI (at_)) :: _) rfl rfl (n_ile (e := F) rfl rfl rfl (by omega) (h135)) rfl ?_
    refine w_iadd (pc1 := 62) (u := nI (40 * F)) (v := nI (at_)) (z := nI (40 * F + (at_))) rfl (nK_add) rfl ?_
    refine w_m0 (pc1 := 63) (st1 := .int (jj) :: _) rfl rfl (n_ile (e := 40 * F + (at_)) rfl rfl rfl (by omega) (hid)) rfl ?_
    refine w_p (pc1 := 65) (al1 := [(4, .int (jj)), (3, .int (nI (rTb u))), (2, .int (nI (i))), (0, .ref 176), (1, .int (nI (F)))]) rfl rfl ?_
    refine w_p (pc1 := 66) rfl rfl ?_
    refine w_m0 (pc1 := 69) rfl rfl (h_gC rfl rfl rfl rfl) rfl ?_
    refine w_p (pc1 := 70) rfl rfl ?_
    refine w_p (pc1 := 71) rfl rfl ?_
    refine w_m0 (pc1 := 72) (st1 := .int (nI (at_)) :: _) rfl rfl (n_ile (e := F) rfl rfl rfl (by omega) (h135)) rfl ?_
    refine w_p (pc1 := 73) (st1 := .int 1 :: _) rfl rfl ?_
    refine w_iadd (pc1 := 74) (u := nI (at_)) (v := nI (1)) (z := nI (at_ + 1)) rfl (nK_add) rfl ?_
    refine w_m0 (pc1 := 75) rfl rfl (n_is (e := F) rfl rfl rfl (by omega)) rfl ?_
    rw [hC1]
    refine w_p (pc1 := 76) rfl rfl ?_
    refine w_p (pc1 := 77) rfl rfl ?_
    refine w_p (pc1 := 79) rfl rfl ?_
    refine w_je (pc1 := 82) (vs := [.ref 176, .int (nI (rTb u)), .int (jj)]) (rest := []) (st1 := [.int (nI (k))]) (hm1) rfl rfl rfl (fun _ _ => rfl) rfl (by exact cl_v my_261 rfl rfl rfl (Nat.le_of_ble_eq_true rfl) rfl (MH_obj rfl rfl) rfl (by decide) rfl rfl) (by rfl) (Nat.le_of_ble_eq_true rfl) (Nat.le_of_ble_eq_true rfl) rfl (by rfl) ?_
    refine w_p (pc1 := 84) (al1 := [(5, .int (nI (k))), (4, .int (jj)), (3, .int (nI (rTb u))), (2, .int (nI (i))), (0, .ref 176), (1, .int (nI (F)))]) rfl rfl ?_
    refine w_p (pc1 := 86) rfl rfl ?_
    refine w_p (pc1 := 87) (st1 := .int (-1) :: _) rfl rfl ?_
    refine w_f (a := 101) (b := 90) (cb_eq_f (by exact nK_m1 (by omega))) rfl rfl ?_
    refine w_p (pc1 := 91) rfl rfl ?_
    refine w_p (pc1 := 92) rfl rfl ?_
    refine w_p (pc1 := 94) rfl rfl ?_
    refine w_p (pc1 := 95) rfl rfl ?_
    refine w_je (pc1 := 98) (vs := [.ref 176, .int (nI (i)), .int (nI (k)), .int (nI (F))]) (rest := []) (st1 := [.int 1]) (hrf) rfl rfl rfl (fun _ _ => rfl) rfl (by exact cl_v my_271 rfl rfl rfl (Nat.le_of_ble_eq_true rfl) rfl (MH_obj rfl rfl) rfl (by decide) rfl rfl) (by rfl) (Nat.le_of_ble_eq_true rfl) (Nat.le_of_ble_eq_true rfl) rfl (by rfl) ?_
    refine w_t (a := 102) (b := 101) rfl rfl rfl ?_
    refine w_p (pc1 := 103) rfl rfl ?_
    refine w_m0 (pc1 := 106) rfl rfl (h_gC rfl rfl rfl rfl) rfl ?_
    refine w_p (pc1 := 107) rfl rfl ?_
    refine w_m0 (pc1 := 108) (st1 := .int 1 :: _) rfl rfl (n_ile (e := F) rfl rfl rfl (by omega) (s1.2.1)) rfl ?_
    refine w_p (pc1 := 109) (st1 := .int 2 :: _) rfl rfl ?_
    refine w_t (a := 121) (b := 112) rfl rfl rfl ?_
    refine w_p (pc1 := 122) rfl rfl ?_
    refine w_m0 (pc1 := 125) rfl rfl (h_gC rfl rfl rfl rfl) rfl ?_
    refine w_p (pc1 := 126) rfl rfl ?_
    refine w_m0 (pc1 := 127) (st1 := .int 4 :: _) rfl rfl (n_ile (e := i) rfl rfl rfl (by omega) (hdo)) rfl ?_
    refine w_p (pc1 := 129) (al1 := [(6, .int 4), (5, .int (nI (k))), (4, .int (jj)), (3, .int (nI (rTb u))), (2, .int (nI (i))), (0, .ref 176), (1, .int (nI (F)))]) rfl rfl ?_
    refine w_p (pc1 := 131) rfl rfl ?_
    refine w_p (pc1 := 132) (st1 := .int 1 :: _) rfl rfl ?_
    refine w_t (a := 156) (b := 135) rfl rfl rfl ?_
    refine w_p (pc1 := 158) rfl rfl ?_
    refine w_p (pc1 := 159) (st1 := .int 2 :: _) rfl rfl ?_
    refine w_t (a := 176) (b := 162) rfl rfl rfl ?_
    refine w_p (pc1 := 177) (st1 := .int 0 :: _) rfl rfl ?_
    refine w_p (pc1 := 179) (al1 := [(7, .int 0), (6, .int 4), (5, .int (nI (k))), (4, .int (jj)), (3, .int (nI (rTb u))), (2, .int (nI (i))), (0, .ref 176), (1, .int (nI (F)))]) rfl rfl ?_
    refine w_p (pc1 := 180) rfl rfl ?_
    refine w_p (pc1 := 182) rfl rfl ?_
    refine w_t (a := 189) (b := 185) rfl rfl rfl ?_
    refine w_p (pc1 := 190) (st1 := .int 1 :: _) rfl rfl ?_
    refine w_p (pc1 := 191) rfl rfl ?_
    refine w_p (pc1 := 193) rfl rfl ?_
    refine w_je (pc1 := 196) (vs := [.ref 176, .int 1, .int (nI (rTb u)), .int (jj)]) (rest := []) (st1 := [.int (-1)]) (m_260x (d := d + 4) (sl := 0) hX.1 hX.2.1 hDp.1 hDp.2 h89 hx3) rfl rfl rfl (fun _ _ => rfl) rfl (by exact cl_v my_260 rfl rfl rfl (Nat.le_of_ble_eq_true rfl) rfl (MH_obj rfl rfl) rfl (by decide) rfl rfl) (by rfl) (Nat.le_of_ble_eq_true rfl) (Nat.le_of_ble_eq_true rfl) rfl (by rfl) ?_
    refine w_p (pc1 := 198) (al1 := [(8, .int (-1)), (7, .int 0), (6, .int 4), (5, .int (nI (k))), (4, .int (jj)), (3, .int (nI (rTb u))), (2, .int (nI (i))), (0, .ref 176), (1, .int (nI (F)))]) rfl rfl ?_
    refine w_p (pc1 := 200) rfl rfl ?_
    refine w_p (pc1 := 201) (st1 := .int (-1) :: _) rfl rfl ?_
    refine w_f (a := 205) (b := 204) rfl rfl rfl ?_
    refine w_r rfl rfl rfl (fun _ _ => rfl) rfl ?_
    exact ⟨rfl, ⟨sI C1 76 89 5, Or.inr ⟨_, rfl, Or.inl ⟨hx3, EDD_S frS_r ⟨false, h74⟩⟩⟩, rfl⟩, rfl⟩
  · have hbs := m_260 (L := L) (xs := xs) (t := t) (d := d + 4) (sl := 0) (kd := 1) (tb := nI (rTb u)) (i := jj) hX.1 (by omega) hDp.1 (by omega) hX.2.2.1 hX.2.2.2 hFr.1 (by omega)
    have fQ := bs_Q (C := C1) (u := σ.2.1) (D := D) (v := σ.2.2) (f := F + 1) (kd := 1) (tb := nI (rTb u)) (i := jj)
    have fV := bs_V (C := C1) (u := σ.2.1) (D := D) (v := σ.2.2) (f := F + 1) (kd := 1) (tb := nI (rTb u)) (i := jj)
    have hc := bs_C (C := C1) (u := σ.2.1) (D := D) (v := σ.2.2) (f := F + 1) (kd := 1) (tb := nI (rTb u)) (i := jj)
    have hsb := bs_S (C := C1) (u := σ.2.1) (D := D) (v := σ.2.2) (f := F + 1) (kd := 1) (tb := nI (rTb u)) (i := jj)
    have hto := m_262 (L := L) (xs := xs) (C := bsC C1 σ.2.1 D σ.2.2 (F + 1) 1 (nI (rTb u)) jj) (t := t) (d := d + 4) (sl := 0) (f := F + 1) (by omega) hb6 (k := k) (by omega)
    refine w_p (pc1 := 1) rfl rfl ?_
    refine w_m0 (pc1 := 4) rfl rfl (h_gC rfl rfl rfl rfl) rfl ?_
    refine w_p (pc1 := 5) rfl rfl ?_
    refine w_m0 (pc1 := 6) (st1 := .int (nI (i)) :: _) rfl rfl (n_ile (e := F) rfl rfl rfl (by omega) (hs.2.2.2.2.2)) rfl ?_
    refine w_p (pc1 := 7) (al1 := [(2, .int (nI (i))), (0, .ref 176), (1, .int (nI (F)))]) rfl rfl ?_
    refine w_p (pc1 := 8) rfl rfl ?_
    refine w_m0 (pc1 := 11) rfl rfl (h_gC rfl rfl rfl rfl) rfl ?_
    refine w_p (pc1 := 12) rfl rfl ?_
    refine w_m0 (pc1 := 13) (st1 := .int (nI (at_)) :: _) rfl rfl (n_ile (e := F) rfl rfl rfl (by omega) (h135)) rfl ?_
    refine w_p (pc1 := 14) rfl rfl ?_
    refine w_m0 (pc1 := 17) rfl rfl (h_gC rfl rfl rfl rfl) rfl ?_
    refine w_p (pc1 := 18) rfl rfl ?_
    refine w_m0 (pc1 := 19) (st1 := .int (nI (n)) :: _) rfl rfl (n_ile (e := F) rfl rfl rfl (by omega) (h134)) rfl ?_
    refine w_t (a := 40) (b := 22) (bN_ne_t (a := at_) (b := n) (by omega) (by omega) (by omega)) rfl rfl ?_
    refine w_p (pc1 := 41) rfl rfl ?_
    refine w_m0 (pc1 := 44) rfl rfl (h_gC rfl rfl rfl rfl) rfl ?_
    refine w_p (pc1 := 45) rfl rfl ?_
    refine w_m0 (pc1 := 46) (st1 := .int (nI (rTb u)) :: _) rfl rfl (n_ile (e := i) rfl rfl rfl (by omega) (ut)) rfl ?_
    refine w_p (pc1 := 47) (al1 := [(3, .int (nI (rTb u))), (2, .int (nI (i))), (0, .ref 176), (1, .int (nI (F)))]) rfl rfl ?_
    refine w_p (pc1 := 48) rfl rfl ?_
    refine w_m0 (pc1 := 51) rfl rfl (h_gC rfl rfl rfl rfl) rfl ?_
    refine w_p (pc1 := 53) (st1 := .int 40 :: _) rfl rfl ?_
    refine w_p (pc1 := 54) rfl rfl ?_
    refine w_imul (pc1 := 55) (u := nI (40)) (v := nI (F)) (z := nI (40 * F)) rfl (nK_mul) rfl ?_
    refine w_p (pc1 := 56) rfl rfl ?_
    refine w_m0 (pc1 := 59) rfl rfl (h_gC rfl rfl rfl rfl) rfl ?_
    refine w_p (pc1 := 60) rfl rfl ?_
    refine w_m0 (pc1 := 61) (st1 := .int (nI (at_)) :: _) rfl rfl (n_ile (e := F) rfl rfl rfl (by omega) (h135)) rfl ?_
    refine w_iadd (pc1 := 62) (u := nI (40 * F)) (v := nI (at_)) (z := nI (40 * F + (at_))) rfl (nK_add) rfl ?_
    refine w_m0 (pc1 := 63) (st1 := .int (jj) :: _) rfl rfl (n_ile (e := 40 * F + (at_)) rfl rfl rfl (by omega) (hid)) rfl ?_
    refine w_p (pc1 := 65) (al1 := [(4, .int (jj)), (3, .int (nI (rTb u))), (2, .int (nI (i))), (0, .ref 176), (1, .int (nI (F)))]) rfl rfl ?_
    refine w_p (pc1 := 66) rfl rfl ?_
    refine w_m0 (pc1 := 69) rfl rfl (h_gC rfl rfl rfl rfl) rfl ?_
    refine w_p (pc1 := 70) rfl rfl ?_
    refine w_p (pc1 := 71) rfl rfl ?_
    refine w_m0 (pc1 := 72) (st1 := .int (nI (at_)) :: _) rfl rfl (n_ile (e := F) rfl rfl rfl (by omega) (h135)) rfl ?_
    refine w_p (pc1 := 73) (st1 := .int 1 :: _) rfl rfl ?_
    refine w_iadd (pc1 := 74) (u := nI (at_)) (v := nI (1)) (z := nI (at_ + 1)) rfl (nK_add) rfl ?_
    refine w_m0 (pc1 := 75) rfl rfl (n_is (e := F) rfl rfl rfl (by omega)) rfl ?_
    rw [hC1]
    refine w_p (pc1 := 76) rfl rfl ?_
    refine w_p (pc1 := 77) rfl rfl ?_
    refine w_p (pc1 := 79) rfl rfl ?_
    refine w_je (pc1 := 82) (vs := [.ref 176, .int (nI (rTb u)), .int (jj)]) (rest := []) (st1 := [.int (nI (k))]) (hm1) rfl rfl rfl (fun _ _ => rfl) rfl (by exact cl_v my_261 rfl rfl rfl (Nat.le_of_ble_eq_true rfl) rfl (MH_obj rfl rfl) rfl (by decide) rfl rfl) (by rfl) (Nat.le_of_ble_eq_true rfl) (Nat.le_of_ble_eq_true rfl) rfl (by rfl) ?_
    refine w_p (pc1 := 84) (al1 := [(5, .int (nI (k))), (4, .int (jj)), (3, .int (nI (rTb u))), (2, .int (nI (i))), (0, .ref 176), (1, .int (nI (F)))]) rfl rfl ?_
    refine w_p (pc1 := 86) rfl rfl ?_
    refine w_p (pc1 := 87) (st1 := .int (-1) :: _) rfl rfl ?_
    refine w_f (a := 101) (b := 90) (cb_eq_f (by exact nK_m1 (by omega))) rfl rfl ?_
    refine w_p (pc1 := 91) rfl rfl ?_
    refine w_p (pc1 := 92) rfl rfl ?_
    refine w_p (pc1 := 94) rfl rfl ?_
    refine w_p (pc1 := 95) rfl rfl ?_
    refine w_je (pc1 := 98) (vs := [.ref 176, .int (nI (i)), .int (nI (k)), .int (nI (F))]) (rest := []) (st1 := [.int 1]) (hrf) rfl rfl rfl (fun _ _ => rfl) rfl (by exact cl_v my_271 rfl rfl rfl (Nat.le_of_ble_eq_true rfl) rfl (MH_obj rfl rfl) rfl (by decide) rfl rfl) (by rfl) (Nat.le_of_ble_eq_true rfl) (Nat.le_of_ble_eq_true rfl) rfl (by rfl) ?_
    refine w_t (a := 102) (b := 101) rfl rfl rfl ?_
    refine w_p (pc1 := 103) rfl rfl ?_
    refine w_m0 (pc1 := 106) rfl rfl (h_gC rfl rfl rfl rfl) rfl ?_
    refine w_p (pc1 := 107) rfl rfl ?_
    refine w_m0 (pc1 := 108) (st1 := .int 1 :: _) rfl rfl (n_ile (e := F) rfl rfl rfl (by omega) (s1.2.1)) rfl ?_
    refine w_p (pc1 := 109) (st1 := .int 2 :: _) rfl rfl ?_
    refine w_t (a := 121) (b := 112) rfl rfl rfl ?_
    refine w_p (pc1 := 122) rfl rfl ?_
    refine w_m0 (pc1 := 125) rfl rfl (h_gC rfl rfl rfl rfl) rfl ?_
    refine w_p (pc1 := 126) rfl rfl ?_
    refine w_m0 (pc1 := 127) (st1 := .int 4 :: _) rfl rfl (n_ile (e := i) rfl rfl rfl (by omega) (hdo)) rfl ?_
    refine w_p (pc1 := 129) (al1 := [(6, .int 4), (5, .int (nI (k))), (4, .int (jj)), (3, .int (nI (rTb u))), (2, .int (nI (i))), (0, .ref 176), (1, .int (nI (F)))]) rfl rfl ?_
    refine w_p (pc1 := 131) rfl rfl ?_
    refine w_p (pc1 := 132) (st1 := .int 1 :: _) rfl rfl ?_
    refine w_t (a := 156) (b := 135) rfl rfl rfl ?_
    refine w_p (pc1 := 158) rfl rfl ?_
    refine w_p (pc1 := 159) (st1 := .int 2 :: _) rfl rfl ?_
    refine w_t (a := 176) (b := 162) rfl rfl rfl ?_
    refine w_p (pc1 := 177) (st1 := .int 0 :: _) rfl rfl ?_
    refine w_p (pc1 := 179) (al1 := [(7, .int 0), (6, .int 4), (5, .int (nI (k))), (4, .int (jj)), (3, .int (nI (rTb u))), (2, .int (nI (i))), (0, .ref 176), (1, .int (nI (F)))]) rfl rfl ?_
    refine w_p (pc1 := 180) rfl rfl ?_
    refine w_p (pc1 := 182) rfl rfl ?_
    refine w_t (a := 189) (b := 185) rfl rfl rfl ?_
    refine w_p (pc1 := 190) (st1 := .int 1 :: _) rfl rfl ?_
    refine w_p (pc1 := 191) rfl rfl ?_
    refine w_p (pc1 := 193) rfl rfl ?_
    refine w_je (pc1 := 196) (vs := [.ref 176, .int 1, .int (nI (rTb u)), .int (jj)]) (rest := []) (st1 := [.int (nI (F + 1))]) (hbs) rfl rfl rfl (fun _ _ => rfl) rfl (by exact cl_v my_260 rfl rfl rfl (Nat.le_of_ble_eq_true rfl) rfl (MH_obj rfl rfl) rfl (by decide) rfl rfl) (by rfl) (Nat.le_of_ble_eq_true rfl) (Nat.le_of_ble_eq_true rfl) rfl (by rfl) ?_
    refine w_p (pc1 := 198) (al1 := [(8, .int (nI (F + 1))), (7, .int 0), (6, .int 4), (5, .int (nI (k))), (4, .int (jj)), (3, .int (nI (rTb u))), (2, .int (nI (i))), (0, .ref 176), (1, .int (nI (F)))]) rfl rfl ?_
    refine w_p (pc1 := 200) rfl rfl ?_
    refine w_p (pc1 := 201) (st1 := .int (-1) :: _) rfl rfl ?_
    refine w_t (a := 205) (b := 204) (cb_ne_t (by exact nK_m1 (by omega))) rfl rfl ?_
    refine w_p (pc1 := 206) rfl rfl ?_
    refine w_p (pc1 := 208) rfl rfl ?_
    refine w_p (pc1 := 209) rfl rfl ?_
    refine w_p (pc1 := 211) rfl rfl ?_
    refine w_ji (pc1 := 214) (vs := [.ref 176, .int (nI (F + 1)), .int (nI (rTb u)), .int (nI (k))]) (rest := []) (hto) rfl rfl rfl (fun _ _ => rfl) rfl (by exact cl_v my_262 rfl rfl rfl (Nat.le_of_ble_eq_true rfl) rfl (MH_obj rfl rfl) rfl (by decide) rfl rfl) (by rfl) (Nat.le_of_ble_eq_true rfl) (Nat.le_of_ble_eq_true rfl) rfl (fun v h m hq => ?_) (fun _ _ _ e => e.elim)
    obtain ⟨rfl, ⟨C3, ⟨o1, o2⟩, rfl⟩, rfl⟩ := hq
    refine w_p (pc1 := 215) (st1 := .int 0 :: _) rfl rfl ?_
    refine w_p (pc1 := 217) (al1 := [(9, .int 0), (8, .int (nI (F + 1))), (7, .int 0), (6, .int 4), (5, .int (nI (k))), (4, .int (jj)), (3, .int (nI (rTb u))), (2, .int (nI (i))), (0, .ref 176), (1, .int (nI (F)))]) rfl rfl ?_
    have qq : frQ (F + 1) C1 C3 := frQ_t fQ (frO_Q o1)
    refine Wd_q (lp_272_4 (C0 := C3) (N := N) (b := b) hi hF ho hR hK hb1 hb (MSt_Q qq K1) (RUM_Q qq U1) (bfM_Q qq (by omega) h6b (by omega) hN1) (rCs u) [] (rOs u) [] C3 r.2 rfl rfl rfl frO_r (fun _ => rfl) (fun c hc => ?_)) (fun v0 h m hq => ?_) (fun _ _ _ e => e)
    · rw [(o2 c (by omega)).2, fV.2.2.2]
      exact (g4 k r hr0).2 c hc
    · obtain ⟨p1, ⟨C4, ⟨p2, p3, p4⟩, p5⟩, p6⟩ := hq
      have o3 := frO_t o1 p2
      refine ⟨p1, ⟨C4, Or.inr ⟨_, rfl, Or.inr ⟨by omega, by omega, SFM_O o3 hsb, CNT_O o3 hc h89 h74, ⟨p4, fun c hc => ?_⟩, frQ_t fQ (frO_Q o3), frV_t fV (frO_V o3)⟩⟩, p5⟩, p6⟩
      rw [p3, (o2 c (by omega)).1, fV.2.2.2]
      exact (g4 k r hr0).2 c hc
set_option maxRecDepth 100000 in
theorem m_272f_2 (hi : i < 24) (hF : F < 38) (hb : b < 6) (ho : okSt S) (U : RUM C i u) (hR : okR (sWd S) u) (hK : rKd u = 4) (hb1 : rTg u = some b) {at_ : Nat} (hn : n ≤ 40) (hat : at_ < n) (h134 : C.1 134 F = nI n) (h135 : C.1 135 F = nI at_) (hid : C.1 133 (40 * F + at_) = jj) (B : TB S σ D F b 2 i0 3 (nI i) N O C) (hfd : fdr jj (σ.1 (rTb u)).1 0 = some (k, r)) (hx : rfg u O r = false) : Wd L xs (d + 6) y_272 (0, [(0, .ref 176), (1, .int (nI (F)))], [], MH C t, 0) (QR t (fun C' => sI C 135 F (nI (at_ + 1)) = C')) nX := by
  have hs := B.2.2.1
  have hb6 := hR.1.2.1
  have h6b := ho.1 b hb
  have y1 : frY F C (sI C 135 F (nI (at_ + 1))) := frY_m (by omega)
  have U1 := RUM_Q (frY_Q y1) U
  have B1 := TB_Y y1 B
  have ut := U.1.2.1
  have hm1 := m_261 (L := L) (xs := xs) (t := t) (d := d + 5) (sl := 0) (ii := jj) B1.2.1.1 hb6
  rw [hfd] at hm1
  obtain ⟨_, hr0, hri⟩ := fdr_s hfd
  rw [Nat.sub_zero] at hr0
  have hkl := get_lt hr0
  obtain ⟨g1, g2, g3, g4⟩ := B1.2.1.1 (rTb u) hb6
  have hrf := m_271 (L := L) (xs := xs) (t := t) (d := d + 4) (sl := 0) B1.2.1.1 U1 hi hR hK hb1 h6b (f := F) (by omega) B1.2.2.2.2 hr0
  rw [hx] at hrf
  refine w_p (pc1 := 1) rfl rfl ?_
  refine w_m0 (pc1 := 4) rfl rfl (h_gC rfl rfl rfl rfl) rfl ?_
  refine w_p (pc1 := 5) rfl rfl ?_
  refine w_m0 (pc1 := 6) (st1 := .int (nI (i)) :: _) rfl rfl (n_ile (e := F) rfl rfl rfl (by omega) (hs.2.2.2.2.2)) rfl ?_
  refine w_p (pc1 := 7) (al1 := [(2, .int (nI (i))), (0, .ref 176), (1, .int (nI (F)))]) rfl rfl ?_
  refine w_p (pc1 := 8) rfl rfl ?_
  refine w_m0 (pc1 := 11) rfl rfl (h_gC rfl rfl rfl rfl) rfl ?_
  refine w_p (pc1 := 12) rfl rfl ?_
  refine w_m0 (pc1 := 13) (st1 := .int (nI (at_)) :: _) rfl rfl (n_ile (e := F) rfl rfl rfl (by omega) (h135)) rfl ?_
  refine w_p (pc1 := 14) rfl rfl ?_
  refine w_m0 (pc1 := 17) rfl rfl (h_gC rfl rfl rfl rfl) rfl ?_
  refine w_p (pc1 := 18) rfl rfl ?_
  refine w_m0 (pc1 := 19) (st1 := .int (nI (n)) :: _) rfl rfl (n_ile (e := F) rfl rfl rfl (by omega) (h134)) rfl ?_
  refine w_t (a := 40) (b := 22) (bN_ne_t (a := at_) (b := n) (by omega) (by omega) (by omega)) rfl rfl ?_
  refine w_p (pc1 := 41) rfl rfl ?_
  refine w_m0 (pc1 := 44) rfl rfl (h_gC rfl rfl rfl rfl) rfl ?_
  refine w_p (pc1 := 45) rfl rfl ?_
  refine w_m0 (pc1 := 46) (st1 := .int (nI (rTb u)) :: _) rfl rfl (n_ile (e := i) rfl rfl rfl (by omega) (ut)) rfl ?_
  refine w_p (pc1 := 47) (al1 := [(3, .int (nI (rTb u))), (2, .int (nI (i))), (0, .ref 176), (1, .int (nI (F)))]) rfl rfl ?_
  refine w_p (pc1 := 48) rfl rfl ?_
  refine w_m0 (pc1 := 51) rfl rfl (h_gC rfl rfl rfl rfl) rfl ?_
  refine w_p (pc1 := 53) (st1 := .int 40 :: _) rfl rfl ?_
  refine w_p (pc1 := 54) rfl rfl ?_
  refine w_imul (pc1 := 55) (u := nI (40)) (v := nI (F)) (z := nI (40 * F)) rfl (nK_mul) rfl ?_
  refine w_p (pc1 := 56) rfl rfl ?_
  refine w_m0 (pc1 := 59) rfl rfl (h_gC rfl rfl rfl rfl) rfl ?_
  refine w_p (pc1 := 60) rfl rfl ?_
  refine w_m0 (pc1 := 61) (st1 := .int (nI (at_)) :: _) rfl rfl (n_ile (e := F) rfl rfl rfl (by omega) (h135)) rfl ?_
  refine w_iadd (pc1 := 62) (u := nI (40 * F)) (v := nI (at_)) (z := nI (40 * F + (at_))) rfl (nK_add) rfl ?_
  refine w_m0 (pc1 := 63) (st1 := .int (jj) :: _) rfl rfl (n_ile (e := 40 * F + (at_)) rfl rfl rfl (by omega) (hid)) rfl ?_
  refine w_p (pc1 := 65) (al1 := [(4, .int (jj)), (3, .int (nI (rTb u))), (2, .int (nI (i))), (0, .ref 176), (1, .int (nI (F)))]) rfl rfl ?_
  refine w_p (pc1 := 66) rfl rfl ?_
  refine w_m0 (pc1 := 69) rfl rfl (h_gC rfl rfl rfl rfl) rfl ?_
  refine w_p (pc1 := 70) rfl rfl ?_
  refine w_p (pc1 := 71) rfl rfl ?_
  refine w_m0 (pc1 := 72) (st1 := .int (nI (at_)) :: _) rfl rfl (n_ile (e := F) rfl rfl rfl (by omega) (h135)) rfl ?_
  refine w_p (pc1 := 73) (st1 := .int 1 :: _) rfl rfl ?_
  refine w_iadd (pc1 := 74) (u := nI (at_)) (v := nI (1)) (z := nI (at_ + 1)) rfl (nK_add) rfl ?_
  refine w_m0 (pc1 := 75) rfl rfl (n_is (e := F) rfl rfl rfl (by omega)) rfl ?_
  refine w_p (pc1 := 76) rfl rfl ?_
  refine w_p (pc1 := 77) rfl rfl ?_
  refine w_p (pc1 := 79) rfl rfl ?_
  refine w_je (pc1 := 82) (vs := [.ref 176, .int (nI (rTb u)), .int (jj)]) (rest := []) (st1 := [.int (nI (k))]) (hm1) rfl rfl rfl (fun _ _ => rfl) rfl (by exact cl_v my_261 rfl rfl rfl (Nat.le_of_ble_eq_true rfl) rfl (MH_obj rfl rfl) rfl (by decide) rfl rfl) (by rfl) (Nat.le_of_ble_eq_true rfl) (Nat.le_of_ble_eq_true rfl) rfl (by rfl) ?_
  refine w_p (pc1 := 84) (al1 := [(5, .int (nI (k))), (4, .int (jj)), (3, .int (nI (rTb u))), (2, .int (nI (i))), (0, .ref 176), (1, .int (nI (F)))]) rfl rfl ?_
  refine w_p (pc1 := 86) rfl rfl ?_
  refine w_p (pc1 := 87) (st1 := .int (-1) :: _) rfl rfl ?_
  refine w_f (a := 101) (b := 90) (cb_eq_f (by exact nK_m1 (by omega))) rfl rfl ?_
  refine w_p (pc1 := 91) rfl rfl ?_
  refine w_p (pc1 := 92) rfl rfl ?_
  refine w_p (pc1 := 94) rfl rfl ?_
  refine w_p (pc1 := 95) rfl rfl ?_
  refine w_je (pc1 := 98) (vs := [.ref 176, .int (nI (i)), .int (nI (k)), .int (nI (F))]) (rest := []) (st1 := [.int 0]) (hrf) rfl rfl rfl (fun _ _ => rfl) rfl (by exact cl_v my_271 rfl rfl rfl (Nat.le_of_ble_eq_true rfl) rfl (MH_obj rfl rfl) rfl (by decide) rfl rfl) (by rfl) (Nat.le_of_ble_eq_true rfl) (Nat.le_of_ble_eq_true rfl) rfl (by rfl) ?_
  refine w_f (a := 102) (b := 101) rfl rfl rfl ?_
  refine w_r rfl rfl rfl (fun _ _ => rfl) rfl ?_
  exact ⟨rfl, ⟨_, rfl, rfl⟩, rfl⟩
set_option maxRecDepth 100000 in
theorem m_272s_2 (hi : i < 24) (hF : F < 38) (hb : b < 6) (ho : okSt S) (U : RUM C i u) (hR : okR (sWd S) u) (hK : rKd u = 4) (hb1 : rTg u = some b) {at_ : Nat} (hn : n ≤ 40) (hat : at_ < n) (h134 : C.1 134 F = nI n) (h135 : C.1 135 F = nI at_) (hid : C.1 133 (40 * F + at_) = jj) (B : TB S σ D F b 2 i0 3 (nI i) N O C) (hfd : fdr jj (σ.1 (rTb u)).1 0 = some (k, r)) (hx : rfg u O r = true) (ha : dos 2 u = 1) : Wd L xs (d + 6) y_272 (0, [(0, .ref 176), (1, .int (nI (F)))], [], MH C t, 0) (QR t (fun C' => C'.1 76 89 ≠ 0 ∧ MX C' σ ∧ spM C' (2, nI i, i0) ∧ (∃ y, C'.1 76 74 = ck y) ∧ frQ F C C')) nX := by
  have hs := B.2.2.1
  have hb6 := hR.1.2.1
  have h6b := ho.1 b hb
  have y1 : frY F C (sI C 135 F (nI (at_ + 1))) := frY_m (by omega)
  have U1 := RUM_Q (frY_Q y1) U
  have B1 := TB_Y y1 B
  have ut := U.1.2.1
  have hm1 := m_261 (L := L) (xs := xs) (t := t) (d := d + 5) (sl := 0) (ii := jj) B1.2.1.1 hb6
  rw [hfd] at hm1
  obtain ⟨_, hr0, hri⟩ := fdr_s hfd
  rw [Nat.sub_zero] at hr0
  have hkl := get_lt hr0
  obtain ⟨g1, g2, g3, g4⟩ := B1.2.1.1 (rTb u) hb6
  have hrf := m_271 (L := L) (xs := xs) (t := t) (d := d + 4) (sl := 0) B1.2.1.1 U1 hi hR hK hb1 h6b (f := F) (by omega) B1.2.2.2.2 hr0
  rw [hx] at hrf
  have s1 := B1.2.2.1
  have hdo : (sI C 135 F (nI (at_ + 1))).1 92 i = 1 := by
    rw [U1.2.1.2.1]
    have ha : rDl u = 1 := ha
    rw [ha]
    rfl
  have h89 : (sI (sI (sI C 135 F (nI (at_ + 1))) 76 90 (nI i)) 76 91 i0).1 76 89 = 0 := B1.2.1.2.2.2.2.2.1
  refine w_p (pc1 := 1) rfl rfl ?_
  refine w_m0 (pc1 := 4) rfl rfl (h_gC rfl rfl rfl rfl) rfl ?_
  refine w_p (pc1 := 5) rfl rfl ?_
  refine w_m0 (pc1 := 6) (st1 := .int (nI (i)) :: _) rfl rfl (n_ile (e := F) rfl rfl rfl (by omega) (hs.2.2.2.2.2)) rfl ?_
  refine w_p (pc1 := 7) (al1 := [(2, .int (nI (i))), (0, .ref 176), (1, .int (nI (F)))]) rfl rfl ?_
  refine w_p (pc1 := 8) rfl rfl ?_
  refine w_m0 (pc1 := 11) rfl rfl (h_gC rfl rfl rfl rfl) rfl ?_
  refine w_p (pc1 := 12) rfl rfl ?_
  refine w_m0 (pc1 := 13) (st1 := .int (nI (at_)) :: _) rfl rfl (n_ile (e := F) rfl rfl rfl (by omega) (h135)) rfl ?_
  refine w_p (pc1 := 14) rfl rfl ?_
  refine w_m0 (pc1 := 17) rfl rfl (h_gC rfl rfl rfl rfl) rfl ?_
  refine w_p (pc1 := 18) rfl rfl ?_
  refine w_m0 (pc1 := 19) (st1 := .int (nI (n)) :: _) rfl rfl (n_ile (e := F) rfl rfl rfl (by omega) (h134)) rfl ?_
  refine w_t (a := 40) (b := 22) (bN_ne_t (a := at_) (b := n) (by omega) (by omega) (by omega)) rfl rfl ?_
  refine w_p (pc1 := 41) rfl rfl ?_
  refine w_m0 (pc1 := 44) rfl rfl (h_gC rfl rfl rfl rfl) rfl ?_
  refine w_p (pc1 := 45) rfl rfl ?_
  refine w_m0 (pc1 := 46) (st1 := .int (nI (rTb u)) :: _) rfl rfl (n_ile (e := i) rfl rfl rfl (by omega) (ut)) rfl ?_
  refine w_p (pc1 := 47) (al1 := [(3, .int (nI (rTb u))), (2, .int (nI (i))), (0, .ref 176), (1, .int (nI (F)))]) rfl rfl ?_
  refine w_p (pc1 := 48) rfl rfl ?_
  refine w_m0 (pc1 := 51) rfl rfl (h_gC rfl rfl rfl rfl) rfl ?_
  refine w_p (pc1 := 53) (st1 := .int 40 :: _) rfl rfl ?_
  refine w_p (pc1 := 54) rfl rfl ?_
  refine w_imul (pc1 := 55) (u := nI (40)) (v := nI (F)) (z := nI (40 * F)) rfl (nK_mul) rfl ?_
  refine w_p (pc1 := 56) rfl rfl ?_
  refine w_m0 (pc1 := 59) rfl rfl (h_gC rfl rfl rfl rfl) rfl ?_
  refine w_p (pc1 := 60) rfl rfl ?_
  refine w_m0 (pc1 := 61) (st1 := .int (nI (at_)) :: _) rfl rfl (n_ile (e := F) rfl rfl rfl (by omega) (h135)) rfl ?_
  refine w_iadd (pc1 := 62) (u := nI (40 * F)) (v := nI (at_)) (z := nI (40 * F + (at_))) rfl (nK_add) rfl ?_
  refine w_m0 (pc1 := 63) (st1 := .int (jj) :: _) rfl rfl (n_ile (e := 40 * F + (at_)) rfl rfl rfl (by omega) (hid)) rfl ?_
  refine w_p (pc1 := 65) (al1 := [(4, .int (jj)), (3, .int (nI (rTb u))), (2, .int (nI (i))), (0, .ref 176), (1, .int (nI (F)))]) rfl rfl ?_
  refine w_p (pc1 := 66) rfl rfl ?_
  refine w_m0 (pc1 := 69) rfl rfl (h_gC rfl rfl rfl rfl) rfl ?_
  refine w_p (pc1 := 70) rfl rfl ?_
  refine w_p (pc1 := 71) rfl rfl ?_
  refine w_m0 (pc1 := 72) (st1 := .int (nI (at_)) :: _) rfl rfl (n_ile (e := F) rfl rfl rfl (by omega) (h135)) rfl ?_
  refine w_p (pc1 := 73) (st1 := .int 1 :: _) rfl rfl ?_
  refine w_iadd (pc1 := 74) (u := nI (at_)) (v := nI (1)) (z := nI (at_ + 1)) rfl (nK_add) rfl ?_
  refine w_m0 (pc1 := 75) rfl rfl (n_is (e := F) rfl rfl rfl (by omega)) rfl ?_
  refine w_p (pc1 := 76) rfl rfl ?_
  refine w_p (pc1 := 77) rfl rfl ?_
  refine w_p (pc1 := 79) rfl rfl ?_
  refine w_je (pc1 := 82) (vs := [.ref 176, .int (nI (rTb u)), .int (jj)]) (rest := []) (st1 := [.int (nI (k))]) (hm1) rfl rfl rfl (fun _ _ => rfl) rfl (by exact cl_v my_261 rfl rfl rfl (Nat.le_of_ble_eq_true rfl) rfl (MH_obj rfl rfl) rfl (by decide) rfl rfl) (by rfl) (Nat.le_of_ble_eq_true rfl) (Nat.le_of_ble_eq_true rfl) rfl (by rfl) ?_
  refine w_p (pc1 := 84) (al1 := [(5, .int (nI (k))), (4, .int (jj)), (3, .int (nI (rTb u))), (2, .int (nI (i))), (0, .ref 176), (1, .int (nI (F)))]) rfl rfl ?_
  refine w_p (pc1 := 86) rfl rfl ?_
  refine w_p (pc1 := 87) (st1 := .int (-1) :: _) rfl rfl ?_
  refine w_f (a := 101) (b := 90) (cb_eq_f (by exact nK_m1 (by omega))) rfl rfl ?_
  refine w_p (pc1 := 91) rfl rfl ?_
  refine w_p (pc1 := 92) rfl rfl ?_
  refine w_p (pc1 := 94) rfl rfl ?_
  refine w_p (pc1 := 95) rfl rfl ?_
  refine w_je (pc1 := 98) (vs := [.ref 176, .int (nI (i)), .int (nI (k)), .int (nI (F))]) (rest := []) (st1 := [.int 1]) (hrf) rfl rfl rfl (fun _ _ => rfl) rfl (by exact cl_v my_271 rfl rfl rfl (Nat.le_of_ble_eq_true rfl) rfl (MH_obj rfl rfl) rfl (by decide) rfl rfl) (by rfl) (Nat.le_of_ble_eq_true rfl) (Nat.le_of_ble_eq_true rfl) rfl (by rfl) ?_
  refine w_t (a := 102) (b := 101) rfl rfl rfl ?_
  refine w_p (pc1 := 103) rfl rfl ?_
  refine w_m0 (pc1 := 106) rfl rfl (h_gC rfl rfl rfl rfl) rfl ?_
  refine w_p (pc1 := 107) rfl rfl ?_
  refine w_m0 (pc1 := 108) (st1 := .int 2 :: _) rfl rfl (n_ile (e := F) rfl rfl rfl (by omega) (s1.2.1)) rfl ?_
  refine w_p (pc1 := 109) (st1 := .int 2 :: _) rfl rfl ?_
  refine w_f (a := 121) (b := 112) rfl rfl rfl ?_
  refine w_p (pc1 := 113) rfl rfl ?_
  refine w_m0 (pc1 := 116) rfl rfl (h_gC rfl rfl rfl rfl) rfl ?_
  refine w_p (pc1 := 117) rfl rfl ?_
  refine w_m0 (pc1 := 118) (st1 := .int 1 :: _) rfl rfl (n_ile (e := i) rfl rfl rfl (by omega) (hdo)) rfl ?_
  refine w_p (pc1 := 127) rfl rfl ?_
  refine w_p (pc1 := 129) (al1 := [(6, .int 1), (5, .int (nI (k))), (4, .int (jj)), (3, .int (nI (rTb u))), (2, .int (nI (i))), (0, .ref 176), (1, .int (nI (F)))]) rfl rfl ?_
  refine w_p (pc1 := 131) rfl rfl ?_
  refine w_p (pc1 := 132) (st1 := .int 1 :: _) rfl rfl ?_
  refine w_f (a := 156) (b := 135) rfl rfl rfl ?_
  refine w_p (pc1 := 136) rfl rfl ?_
  refine w_p (pc1 := 137) rfl rfl ?_
  refine w_m0 (pc1 := 140) rfl rfl (h_pI (j := 90) rfl rfl rfl rfl rfl rfl rfl ⟨rfl, rfl⟩ rfl) rfl ?_
  refine w_p (pc1 := 141) rfl rfl ?_
  refine w_p (pc1 := 142) rfl rfl ?_
  refine w_m0 (pc1 := 145) rfl rfl (h_gC rfl rfl rfl rfl) rfl ?_
  refine w_p (pc1 := 146) rfl rfl ?_
  refine w_m0 (pc1 := 147) (st1 := .int (i0) :: _) rfl rfl (n_ile (e := F) rfl rfl rfl (by omega) ((by rw [sI_1, if_neg (by omega)]; exact s1.2.2.2.1))) rfl ?_
  refine w_m0 (pc1 := 150) rfl rfl (h_pI (j := 91) rfl rfl rfl rfl rfl rfl rfl ⟨rfl, rfl⟩ rfl) rfl ?_
  refine w_p (pc1 := 151) rfl rfl ?_
  refine w_p (pc1 := 152) (st1 := .int 2 :: _) rfl rfl ?_
  refine w_je (pc1 := 155) (vs := [.ref 176, .int 2]) (rest := []) (st1 := []) (m_256 (d := d + 5) (sl := 0) h89) rfl rfl rfl (fun _ _ => rfl) rfl (by exact cl_v my_256 rfl rfl rfl (Nat.le_of_ble_eq_true rfl) rfl (MH_obj rfl rfl) rfl (by decide) rfl rfl) (by rfl) (Nat.le_of_ble_eq_true rfl) (Nat.le_of_ble_eq_true rfl) rfl (by rfl) ?_
  refine w_r rfl rfl rfl (fun _ _ => rfl) rfl ?_
  have h9 : (sI (sI (sI (sI C 135 F (nI (at_ + 1))) 76 90 (nI i)) 76 91 i0) 76 89 2).1 76 89 = 2 := rfl
  have h90 : (sI (sI (sI (sI C 135 F (nI (at_ + 1))) 76 90 (nI i)) 76 91 i0) 76 89 2).1 76 90 = nI i := rfl
  have h91 : (sI (sI (sI (sI C 135 F (nI (at_ + 1))) 76 90 (nI i)) 76 91 i0) 76 89 2).1 76 91 = i0 := rfl
  exact ⟨rfl, ⟨sI (sI (sI (sI C 135 F (nI (at_ + 1))) 76 90 (nI i)) 76 91 i0) 76 89 2, ⟨by rw [h9]; decide, B1.2.1.2.2.1, ⟨h9, fun _ => ⟨h90, h91⟩, fun h => absurd h (by show 2 ≠ 3; decide)⟩, ⟨false, B1.2.1.2.2.2.2.2.2⟩, frQ_t (frY_Q y1) (frQ_t (frQ_I (by omega)) (frQ_t (frQ_I (by omega)) (frQ_I (by omega))))⟩, rfl⟩, rfl⟩
set_option maxRecDepth 100000 in
theorem m_272_2_2 (hi : i < 24) (hF : F < 38) (hb : b < 6) (ho : okSt S) (U : RUM C i u) (hR : okR (sWd S) u) (hK : rKd u = 4) (hb1 : rTg u = some b) {at_ : Nat} (hn : n ≤ 40) (hat : at_ < n) (h134 : C.1 134 F = nI n) (h135 : C.1 135 F = nI at_) (hid : C.1 133 (40 * F + at_) = jj) (B : TB S σ D F b 2 i0 3 (nI i) N O C) (hfd : fdr jj (σ.1 (rTb u)).1 0 = some (k, r)) (hx : rfg u O r = true) (ha : dos 2 u = 2) : Wd L xs (d + 6) y_272 (0, [(0, .ref 176), (1, .int (nI (F)))], [], MH C t, 0) (QR t (fun C' => BSd (sI C 135 F (nI (at_ + 1))) C' (F + 1) σ.2.1 D σ.2.2 2 (nI (rTb u)) jj (sWd S (rTb u)) (sWd S (rTb u)) r.2 (some (r.2)))) nX := by
  have hs := B.2.2.1
  have hb6 := hR.1.2.1
  have h6b := ho.1 b hb
  have y1 : frY F C (sI C 135 F (nI (at_ + 1))) := frY_m (by omega)
  have U1 := RUM_Q (frY_Q y1) U
  have B1 := TB_Y y1 B
  have ut := U.1.2.1
  have hm1 := m_261 (L := L) (xs := xs) (t := t) (d := d + 5) (sl := 0) (ii := jj) B1.2.1.1 hb6
  rw [hfd] at hm1
  obtain ⟨_, hr0, hri⟩ := fdr_s hfd
  rw [Nat.sub_zero] at hr0
  have hkl := get_lt hr0
  obtain ⟨g1, g2, g3, g4⟩ := B1.2.1.1 (rTb u) hb6
  have hrf := m_271 (L := L) (xs := xs) (t := t) (d := d + 4) (sl := 0) B1.2.1.1 U1 hi hR hK hb1 h6b (f := F) (by omega) B1.2.2.2.2 hr0
  rw [hx] at hrf
  have s1 := B1.2.2.1
  have hdo : (sI C 135 F (nI (at_ + 1))).1 92 i = 2 := by
    rw [U1.2.1.2.1]
    have ha : rDl u = 2 := ha
    rw [ha]
    rfl
  have hw2 := ho.1 (rTb u) hb6
  generalize hC1 : sI C 135 F (nI (at_ + 1)) = C1 at U1 B1 hm1 hrf s1 hdo ⊢
  obtain ⟨K1, ⟨hW, hnx, hX, hDp, hFr, h89, h74⟩, s2, hN1, hO1⟩ := id B1
  obtain ⟨g1, g2, g3, g4⟩ := hW (rTb u) hb6
  by_cases hx3 : 300 ≤ σ.2.1 ∨ 12 ≤ D
  · skip
    refine w_p (pc1 := 1) rfl rfl ?_
    refine w_m0 (pc1 := 4) rfl rfl (h_gC rfl rfl rfl rfl) rfl ?_
    refine w_p (pc1 := 5) rfl rfl ?_
    refine w_m0 (pc1 := 6) (st1 := .int (nI (i)) :: _) rfl rfl (n_ile (e := F) rfl rfl rfl (by omega) (hs.2.2.2.2.2)) rfl ?_
    refine w_p (pc1 := 7) (al1 := [(2, .int (nI (i))), (0, .ref 176), (1, .int (nI (F)))]) rfl rfl ?_
    refine w_p (pc1 := 8) rfl rfl ?_
    refine w_m0 (pc1 := 11) rfl rfl (h_gC rfl rfl rfl rfl) rfl ?_
    refine w_p (pc1 := 12) rfl rfl ?_
    refine w_m0 (pc1 := 13) (st1 := .int (nI (at_)) :: _) rfl rfl (n_ile (e := F) rfl rfl rfl (by omega) (h135)) rfl ?_
    refine w_p (pc1 := 14) rfl rfl ?_
    refine w_m0 (pc1 := 17) rfl rfl (h_gC rfl rfl rfl rfl) rfl ?_
    refine w_p (pc1 := 18) rfl rfl ?_
    refine w_m0 (pc1 := 19) (st1 := .int (nI (n)) :: _) rfl rfl (n_ile (e := F) rfl rfl rfl (by omega) (h134)) rfl ?_
    refine w_t (a := 40) (b := 22) (bN_ne_t (a := at_) (b := n) (by omega) (by omega) (by omega)) rfl rfl ?_
    refine w_p (pc1 := 41) rfl rfl ?_
    refine w_m0 (pc1 := 44) rfl rfl (h_gC rfl rfl rfl rfl) rfl ?_
    refine w_p (pc1 := 45) rfl rfl ?_
    refine w_m0 (pc1 := 46) (st1 := .int (nI (rTb u)) :: _) rfl rfl (n_ile (e := i) rfl rfl rfl (by omega) (ut)) rfl ?_
    refine w_p (pc1 := 47) (al1 := [(3, .int (nI (rTb u))), (2, .int (nI (i))), (0, .ref 176), (1, .int (nI (F)))]) rfl rfl ?_
    refine w_p (pc1 := 48) rfl rfl ?_
    refine w_m0 (pc1 := 51) rfl rfl (h_gC rfl rfl rfl rfl) rfl ?_
    refine w_p (pc1 := 53) (st1 := .int 40 :: _) rfl rfl ?_
    refine w_p (pc1 := 54) rfl rfl ?_
    refine w_imul (pc1 := 55) (u := nI (40)) (v := nI (F)) (z := nI (40 * F)) rfl (nK_mul) rfl ?_
    refine w_p (pc1 := 56) rfl rfl ?_
    refine w_m0 (pc1 := 59) rfl rfl (h_gC rfl rfl rfl rfl) rfl ?_
    refine w_p (pc1 := 60) rfl rfl ?_
    refine w_m0 (pc1 := 61) (st1 := .int (nI (at_)) :: _) rfl rfl (n_ile (e := F) rfl rfl rfl (by omega) (h135)) rfl ?_
    refine w_iadd (pc1 := 62) (u := nI (40 * F)) (v := nI (at_)) (z := nI (40 * F + (at_))) rfl (nK_add) rfl ?_
    refine w_m0 (pc1 := 63) (st1 := .int (jj) :: _) rfl rfl (n_ile (e := 40 * F + (at_)) rfl rfl rfl (by omega) (hid)) rfl ?_
    refine w_p (pc1 := 65) (al1 := [(4, .int (jj)), (3, .int (nI (rTb u))), (2, .int (nI (i))), (0, .ref 176), (1, .int (nI (F)))]) rfl rfl ?_
    refine w_p (pc1 := 66) rfl rfl ?_
    refine w_m0 (pc1 := 69) rfl rfl (h_gC rfl rfl rfl rfl) rfl ?_
    refine w_p (pc1 := 70) rfl rfl ?_
    refine w_p (pc1 := 71) rfl rfl ?_
    refine w_m0 (pc1 := 72) (st1 := .int (nI (at_)) :: _) rfl rfl (n_ile (e := F) rfl rfl rfl (by omega) (h135)) rfl ?_
    refine w_p (pc1 := 73) (st1 := .int 1 :: _) rfl rfl ?_
    refine w_iadd (pc1 := 74) (u := nI (at_)) (v := nI (1)) (z := nI (at_ + 1)) rfl (nK_add) rfl ?_
    refine w_m0 (pc1 := 75) rfl rfl (n_is (e := F) rfl rfl rfl (by omega)) rfl ?_
    rw [hC1]
    refine w_p (pc1 := 76) rfl rfl ?_
    refine w_p (pc1 := 77) rfl rfl ?_
    refine w_p (pc1 := 79) rfl rfl ?_
    refine w_je (pc1 := 82) (vs := [.ref 176, .int (nI (rTb u)), .int (jj)]) (rest := []) (st1 := [.int (nI (k))]) (hm1) rfl rfl rfl (fun _ _ => rfl) rfl (by exact cl_v my_261 rfl rfl rfl (Nat.le_of_ble_eq_true rfl) rfl (MH_obj rfl rfl) rfl (by decide) rfl rfl) (by rfl) (Nat.le_of_ble_eq_true rfl) (Nat.le_of_ble_eq_true rfl) rfl (by rfl) ?_
    refine w_p (pc1 := 84) (al1 := [(5, .int (nI (k))), (4, .int (jj)), (3, .int (nI (rTb u))), (2, .int (nI (i))), (0, .ref 176), (1, .int (nI (F)))]) rfl rfl ?_
    refine w_p (pc1 := 86) rfl rfl ?_
    refine w_p (pc1 := 87) (st1 := .int (-1) :: _) rfl rfl ?_
    refine w_f (a := 101) (b := 90) (cb_eq_f (by exact nK_m1 (by omega))) rfl rfl ?_
    refine w_p (pc1 := 91) rfl rfl ?_
    refine w_p (pc1 := 92) rfl rfl ?_
    refine w_p (pc1 := 94) rfl rfl ?_
    refine w_p (pc1 := 95) rfl rfl ?_
    refine w_je (pc1 := 98) (vs := [.ref 176, .int (nI (i)), .int (nI (k)), .int (nI (F))]) (rest := []) (st1 := [.int 1]) (hrf) rfl rfl rfl (fun _ _ => rfl) rfl (by exact cl_v my_271 rfl rfl rfl (Nat.le_of_ble_eq_true rfl) rfl (MH_obj rfl rfl) rfl (by decide) rfl rfl) (by rfl) (Nat.le_of_ble_eq_true rfl) (Nat.le_of_ble_eq_true rfl) rfl (by rfl) ?_
    refine w_t (a := 102) (b := 101) rfl rfl rfl ?_
    refine w_p (pc1 := 103) rfl rfl ?_
    refine w_m0 (pc1 := 106) rfl rfl (h_gC rfl rfl rfl rfl) rfl ?_
    refine w_p (pc1 := 107) rfl rfl ?_
    refine w_m0 (pc1 := 108) (st1 := .int 2 :: _) rfl rfl (n_ile (e := F) rfl rfl rfl (by omega) (s1.2.1)) rfl ?_
    refine w_p (pc1 := 109) (st1 := .int 2 :: _) rfl rfl ?_
    refine w_f (a := 121) (b := 112) rfl rfl rfl ?_
    refine w_p (pc1 := 113) rfl rfl ?_
    refine w_m0 (pc1 := 116) rfl rfl (h_gC rfl rfl rfl rfl) rfl ?_
    refine w_p (pc1 := 117) rfl rfl ?_
    refine w_m0 (pc1 := 118) (st1 := .int 2 :: _) rfl rfl (n_ile (e := i) rfl rfl rfl (by omega) (hdo)) rfl ?_
    refine w_p (pc1 := 127) rfl rfl ?_
    refine w_p (pc1 := 129) (al1 := [(6, .int 2), (5, .int (nI (k))), (4, .int (jj)), (3, .int (nI (rTb u))), (2, .int (nI (i))), (0, .ref 176), (1, .int (nI (F)))]) rfl rfl ?_
    refine w_p (pc1 := 131) rfl rfl ?_
    refine w_p (pc1 := 132) (st1 := .int 1 :: _) rfl rfl ?_
    refine w_t (a := 156) (b := 135) rfl rfl rfl ?_
    refine w_p (pc1 := 158) rfl rfl ?_
    refine w_p (pc1 := 159) (st1 := .int 2 :: _) rfl rfl ?_
    refine w_f (a := 176) (b := 162) rfl rfl rfl ?_
    refine w_p (pc1 := 163) rfl rfl ?_
    refine w_m0 (pc1 := 166) rfl rfl (h_gC rfl rfl rfl rfl) rfl ?_
    refine w_p (pc1 := 167) rfl rfl ?_
    refine w_m0 (pc1 := 168) (st1 := .int 2 :: _) rfl rfl (n_ile (e := F) rfl rfl rfl (by omega) (s1.2.1)) rfl ?_
    refine w_p (pc1 := 169) (st1 := .int 2 :: _) rfl rfl ?_
    refine w_f (a := 176) (b := 172) rfl rfl rfl ?_
    refine w_p (pc1 := 173) (st1 := .int 1 :: _) rfl rfl ?_
    refine w_p (pc1 := 177) rfl rfl ?_
    refine w_p (pc1 := 179) (al1 := [(7, .int 1), (6, .int 2), (5, .int (nI (k))), (4, .int (jj)), (3, .int (nI (rTb u))), (2, .int (nI (i))), (0, .ref 176), (1, .int (nI (F)))]) rfl rfl ?_
    refine w_p (pc1 := 180) rfl rfl ?_
    refine w_p (pc1 := 182) rfl rfl ?_
    refine w_f (a := 189) (b := 185) rfl rfl rfl ?_
    refine w_p (pc1 := 186) (st1 := .int 2 :: _) rfl rfl ?_
    refine w_p (pc1 := 190) rfl rfl ?_
    refine w_p (pc1 := 191) rfl rfl ?_
    refine w_p (pc1 := 193) rfl rfl ?_
    refine w_je (pc1 := 196) (vs := [.ref 176, .int 2, .int (nI (rTb u)), .int (jj)]) (rest := []) (st1 := [.int (-1)]) (m_260x (d := d + 4) (sl := 0) hX.1 hX.2.1 hDp.1 hDp.2 h89 hx3) rfl rfl rfl (fun _ _ => rfl) rfl (by exact cl_v my_260 rfl rfl rfl (Nat.le_of_ble_eq_true rfl) rfl (MH_obj rfl rfl) rfl (by decide) rfl rfl) (by rfl) (Nat.le_of_ble_eq_true rfl) (Nat.le_of_ble_eq_true rfl) rfl (by rfl) ?_
    refine w_p (pc1 := 198) (al1 := [(8, .int (-1)), (7, .int 1), (6, .int 2), (5, .int (nI (k))), (4, .int (jj)), (3, .int (nI (rTb u))), (2, .int (nI (i))), (0, .ref 176), (1, .int (nI (F)))]) rfl rfl ?_
    refine w_p (pc1 := 200) rfl rfl ?_
    refine w_p (pc1 := 201) (st1 := .int (-1) :: _) rfl rfl ?_
    refine w_f (a := 205) (b := 204) rfl rfl rfl ?_
    refine w_r rfl rfl rfl (fun _ _ => rfl) rfl ?_
    exact ⟨rfl, ⟨sI C1 76 89 5, Or.inr ⟨_, rfl, Or.inl ⟨hx3, EDD_S frS_r ⟨false, h74⟩⟩⟩, rfl⟩, rfl⟩
  · have hbs := m_260 (L := L) (xs := xs) (t := t) (d := d + 4) (sl := 0) (kd := 2) (tb := nI (rTb u)) (i := jj) hX.1 (by omega) hDp.1 (by omega) hX.2.2.1 hX.2.2.2 hFr.1 (by omega)
    have fQ := bs_Q (C := C1) (u := σ.2.1) (D := D) (v := σ.2.2) (f := F + 1) (kd := 2) (tb := nI (rTb u)) (i := jj)
    have fV := bs_V (C := C1) (u := σ.2.1) (D := D) (v := σ.2.2) (f := F + 1) (kd := 2) (tb := nI (rTb u)) (i := jj)
    have hc := bs_C (C := C1) (u := σ.2.1) (D := D) (v := σ.2.2) (f := F + 1) (kd := 2) (tb := nI (rTb u)) (i := jj)
    have hsb := bs_S (C := C1) (u := σ.2.1) (D := D) (v := σ.2.2) (f := F + 1) (kd := 2) (tb := nI (rTb u)) (i := jj)
    have hto := m_262 (L := L) (xs := xs) (C := bsC C1 σ.2.1 D σ.2.2 (F + 1) 2 (nI (rTb u)) jj) (t := t) (d := d + 4) (sl := 0) (f := F + 1) (by omega) hb6 (k := k) (by omega)
    refine w_p (pc1 := 1) rfl rfl ?_
    refine w_m0 (pc1 := 4) rfl rfl (h_gC rfl rfl rfl rfl) rfl ?_
    refine w_p (pc1 := 5) rfl rfl ?_
    refine w_m0 (pc1 := 6) (st1 := .int (nI (i)) :: _) rfl rfl (n_ile (e := F) rfl rfl rfl (by omega) (hs.2.2.2.2.2)) rfl ?_
    refine w_p (pc1 := 7) (al1 := [(2, .int (nI (i))), (0, .ref 176), (1, .int (nI (F)))]) rfl rfl ?_
    refine w_p (pc1 := 8) rfl rfl ?_
    refine w_m0 (pc1 := 11) rfl rfl (h_gC rfl rfl rfl rfl) rfl ?_
    refine w_p (pc1 := 12) rfl rfl ?_
    refine w_m0 (pc1 := 13) (st1 := .int (nI (at_)) :: _) rfl rfl (n_ile (e := F) rfl rfl rfl (by omega) (h135)) rfl ?_
    refine w_p (pc1 := 14) rfl rfl ?_
    refine w_m0 (pc1 := 17) rfl rfl (h_gC rfl rfl rfl rfl) rfl ?_
    refine w_p (pc1 := 18) rfl rfl ?_
    refine w_m0 (pc1 := 19) (st1 := .int (nI (n)) :: _) rfl rfl (n_ile (e := F) rfl rfl rfl (by omega) (h134)) rfl ?_
    refine w_t (a := 40) (b := 22) (bN_ne_t (a := at_) (b := n) (by omega) (by omega) (by omega)) rfl rfl ?_
    refine w_p (pc1 := 41) rfl rfl ?_
    refine w_m0 (pc1 := 44) rfl rfl (h_gC rfl rfl rfl rfl) rfl ?_
    refine w_p (pc1 := 45) rfl rfl ?_
    refine w_m0 (pc1 := 46) (st1 := .int (nI (rTb u)) :: _) rfl rfl (n_ile (e := i) rfl rfl rfl (by omega) (ut)) rfl ?_
    refine w_p (pc1 := 47) (al1 := [(3, .int (nI (rTb u))), (2, .int (nI (i))), (0, .ref 176), (1, .int (nI (F)))]) rfl rfl ?_
    refine w_p (pc1 := 48) rfl rfl ?_
    refine w_m0 (pc1 := 51) rfl rfl (h_gC rfl rfl rfl rfl) rfl ?_
    refine w_p (pc1 := 53) (st1 := .int 40 :: _) rfl rfl ?_
    refine w_p (pc1 := 54) rfl rfl ?_
    refine w_imul (pc1 := 55) (u := nI (40)) (v := nI (F)) (z := nI (40 * F)) rfl (nK_mul) rfl ?_
    refine w_p (pc1 := 56) rfl rfl ?_
    refine w_m0 (pc1 := 59) rfl rfl (h_gC rfl rfl rfl rfl) rfl ?_
    refine w_p (pc1 := 60) rfl rfl ?_
    refine w_m0 (pc1 := 61) (st1 := .int (nI (at_)) :: _) rfl rfl (n_ile (e := F) rfl rfl rfl (by omega) (h135)) rfl ?_
    refine w_iadd (pc1 := 62) (u := nI (40 * F)) (v := nI (at_)) (z := nI (40 * F + (at_))) rfl (nK_add) rfl ?_
    refine w_m0 (pc1 := 63) (st1 := .int (jj) :: _) rfl rfl (n_ile (e := 40 * F + (at_)) rfl rfl rfl (by omega) (hid)) rfl ?_
    refine w_p (pc1 := 65) (al1 := [(4, .int (jj)), (3, .int (nI (rTb u))), (2, .int (nI (i))), (0, .ref 176), (1, .int (nI (F)))]) rfl rfl ?_
    refine w_p (pc1 := 66) rfl rfl ?_
    refine w_m0 (pc1 := 69) rfl rfl (h_gC rfl rfl rfl rfl) rfl ?_
    refine w_p (pc1 := 70) rfl rfl ?_
    refine w_p (pc1 := 71) rfl rfl ?_
    refine w_m0 (pc1 := 72) (st1 := .int (nI (at_)) :: _) rfl rfl (n_ile (e := F) rfl rfl rfl (by omega) (h135)) rfl ?_
    refine w_p (pc1 := 73) (st1 := .int 1 :: _) rfl rfl ?_
    refine w_iadd (pc1 := 74) (u := nI (at_)) (v := nI (1)) (z := nI (at_ + 1)) rfl (nK_add) rfl ?_
    refine w_m0 (pc1 := 75) rfl rfl (n_is (e := F) rfl rfl rfl (by omega)) rfl ?_
    rw [hC1]
    refine w_p (pc1 := 76) rfl rfl ?_
    refine w_p (pc1 := 77) rfl rfl ?_
    refine w_p (pc1 := 79) rfl rfl ?_
    refine w_je (pc1 := 82) (vs := [.ref 176, .int (nI (rTb u)), .int (jj)]) (rest := []) (st1 := [.int (nI (k))]) (hm1) rfl rfl rfl (fun _ _ => rfl) rfl (by exact cl_v my_261 rfl rfl rfl (Nat.le_of_ble_eq_true rfl) rfl (MH_obj rfl rfl) rfl (by decide) rfl rfl) (by rfl) (Nat.le_of_ble_eq_true rfl) (Nat.le_of_ble_eq_true rfl) rfl (by rfl) ?_
    refine w_p (pc1 := 84) (al1 := [(5, .int (nI (k))), (4, .int (jj)), (3, .int (nI (rTb u))), (2, .int (nI (i))), (0, .ref 176), (1, .int (nI (F)))]) rfl rfl ?_
    refine w_p (pc1 := 86) rfl rfl ?_
    refine w_p (pc1 := 87) (st1 := .int (-1) :: _) rfl rfl ?_
    refine w_f (a := 101) (b := 90) (cb_eq_f (by exact nK_m1 (by omega))) rfl rfl ?_
    refine w_p (pc1 := 91) rfl rfl ?_
    refine w_p (pc1 := 92) rfl rfl ?_
    refine w_p (pc1 := 94) rfl rfl ?_
    refine w_p (pc1 := 95) rfl rfl ?_
    refine w_je (pc1 := 98) (vs := [.ref 176, .int (nI (i)), .int (nI (k)), .int (nI (F))]) (rest := []) (st1 := [.int 1]) (hrf) rfl rfl rfl (fun _ _ => rfl) rfl (by exact cl_v my_271 rfl rfl rfl (Nat.le_of_ble_eq_true rfl) rfl (MH_obj rfl rfl) rfl (by decide) rfl rfl) (by rfl) (Nat.le_of_ble_eq_true rfl) (Nat.le_of_ble_eq_true rfl) rfl (by rfl) ?_
    refine w_t (a := 102) (b := 101) rfl rfl rfl ?_
    refine w_p (pc1 := 103) rfl rfl ?_
    refine w_m0 (pc1 := 106) rfl rfl (h_gC rfl rfl rfl rfl) rfl ?_
    refine w_p (pc1 := 107) rfl rfl ?_
    refine w_m0 (pc1 := 108) (st1 := .int 2 :: _) rfl rfl (n_ile (e := F) rfl rfl rfl (by omega) (s1.2.1)) rfl ?_
    refine w_p (pc1 := 109) (st1 := .int 2 :: _) rfl rfl ?_
    refine w_f (a := 121) (b := 112) rfl rfl rfl ?_
    refine w_p (pc1 := 113) rfl rfl ?_
    refine w_m0 (pc1 := 116) rfl rfl (h_gC rfl rfl rfl rfl) rfl ?_
    refine w_p (pc1 := 117) rfl rfl ?_
    refine w_m0 (pc1 := 118) (st1 := .int 2 :: _) rfl rfl (n_ile (e := i) rfl rfl rfl (by omega) (hdo)) rfl ?_
    refine w_p (pc1 := 127) rfl rfl ?_
    refine w_p (pc1 := 129) (al1 := [(6, .int 2), (5, .int (nI (k))), (4, .int (jj)), (3, .int (nI (rTb u))), (2, .int (nI (i))), (0, .ref 176), (1, .int (nI (F)))]) rfl rfl ?_
    refine w_p (pc1 := 131) rfl rfl ?_
    refine w_p (pc1 := 132) (st1 := .int 1 :: _) rfl rfl ?_
    refine w_t (a := 156) (b := 135) rfl rfl rfl ?_
    refine w_p (pc1 := 158) rfl rfl ?_
    refine w_p (pc1 := 159) (st1 := .int 2 :: _) rfl rfl ?_
    refine w_f (a := 176) (b := 162) rfl rfl rfl ?_
    refine w_p (pc1 := 163) rfl rfl ?_
    refine w_m0 (pc1 := 166) rfl rfl (h_gC rfl rfl rfl rfl) rfl ?_
    refine w_p (pc1 := 167) rfl rfl ?_
    refine w_m0 (pc1 := 168) (st1 := .int 2 :: _) rfl rfl (n_ile (e := F) rfl rfl rfl (by omega) (s1.2.1)) rfl ?_
    refine w_p (pc1 := 169) (st1 := .int 2 :: _) rfl rfl ?_
    refine w_f (a := 176) (b := 172) rfl rfl rfl ?_
    refine w_p (pc1 := 173) (st1 := .int 1 :: _) rfl rfl ?_
    refine w_p (pc1 := 177) rfl rfl ?_
    refine w_p (pc1 := 179) (al1 := [(7, .int 1), (6, .int 2), (5, .int (nI (k))), (4, .int (jj)), (3, .int (nI (rTb u))), (2, .int (nI (i))), (0, .ref 176), (1, .int (nI (F)))]) rfl rfl ?_
    refine w_p (pc1 := 180) rfl rfl ?_
    refine w_p (pc1 := 182) rfl rfl ?_
    refine w_f (a := 189) (b := 185) rfl rfl rfl ?_
    refine w_p (pc1 := 186) (st1 := .int 2 :: _) rfl rfl ?_
    refine w_p (pc1 := 190) rfl rfl ?_
    refine w_p (pc1 := 191) rfl rfl ?_
    refine w_p (pc1 := 193) rfl rfl ?_
    refine w_je (pc1 := 196) (vs := [.ref 176, .int 2, .int (nI (rTb u)), .int (jj)]) (rest := []) (st1 := [.int (nI (F + 1))]) (hbs) rfl rfl rfl (fun _ _ => rfl) rfl (by exact cl_v my_260 rfl rfl rfl (Nat.le_of_ble_eq_true rfl) rfl (MH_obj rfl rfl) rfl (by decide) rfl rfl) (by rfl) (Nat.le_of_ble_eq_true rfl) (Nat.le_of_ble_eq_true rfl) rfl (by rfl) ?_
    refine w_p (pc1 := 198) (al1 := [(8, .int (nI (F + 1))), (7, .int 1), (6, .int 2), (5, .int (nI (k))), (4, .int (jj)), (3, .int (nI (rTb u))), (2, .int (nI (i))), (0, .ref 176), (1, .int (nI (F)))]) rfl rfl ?_
    refine w_p (pc1 := 200) rfl rfl ?_
    refine w_p (pc1 := 201) (st1 := .int (-1) :: _) rfl rfl ?_
    refine w_t (a := 205) (b := 204) (cb_ne_t (by exact nK_m1 (by omega))) rfl rfl ?_
    refine w_p (pc1 := 206) rfl rfl ?_
    refine w_p (pc1 := 208) rfl rfl ?_
    refine w_p (pc1 := 209) rfl rfl ?_
    refine w_p (pc1 := 211) rfl rfl ?_
    refine w_ji (pc1 := 214) (vs := [.ref 176, .int (nI (F + 1)), .int (nI (rTb u)), .int (nI (k))]) (rest := []) (hto) rfl rfl rfl (fun _ _ => rfl) rfl (by exact cl_v my_262 rfl rfl rfl (Nat.le_of_ble_eq_true rfl) rfl (MH_obj rfl rfl) rfl (by decide) rfl rfl) (by rfl) (Nat.le_of_ble_eq_true rfl) (Nat.le_of_ble_eq_true rfl) rfl (fun v h m hq => ?_) (fun _ _ _ e => e.elim)
    obtain ⟨rfl, ⟨C3, ⟨o1, o2⟩, rfl⟩, rfl⟩ := hq
    have um : C3.1 87 i = nI (rCs u).length := (o1.1 87 i).trans ((fQ.1 87 i (by omega) (by omega) (by omega) (by omega)).trans U1.1.2.2.2.1)
    have h6 := hR.1.2.2.1
    have hfin : BSd C1 C3 (F + 1) σ.2.1 D σ.2.2 2 (nI (rTb u)) jj (sWd S (rTb u)) (sWd S (rTb u)) r.2 (some r.2) := by
      refine Or.inr ⟨_, rfl, Or.inr ⟨by omega, by omega, SFM_O o1 hsb, CNT_O o1 hc h89 h74, ⟨fun c hc => ?_, fun c hc => ?_⟩, frQ_t fQ (frO_Q o1), frV_t fV (frO_V o1)⟩⟩
      · rw [(o2 c (by omega)).2, fV.2.2.2]
        exact (g4 k r hr0).2 c hc
      · rw [(o2 c (by omega)).1, fV.2.2.2]
        exact (g4 k r hr0).2 c hc
    refine w_p (pc1 := 215) (st1 := .int 0 :: _) rfl rfl ?_
    refine w_p (pc1 := 217) (al1 := [(9, .int 0), (8, .int (nI (F + 1))), (7, .int 1), (6, .int 2), (5, .int (nI (k))), (4, .int (jj)), (3, .int (nI (rTb u))), (2, .int (nI (i))), (0, .ref 176), (1, .int (nI (F)))]) rfl rfl ?_
    refine w_p (pc1 := 219) rfl rfl ?_
    refine w_p (pc1 := 220) rfl rfl ?_
    refine w_m0 (pc1 := 223) rfl rfl (h_gC rfl rfl rfl rfl) rfl ?_
    refine w_p (pc1 := 224) rfl rfl ?_
    refine w_m0 (pc1 := 225) (st1 := .int (nI ((rCs u).length)) :: _) rfl rfl (n_ile (e := i) rfl rfl rfl (by omega) (um)) rfl ?_
    refine w_b (a := 321) (b := 228) rfl rfl (fun c225 => ?_) (fun c225 => ?_)
    · replace c225 := cN_ge_t (a := 0) (b := (rCs u).length) (by omega) (by omega) c225
      refine w_r rfl rfl rfl (fun _ _ => rfl) rfl ?_
      exact ⟨rfl, ⟨C3, hfin, rfl⟩, rfl⟩
    · replace c225 := cN_ge_f (a := 0) (b := (rCs u).length) (by omega) (by omega) c225
      refine w_p (pc1 := 230) rfl rfl ?_
      refine w_t (a := 321) (b := 233) rfl rfl rfl ?_
      refine w_r rfl rfl rfl (fun _ _ => rfl) rfl ?_
      exact ⟨rfl, ⟨C3, hfin, rfl⟩, rfl⟩
set_option maxRecDepth 100000 in
theorem m_272_2_3 (hi : i < 24) (hF : F < 38) (hb : b < 6) (ho : okSt S) (U : RUM C i u) (hR : okR (sWd S) u) (hK : rKd u = 4) (hb1 : rTg u = some b) {at_ : Nat} (hn : n ≤ 40) (hat : at_ < n) (h134 : C.1 134 F = nI n) (h135 : C.1 135 F = nI at_) (hid : C.1 133 (40 * F + at_) = jj) (B : TB S σ D F b 2 i0 3 (nI i) N O C) (hfd : fdr jj (σ.1 (rTb u)).1 0 = some (k, r)) (hx : rfg u O r = true) (ha : dos 2 u = 3) : Wd L xs (d + 6) y_272 (0, [(0, .ref 176), (1, .int (nI (F)))], [], MH C t, 0) (QR t (fun C' => BSd (sI C 135 F (nI (at_ + 1))) C' (F + 1) σ.2.1 D σ.2.2 1 (nI (rTb u)) jj (sWd S (rTb u)) (sWd S (rTb u)) r.2 (some (setR 3 N (sDf S (rTb u)) r.2 (rCs u) (rOs u))))) nX := by
  have hs := B.2.2.1
  have hb6 := hR.1.2.1
  have h6b := ho.1 b hb
  have y1 : frY F C (sI C 135 F (nI (at_ + 1))) := frY_m (by omega)
  have U1 := RUM_Q (frY_Q y1) U
  have B1 := TB_Y y1 B
  have ut := U.1.2.1
  have hm1 := m_261 (L := L) (xs := xs) (t := t) (d := d + 5) (sl := 0) (ii := jj) B1.2.1.1 hb6
  rw [hfd] at hm1
  obtain ⟨_, hr0, hri⟩ := fdr_s hfd
  rw [Nat.sub_zero] at hr0
  have hkl := get_lt hr0
  obtain ⟨g1, g2, g3, g4⟩ := B1.2.1.1 (rTb u) hb6
  have hrf := m_271 (L := L) (xs := xs) (t := t) (d := d + 4) (sl := 0) B1.2.1.1 U1 hi hR hK hb1 h6b (f := F) (by omega) B1.2.2.2.2 hr0
  rw [hx] at hrf
  have s1 := B1.2.2.1
  have hdo : (sI C 135 F (nI (at_ + 1))).1 92 i = 3 := by
    rw [U1.2.1.2.1]
    have ha : rDl u = 3 := ha
    rw [ha]
    rfl
  have hw2 := ho.1 (rTb u) hb6
  generalize hC1 : sI C 135 F (nI (at_ + 1)) = C1 at U1 B1 hm1 hrf s1 hdo ⊢
  obtain ⟨K1, ⟨hW, hnx, hX, hDp, hFr, h89, h74⟩, s2, hN1, hO1⟩ := id B1
  obtain ⟨g1, g2, g3, g4⟩ := hW (rTb u) hb6
  by_cases hx3 : 300 ≤ σ.2.1 ∨ 12 ≤ D
  · skip
    refine w_p (pc1 := 1) rfl rfl ?_
    refine w_m0 (pc1 := 4) rfl rfl (h_gC rfl rfl rfl rfl) rfl ?_
    refine w_p (pc1 := 5) rfl rfl ?_
    refine w_m0 (pc1 := 6) (st1 := .int (nI (i)) :: _) rfl rfl (n_ile (e := F) rfl rfl rfl (by omega) (hs.2.2.2.2.2)) rfl ?_
    refine w_p (pc1 := 7) (al1 := [(2, .int (nI (i))), (0, .ref 176), (1, .int (nI (F)))]) rfl rfl ?_
    refine w_p (pc1 := 8) rfl rfl ?_
    refine w_m0 (pc1 := 11) rfl rfl (h_gC rfl rfl rfl rfl) rfl ?_
    refine w_p (pc1 := 12) rfl rfl ?_
    refine w_m0 (pc1 := 13) (st1 := .int (nI (at_)) :: _) rfl rfl (n_ile (e := F) rfl rfl rfl (by omega) (h135)) rfl ?_
    refine w_p (pc1 := 14) rfl rfl ?_
    refine w_m0 (pc1 := 17) rfl rfl (h_gC rfl rfl rfl rfl) rfl ?_
    refine w_p (pc1 := 18) rfl rfl ?_
    refine w_m0 (pc1 := 19) (st1 := .int (nI (n)) :: _) rfl rfl (n_ile (e := F) rfl rfl rfl (by omega) (h134)) rfl ?_
    refine w_t (a := 40) (b := 22) (bN_ne_t (a := at_) (b := n) (by omega) (by omega) (by omega)) rfl rfl ?_
    refine w_p (pc1 := 41) rfl rfl ?_
    refine w_m0 (pc1 := 44) rfl rfl (h_gC rfl rfl rfl rfl) rfl ?_
    refine w_p (pc1 := 45) rfl rfl ?_
    refine w_m0 (pc1 := 46) (st1 := .int (nI (rTb u)) :: _) rfl rfl (n_ile (e := i) rfl rfl rfl (by omega) (ut)) rfl ?_
    refine w_p (pc1 := 47) (al1 := [(3, .int (nI (rTb u))), (2, .int (nI (i))), (0, .ref 176), (1, .int (nI (F)))]) rfl rfl ?_
    refine w_p (pc1 := 48) rfl rfl ?_
    refine w_m0 (pc1 := 51) rfl rfl (h_gC rfl rfl rfl rfl) rfl ?_
    refine w_p (pc1 := 53) (st1 := .int 40 :: _) rfl rfl ?_
    refine w_p (pc1 := 54) rfl rfl ?_
    refine w_imul (pc1 := 55) (u := nI (40)) (v := nI (F)) (z := nI (40 * F)) rfl (nK_mul) rfl ?_
    refine w_p (pc1 := 56) rfl rfl ?_
    refine w_m0 (pc1 := 59) rfl rfl (h_gC rfl rfl rfl rfl) rfl ?_
    refine w_p (pc1 := 60) rfl rfl ?_
    refine w_m0 (pc1 := 61) (st1 := .int (nI (at_)) :: _) rfl rfl (n_ile (e := F) rfl rfl rfl (by omega) (h135)) rfl ?_
    refine w_iadd (pc1 := 62) (u := nI (40 * F)) (v := nI (at_)) (z := nI (40 * F + (at_))) rfl (nK_add) rfl ?_
    refine w_m0 (pc1 := 63) (st1 := .int (jj) :: _) rfl rfl (n_ile (e := 40 * F + (at_)) rfl rfl rfl (by omega) (hid)) rfl ?_
    refine w_p (pc1 := 65) (al1 := [(4, .int (jj)), (3, .int (nI (rTb u))), (2, .int (nI (i))), (0, .ref 176), (1, .int (nI (F)))]) rfl rfl ?_
    refine w_p (pc1 := 66) rfl rfl ?_
    refine w_m0 (pc1 := 69) rfl rfl (h_gC rfl rfl rfl rfl) rfl ?_
    refine w_p (pc1 := 70) rfl rfl ?_
    refine w_p (pc1 := 71) rfl rfl ?_
    refine w_m0 (pc1 := 72) (st1 := .int (nI (at_)) :: _) rfl rfl (n_ile (e := F) rfl rfl rfl (by omega) (h135)) rfl ?_
    refine w_p (pc1 := 73) (st1 := .int 1 :: _) rfl rfl ?_
    refine w_iadd (pc1 := 74) (u := nI (at_)) (v := nI (1)) (z := nI (at_ + 1)) rfl (nK_add) rfl ?_
    refine w_m0 (pc1 := 75) rfl rfl (n_is (e := F) rfl rfl rfl (by omega)) rfl ?_
    rw [hC1]
    refine w_p (pc1 := 76) rfl rfl ?_
    refine w_p (pc1 := 77) rfl rfl ?_
    refine w_p (pc1 := 79) rfl rfl ?_
    refine w_je (pc1 := 82) (vs := [.ref 176, .int (nI (rTb u)), .int (jj)]) (rest := []) (st1 := [.int (nI (k))]) (hm1) rfl rfl rfl (fun _ _ => rfl) rfl (by exact cl_v my_261 rfl rfl rfl (Nat.le_of_ble_eq_true rfl) rfl (MH_obj rfl rfl) rfl (by decide) rfl rfl) (by rfl) (Nat.le_of_ble_eq_true rfl) (Nat.le_of_ble_eq_true rfl) rfl (by rfl) ?_
    refine w_p (pc1 := 84) (al1 := [(5, .int (nI (k))), (4, .int (jj)), (3, .int (nI (rTb u))), (2, .int (nI (i))), (0, .ref 176), (1, .int (nI (F)))]) rfl rfl ?_
    refine w_p (pc1 := 86) rfl rfl ?_
    refine w_p (pc1 := 87) (st1 := .int (-1) :: _) rfl rfl ?_
    refine w_f (a := 101) (b := 90) (cb_eq_f (by exact nK_m1 (by omega))) rfl rfl ?_
    refine w_p (pc1 := 91) rfl rfl ?_
    refine w_p (pc1 := 92) rfl rfl ?_
    refine w_p (pc1 := 94) rfl rfl ?_
    refine w_p (pc1 := 95) rfl rfl ?_
    refine w_je (pc1 := 98) (vs := [.ref 176, .int (nI (i)), .int (nI (k)), .int (nI (F))]) (rest := []) (st1 := [.int 1]) (hrf) rfl rfl rfl (fun _ _ => rfl) rfl (by exact cl_v my_271 rfl rfl rfl (Nat.le_of_ble_eq_true rfl) rfl (MH_obj rfl rfl) rfl (by decide) rfl rfl) (by rfl) (Nat.le_of_ble_eq_true rfl) (Nat.le_of_ble_eq_true rfl) rfl (by rfl) ?_
    refine w_t (a := 102) (b := 101) rfl rfl rfl ?_
    refine w_p (pc1 := 103) rfl rfl ?_
    refine w_m0 (pc1 := 106) rfl rfl (h_gC rfl rfl rfl rfl) rfl ?_
    refine w_p (pc1 := 107) rfl rfl ?_
    refine w_m0 (pc1 := 108) (st1 := .int 2 :: _) rfl rfl (n_ile (e := F) rfl rfl rfl (by omega) (s1.2.1)) rfl ?_
    refine w_p (pc1 := 109) (st1 := .int 2 :: _) rfl rfl ?_
    refine w_f (a := 121) (b := 112) rfl rfl rfl ?_
    refine w_p (pc1 := 113) rfl rfl ?_
    refine w_m0 (pc1 := 116) rfl rfl (h_gC rfl rfl rfl rfl) rfl ?_
    refine w_p (pc1 := 117) rfl rfl ?_
    refine w_m0 (pc1 := 118) (st1 := .int 3 :: _) rfl rfl (n_ile (e := i) rfl rfl rfl (by omega) (hdo)) rfl ?_
    refine w_p (pc1 := 127) rfl rfl ?_
    refine w_p (pc1 := 129) (al1 := [(6, .int 3), (5, .int (nI (k))), (4, .int (jj)), (3, .int (nI (rTb u))), (2, .int (nI (i))), (0, .ref 176), (1, .int (nI (F)))]) rfl rfl ?_
    refine w_p (pc1 := 131) rfl rfl ?_
    refine w_p (pc1 := 132) (st1 := .int 1 :: _) rfl rfl ?_
    refine w_t (a := 156) (b := 135) rfl rfl rfl ?_
    refine w_p (pc1 := 158) rfl rfl ?_
    refine w_p (pc1 := 159) (st1 := .int 2 :: _) rfl rfl ?_
    refine w_t (a := 176) (b := 162) rfl rfl rfl ?_
    refine w_p (pc1 := 177) (st1 := .int 0 :: _) rfl rfl ?_
    refine w_p (pc1 := 179) (al1 := [(7, .int 0), (6, .int 3), (5, .int (nI (k))), (4, .int (jj)), (3, .int (nI (rTb u))), (2, .int (nI (i))), (0, .ref 176), (1, .int (nI (F)))]) rfl rfl ?_
    refine w_p (pc1 := 180) rfl rfl ?_
    refine w_p (pc1 := 182) rfl rfl ?_
    refine w_t (a := 189) (b := 185) rfl rfl rfl ?_
    refine w_p (pc1 := 190) (st1 := .int 1 :: _) rfl rfl ?_
    refine w_p (pc1 := 191) rfl rfl ?_
    refine w_p (pc1 := 193) rfl rfl ?_
    refine w_je (pc1 := 196) (vs := [.ref 176, .int 1, .int (nI (rTb u)), .int (jj)]) (rest := []) (st1 := [.int (-1)]) (m_260x (d := d + 4) (sl := 0) hX.1 hX.2.1 hDp.1 hDp.2 h89 hx3) rfl rfl rfl (fun _ _ => rfl) rfl (by exact cl_v my_260 rfl rfl rfl (Nat.le_of_ble_eq_true rfl) rfl (MH_obj rfl rfl) rfl (by decide) rfl rfl) (by rfl) (Nat.le_of_ble_eq_true rfl) (Nat.le_of_ble_eq_true rfl) rfl (by rfl) ?_
    refine w_p (pc1 := 198) (al1 := [(8, .int (-1)), (7, .int 0), (6, .int 3), (5, .int (nI (k))), (4, .int (jj)), (3, .int (nI (rTb u))), (2, .int (nI (i))), (0, .ref 176), (1, .int (nI (F)))]) rfl rfl ?_
    refine w_p (pc1 := 200) rfl rfl ?_
    refine w_p (pc1 := 201) (st1 := .int (-1) :: _) rfl rfl ?_
    refine w_f (a := 205) (b := 204) rfl rfl rfl ?_
    refine w_r rfl rfl rfl (fun _ _ => rfl) rfl ?_
    exact ⟨rfl, ⟨sI C1 76 89 5, Or.inr ⟨_, rfl, Or.inl ⟨hx3, EDD_S frS_r ⟨false, h74⟩⟩⟩, rfl⟩, rfl⟩
  · have hbs := m_260 (L := L) (xs := xs) (t := t) (d := d + 4) (sl := 0) (kd := 1) (tb := nI (rTb u)) (i := jj) hX.1 (by omega) hDp.1 (by omega) hX.2.2.1 hX.2.2.2 hFr.1 (by omega)
    have fQ := bs_Q (C := C1) (u := σ.2.1) (D := D) (v := σ.2.2) (f := F + 1) (kd := 1) (tb := nI (rTb u)) (i := jj)
    have fV := bs_V (C := C1) (u := σ.2.1) (D := D) (v := σ.2.2) (f := F + 1) (kd := 1) (tb := nI (rTb u)) (i := jj)
    have hc := bs_C (C := C1) (u := σ.2.1) (D := D) (v := σ.2.2) (f := F + 1) (kd := 1) (tb := nI (rTb u)) (i := jj)
    have hsb := bs_S (C := C1) (u := σ.2.1) (D := D) (v := σ.2.2) (f := F + 1) (kd := 1) (tb := nI (rTb u)) (i := jj)
    have hto := m_262 (L := L) (xs := xs) (C := bsC C1 σ.2.1 D σ.2.2 (F + 1) 1 (nI (rTb u)) jj) (t := t) (d := d + 4) (sl := 0) (f := F + 1) (by omega) hb6 (k := k) (by omega)
    refine w_p (pc1 := 1) rfl rfl ?_
    refine w_m0 (pc1 := 4) rfl rfl (h_gC rfl rfl rfl rfl) rfl ?_
    refine w_p (pc1 := 5) rfl rfl ?_
    refine w_m0 (pc1 := 6) (st1 := .int (nI (i)) :: _) rfl rfl (n_ile (e := F) rfl rfl rfl (by omega) (hs.2.2.2.2.2)) rfl ?_
    refine w_p (pc1 := 7) (al1 := [(2, .int (nI (i))), (0, .ref 176), (1, .int (nI (F)))]) rfl rfl ?_
    refine w_p (pc1 := 8) rfl rfl ?_
    refine w_m0 (pc1 := 11) rfl rfl (h_gC rfl rfl rfl rfl) rfl ?_
    refine w_p (pc1 := 12) rfl rfl ?_
    refine w_m0 (pc1 := 13) (st1 := .int (nI (at_)) :: _) rfl rfl (n_ile (e := F) rfl rfl rfl (by omega) (h135)) rfl ?_
    refine w_p (pc1 := 14) rfl rfl ?_
    refine w_m0 (pc1 := 17) rfl rfl (h_gC rfl rfl rfl rfl) rfl ?_
    refine w_p (pc1 := 18) rfl rfl ?_
    refine w_m0 (pc1 := 19) (st1 := .int (nI (n)) :: _) rfl rfl (n_ile (e := F) rfl rfl rfl (by omega) (h134)) rfl ?_
    refine w_t (a := 40) (b := 22) (bN_ne_t (a := at_) (b := n) (by omega) (by omega) (by omega)) rfl rfl ?_
    refine w_p (pc1 := 41) rfl rfl ?_
    refine w_m0 (pc1 := 44) rfl rfl (h_gC rfl rfl rfl rfl) rfl ?_
    refine w_p (pc1 := 45) rfl rfl ?_
    refine w_m0 (pc1 := 46) (st1 := .int (nI (rTb u)) :: _) rfl rfl (n_ile (e := i) rfl rfl rfl (by omega) (ut)) rfl ?_
    refine w_p (pc1 := 47) (al1 := [(3, .int (nI (rTb u))), (2, .int (nI (i))), (0, .ref 176), (1, .int (nI (F)))]) rfl rfl ?_
    refine w_p (pc1 := 48) rfl rfl ?_
    refine w_m0 (pc1 := 51) rfl rfl (h_gC rfl rfl rfl rfl) rfl ?_
    refine w_p (pc1 := 53) (st1 := .int 40 :: _) rfl rfl ?_
    refine w_p (pc1 := 54) rfl rfl ?_
    refine w_imul (pc1 := 55) (u := nI (40)) (v := nI (F)) (z := nI (40 * F)) rfl (nK_mul) rfl ?_
    refine w_p (pc1 := 56) rfl rfl ?_
    refine w_m0 (pc1 := 59) rfl rfl (h_gC rfl rfl rfl rfl) rfl ?_
    refine w_p (pc1 := 60) rfl rfl ?_
    refine w_m0 (pc1 := 61) (st1 := .int (nI (at_)) :: _) rfl rfl (n_ile (e := F) rfl rfl rfl (by omega) (h135)) rfl ?_
    refine w_iadd (pc1 := 62) (u := nI (40 * F)) (v := nI (at_)) (z := nI (40 * F + (at_))) rfl (nK_add) rfl ?_
    refine w_m0 (pc1 := 63) (st1 := .int (jj) :: _) rfl rfl (n_ile (e := 40 * F + (at_)) rfl rfl rfl (by omega) (hid)) rfl ?_
    refine w_p (pc1 := 65) (al1 := [(4, .int (jj)), (3, .int (nI (rTb u))), (2, .int (nI (i))), (0, .ref 176), (1, .int (nI (F)))]) rfl rfl ?_
    refine w_p (pc1 := 66) rfl rfl ?_
    refine w_m0 (pc1 := 69) rfl rfl (h_gC rfl rfl rfl rfl) rfl ?_
    refine w_p (pc1 := 70) rfl rfl ?_
    refine w_p (pc1 := 71) rfl rfl ?_
    refine w_m0 (pc1 := 72) (st1 := .int (nI (at_)) :: _) rfl rfl (n_ile (e := F) rfl rfl rfl (by omega) (h135)) rfl ?_
    refine w_p (pc1 := 73) (st1 := .int 1 :: _) rfl rfl ?_
    refine w_iadd (pc1 := 74) (u := nI (at_)) (v := nI (1)) (z := nI (at_ + 1)) rfl (nK_add) rfl ?_
    refine w_m0 (pc1 := 75) rfl rfl (n_is (e := F) rfl rfl rfl (by omega)) rfl ?_
    rw [hC1]
    refine w_p (pc1 := 76) rfl rfl ?_
    refine w_p (pc1 := 77) rfl rfl ?_
    refine w_p (pc1 := 79) rfl rfl ?_
    refine w_je (pc1 := 82) (vs := [.ref 176, .int (nI (rTb u)), .int (jj)]) (rest := []) (st1 := [.int (nI (k))]) (hm1) rfl rfl rfl (fun _ _ => rfl) rfl (by exact cl_v my_261 rfl rfl rfl (Nat.le_of_ble_eq_true rfl) rfl (MH_obj rfl rfl) rfl (by decide) rfl rfl) (by rfl) (Nat.le_of_ble_eq_true rfl) (Nat.le_of_ble_eq_true rfl) rfl (by rfl) ?_
    refine w_p (pc1 := 84) (al1 := [(5, .int (nI (k))), (4, .int (jj)), (3, .int (nI (rTb u))), (2, .int (nI (i))), (0, .ref 176), (1, .int (nI (F)))]) rfl rfl ?_
    refine w_p (pc1 := 86) rfl rfl ?_
    refine w_p (pc1 := 87) (st1 := .int (-1) :: _) rfl rfl ?_
    refine w_f (a := 101) (b := 90) (cb_eq_f (by exact nK_m1 (by omega))) rfl rfl ?_
    refine w_p (pc1 := 91) rfl rfl ?_
    refine w_p (pc1 := 92) rfl rfl ?_
    refine w_p (pc1 := 94) rfl rfl ?_
    refine w_p (pc1 := 95) rfl rfl ?_
    refine w_je (pc1 := 98) (vs := [.ref 176, .int (nI (i)), .int (nI (k)), .int (nI (F))]) (rest := []) (st1 := [.int 1]) (hrf) rfl rfl rfl (fun _ _ => rfl) rfl (by exact cl_v my_271 rfl rfl rfl (Nat.le_of_ble_eq_true rfl) rfl (MH_obj rfl rfl) rfl (by decide) rfl rfl) (by rfl) (Nat.le_of_ble_eq_true rfl) (Nat.le_of_ble_eq_true rfl) rfl (by rfl) ?_
    refine w_t (a := 102) (b := 101) rfl rfl rfl ?_
    refine w_p (pc1 := 103) rfl rfl ?_
    refine w_m0 (pc1 := 106) rfl rfl (h_gC rfl rfl rfl rfl) rfl ?_
    refine w_p (pc1 := 107) rfl rfl ?_
    refine w_m0 (pc1 := 108) (st1 := .int 2 :: _) rfl rfl (n_ile (e := F) rfl rfl rfl (by omega) (s1.2.1)) rfl ?_
    refine w_p (pc1 := 109) (st1 := .int 2 :: _) rfl rfl ?_
    refine w_f (a := 121) (b := 112) rfl rfl rfl ?_
    refine w_p (pc1 := 113) rfl rfl ?_
    refine w_m0 (pc1 := 116) rfl rfl (h_gC rfl rfl rfl rfl) rfl ?_
    refine w_p (pc1 := 117) rfl rfl ?_
    refine w_m0 (pc1 := 118) (st1 := .int 3 :: _) rfl rfl (n_ile (e := i) rfl rfl rfl (by omega) (hdo)) rfl ?_
    refine w_p (pc1 := 127) rfl rfl ?_
    refine w_p (pc1 := 129) (al1 := [(6, .int 3), (5, .int (nI (k))), (4, .int (jj)), (3, .int (nI (rTb u))), (2, .int (nI (i))), (0, .ref 176), (1, .int (nI (F)))]) rfl rfl ?_
    refine w_p (pc1 := 131) rfl rfl ?_
    refine w_p (pc1 := 132) (st1 := .int 1 :: _) rfl rfl ?_
    refine w_t (a := 156) (b := 135) rfl rfl rfl ?_
    refine w_p (pc1 := 158) rfl rfl ?_
    refine w_p (pc1 := 159) (st1 := .int 2 :: _) rfl rfl ?_
    refine w_t (a := 176) (b := 162) rfl rfl rfl ?_
    refine w_p (pc1 := 177) (st1 := .int 0 :: _) rfl rfl ?_
    refine w_p (pc1 := 179) (al1 := [(7, .int 0), (6, .int 3), (5, .int (nI (k))), (4, .int (jj)), (3, .int (nI (rTb u))), (2, .int (nI (i))), (0, .ref 176), (1, .int (nI (F)))]) rfl rfl ?_
    refine w_p (pc1 := 180) rfl rfl ?_
    refine w_p (pc1 := 182) rfl rfl ?_
    refine w_t (a := 189) (b := 185) rfl rfl rfl ?_
    refine w_p (pc1 := 190) (st1 := .int 1 :: _) rfl rfl ?_
    refine w_p (pc1 := 191) rfl rfl ?_
    refine w_p (pc1 := 193) rfl rfl ?_
    refine w_je (pc1 := 196) (vs := [.ref 176, .int 1, .int (nI (rTb u)), .int (jj)]) (rest := []) (st1 := [.int (nI (F + 1))]) (hbs) rfl rfl rfl (fun _ _ => rfl) rfl (by exact cl_v my_260 rfl rfl rfl (Nat.le_of_ble_eq_true rfl) rfl (MH_obj rfl rfl) rfl (by decide) rfl rfl) (by rfl) (Nat.le_of_ble_eq_true rfl) (Nat.le_of_ble_eq_true rfl) rfl (by rfl) ?_
    refine w_p (pc1 := 198) (al1 := [(8, .int (nI (F + 1))), (7, .int 0), (6, .int 3), (5, .int (nI (k))), (4, .int (jj)), (3, .int (nI (rTb u))), (2, .int (nI (i))), (0, .ref 176), (1, .int (nI (F)))]) rfl rfl ?_
    refine w_p (pc1 := 200) rfl rfl ?_
    refine w_p (pc1 := 201) (st1 := .int (-1) :: _) rfl rfl ?_
    refine w_t (a := 205) (b := 204) (cb_ne_t (by exact nK_m1 (by omega))) rfl rfl ?_
    refine w_p (pc1 := 206) rfl rfl ?_
    refine w_p (pc1 := 208) rfl rfl ?_
    refine w_p (pc1 := 209) rfl rfl ?_
    refine w_p (pc1 := 211) rfl rfl ?_
    refine w_ji (pc1 := 214) (vs := [.ref 176, .int (nI (F + 1)), .int (nI (rTb u)), .int (nI (k))]) (rest := []) (hto) rfl rfl rfl (fun _ _ => rfl) rfl (by exact cl_v my_262 rfl rfl rfl (Nat.le_of_ble_eq_true rfl) rfl (MH_obj rfl rfl) rfl (by decide) rfl rfl) (by rfl) (Nat.le_of_ble_eq_true rfl) (Nat.le_of_ble_eq_true rfl) rfl (fun v h m hq => ?_) (fun _ _ _ e => e.elim)
    obtain ⟨rfl, ⟨C3, ⟨o1, o2⟩, rfl⟩, rfl⟩ := hq
    refine w_p (pc1 := 215) (st1 := .int 0 :: _) rfl rfl ?_
    refine w_p (pc1 := 217) (al1 := [(9, .int 0), (8, .int (nI (F + 1))), (7, .int 0), (6, .int 3), (5, .int (nI (k))), (4, .int (jj)), (3, .int (nI (rTb u))), (2, .int (nI (i))), (0, .ref 176), (1, .int (nI (F)))]) rfl rfl ?_
    have qq : frQ (F + 1) C1 C3 := frQ_t fQ (frO_Q o1)
    refine Wd_q (lp_272_3 (C0 := C3) (N := N) (b := b) hi hF ho hR hK hb1 hb (MSt_Q qq K1) (RUM_Q qq U1) (bfM_Q qq (by omega) h6b (by omega) hN1) (rCs u) [] (rOs u) [] C3 r.2 rfl rfl rfl frO_r (fun _ => rfl) (fun c hc => ?_)) (fun v0 h m hq => ?_) (fun _ _ _ e => e)
    · rw [(o2 c (by omega)).2, fV.2.2.2]
      exact (g4 k r hr0).2 c hc
    · obtain ⟨p1, ⟨C4, ⟨p2, p3, p4⟩, p5⟩, p6⟩ := hq
      have o3 := frO_t o1 p2
      refine ⟨p1, ⟨C4, Or.inr ⟨_, rfl, Or.inr ⟨by omega, by omega, SFM_O o3 hsb, CNT_O o3 hc h89 h74, ⟨p4, fun c hc => ?_⟩, frQ_t fQ (frO_Q o3), frV_t fV (frO_V o3)⟩⟩, p5⟩, p6⟩
      rw [p3, (o2 c (by omega)).1, fV.2.2.2]
      exact (g4 k r hr0).2 c hc
set_option maxRecDepth 100000 in
theorem m_272_2_4 (hi : i < 24) (hF : F < 38) (hb : b < 6) (ho : okSt S) (U : RUM C i u) (hR : okR (sWd S) u) (hK : rKd u = 4) (hb1 : rTg u = some b) {at_ : Nat} (hn : n ≤ 40) (hat : at_ < n) (h134 : C.1 134 F = nI n) (h135 : C.1 135 F = nI at_) (hid : C.1 133 (40 * F + at_) = jj) (B : TB S σ D F b 2 i0 3 (nI i) N O C) (hfd : fdr jj (σ.1 (rTb u)).1 0 = some (k, r)) (hx : rfg u O r = true) (ha : dos 2 u = 4) : Wd L xs (d + 6) y_272 (0, [(0, .ref 176), (1, .int (nI (F)))], [], MH C t, 0) (QR t (fun C' => BSd (sI C 135 F (nI (at_ + 1))) C' (F + 1) σ.2.1 D σ.2.2 1 (nI (rTb u)) jj (sWd S (rTb u)) (sWd S (rTb u)) r.2 (some (setR 4 N (sDf S (rTb u)) r.2 (rCs u) (rOs u))))) nX := by
  have hs := B.2.2.1
  have hb6 := hR.1.2.1
  have h6b := ho.1 b hb
  have y1 : frY F C (sI C 135 F (nI (at_ + 1))) := frY_m (by omega)
  have U1 := RUM_Q (frY_Q y1) U
  have B1 := TB_Y y1 B
  have ut := U.1.2.1
  have hm1 := m_261 (L := L) (xs := xs) (t := t) (d := d + 5) (sl := 0) (ii := jj) B1.2.1.1 hb6
  rw [hfd] at hm1
  obtain ⟨_, hr0, hri⟩ := fdr_s hfd
  rw [Nat.sub_zero] at hr0
  have hkl := get_lt hr0
  obtain ⟨g1, g2, g3, g4⟩ := B1.2.1.1 (rTb u) hb6
  have hrf := m_271 (L := L) (xs := xs) (t := t) (d := d + 4) (sl := 0) B1.2.1.1 U1 hi hR hK hb1 h6b (f := F) (by omega) B1.2.2.2.2 hr0
  rw [hx] at hrf
  have s1 := B1.2.2.1
  have hdo : (sI C 135 F (nI (at_ + 1))).1 92 i = 4 := by
    rw [U1.2.1.2.1]
    have ha : rDl u = 4 := ha
    rw [ha]
    rfl
  have hw2 := ho.1 (rTb u) hb6
  generalize hC1 : sI C 135 F (nI (at_ + 1)) = C1 at U1 B1 hm1 hrf s1 hdo ⊢
  obtain ⟨K1, ⟨hW, hnx, hX, hDp, hFr, h89, h74⟩, s2, hN1, hO1⟩ := id B1
  obtain ⟨g1, g2, g3, g4⟩ := hW (rTb u) hb6
  by_cases hx3 : 300 ≤ σ.2.1 ∨ 12 ≤ D
  · skip
    refine w_p (pc1 := 1) rfl rfl ?_
    refine w_m0 (pc1 := 4) rfl rfl (h_gC rfl rfl rfl rfl) rfl ?_
    refine w_p (pc1 := 5) rfl rfl ?_
    refine w_m0 (pc1 := 6) (st1 := .int (nI (i)) :: _) rfl rfl (n_ile (e := F) rfl rfl rfl (by omega) (hs.2.2.2.2.2)) rfl ?_
    refine w_p (pc1 := 7) (al1 := [(2, .int (nI (i))), (0, .ref 176), (1, .int (nI (F)))]) rfl rfl ?_
    refine w_p (pc1 := 8) rfl rfl ?_
    refine w_m0 (pc1 := 11) rfl rfl (h_gC rfl rfl rfl rfl) rfl ?_
    refine w_p (pc1 := 12) rfl rfl ?_
    refine w_m0 (pc1 := 13) (st1 := .int (nI (at_)) :: _) rfl rfl (n_ile (e := F) rfl rfl rfl (by omega) (h135)) rfl ?_
    refine w_p (pc1 := 14) rfl rfl ?_
    refine w_m0 (pc1 := 17) rfl rfl (h_gC rfl rfl rfl rfl) rfl ?_
    refine w_p (pc1 := 18) rfl rfl ?_
    refine w_m0 (pc1 := 19) (st1 := .int (nI (n)) :: _) rfl rfl (n_ile (e := F) rfl rfl rfl (by omega) (h134)) rfl ?_
    refine w_t (a := 40) (b := 22) (bN_ne_t (a := at_) (b := n) (by omega) (by omega) (by omega)) rfl rfl ?_
    refine w_p (pc1 := 41) rfl rfl ?_
    refine w_m0 (pc1 := 44) rfl rfl (h_gC rfl rfl rfl rfl) rfl ?_
    refine w_p (pc1 := 45) rfl rfl ?_
    refine w_m0 (pc1 := 46) (st1 := .int (nI (rTb u)) :: _) rfl rfl (n_ile (e := i) rfl rfl rfl (by omega) (ut)) rfl ?_
    refine w_p (pc1 := 47) (al1 := [(3, .int (nI (rTb u))), (2, .int (nI (i))), (0, .ref 176), (1, .int (nI (F)))]) rfl rfl ?_
    refine w_p (pc1 := 48) rfl rfl ?_
    refine w_m0 (pc1 := 51) rfl rfl (h_gC rfl rfl rfl rfl) rfl ?_
    refine w_p (pc1 := 53) (st1 := .int 40 :: _) rfl rfl ?_
    refine w_p (pc1 := 54) rfl rfl ?_
    refine w_imul (pc1 := 55) (u := nI (40)) (v := nI (F)) (z := nI (40 * F)) rfl (nK_mul) rfl ?_
    refine w_p (pc1 := 56) rfl rfl ?_
    refine w_m0 (pc1 := 59) rfl rfl (h_gC rfl rfl rfl rfl) rfl ?_
    refine w_p (pc1 := 60) rfl rfl ?_
    refine w_m0 (pc1 := 61) (st1 := .int (nI (at_)) :: _) rfl rfl (n_ile (e := F) rfl rfl rfl (by omega) (h135)) rfl ?_
    refine w_iadd (pc1 := 62) (u := nI (40 * F)) (v := nI (at_)) (z := nI (40 * F + (at_))) rfl (nK_add) rfl ?_
    refine w_m0 (pc1 := 63) (st1 := .int (jj) :: _) rfl rfl (n_ile (e := 40 * F + (at_)) rfl rfl rfl (by omega) (hid)) rfl ?_
    refine w_p (pc1 := 65) (al1 := [(4, .int (jj)), (3, .int (nI (rTb u))), (2, .int (nI (i))), (0, .ref 176), (1, .int (nI (F)))]) rfl rfl ?_
    refine w_p (pc1 := 66) rfl rfl ?_
    refine w_m0 (pc1 := 69) rfl rfl (h_gC rfl rfl rfl rfl) rfl ?_
    refine w_p (pc1 := 70) rfl rfl ?_
    refine w_p (pc1 := 71) rfl rfl ?_
    refine w_m0 (pc1 := 72) (st1 := .int (nI (at_)) :: _) rfl rfl (n_ile (e := F) rfl rfl rfl (by omega) (h135)) rfl ?_
    refine w_p (pc1 := 73) (st1 := .int 1 :: _) rfl rfl ?_
    refine w_iadd (pc1 := 74) (u := nI (at_)) (v := nI (1)) (z := nI (at_ + 1)) rfl (nK_add) rfl ?_
    refine w_m0 (pc1 := 75) rfl rfl (n_is (e := F) rfl rfl rfl (by omega)) rfl ?_
    rw [hC1]
    refine w_p (pc1 := 76) rfl rfl ?_
    refine w_p (pc1 := 77) rfl rfl ?_
    refine w_p (pc1 := 79) rfl rfl ?_
    refine w_je (pc1 := 82) (vs := [.ref 176, .int (nI (rTb u)), .int (jj)]) (rest := []) (st1 := [.int (nI (k))]) (hm1) rfl rfl rfl (fun _ _ => rfl) rfl (by exact cl_v my_261 rfl rfl rfl (Nat.le_of_ble_eq_true rfl) rfl (MH_obj rfl rfl) rfl (by decide) rfl rfl) (by rfl) (Nat.le_of_ble_eq_true rfl) (Nat.le_of_ble_eq_true rfl) rfl (by rfl) ?_
    refine w_p (pc1 := 84) (al1 := [(5, .int (nI (k))), (4, .int (jj)), (3, .int (nI (rTb u))), (2, .int (nI (i))), (0, .ref 176), (1, .int (nI (F)))]) rfl rfl ?_
    refine w_p (pc1 := 86) rfl rfl ?_
    refine w_p (pc1 := 87) (st1 := .int (-1) :: _) rfl rfl ?_
    refine w_f (a := 101) (b := 90) (cb_eq_f (by exact nK_m1 (by omega))) rfl rfl ?_
    refine w_p (pc1 := 91) rfl rfl ?_
    refine w_p (pc1 := 92) rfl rfl ?_
    refine w_p (pc1 := 94) rfl rfl ?_
    refine w_p (pc1 := 95) rfl rfl ?_
    refine w_je (pc1 := 98) (vs := [.ref 176, .int (nI (i)), .int (nI (k)), .int (nI (F))]) (rest := []) (st1 := [.int 1]) (hrf) rfl rfl rfl (fun _ _ => rfl) rfl (by exact cl_v my_271 rfl rfl rfl (Nat.le_of_ble_eq_true rfl) rfl (MH_obj rfl rfl) rfl (by decide) rfl rfl) (by rfl) (Nat.le_of_ble_eq_true rfl) (Nat.le_of_ble_eq_true rfl) rfl (by rfl) ?_
    refine w_t (a := 102) (b := 101) rfl rfl rfl ?_
    refine w_p (pc1 := 103) rfl rfl ?_
    refine w_m0 (pc1 := 106) rfl rfl (h_gC rfl rfl rfl rfl) rfl ?_
    refine w_p (pc1 := 107) rfl rfl ?_
    refine w_m0 (pc1 := 108) (st1 := .int 2 :: _) rfl rfl (n_ile (e := F) rfl rfl rfl (by omega) (s1.2.1)) rfl ?_
    refine w_p (pc1 := 109) (st1 := .int 2 :: _) rfl rfl ?_
    refine w_f (a := 121) (b := 112) rfl rfl rfl ?_
    refine w_p (pc1 := 113) rfl rfl ?_
    refine w_m0 (pc1 := 116) rfl rfl (h_gC rfl rfl rfl rfl) rfl ?_
    refine w_p (pc1 := 117) rfl rfl ?_
    refine w_m0 (pc1 := 118) (st1 := .int 4 :: _) rfl rfl (n_ile (e := i) rfl rfl rfl (by omega) (hdo)) rfl ?_
    refine w_p (pc1 := 127) rfl rfl ?_
    refine w_p (pc1 := 129) (al1 := [(6, .int 4), (5, .int (nI (k))), (4, .int (jj)), (3, .int (nI (rTb u))), (2, .int (nI (i))), (0, .ref 176), (1, .int (nI (F)))]) rfl rfl ?_
    refine w_p (pc1 := 131) rfl rfl ?_
    refine w_p (pc1 := 132) (st1 := .int 1 :: _) rfl rfl ?_
    refine w_t (a := 156) (b := 135) rfl rfl rfl ?_
    refine w_p (pc1 := 158) rfl rfl ?_
    refine w_p (pc1 := 159) (st1 := .int 2 :: _) rfl rfl ?_
    refine w_t (a := 176) (b := 162) rfl rfl rfl ?_
    refine w_p (pc1 := 177) (st1 := .int 0 :: _) rfl rfl ?_
    refine w_p (pc1 := 179) (al1 := [(7, .int 0), (6, .int 4), (5, .int (nI (k))), (4, .int (jj)), (3, .int (nI (rTb u))), (2, .int (nI (i))), (0, .ref 176), (1, .int (nI (F)))]) rfl rfl ?_
    refine w_p (pc1 := 180) rfl rfl ?_
    refine w_p (pc1 := 182) rfl rfl ?_
    refine w_t (a := 189) (b := 185) rfl rfl rfl ?_
    refine w_p (pc1 := 190) (st1 := .int 1 :: _) rfl rfl ?_
    refine w_p (pc1 := 191) rfl rfl ?_
    refine w_p (pc1 := 193) rfl rfl ?_
    refine w_je (pc1 := 196) (vs := [.ref 176, .int 1, .int (nI (rTb u)), .int (jj)]) (rest := []) (st1 := [.int (-1)]) (m_260x (d := d + 4) (sl := 0) hX.1 hX.2.1 hDp.1 hDp.2 h89 hx3) rfl rfl rfl (fun _ _ => rfl) rfl (by exact cl_v my_260 rfl rfl rfl (Nat.le_of_ble_eq_true rfl) rfl (MH_obj rfl rfl) rfl (by decide) rfl rfl) (by rfl) (Nat.le_of_ble_eq_true rfl) (Nat.le_of_ble_eq_true rfl) rfl (by rfl) ?_
    refine w_p (pc1 := 198) (al1 := [(8, .int (-1)), (7, .int 0), (6, .int 4), (5, .int (nI (k))), (4, .int (jj)), (3, .int (nI (rTb u))), (2, .int (nI (i))), (0, .ref 176), (1, .int (nI (F)))]) rfl rfl ?_
    refine w_p (pc1 := 200) rfl rfl ?_
    refine w_p (pc1 := 201) (st1 := .int (-1) :: _) rfl rfl ?_
    refine w_f (a := 205) (b := 204) rfl rfl rfl ?_
    refine w_r rfl rfl rfl (fun _ _ => rfl) rfl ?_
    exact ⟨rfl, ⟨sI C1 76 89 5, Or.inr ⟨_, rfl, Or.inl ⟨hx3, EDD_S frS_r ⟨false, h74⟩⟩⟩, rfl⟩, rfl⟩
  · have hbs := m_260 (L := L) (xs := xs) (t := t) (d := d + 4) (sl := 0) (kd := 1) (tb := nI (rTb u)) (i := jj) hX.1 (by omega) hDp.1 (by omega) hX.2.2.1 hX.2.2.2 hFr.1 (by omega)
    have fQ := bs_Q (C := C1) (u := σ.2.1) (D := D) (v := σ.2.2) (f := F + 1) (kd := 1) (tb := nI (rTb u)) (i := jj)
    have fV := bs_V (C := C1) (u := σ.2.1) (D := D) (v := σ.2.2) (f := F + 1) (kd := 1) (tb := nI (rTb u)) (i := jj)
    have hc := bs_C (C := C1) (u := σ.2.1) (D := D) (v := σ.2.2) (f := F + 1) (kd := 1) (tb := nI (rTb u)) (i := jj)
    have hsb := bs_S (C := C1) (u := σ.2.1) (D := D) (v := σ.2.2) (f := F + 1) (kd := 1) (tb := nI (rTb u)) (i := jj)
    have hto := m_262 (L := L) (xs := xs) (C := bsC C1 σ.2.1 D σ.2.2 (F + 1) 1 (nI (rTb u)) jj) (t := t) (d := d + 4) (sl := 0) (f := F + 1) (by omega) hb6 (k := k) (by omega)
    refine w_p (pc1 := 1) rfl rfl ?_
    refine w_m0 (pc1 := 4) rfl rfl (h_gC rfl rfl rfl rfl) rfl ?_
    refine w_p (pc1 := 5) rfl rfl ?_
    refine w_m0 (pc1 := 6) (st1 := .int (nI (i)) :: _) rfl rfl (n_ile (e := F) rfl rfl rfl (by omega) (hs.2.2.2.2.2)) rfl ?_
    refine w_p (pc1 := 7) (al1 := [(2, .int (nI (i))), (0, .ref 176), (1, .int (nI (F)))]) rfl rfl ?_
    refine w_p (pc1 := 8) rfl rfl ?_
    refine w_m0 (pc1 := 11) rfl rfl (h_gC rfl rfl rfl rfl) rfl ?_
    refine w_p (pc1 := 12) rfl rfl ?_
    refine w_m0 (pc1 := 13) (st1 := .int (nI (at_)) :: _) rfl rfl (n_ile (e := F) rfl rfl rfl (by omega) (h135)) rfl ?_
    refine w_p (pc1 := 14) rfl rfl ?_
    refine w_m0 (pc1 := 17) rfl rfl (h_gC rfl rfl rfl rfl) rfl ?_
    refine w_p (pc1 := 18) rfl rfl ?_
    refine w_m0 (pc1 := 19) (st1 := .int (nI (n)) :: _) rfl rfl (n_ile (e := F) rfl rfl rfl (by omega) (h134)) rfl ?_
    refine w_t (a := 40) (b := 22) (bN_ne_t (a := at_) (b := n) (by omega) (by omega) (by omega)) rfl rfl ?_
    refine w_p (pc1 := 41) rfl rfl ?_
    refine w_m0 (pc1 := 44) rfl rfl (h_gC rfl rfl rfl rfl) rfl ?_
    refine w_p (pc1 := 45) rfl rfl ?_
    refine w_m0 (pc1 := 46) (st1 := .int (nI (rTb u)) :: _) rfl rfl (n_ile (e := i) rfl rfl rfl (by omega) (ut)) rfl ?_
    refine w_p (pc1 := 47) (al1 := [(3, .int (nI (rTb u))), (2, .int (nI (i))), (0, .ref 176), (1, .int (nI (F)))]) rfl rfl ?_
    refine w_p (pc1 := 48) rfl rfl ?_
    refine w_m0 (pc1 := 51) rfl rfl (h_gC rfl rfl rfl rfl) rfl ?_
    refine w_p (pc1 := 53) (st1 := .int 40 :: _) rfl rfl ?_
    refine w_p (pc1 := 54) rfl rfl ?_
    refine w_imul (pc1 := 55) (u := nI (40)) (v := nI (F)) (z := nI (40 * F)) rfl (nK_mul) rfl ?_
    refine w_p (pc1 := 56) rfl rfl ?_
    refine w_m0 (pc1 := 59) rfl rfl (h_gC rfl rfl rfl rfl) rfl ?_
    refine w_p (pc1 := 60) rfl rfl ?_
    refine w_m0 (pc1 := 61) (st1 := .int (nI (at_)) :: _) rfl rfl (n_ile (e := F) rfl rfl rfl (by omega) (h135)) rfl ?_
    refine w_iadd (pc1 := 62) (u := nI (40 * F)) (v := nI (at_)) (z := nI (40 * F + (at_))) rfl (nK_add) rfl ?_
    refine w_m0 (pc1 := 63) (st1 := .int (jj) :: _) rfl rfl (n_ile (e := 40 * F + (at_)) rfl rfl rfl (by omega) (hid)) rfl ?_
    refine w_p (pc1 := 65) (al1 := [(4, .int (jj)), (3, .int (nI (rTb u))), (2, .int (nI (i))), (0, .ref 176), (1, .int (nI (F)))]) rfl rfl ?_
    refine w_p (pc1 := 66) rfl rfl ?_
    refine w_m0 (pc1 := 69) rfl rfl (h_gC rfl rfl rfl rfl) rfl ?_
    refine w_p (pc1 := 70) rfl rfl ?_
    refine w_p (pc1 := 71) rfl rfl ?_
    refine w_m0 (pc1 := 72) (st1 := .int (nI (at_)) :: _) rfl rfl (n_ile (e := F) rfl rfl rfl (by omega) (h135)) rfl ?_
    refine w_p (pc1 := 73) (st1 := .int 1 :: _) rfl rfl ?_
    refine w_iadd (pc1 := 74) (u := nI (at_)) (v := nI (1)) (z := nI (at_ + 1)) rfl (nK_add) rfl ?_
    refine w_m0 (pc1 := 75) rfl rfl (n_is (e := F) rfl rfl rfl (by omega)) rfl ?_
    rw [hC1]
    refine w_p (pc1 := 76) rfl rfl ?_
    refine w_p (pc1 := 77) rfl rfl ?_
    refine w_p (pc1 := 79) rfl rfl ?_
    refine w_je (pc1 := 82) (vs := [.ref 176, .int (nI (rTb u)), .int (jj)]) (rest := []) (st1 := [.int (nI (k))]) (hm1) rfl rfl rfl (fun _ _ => rfl) rfl (by exact cl_v my_261 rfl rfl rfl (Nat.le_of_ble_eq_true rfl) rfl (MH_obj rfl rfl) rfl (by decide) rfl rfl) (by rfl) (Nat.le_of_ble_eq_true rfl) (Nat.le_of_ble_eq_true rfl) rfl (by rfl) ?_
    refine w_p (pc1 := 84) (al1 := [(5, .int (nI (k))), (4, .int (jj)), (3, .int (nI (rTb u))), (2, .int (nI (i))), (0, .ref 176), (1, .int (nI (F)))]) rfl rfl ?_
    refine w_p (pc1 := 86) rfl rfl ?_
    refine w_p (pc1 := 87) (st1 := .int (-1) :: _) rfl rfl ?_
    refine w_f (a := 101) (b := 90) (cb_eq_f (by exact nK_m1 (by omega))) rfl rfl ?_
    refine w_p (pc1 := 91) rfl rfl ?_
    refine w_p (pc1 := 92) rfl rfl ?_
    refine w_p (pc1 := 94) rfl rfl ?_
    refine w_p (pc1 := 95) rfl rfl ?_
    refine w_je (pc1 := 98) (vs := [.ref 176, .int (nI (i)), .int (nI (k)), .int (nI (F))]) (rest := []) (st1 := [.int 1]) (hrf) rfl rfl rfl (fun _ _ => rfl) rfl (by exact cl_v my_271 rfl rfl rfl (Nat.le_of_ble_eq_true rfl) rfl (MH_obj rfl rfl) rfl (by decide) rfl rfl) (by rfl) (Nat.le_of_ble_eq_true rfl) (Nat.le_of_ble_eq_true rfl) rfl (by rfl) ?_
    refine w_t (a := 102) (b := 101) rfl rfl rfl ?_
    refine w_p (pc1 := 103) rfl rfl ?_
    refine w_m0 (pc1 := 106) rfl rfl (h_gC rfl rfl rfl rfl) rfl ?_
    refine w_p (pc1 := 107) rfl rfl ?_
    refine w_m0 (pc1 := 108) (st1 := .int 2 :: _) rfl rfl (n_ile (e := F) rfl rfl rfl (by omega) (s1.2.1)) rfl ?_
    refine w_p (pc1 := 109) (st1 := .int 2 :: _) rfl rfl ?_
    refine w_f (a := 121) (b := 112) rfl rfl rfl ?_
    refine w_p (pc1 := 113) rfl rfl ?_
    refine w_m0 (pc1 := 116) rfl rfl (h_gC rfl rfl rfl rfl) rfl ?_
    refine w_p (pc1 := 117) rfl rfl ?_
    refine w_m0 (pc1 := 118) (st1 := .int 4 :: _) rfl rfl (n_ile (e := i) rfl rfl rfl (by omega) (hdo)) rfl ?_
    refine w_p (pc1 := 127) rfl rfl ?_
    refine w_p (pc1 := 129) (al1 := [(6, .int 4), (5, .int (nI (k))), (4, .int (jj)), (3, .int (nI (rTb u))), (2, .int (nI (i))), (0, .ref 176), (1, .int (nI (F)))]) rfl rfl ?_
    refine w_p (pc1 := 131) rfl rfl ?_
    refine w_p (pc1 := 132) (st1 := .int 1 :: _) rfl rfl ?_
    refine w_t (a := 156) (b := 135) rfl rfl rfl ?_
    refine w_p (pc1 := 158) rfl rfl ?_
    refine w_p (pc1 := 159) (st1 := .int 2 :: _) rfl rfl ?_
    refine w_t (a := 176) (b := 162) rfl rfl rfl ?_
    refine w_p (pc1 := 177) (st1 := .int 0 :: _) rfl rfl ?_
    refine w_p (pc1 := 179) (al1 := [(7, .int 0), (6, .int 4), (5, .int (nI (k))), (4, .int (jj)), (3, .int (nI (rTb u))), (2, .int (nI (i))), (0, .ref 176), (1, .int (nI (F)))]) rfl rfl ?_
    refine w_p (pc1 := 180) rfl rfl ?_
    refine w_p (pc1 := 182) rfl rfl ?_
    refine w_t (a := 189) (b := 185) rfl rfl rfl ?_
    refine w_p (pc1 := 190) (st1 := .int 1 :: _) rfl rfl ?_
    refine w_p (pc1 := 191) rfl rfl ?_
    refine w_p (pc1 := 193) rfl rfl ?_
    refine w_je (pc1 := 196) (vs := [.ref 176, .int 1, .int (nI (rTb u)), .int (jj)]) (rest := []) (st1 := [.int (nI (F + 1))]) (hbs) rfl rfl rfl (fun _ _ => rfl) rfl (by exact cl_v my_260 rfl rfl rfl (Nat.le_of_ble_eq_true rfl) rfl (MH_obj rfl rfl) rfl (by decide) rfl rfl) (by rfl) (Nat.le_of_ble_eq_true rfl) (Nat.le_of_ble_eq_true rfl) rfl (by rfl) ?_
    refine w_p (pc1 := 198) (al1 := [(8, .int (nI (F + 1))), (7, .int 0), (6, .int 4), (5, .int (nI (k))), (4, .int (jj)), (3, .int (nI (rTb u))), (2, .int (nI (i))), (0, .ref 176), (1, .int (nI (F)))]) rfl rfl ?_
    refine w_p (pc1 := 200) rfl rfl ?_
    refine w_p (pc1 := 201) (st1 := .int (-1) :: _) rfl rfl ?_
    refine w_t (a := 205) (b := 204) (cb_ne_t (by exact nK_m1 (by omega))) rfl rfl ?_
    refine w_p (pc1 := 206) rfl rfl ?_
    refine w_p (pc1 := 208) rfl rfl ?_
    refine w_p (pc1 := 209) rfl rfl ?_
    refine w_p (pc1 := 211) rfl rfl ?_
    refine w_ji (pc1 := 214) (vs := [.ref 176, .int (nI (F + 1)), .int (nI (rTb u)), .int (nI (k))]) (rest := []) (hto) rfl rfl rfl (fun _ _ => rfl) rfl (by exact cl_v my_262 rfl rfl rfl (Nat.le_of_ble_eq_true rfl) rfl (MH_obj rfl rfl) rfl (by decide) rfl rfl) (by rfl) (Nat.le_of_ble_eq_true rfl) (Nat.le_of_ble_eq_true rfl) rfl (fun v h m hq => ?_) (fun _ _ _ e => e.elim)
    obtain ⟨rfl, ⟨C3, ⟨o1, o2⟩, rfl⟩, rfl⟩ := hq
    refine w_p (pc1 := 215) (st1 := .int 0 :: _) rfl rfl ?_
    refine w_p (pc1 := 217) (al1 := [(9, .int 0), (8, .int (nI (F + 1))), (7, .int 0), (6, .int 4), (5, .int (nI (k))), (4, .int (jj)), (3, .int (nI (rTb u))), (2, .int (nI (i))), (0, .ref 176), (1, .int (nI (F)))]) rfl rfl ?_
    have qq : frQ (F + 1) C1 C3 := frQ_t fQ (frO_Q o1)
    refine Wd_q (lp_272_4 (C0 := C3) (N := N) (b := b) hi hF ho hR hK hb1 hb (MSt_Q qq K1) (RUM_Q qq U1) (bfM_Q qq (by omega) h6b (by omega) hN1) (rCs u) [] (rOs u) [] C3 r.2 rfl rfl rfl frO_r (fun _ => rfl) (fun c hc => ?_)) (fun v0 h m hq => ?_) (fun _ _ _ e => e)
    · rw [(o2 c (by omega)).2, fV.2.2.2]
      exact (g4 k r hr0).2 c hc
    · obtain ⟨p1, ⟨C4, ⟨p2, p3, p4⟩, p5⟩, p6⟩ := hq
      have o3 := frO_t o1 p2
      refine ⟨p1, ⟨C4, Or.inr ⟨_, rfl, Or.inr ⟨by omega, by omega, SFM_O o3 hsb, CNT_O o3 hc h89 h74, ⟨p4, fun c hc => ?_⟩, frQ_t fQ (frO_Q o3), frV_t fV (frO_V o3)⟩⟩, p5⟩, p6⟩
      rw [p3, (o2 c (by omega)).1, fV.2.2.2]
      exact (g4 k r hr0).2 c hc
end MEc
