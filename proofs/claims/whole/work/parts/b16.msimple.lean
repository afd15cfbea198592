
/-! THE OTHER SIDE READS STATEMENTS, 18: short statements; nodes are counted -/
section MSP2
variable {L : Nat} {xs : Nat → Int32} {B : Nat → Nat} {n : Nat} {C C' C0 C1 : co_T} {t : ab_H} {d i i0 i1 j b e p k w q : Nat} {U V : Nat → Prop} {c : Int32} {sc : sc_T} {row : Option Nat} {tg : Option (Nat × Nat)} {nl : Option Nat} {E : fe_T} {tr : Nat → Option tr_T}
variable {ru : Nat → Option ru_T} {P : Option Value → ab_H → Nat → Prop} {lt : Bool} {s a : Int32} {mk : Nat × (Nat → Int64)}
set_option maxRecDepth 100000 in
theorem m_247 (hs : s = if lt = true then 11 else 12) (M : MB B n C i nl) (R : RGM C ru) (h97 : C.1 76 97 = s) (h2 : kd B n i ≠ 2) : Wd L xs (d + 4) y_247 (0, [(0, .ref 176)], [], MH C t, 0) (PSH B n C t (rWhi (tkP B n) lt ru i nl) (fun a C' => (∀ j, j < 24 → C'.1 139 j = ck (nmB lt ru a j)) ∧ C'.1 76 97 = C.1 76 97)) nX := by
  obtain ⟨m, hm, h600, him⟩ := M.2.2.2.2.1.2
  have him1 : i + 1 ≤ m := st1 hm him rfl M.2.1.1 h2
  refine w_p (pc1 := 1) rfl rfl ?_
  refine w_ji (pc1 := 4) (vs := [.ref 176]) (rest := []) (nS (d := _) M h2) rfl rfl rfl (fun _ _ => rfl) rfl (by exact cl_v my_195 rfl rfl rfl (Nat.le_of_ble_eq_true rfl) rfl (MH_obj rfl rfl) rfl (by decide) rfl rfl) (by rfl) (Nat.le_of_ble_eq_true rfl) (Nat.le_of_ble_eq_true rfl) rfl (fun v h1 d1 hq => ?_) (fun _ _ _ e => e.elim)
  rcases hq with ⟨hv, ⟨C1, ⟨g1, M1, f1⟩, hh⟩, hn⟩ | ⟨hv, ⟨C1, ⟨g1, F1, f1⟩, hh⟩, hn⟩
  · subst hv; subst hh; subst hn
    refine w_p (pc1 := 5) (st1 := .int 0 :: _) rfl rfl ?_
    refine w_p (pc1 := 6) (al1 := [(1, .int 0), (0, .ref 176)]) rfl rfl ?_
    refine lp_247c (fun C2 z2 f2 => ?_) 24 0 C1 (by omega) (fun j hj => by omega) fZ_r
    have M2 : MB B n C2 (i + 1) nl := MB_Z (MS_rb M1) f2
    have R2 : RGM C2 ru := RGM_o R (fun x y h => by rw [f2.1 x y (by omega), f1.1 x y (by omega)])
    have e97 : C2.1 76 97 = s := by rw [f2.1 76 97 (by omega), f1.1 76 97 (by omega)]; exact h97
    by_cases h6 : kd B n (i + 1) = 6
    · have hx : rWhi (tkP B n) lt ru i nl = .inr (-1, i + 1 + 1, nl) := if_pos h6
      refine w_p (pc1 := 26) rfl rfl ?_
      refine w_m0 (pc1 := 29) (st1 := .int 0 :: _) rfl rfl (h_gIe (j := 8) rfl rfl rfl rfl rfl (M2.2.1.2.1)) rfl ?_
      refine w_f (a := 99) (b := 32) rfl rfl rfl ?_
      refine w_p (pc1 := 33) rfl rfl ?_
      refine w_m0 (pc1 := 36) (st1 := .long 6384748 :: _) rfl rfl rfl rfl ?_
      refine w_je (pc1 := 39) (vs := [.ref 176, .long 6384748]) (rest := []) (st1 := [.int 1]) (m_205t (d := _) (sl := 0) ((wd_k (k := 6) M2.2.1 (by decide) (by decide)).trans (decide_eq_true h6))) rfl rfl rfl (fun _ _ => rfl) rfl (by exact cl_v my_205 rfl rfl rfl (Nat.le_of_ble_eq_true rfl) rfl (MH_obj rfl rfl) rfl (by decide) rfl rfl) (by rfl) (Nat.le_of_ble_eq_true rfl) (Nat.le_of_ble_eq_true rfl) rfl (by rfl) ?_
      refine w_f (a := 99) (b := 42) rfl rfl rfl ?_
      refine w_p (pc1 := 43) (st1 := .int 0 :: _) rfl rfl ?_
      refine w_p (pc1 := 44) (al1 := [(1, .int 0), (0, .ref 176)]) rfl rfl ?_
      refine lp_247a hs (fun C3 z3 f3 => ?_) 24 0 C2 (by omega) (fun j hj => by omega) fZ_r R2 e97
      have M3 : MB B n C3 (i + 1) nl := MB_Z M2 f3
      refine w_p (pc1 := 95) rfl rfl ?_
      refine w_ji (pc1 := 98) (vs := [.ref 176]) (rest := []) (nS (d := _) M3 (by rw [h6]; decide)) rfl rfl rfl (fun _ _ => rfl) rfl (by exact cl_v my_195 rfl rfl rfl (Nat.le_of_ble_eq_true rfl) rfl (MH_obj rfl rfl) rfl (by decide) rfl rfl) (by rfl) (Nat.le_of_ble_eq_true rfl) (Nat.le_of_ble_eq_true rfl) rfl (fun v h1 d1 hq => ?_) (fun _ _ _ e => e.elim)
      rcases hq with ⟨hv, ⟨C4, ⟨g4, M4, f4⟩, hh⟩, hn⟩ | ⟨hv, ⟨C4, ⟨g4, F4, f4⟩, hh⟩, hn⟩
      · subst hv; subst hh; subst hn
        refine w_r rfl rfl rfl (fun _ _ => rfl) rfl ?_
        exact Or.inl ⟨rfl, ⟨_, ⟨_, _, _, hx, g4, MS_rb M4, ⟨fun j hj => by rw [f4.1 139 j (by omega)]; exact z3 j hj, by rw [f4.1 76 97 (by omega), f3.1 76 97 (by omega), f2.1 76 97 (by omega), f1.1 76 97 (by omega)]⟩, fW_t (fW_T f1) (fW_t (fW_Z f2) (fW_t (fW_Z f3) (fW_T f4)))⟩, rfl⟩, rfl⟩
      · subst hv; subst hh; subst hn
        refine w_r rfl rfl rfl (fun _ _ => rfl) rfl ?_
        exact Or.inr ⟨rfl, ⟨_, ⟨1, i + 1 + 1, flS_e hx rfl g4, FS_rb F4, fW_t (fW_T f1) (fW_t (fW_Z f2) (fW_t (fW_Z f3) (fW_T f4)))⟩, rfl⟩, rfl⟩
    · have hx : rWhi (tkP B n) lt ru i nl = pb (rNms (tkP B n) lt ru 600 0 (i + 1)) (fun x => .inr (x.1, x.2, nl)) := if_neg h6
      rw [hx]
      refine w_p (pc1 := 26) rfl rfl ?_
      refine w_m0 (pc1 := 29) (st1 := .int 0 :: _) rfl rfl (h_gIe (j := 8) rfl rfl rfl rfl rfl (M2.2.1.2.1)) rfl ?_
      refine w_f (a := 99) (b := 32) rfl rfl rfl ?_
      refine w_p (pc1 := 33) rfl rfl ?_
      refine w_m0 (pc1 := 36) (st1 := .long 6384748 :: _) rfl rfl rfl rfl ?_
      refine w_je (pc1 := 39) (vs := [.ref 176, .long 6384748]) (rest := []) (st1 := [.int 0]) (m_205f (d := _) (sl := 0) ((wd_k (k := 6) M2.2.1 (by decide) (by decide)).trans (decide_eq_false h6))) rfl rfl rfl (fun _ _ => rfl) rfl (by exact cl_v my_205 rfl rfl rfl (Nat.le_of_ble_eq_true rfl) rfl (MH_obj rfl rfl) rfl (by decide) rfl rfl) (by rfl) (Nat.le_of_ble_eq_true rfl) (Nat.le_of_ble_eq_true rfl) rfl (by rfl) ?_
      refine w_t (a := 99) (b := 42) rfl rfl rfl ?_
      refine w_p (pc1 := 100) rfl rfl ?_
      refine w_m0 (pc1 := 103) (st1 := .int 0 :: _) rfl rfl (h_gIe (j := 8) rfl rfl rfl rfl rfl (M2.2.1.2.1)) rfl ?_
      refine w_f (a := 110) (b := 106) rfl rfl rfl ?_
      refine w_p (pc1 := 107) (st1 := .int 1 :: _) rfl rfl ?_
      refine w_p (pc1 := 111) rfl rfl ?_
      refine w_p (pc1 := 112) (al1 := [(1, .int 1), (0, .ref 176)]) rfl rfl ?_
      refine Wd_q (lp_247 hs hm 600 (i + 1) 0 C2 M2 R2 e97 (fun j hj => ?_) him1 (by omega)) (fun v h mm hq => ?_) (fun _ _ _ e => e)
      · rw [z2 j hj]
        unfold nmB
        rw [bbI_0, Bool.false_and]
        rfl
      · rcases hq with ⟨hv, ⟨C3, ⟨a3, i3, h1, h2, h3, h4, h5, h7⟩, hh⟩, hn⟩ | ⟨hv, ⟨C3, ⟨c3, j3, h1, h2, h3⟩, hh⟩, hn⟩
        · exact Or.inl ⟨hv, ⟨C3, ⟨a3, i3, nl, by rw [pb_r h1], h2, h3, ⟨h4, by rw [h7, e97, h97]⟩, fW_t (fW_T f1) (fW_t (fW_Z f2) h5)⟩, hh⟩, hn⟩
        · exact Or.inr ⟨hv, ⟨C3, ⟨c3, j3, flS_c h1 (fun a _ _ => Or.inr ⟨_, rfl, rfl⟩), h2, fW_t (fW_T f1) (fW_t (fW_Z f2) h3)⟩, hh⟩, hn⟩
  · subst hv; subst hh; subst hn
    refine w_p (pc1 := 5) (st1 := .int 0 :: _) rfl rfl ?_
    refine w_p (pc1 := 6) (al1 := [(1, .int 0), (0, .ref 176)]) rfl rfl ?_
    refine lp_247c (fun C2 z2 f2 => ?_) 24 0 C1 (by omega) (fun j hj => by omega) fZ_r
    have F2 := FB_Z (FS_rb F1) f2
    have h0 := FS_0 F2
    refine w_p (pc1 := 26) rfl rfl ?_
    refine w_m0 (pc1 := 29) rfl rfl (h_gI (j := 8) rfl rfl rfl rfl rfl) rfl ?_
    refine w_t (a := 99) (b := 32) (cb_ne_t (by exact h0)) rfl rfl ?_
    refine w_p (pc1 := 100) rfl rfl ?_
    refine w_m0 (pc1 := 103) rfl rfl (h_gI (j := 8) rfl rfl rfl rfl rfl) rfl ?_
    refine w_t (a := 110) (b := 106) (cb_ne_t (by exact h0)) rfl rfl ?_
    refine w_p (pc1 := 111) (st1 := .int 0 :: _) rfl rfl ?_
    refine w_p (pc1 := 112) (al1 := [(1, .int 0), (0, .ref 176)]) rfl rfl ?_
    refine w112f F2 (Or.inr ⟨rfl, ⟨_, ⟨1, i + 1, ?_, F2, fW_t (fW_T f1) (fW_Z f2)⟩, rfl⟩, rfl⟩)
    have hx : rWhi (tkP B n) lt ru i nl = pb (rNms (tkP B n) lt ru 600 0 (i + 1)) (fun x => .inr (x.1, x.2, nl)) := if_neg (by show ¬ kd B n (i + 1) = 6; rw [g1]; decide)
    rw [hx]
    exact flS_1 (bdS_b (bd_nms hm him1 (by omega) g1)) g1
set_option maxRecDepth 100000 in
theorem m_244_10 (M : MB B n C i nl) (hk : kd B n i = 10) : Wd L xs (d + 4) y_244 (0, [(0, .ref 176)], [], MH C t, 0) (PSH B n C t (.inr ((), i + 1, nl)) (fun _ C' => C'.1 76 97 = 6)) nX := by
  refine w_p (pc1 := 1) rfl rfl ?_
  refine w_m0 (pc1 := 4) (st1 := .long 422608071022 :: _) rfl rfl rfl rfl ?_
  refine w_je (pc1 := 7) (vs := [.ref 176, .long 422608071022]) (rest := []) (st1 := [.int 1]) (m_205t (d := _) (sl := 0) ((wd_k (k := 10) M.2.1 (by decide) (by decide)).trans (decide_eq_true hk))) rfl rfl rfl (fun _ _ => rfl) rfl (by exact cl_v my_205 rfl rfl rfl (Nat.le_of_ble_eq_true rfl) rfl (MH_obj rfl rfl) rfl (by decide) rfl rfl) (by rfl) (Nat.le_of_ble_eq_true rfl) (Nat.le_of_ble_eq_true rfl) rfl (by rfl) ?_
  refine w_t (a := 20) (b := 10) rfl rfl rfl ?_
  refine w_p (pc1 := 21) rfl rfl ?_
  refine w_p (pc1 := 22) rfl rfl ?_
  refine w_m0 (pc1 := 25) (st1 := .long 422608071022 :: _) rfl rfl rfl rfl ?_
  refine w_je (pc1 := 28) (vs := [.ref 176, .long 422608071022]) (rest := [.ref 176]) (st1 := [.int 1, .ref 176]) (m_205t (d := _) (sl := 0) ((wd_k (k := 10) M.2.1 (by decide) (by decide)).trans (decide_eq_true hk))) rfl rfl rfl (fun _ _ => rfl) rfl (by exact cl_v my_205 rfl rfl rfl (Nat.le_of_ble_eq_true rfl) rfl (MH_obj rfl rfl) rfl (by decide) rfl rfl) (by rfl) (Nat.le_of_ble_eq_true rfl) (Nat.le_of_ble_eq_true rfl) rfl (by rfl) ?_
  refine w_f (a := 36) (b := 31) rfl rfl rfl ?_
  refine w_p (pc1 := 33) (st1 := .int 6 :: _) rfl rfl ?_
  refine w_p (pc1 := 38) rfl rfl ?_
  refine w_m0 (pc1 := 41) rfl rfl (h_pI (j := 97) rfl rfl rfl rfl rfl rfl rfl ⟨rfl, rfl⟩ rfl) rfl ?_
  refine w_p (pc1 := 42) rfl rfl ?_
  refine w_ji (pc1 := 45) (vs := [.ref 176]) (rest := []) (nS (d := _) (MB_I (v := 6) M (Or.inl rfl)) (by rw [hk]; decide)) rfl rfl rfl (fun _ _ => rfl) rfl (by exact cl_v my_195 rfl rfl rfl (Nat.le_of_ble_eq_true rfl) rfl (MH_obj rfl rfl) rfl (by decide) rfl rfl) (by rfl) (Nat.le_of_ble_eq_true rfl) (Nat.le_of_ble_eq_true rfl) rfl (fun v h1 d1 hq => ?_) (fun _ _ _ e => e.elim)
  rcases hq with ⟨hv, ⟨C1, ⟨g1, M1, f1⟩, hh⟩, hn⟩ | ⟨hv, ⟨C1, ⟨g1, F1, f1⟩, hh⟩, hn⟩
  · subst hv; subst hh; subst hn
    refine w_p (pc1 := 176) rfl rfl ?_
    refine w_r rfl rfl rfl (fun _ _ => rfl) rfl ?_
    exact Or.inl ⟨rfl, ⟨_, ⟨_, _, _, rfl, g1, MS_rb M1, (by show C1.1 76 97 = _; rw [f1.1 76 97 (by omega), sI_1, if_pos ⟨rfl, rfl⟩]), fW_t (fW_I (Or.inl rfl)) (fW_T f1)⟩, rfl⟩, rfl⟩
  · subst hv; subst hh; subst hn
    refine w_p (pc1 := 176) rfl rfl ?_
    refine w_r rfl rfl rfl (fun _ _ => rfl) rfl ?_
    exact Or.inr ⟨rfl, ⟨_, ⟨1, i + 1, flS_e rfl rfl g1, FS_rb F1, fW_t (fW_I (Or.inl rfl)) (fW_T f1)⟩, rfl⟩, rfl⟩
set_option maxRecDepth 100000 in
theorem m_244_13 (M : MB B n C i nl) (hk : kd B n i = 13) : Wd L xs (d + 4) y_244 (0, [(0, .ref 176)], [], MH C t, 0) (PSH B n C t (.inr ((), i + 1, nl)) (fun _ C' => C'.1 76 97 = 7)) nX := by
  refine w_p (pc1 := 1) rfl rfl ?_
  refine w_m0 (pc1 := 4) (st1 := .long 422608071022 :: _) rfl rfl rfl rfl ?_
  refine w_je (pc1 := 7) (vs := [.ref 176, .long 422608071022]) (rest := []) (st1 := [.int 0]) (m_205f (d := _) (sl := 0) ((wd_k (k := 10) M.2.1 (by decide) (by decide)).trans (decide_eq_false (by rw [hk]; decide)))) rfl rfl rfl (fun _ _ => rfl) rfl (by exact cl_v my_205 rfl rfl rfl (Nat.le_of_ble_eq_true rfl) rfl (MH_obj rfl rfl) rfl (by decide) rfl rfl) (by rfl) (Nat.le_of_ble_eq_true rfl) (Nat.le_of_ble_eq_true rfl) rfl (by rfl) ?_
  refine w_f (a := 20) (b := 10) rfl rfl rfl ?_
  refine w_p (pc1 := 11) rfl rfl ?_
  refine w_m0 (pc1 := 14) (st1 := .long 109330228406644 :: _) rfl rfl rfl rfl ?_
  refine w_je (pc1 := 17) (vs := [.ref 176, .long 109330228406644]) (rest := []) (st1 := [.int 1]) (m_205t (d := _) (sl := 0) ((wd_k (k := 13) M.2.1 (by decide) (by decide)).trans (decide_eq_true hk))) rfl rfl rfl (fun _ _ => rfl) rfl (by exact cl_v my_205 rfl rfl rfl (Nat.le_of_ble_eq_true rfl) rfl (MH_obj rfl rfl) rfl (by decide) rfl rfl) (by rfl) (Nat.le_of_ble_eq_true rfl) (Nat.le_of_ble_eq_true rfl) rfl (by rfl) ?_
  refine w_f (a := 48) (b := 20) rfl rfl rfl ?_
  refine w_p (pc1 := 21) rfl rfl ?_
  refine w_p (pc1 := 22) rfl rfl ?_
  refine w_m0 (pc1 := 25) (st1 := .long 422608071022 :: _) rfl rfl rfl rfl ?_
  refine w_je (pc1 := 28) (vs := [.ref 176, .long 422608071022]) (rest := [.ref 176]) (st1 := [.int 0, .ref 176]) (m_205f (d := _) (sl := 0) ((wd_k (k := 10) M.2.1 (by decide) (by decide)).trans (decide_eq_false (by rw [hk]; decide)))) rfl rfl rfl (fun _ _ => rfl) rfl (by exact cl_v my_205 rfl rfl rfl (Nat.le_of_ble_eq_true rfl) rfl (MH_obj rfl rfl) rfl (by decide) rfl rfl) (by rfl) (Nat.le_of_ble_eq_true rfl) (Nat.le_of_ble_eq_true rfl) rfl (by rfl) ?_
  refine w_t (a := 36) (b := 31) rfl rfl rfl ?_
  refine w_p (pc1 := 38) (st1 := .int 7 :: _) rfl rfl ?_
  refine w_m0 (pc1 := 41) rfl rfl (h_pI (j := 97) rfl rfl rfl rfl rfl rfl rfl ⟨rfl, rfl⟩ rfl) rfl ?_
  refine w_p (pc1 := 42) rfl rfl ?_
  refine w_ji (pc1 := 45) (vs := [.ref 176]) (rest := []) (nS (d := _) (MB_I (v := 7) M (Or.inl rfl)) (by rw [hk]; decide)) rfl rfl rfl (fun _ _ => rfl) rfl (by exact cl_v my_195 rfl rfl rfl (Nat.le_of_ble_eq_true rfl) rfl (MH_obj rfl rfl) rfl (by decide) rfl rfl) (by rfl) (Nat.le_of_ble_eq_true rfl) (Nat.le_of_ble_eq_true rfl) rfl (fun v h1 d1 hq => ?_) (fun _ _ _ e => e.elim)
  rcases hq with ⟨hv, ⟨C1, ⟨g1, M1, f1⟩, hh⟩, hn⟩ | ⟨hv, ⟨C1, ⟨g1, F1, f1⟩, hh⟩, hn⟩
  · subst hv; subst hh; subst hn
    refine w_p (pc1 := 176) rfl rfl ?_
    refine w_r rfl rfl rfl (fun _ _ => rfl) rfl ?_
    exact Or.inl ⟨rfl, ⟨_, ⟨_, _, _, rfl, g1, MS_rb M1, (by show C1.1 76 97 = _; rw [f1.1 76 97 (by omega), sI_1, if_pos ⟨rfl, rfl⟩]), fW_t (fW_I (Or.inl rfl)) (fW_T f1)⟩, rfl⟩, rfl⟩
  · subst hv; subst hh; subst hn
    refine w_p (pc1 := 176) rfl rfl ?_
    refine w_r rfl rfl rfl (fun _ _ => rfl) rfl ?_
    exact Or.inr ⟨rfl, ⟨_, ⟨1, i + 1, flS_e rfl rfl g1, FS_rb F1, fW_t (fW_I (Or.inl rfl)) (fW_T f1)⟩, rfl⟩, rfl⟩
set_option maxRecDepth 100000 in
theorem PSH_f {α : Type} {x : pz_T (α × Nat × Option Nat)} {Q Q' : α → co_T → Prop} (f : fW C C1) (hQ : ∀ a i' nl' C', x = .inr (a, i', nl') → Q a C' → Q' a C') : ∀ v h m, PSH B n C1 t x Q v h m → PSH B n C t x Q' v h m := by
  intro v h m hq
  rcases hq with ⟨hv, ⟨C', ⟨a, i', nl', h1, h2, h3, h4, h5⟩, hh⟩, hn⟩ | ⟨hv, ⟨C', ⟨c, j, h1, h2, h3⟩, hh⟩, hn⟩
  · exact Or.inl ⟨hv, ⟨C', ⟨a, i', nl', h1, h2, h3, hQ a i' nl' C' h1 h4, fW_t f h5⟩, hh⟩, hn⟩
  · exact Or.inr ⟨hv, ⟨C', ⟨c, j, h1, h2, fW_t f h3⟩, hh⟩, hn⟩
set_option maxRecDepth 100000 in
theorem m_244_8 (M : MB B n C i nl) (H : MKM C mk) (hk : kd B n i = 8) : Wd L xs (d + 5) y_244 (0, [(0, .ref 176)], [], MH C t, 0) (PSH B n C t (rBck (tkP B n) mk i nl) (fun a C' => (a = -1 ∧ C'.1 76 97 = 8) ∨ (a ≠ -1 ∧ C'.1 76 97 = 9 ∧ C'.1 76 98 = a))) nX := by
  by_cases h38 : kd B n (i + 1) = 38
  · have hx : rBck (tkP B n) mk i nl = pb (rThr (tkP B n) (mkF mk (vl B n (i + 1 + 1))) (i + 1 + 1)) (fun u => .inr (mkF mk (vl B n (i + 1 + 1)), u.2, nl)) := if_pos h38
    rw [hx]
    refine w_p (pc1 := 1) rfl rfl ?_
    refine w_m0 (pc1 := 4) (st1 := .long 422608071022 :: _) rfl rfl rfl rfl ?_
    refine w_je (pc1 := 7) (vs := [.ref 176, .long 422608071022]) (rest := []) (st1 := [.int 0]) (m_205f (d := _) (sl := 0) ((wd_k (k := 10) M.2.1 (by decide) (by decide)).trans (decide_eq_false (by rw [hk]; decide)))) rfl rfl rfl (fun _ _ => rfl) rfl (by exact cl_v my_205 rfl rfl rfl (Nat.le_of_ble_eq_true rfl) rfl (MH_obj rfl rfl) rfl (by decide) rfl rfl) (by rfl) (Nat.le_of_ble_eq_true rfl) (Nat.le_of_ble_eq_true rfl) rfl (by rfl) ?_
    refine w_f (a := 20) (b := 10) rfl rfl rfl ?_
    refine w_p (pc1 := 11) rfl rfl ?_
    refine w_m0 (pc1 := 14) (st1 := .long 109330228406644 :: _) rfl rfl rfl rfl ?_
    refine w_je (pc1 := 17) (vs := [.ref 176, .long 109330228406644]) (rest := []) (st1 := [.int 0]) (m_205f (d := _) (sl := 0) ((wd_k (k := 13) M.2.1 (by decide) (by decide)).trans (decide_eq_false (by rw [hk]; decide)))) rfl rfl rfl (fun _ _ => rfl) rfl (by exact cl_v my_205 rfl rfl rfl (Nat.le_of_ble_eq_true rfl) rfl (MH_obj rfl rfl) rfl (by decide) rfl rfl) (by rfl) (Nat.le_of_ble_eq_true rfl) (Nat.le_of_ble_eq_true rfl) rfl (by rfl) ?_
    refine w_t (a := 48) (b := 20) rfl rfl rfl ?_
    refine w_p (pc1 := 49) rfl rfl ?_
    refine w_m0 (pc1 := 52) (st1 := .long 1650549611 :: _) rfl rfl rfl rfl ?_
    refine w_je (pc1 := 55) (vs := [.ref 176, .long 1650549611]) (rest := []) (st1 := [.int 1]) (m_205t (d := _) (sl := 0) ((wd_k (k := 8) M.2.1 (by decide) (by decide)).trans (decide_eq_true hk))) rfl rfl rfl (fun _ _ => rfl) rfl (by exact cl_v my_205 rfl rfl rfl (Nat.le_of_ble_eq_true rfl) rfl (MH_obj rfl rfl) rfl (by decide) rfl rfl) (by rfl) (Nat.le_of_ble_eq_true rfl) (Nat.le_of_ble_eq_true rfl) rfl (by rfl) ?_
    refine w_f (a := 99) (b := 58) rfl rfl rfl ?_
    refine w_p (pc1 := 59) rfl rfl ?_
    refine w_p (pc1 := 61) (st1 := .int 8 :: _) rfl rfl ?_
    refine w_m0 (pc1 := 64) rfl rfl (h_pI (j := 97) rfl rfl rfl rfl rfl rfl rfl ⟨rfl, rfl⟩ rfl) rfl ?_
    refine w_p (pc1 := 65) rfl rfl ?_
    refine w_ji (pc1 := 68) (vs := [.ref 176]) (rest := []) (nS (d := _) (MB_I (v := 8) M (Or.inl rfl)) (by rw [hk]; decide)) rfl rfl rfl (fun _ _ => rfl) rfl (by exact cl_v my_195 rfl rfl rfl (Nat.le_of_ble_eq_true rfl) rfl (MH_obj rfl rfl) rfl (by decide) rfl rfl) (by rfl) (Nat.le_of_ble_eq_true rfl) (Nat.le_of_ble_eq_true rfl) rfl (fun v h1 d1 hq => ?_) (fun _ _ _ e => e.elim)
    rcases hq with ⟨hv, ⟨C1, ⟨g1, M1, f1⟩, hh⟩, hn⟩ | ⟨hv, ⟨C1, ⟨g1, F1, f1⟩, hh⟩, hn⟩
    · subst hv; subst hh; subst hn
      refine w_p (pc1 := 69) rfl rfl ?_
      refine w_m0 (pc1 := 72) (st1 := .int 0 :: _) rfl rfl (h_gIe (j := 8) rfl rfl rfl rfl rfl (M1.2.1.2.1)) rfl ?_
      refine w_f (a := 176) (b := 75) rfl rfl rfl ?_
      refine w_p (pc1 := 76) rfl rfl ?_
      refine w_m0 (pc1 := 79) (st1 := .long 29807 :: _) rfl rfl rfl rfl ?_
      refine w_je (pc1 := 82) (vs := [.ref 176, .long 29807]) (rest := []) (st1 := [.int 1]) (m_205t (d := _) (sl := 0) ((wd_k (k := 38) M1.2.1 (by decide) (by decide)).trans (decide_eq_true h38))) rfl rfl rfl (fun _ _ => rfl) rfl (by exact cl_v my_205 rfl rfl rfl (Nat.le_of_ble_eq_true rfl) rfl (MH_obj rfl rfl) rfl (by decide) rfl rfl) (by rfl) (Nat.le_of_ble_eq_true rfl) (Nat.le_of_ble_eq_true rfl) rfl (by rfl) ?_
      refine w_f (a := 176) (b := 85) rfl rfl rfl ?_
      refine w_p (pc1 := 86) rfl rfl ?_
      refine w_p (pc1 := 88) (st1 := .int 9 :: _) rfl rfl ?_
      refine w_m0 (pc1 := 91) rfl rfl (h_pI (j := 97) rfl rfl rfl rfl rfl rfl rfl ⟨rfl, rfl⟩ rfl) rfl ?_
      refine w_p (pc1 := 92) rfl rfl ?_
      refine w_p (pc1 := 93) (st1 := .int 1 :: _) rfl rfl ?_
      refine w_ji (pc1 := 96) (vs := [.ref 176, .int 1]) (rest := []) (m_245_1 (d := _) (MB_I (v := 9) (MS_rb M1) (Or.inl rfl)) (MKM_o H (fW_t (fW_I (Or.inl rfl)) (fW_t (fW_T f1) (fW_I (Or.inl rfl))))) (by rw [h38]; decide)) rfl rfl rfl (fun _ _ => rfl) rfl (by exact cl_v my_245 rfl rfl rfl (Nat.le_of_ble_eq_true rfl) rfl (MH_obj rfl rfl) rfl (by decide) rfl rfl) (by rfl) (Nat.le_of_ble_eq_true rfl) (Nat.le_of_ble_eq_true rfl) rfl (fun v h1 d1 hq => ?_) (fun _ _ _ e => e.elim)
      rcases hq with ⟨hv, ⟨C2, ⟨a2, i2, nl2, g2, g3, M2, q2, f2⟩, hh⟩, hn⟩ | ⟨hv, ⟨C2, ⟨c2, j2, g2, F2, f2⟩, hh⟩, hn⟩
      · subst hv; subst hh; subst hn
        refine w_p (pc1 := 176) rfl rfl ?_
        refine w_r rfl rfl rfl (fun _ _ => rfl) rfl ?_
        have hne : a2 ≠ -1 := by
          obtain ⟨w, hw, hw2⟩ := pb_inr g2
          cases hw2
          unfold rThr at hw
          split at hw
          · split at hw
            · cases hw
            · assumption
          · cases hw
        exact Or.inl ⟨rfl, ⟨_, ⟨_, _, _, g2, g3, M2, Or.inr ⟨hne, by rw [q2.2, sI_1, if_pos ⟨rfl, rfl⟩], q2.1⟩, fW_t (fW_t (fW_I (Or.inl rfl)) (fW_t (fW_T f1) (fW_I (Or.inl rfl)))) f2⟩, rfl⟩, rfl⟩
      · subst hv; subst hh; subst hn
        refine w_p (pc1 := 176) rfl rfl ?_
        refine w_r rfl rfl rfl (fun _ _ => rfl) rfl ?_
        exact Or.inr ⟨rfl, ⟨_, ⟨c2, j2, g2, F2, fW_t (fW_t (fW_I (Or.inl rfl)) (fW_t (fW_T f1) (fW_I (Or.inl rfl)))) f2⟩, rfl⟩, rfl⟩
    · subst hv; subst hh; subst hn
      refine w_p (pc1 := 69) rfl rfl ?_
      refine w_m0 (pc1 := 72) rfl rfl (h_gI (j := 8) rfl rfl rfl rfl rfl) rfl ?_
      refine w_t (a := 176) (b := 75) (cb_ne_t (by exact FS_0 F1)) rfl rfl ?_
      refine w_r rfl rfl rfl (fun _ _ => rfl) rfl ?_
      exact absurd h38 (by rw [g1]; decide)
  · have hx : rBck (tkP B n) mk i nl = .inr (-1, i + 1, nl) := if_neg h38
    refine w_p (pc1 := 1) rfl rfl ?_
    refine w_m0 (pc1 := 4) (st1 := .long 422608071022 :: _) rfl rfl rfl rfl ?_
    refine w_je (pc1 := 7) (vs := [.ref 176, .long 422608071022]) (rest := []) (st1 := [.int 0]) (m_205f (d := _) (sl := 0) ((wd_k (k := 10) M.2.1 (by decide) (by decide)).trans (decide_eq_false (by rw [hk]; decide)))) rfl rfl rfl (fun _ _ => rfl) rfl (by exact cl_v my_205 rfl rfl rfl (Nat.le_of_ble_eq_true rfl) rfl (MH_obj rfl rfl) rfl (by decide) rfl rfl) (by rfl) (Nat.le_of_ble_eq_true rfl) (Nat.le_of_ble_eq_true rfl) rfl (by rfl) ?_
    refine w_f (a := 20) (b := 10) rfl rfl rfl ?_
    refine w_p (pc1 := 11) rfl rfl ?_
    refine w_m0 (pc1 := 14) (st1 := .long 109330228406644 :: _) rfl rfl rfl rfl ?_
    refine w_je (pc1 := 17) (vs := [.ref 176, .long 109330228406644]) (rest := []) (st1 := [.int 0]) (m_205f (d := _) (sl := 0) ((wd_k (k := 13) M.2.1 (by decide) (by decide)).trans (decide_eq_false (by rw [hk]; decide)))) rfl rfl rfl (fun _ _ => rfl) rfl (by exact cl_v my_205 rfl rfl rfl (Nat.le_of_ble_eq_true rfl) rfl (MH_obj rfl rfl) rfl (by decide) rfl rfl) (by rfl) (Nat.le_of_ble_eq_true rfl) (Nat.le_of_ble_eq_true rfl) rfl (by rfl) ?_
    refine w_t (a := 48) (b := 20) rfl rfl rfl ?_
    refine w_p (pc1 := 49) rfl rfl ?_
    refine w_m0 (pc1 := 52) (st1 := .long 1650549611 :: _) rfl rfl rfl rfl ?_
    refine w_je (pc1 := 55) (vs := [.ref 176, .long 1650549611]) (rest := []) (st1 := [.int 1]) (m_205t (d := _) (sl := 0) ((wd_k (k := 8) M.2.1 (by decide) (by decide)).trans (decide_eq_true hk))) rfl rfl rfl (fun _ _ => rfl) rfl (by exact cl_v my_205 rfl rfl rfl (Nat.le_of_ble_eq_true rfl) rfl (MH_obj rfl rfl) rfl (by decide) rfl rfl) (by rfl) (Nat.le_of_ble_eq_true rfl) (Nat.le_of_ble_eq_true rfl) rfl (by rfl) ?_
    refine w_f (a := 99) (b := 58) rfl rfl rfl ?_
    refine w_p (pc1 := 59) rfl rfl ?_
    refine w_p (pc1 := 61) (st1 := .int 8 :: _) rfl rfl ?_
    refine w_m0 (pc1 := 64) rfl rfl (h_pI (j := 97) rfl rfl rfl rfl rfl rfl rfl ⟨rfl, rfl⟩ rfl) rfl ?_
    refine w_p (pc1 := 65) rfl rfl ?_
    refine w_ji (pc1 := 68) (vs := [.ref 176]) (rest := []) (nS (d := _) (MB_I (v := 8) M (Or.inl rfl)) (by rw [hk]; decide)) rfl rfl rfl (fun _ _ => rfl) rfl (by exact cl_v my_195 rfl rfl rfl (Nat.le_of_ble_eq_true rfl) rfl (MH_obj rfl rfl) rfl (by decide) rfl rfl) (by rfl) (Nat.le_of_ble_eq_true rfl) (Nat.le_of_ble_eq_true rfl) rfl (fun v h1 d1 hq => ?_) (fun _ _ _ e => e.elim)
    rcases hq with ⟨hv, ⟨C1, ⟨g1, M1, f1⟩, hh⟩, hn⟩ | ⟨hv, ⟨C1, ⟨g1, F1, f1⟩, hh⟩, hn⟩
    · subst hv; subst hh; subst hn
      refine w_p (pc1 := 69) rfl rfl ?_
      refine w_m0 (pc1 := 72) (st1 := .int 0 :: _) rfl rfl (h_gIe (j := 8) rfl rfl rfl rfl rfl (M1.2.1.2.1)) rfl ?_
      refine w_f (a := 176) (b := 75) rfl rfl rfl ?_
      refine w_p (pc1 := 76) rfl rfl ?_
      refine w_m0 (pc1 := 79) (st1 := .long 29807 :: _) rfl rfl rfl rfl ?_
      refine w_je (pc1 := 82) (vs := [.ref 176, .long 29807]) (rest := []) (st1 := [.int 0]) (m_205f (d := _) (sl := 0) ((wd_k (k := 38) M1.2.1 (by decide) (by decide)).trans (decide_eq_false h38))) rfl rfl rfl (fun _ _ => rfl) rfl (by exact cl_v my_205 rfl rfl rfl (Nat.le_of_ble_eq_true rfl) rfl (MH_obj rfl rfl) rfl (by decide) rfl rfl) (by rfl) (Nat.le_of_ble_eq_true rfl) (Nat.le_of_ble_eq_true rfl) rfl (by rfl) ?_
      refine w_t (a := 176) (b := 85) rfl rfl rfl ?_
      refine w_r rfl rfl rfl (fun _ _ => rfl) rfl ?_
      exact Or.inl ⟨rfl, ⟨_, ⟨_, _, _, hx, g1, MS_rb M1, Or.inl ⟨rfl, by rw [f1.1 76 97 (by omega), sI_1, if_pos ⟨rfl, rfl⟩]⟩, fW_t (fW_I (Or.inl rfl)) (fW_T f1)⟩, rfl⟩, rfl⟩
    · subst hv; subst hh; subst hn
      refine w_p (pc1 := 69) rfl rfl ?_
      refine w_m0 (pc1 := 72) rfl rfl (h_gI (j := 8) rfl rfl rfl rfl rfl) rfl ?_
      refine w_t (a := 176) (b := 75) (cb_ne_t (by exact FS_0 F1)) rfl rfl ?_
      refine w_r rfl rfl rfl (fun _ _ => rfl) rfl ?_
      exact Or.inr ⟨rfl, ⟨_, ⟨1, i + 1, flS_e hx rfl g1, FS_rb F1, fW_t (fW_I (Or.inl rfl)) (fW_T f1)⟩, rfl⟩, rfl⟩
set_option maxRecDepth 100000 in
theorem m_244_22 (M : MB B n C i nl) (H : MKM C mk) (hk : kd B n i = 22) : Wd L xs (d + 5) y_244 (0, [(0, .ref 176)], [], MH C t, 0) (PSH B n C t (rMrk (tkP B n) mk i nl) (fun a C' => C'.1 76 97 = 10 ∧ C'.2.1 76 99 = a ∧ C'.1 76 98 = mkF mk a)) nX := by
  refine w_p (pc1 := 1) rfl rfl ?_
  refine w_m0 (pc1 := 4) (st1 := .long 422608071022 :: _) rfl rfl rfl rfl ?_
  refine w_je (pc1 := 7) (vs := [.ref 176, .long 422608071022]) (rest := []) (st1 := [.int 0]) (m_205f (d := _) (sl := 0) ((wd_k (k := 10) M.2.1 (by decide) (by decide)).trans (decide_eq_false (by rw [hk]; decide)))) rfl rfl rfl (fun _ _ => rfl) rfl (by exact cl_v my_205 rfl rfl rfl (Nat.le_of_ble_eq_true rfl) rfl (MH_obj rfl rfl) rfl (by decide) rfl rfl) (by rfl) (Nat.le_of_ble_eq_true rfl) (Nat.le_of_ble_eq_true rfl) rfl (by rfl) ?_
  refine w_f (a := 20) (b := 10) rfl rfl rfl ?_
  refine w_p (pc1 := 11) rfl rfl ?_
  refine w_m0 (pc1 := 14) (st1 := .long 109330228406644 :: _) rfl rfl rfl rfl ?_
  refine w_je (pc1 := 17) (vs := [.ref 176, .long 109330228406644]) (rest := []) (st1 := [.int 0]) (m_205f (d := _) (sl := 0) ((wd_k (k := 13) M.2.1 (by decide) (by decide)).trans (decide_eq_false (by rw [hk]; decide)))) rfl rfl rfl (fun _ _ => rfl) rfl (by exact cl_v my_205 rfl rfl rfl (Nat.le_of_ble_eq_true rfl) rfl (MH_obj rfl rfl) rfl (by decide) rfl rfl) (by rfl) (Nat.le_of_ble_eq_true rfl) (Nat.le_of_ble_eq_true rfl) rfl (by rfl) ?_
  refine w_t (a := 48) (b := 20) rfl rfl rfl ?_
  refine w_p (pc1 := 49) rfl rfl ?_
  refine w_m0 (pc1 := 52) (st1 := .long 1650549611 :: _) rfl rfl rfl rfl ?_
  refine w_je (pc1 := 55) (vs := [.ref 176, .long 1650549611]) (rest := []) (st1 := [.int 0]) (m_205f (d := _) (sl := 0) ((wd_k (k := 8) M.2.1 (by decide) (by decide)).trans (decide_eq_false (by rw [hk]; decide)))) rfl rfl rfl (fun _ _ => rfl) rfl (by exact cl_v my_205 rfl rfl rfl (Nat.le_of_ble_eq_true rfl) rfl (MH_obj rfl rfl) rfl (by decide) rfl rfl) (by rfl) (Nat.le_of_ble_eq_true rfl) (Nat.le_of_ble_eq_true rfl) rfl (by rfl) ?_
  refine w_t (a := 99) (b := 58) rfl rfl rfl ?_
  refine w_p (pc1 := 100) rfl rfl ?_
  refine w_m0 (pc1 := 103) (st1 := .long 1835102827 :: _) rfl rfl rfl rfl ?_
  refine w_je (pc1 := 106) (vs := [.ref 176, .long 1835102827]) (rest := []) (st1 := [.int 1]) (m_205t (d := _) (sl := 0) ((wd_k (k := 22) M.2.1 (by decide) (by decide)).trans (decide_eq_true hk))) rfl rfl rfl (fun _ _ => rfl) rfl (by exact cl_v my_205 rfl rfl rfl (Nat.le_of_ble_eq_true rfl) rfl (MH_obj rfl rfl) rfl (by decide) rfl rfl) (by rfl) (Nat.le_of_ble_eq_true rfl) (Nat.le_of_ble_eq_true rfl) rfl (by rfl) ?_
  refine w_f (a := 123) (b := 109) rfl rfl rfl ?_
  refine w_p (pc1 := 110) rfl rfl ?_
  refine w_p (pc1 := 112) (st1 := .int 10 :: _) rfl rfl ?_
  refine w_m0 (pc1 := 115) rfl rfl (h_pI (j := 97) rfl rfl rfl rfl rfl rfl rfl ⟨rfl, rfl⟩ rfl) rfl ?_
  refine w_p (pc1 := 116) rfl rfl ?_
  refine w_p (pc1 := 117) (st1 := .int 0 :: _) rfl rfl ?_
  refine w_ji (pc1 := 120) (vs := [.ref 176, .int 0]) (rest := []) (m_245_0 (d := _) (MB_I (v := 10) M (Or.inl rfl)) (MKM_o H (fW_I (Or.inl rfl))) (by rw [hk]; decide)) rfl rfl rfl (fun _ _ => rfl) rfl (by exact cl_v my_245 rfl rfl rfl (Nat.le_of_ble_eq_true rfl) rfl (MH_obj rfl rfl) rfl (by decide) rfl rfl) (by rfl) (Nat.le_of_ble_eq_true rfl) (Nat.le_of_ble_eq_true rfl) rfl (fun v h1 d1 hq => ?_) (fun _ _ _ e => e.elim)
  rcases hq with ⟨hv, ⟨C2, ⟨a2, i2, nl2, g2, g3, M2, q2, f2⟩, hh⟩, hn⟩ | ⟨hv, ⟨C2, ⟨c2, j2, g2, F2, f2⟩, hh⟩, hn⟩
  · subst hv; subst hh; subst hn
    refine w_p (pc1 := 176) rfl rfl ?_
    refine w_r rfl rfl rfl (fun _ _ => rfl) rfl ?_
    exact Or.inl ⟨rfl, ⟨_, ⟨_, _, _, g2, g3, M2, ⟨by rw [q2.2.2, sI_1, if_pos ⟨rfl, rfl⟩], q2.1, q2.2.1⟩, fW_t (fW_I (Or.inl rfl)) f2⟩, rfl⟩, rfl⟩
  · subst hv; subst hh; subst hn
    refine w_p (pc1 := 176) rfl rfl ?_
    refine w_r rfl rfl rfl (fun _ _ => rfl) rfl ?_
    exact Or.inr ⟨rfl, ⟨_, ⟨c2, j2, g2, F2, fW_t (fW_I (Or.inl rfl)) f2⟩, rfl⟩, rfl⟩
set_option maxRecDepth 100000 in
theorem m_244_20 (M : MB B n C i nl) (R : RGM C ru) (hk : kd B n i = 20) : Wd L xs (d + 5) y_244 (0, [(0, .ref 176)], [], MH C t, 0) (PSH B n C t (rWhi (tkP B n) true ru i nl) (fun a C' => C'.1 76 97 = 11 ∧ ∀ j, j < 24 → C'.1 139 j = ck (nmB true ru a j))) nX := by
  refine w_p (pc1 := 1) rfl rfl ?_
  refine w_m0 (pc1 := 4) (st1 := .long 422608071022 :: _) rfl rfl rfl rfl ?_
  refine w_je (pc1 := 7) (vs := [.ref 176, .long 422608071022]) (rest := []) (st1 := [.int 0]) (m_205f (d := _) (sl := 0) ((wd_k (k := 10) M.2.1 (by decide) (by decide)).trans (decide_eq_false (by rw [hk]; decide)))) rfl rfl rfl (fun _ _ => rfl) rfl (by exact cl_v my_205 rfl rfl rfl (Nat.le_of_ble_eq_true rfl) rfl (MH_obj rfl rfl) rfl (by decide) rfl rfl) (by rfl) (Nat.le_of_ble_eq_true rfl) (Nat.le_of_ble_eq_true rfl) rfl (by rfl) ?_
  refine w_f (a := 20) (b := 10) rfl rfl rfl ?_
  refine w_p (pc1 := 11) rfl rfl ?_
  refine w_m0 (pc1 := 14) (st1 := .long 109330228406644 :: _) rfl rfl rfl rfl ?_
  refine w_je (pc1 := 17) (vs := [.ref 176, .long 109330228406644]) (rest := []) (st1 := [.int 0]) (m_205f (d := _) (sl := 0) ((wd_k (k := 13) M.2.1 (by decide) (by decide)).trans (decide_eq_false (by rw [hk]; decide)))) rfl rfl rfl (fun _ _ => rfl) rfl (by exact cl_v my_205 rfl rfl rfl (Nat.le_of_ble_eq_true rfl) rfl (MH_obj rfl rfl) rfl (by decide) rfl rfl) (by rfl) (Nat.le_of_ble_eq_true rfl) (Nat.le_of_ble_eq_true rfl) rfl (by rfl) ?_
  refine w_t (a := 48) (b := 20) rfl rfl rfl ?_
  refine w_p (pc1 := 49) rfl rfl ?_
  refine w_m0 (pc1 := 52) (st1 := .long 1650549611 :: _) rfl rfl rfl rfl ?_
  refine w_je (pc1 := 55) (vs := [.ref 176, .long 1650549611]) (rest := []) (st1 := [.int 0]) (m_205f (d := _) (sl := 0) ((wd_k (k := 8) M.2.1 (by decide) (by decide)).trans (decide_eq_false (by rw [hk]; decide)))) rfl rfl rfl (fun _ _ => rfl) rfl (by exact cl_v my_205 rfl rfl rfl (Nat.le_of_ble_eq_true rfl) rfl (MH_obj rfl rfl) rfl (by decide) rfl rfl) (by rfl) (Nat.le_of_ble_eq_true rfl) (Nat.le_of_ble_eq_true rfl) rfl (by rfl) ?_
  refine w_t (a := 99) (b := 58) rfl rfl rfl ?_
  refine w_p (pc1 := 100) rfl rfl ?_
  refine w_m0 (pc1 := 103) (st1 := .long 1835102827 :: _) rfl rfl rfl rfl ?_
  refine w_je (pc1 := 106) (vs := [.ref 176, .long 1835102827]) (rest := []) (st1 := [.int 0]) (m_205f (d := _) (sl := 0) ((wd_k (k := 22) M.2.1 (by decide) (by decide)).trans (decide_eq_false (by rw [hk]; decide)))) rfl rfl rfl (fun _ _ => rfl) rfl (by exact cl_v my_205 rfl rfl rfl (Nat.le_of_ble_eq_true rfl) rfl (MH_obj rfl rfl) rfl (by decide) rfl rfl) (by rfl) (Nat.le_of_ble_eq_true rfl) (Nat.le_of_ble_eq_true rfl) rfl (by rfl) ?_
  refine w_t (a := 123) (b := 109) rfl rfl rfl ?_
  refine w_p (pc1 := 124) rfl rfl ?_
  refine w_m0 (pc1 := 127) (st1 := .long 1818326117 :: _) rfl rfl rfl rfl ?_
  refine w_je (pc1 := 130) (vs := [.ref 176, .long 1818326117]) (rest := []) (st1 := [.int 1]) (m_205t (d := _) (sl := 0) ((wd_k (k := 20) M.2.1 (by decide) (by decide)).trans (decide_eq_true hk))) rfl rfl rfl (fun _ _ => rfl) rfl (by exact cl_v my_205 rfl rfl rfl (Nat.le_of_ble_eq_true rfl) rfl (MH_obj rfl rfl) rfl (by decide) rfl rfl) (by rfl) (Nat.le_of_ble_eq_true rfl) (Nat.le_of_ble_eq_true rfl) rfl (by rfl) ?_
  refine w_t (a := 143) (b := 133) rfl rfl rfl ?_
  refine w_p (pc1 := 144) rfl rfl ?_
  refine w_p (pc1 := 145) rfl rfl ?_
  refine w_m0 (pc1 := 148) (st1 := .long 1818326117 :: _) rfl rfl rfl rfl ?_
  refine w_je (pc1 := 151) (vs := [.ref 176, .long 1818326117]) (rest := [.ref 176]) (st1 := [.int 1, .ref 176]) (m_205t (d := _) (sl := 0) ((wd_k (k := 20) M.2.1 (by decide) (by decide)).trans (decide_eq_true hk))) rfl rfl rfl (fun _ _ => rfl) rfl (by exact cl_v my_205 rfl rfl rfl (Nat.le_of_ble_eq_true rfl) rfl (MH_obj rfl rfl) rfl (by decide) rfl rfl) (by rfl) (Nat.le_of_ble_eq_true rfl) (Nat.le_of_ble_eq_true rfl) rfl (by rfl) ?_
  refine w_f (a := 159) (b := 154) rfl rfl rfl ?_
  refine w_p (pc1 := 156) (st1 := .int 11 :: _) rfl rfl ?_
  refine w_p (pc1 := 161) rfl rfl ?_
  refine w_m0 (pc1 := 164) rfl rfl (h_pI (j := 97) rfl rfl rfl rfl rfl rfl rfl ⟨rfl, rfl⟩ rfl) rfl ?_
  refine w_p (pc1 := 165) rfl rfl ?_
  refine w_ji (pc1 := 168) (vs := [.ref 176]) (rest := []) (m_247 (d := _) (lt := true) (s := 11) rfl (MB_I (v := 11) M (Or.inl rfl)) (RGM_o R (fun x y h => by rw [sI_1, if_neg (by omega)])) (by rw [sI_1, if_pos ⟨rfl, rfl⟩]) (by rw [hk]; decide)) rfl rfl rfl (fun _ _ => rfl) rfl (by exact cl_v my_247 rfl rfl rfl (Nat.le_of_ble_eq_true rfl) rfl (MH_obj rfl rfl) rfl (by decide) rfl rfl) (by rfl) (Nat.le_of_ble_eq_true rfl) (Nat.le_of_ble_eq_true rfl) rfl (fun v h1 d1 hq => ?_) (fun _ _ _ e => e.elim)
  rcases hq with ⟨hv, ⟨C2, ⟨a2, i2, nl2, g2, g3, M2, q2, f2⟩, hh⟩, hn⟩ | ⟨hv, ⟨C2, ⟨c2, j2, g2, F2, f2⟩, hh⟩, hn⟩
  · subst hv; subst hh; subst hn
    refine w_p (pc1 := 176) rfl rfl ?_
    refine w_r rfl rfl rfl (fun _ _ => rfl) rfl ?_
    exact Or.inl ⟨rfl, ⟨_, ⟨_, _, _, g2, g3, M2, ⟨by rw [q2.2, sI_1, if_pos ⟨rfl, rfl⟩], q2.1⟩, fW_t (fW_I (Or.inl rfl)) f2⟩, rfl⟩, rfl⟩
  · subst hv; subst hh; subst hn
    refine w_p (pc1 := 176) rfl rfl ?_
    refine w_r rfl rfl rfl (fun _ _ => rfl) rfl ?_
    exact Or.inr ⟨rfl, ⟨_, ⟨c2, j2, g2, F2, fW_t (fW_I (Or.inl rfl)) f2⟩, rfl⟩, rfl⟩
set_option maxRecDepth 100000 in
theorem m_244_26 (M : MB B n C i nl) (R : RGM C ru) (hk : kd B n i = 26) : Wd L xs (d + 5) y_244 (0, [(0, .ref 176)], [], MH C t, 0) (PSH B n C t (rWhi (tkP B n) false ru i nl) (fun a C' => C'.1 76 97 = 12 ∧ ∀ j, j < 24 → C'.1 139 j = ck (nmB false ru a j))) nX := by
  refine w_p (pc1 := 1) rfl rfl ?_
  refine w_m0 (pc1 := 4) (st1 := .long 422608071022 :: _) rfl rfl rfl rfl ?_
  refine w_je (pc1 := 7) (vs := [.ref 176, .long 422608071022]) (rest := []) (st1 := [.int 0]) (m_205f (d := _) (sl := 0) ((wd_k (k := 10) M.2.1 (by decide) (by decide)).trans (decide_eq_false (by rw [hk]; decide)))) rfl rfl rfl (fun _ _ => rfl) rfl (by exact cl_v my_205 rfl rfl rfl (Nat.le_of_ble_eq_true rfl) rfl (MH_obj rfl rfl) rfl (by decide) rfl rfl) (by rfl) (Nat.le_of_ble_eq_true rfl) (Nat.le_of_ble_eq_true rfl) rfl (by rfl) ?_
  refine w_f (a := 20) (b := 10) rfl rfl rfl ?_
  refine w_p (pc1 := 11) rfl rfl ?_
  refine w_m0 (pc1 := 14) (st1 := .long 109330228406644 :: _) rfl rfl rfl rfl ?_
  refine w_je (pc1 := 17) (vs := [.ref 176, .long 109330228406644]) (rest := []) (st1 := [.int 0]) (m_205f (d := _) (sl := 0) ((wd_k (k := 13) M.2.1 (by decide) (by decide)).trans (decide_eq_false (by rw [hk]; decide)))) rfl rfl rfl (fun _ _ => rfl) rfl (by exact cl_v my_205 rfl rfl rfl (Nat.le_of_ble_eq_true rfl) rfl (MH_obj rfl rfl) rfl (by decide) rfl rfl) (by rfl) (Nat.le_of_ble_eq_true rfl) (Nat.le_of_ble_eq_true rfl) rfl (by rfl) ?_
  refine w_t (a := 48) (b := 20) rfl rfl rfl ?_
  refine w_p (pc1 := 49) rfl rfl ?_
  refine w_m0 (pc1 := 52) (st1 := .long 1650549611 :: _) rfl rfl rfl rfl ?_
  refine w_je (pc1 := 55) (vs := [.ref 176, .long 1650549611]) (rest := []) (st1 := [.int 0]) (m_205f (d := _) (sl := 0) ((wd_k (k := 8) M.2.1 (by decide) (by decide)).trans (decide_eq_false (by rw [hk]; decide)))) rfl rfl rfl (fun _ _ => rfl) rfl (by exact cl_v my_205 rfl rfl rfl (Nat.le_of_ble_eq_true rfl) rfl (MH_obj rfl rfl) rfl (by decide) rfl rfl) (by rfl) (Nat.le_of_ble_eq_true rfl) (Nat.le_of_ble_eq_true rfl) rfl (by rfl) ?_
  refine w_t (a := 99) (b := 58) rfl rfl rfl ?_
  refine w_p (pc1 := 100) rfl rfl ?_
  refine w_m0 (pc1 := 103) (st1 := .long 1835102827 :: _) rfl rfl rfl rfl ?_
  refine w_je (pc1 := 106) (vs := [.ref 176, .long 1835102827]) (rest := []) (st1 := [.int 0]) (m_205f (d := _) (sl := 0) ((wd_k (k := 22) M.2.1 (by decide) (by decide)).trans (decide_eq_false (by rw [hk]; decide)))) rfl rfl rfl (fun _ _ => rfl) rfl (by exact cl_v my_205 rfl rfl rfl (Nat.le_of_ble_eq_true rfl) rfl (MH_obj rfl rfl) rfl (by decide) rfl rfl) (by rfl) (Nat.le_of_ble_eq_true rfl) (Nat.le_of_ble_eq_true rfl) rfl (by rfl) ?_
  refine w_t (a := 123) (b := 109) rfl rfl rfl ?_
  refine w_p (pc1 := 124) rfl rfl ?_
  refine w_m0 (pc1 := 127) (st1 := .long 1818326117 :: _) rfl rfl rfl rfl ?_
  refine w_je (pc1 := 130) (vs := [.ref 176, .long 1818326117]) (rest := []) (st1 := [.int 0]) (m_205f (d := _) (sl := 0) ((wd_k (k := 20) M.2.1 (by decide) (by decide)).trans (decide_eq_false (by rw [hk]; decide)))) rfl rfl rfl (fun _ _ => rfl) rfl (by exact cl_v my_205 rfl rfl rfl (Nat.le_of_ble_eq_true rfl) rfl (MH_obj rfl rfl) rfl (by decide) rfl rfl) (by rfl) (Nat.le_of_ble_eq_true rfl) (Nat.le_of_ble_eq_true rfl) rfl (by rfl) ?_
  refine w_f (a := 143) (b := 133) rfl rfl rfl ?_
  refine w_p (pc1 := 134) rfl rfl ?_
  refine w_m0 (pc1 := 137) (st1 := .long 7237495 :: _) rfl rfl rfl rfl ?_
  refine w_je (pc1 := 140) (vs := [.ref 176, .long 7237495]) (rest := []) (st1 := [.int 1]) (m_205t (d := _) (sl := 0) ((wd_k (k := 26) M.2.1 (by decide) (by decide)).trans (decide_eq_true hk))) rfl rfl rfl (fun _ _ => rfl) rfl (by exact cl_v my_205 rfl rfl rfl (Nat.le_of_ble_eq_true rfl) rfl (MH_obj rfl rfl) rfl (by decide) rfl rfl) (by rfl) (Nat.le_of_ble_eq_true rfl) (Nat.le_of_ble_eq_true rfl) rfl (by rfl) ?_
  refine w_f (a := 171) (b := 143) rfl rfl rfl ?_
  refine w_p (pc1 := 144) rfl rfl ?_
  refine w_p (pc1 := 145) rfl rfl ?_
  refine w_m0 (pc1 := 148) (st1 := .long 1818326117 :: _) rfl rfl rfl rfl ?_
  refine w_je (pc1 := 151) (vs := [.ref 176, .long 1818326117]) (rest := [.ref 176]) (st1 := [.int 0, .ref 176]) (m_205f (d := _) (sl := 0) ((wd_k (k := 20) M.2.1 (by decide) (by decide)).trans (decide_eq_false (by rw [hk]; decide)))) rfl rfl rfl (fun _ _ => rfl) rfl (by exact cl_v my_205 rfl rfl rfl (Nat.le_of_ble_eq_true rfl) rfl (MH_obj rfl rfl) rfl (by decide) rfl rfl) (by rfl) (Nat.le_of_ble_eq_true rfl) (Nat.le_of_ble_eq_true rfl) rfl (by rfl) ?_
  refine w_t (a := 159) (b := 154) rfl rfl rfl ?_
  refine w_p (pc1 := 161) (st1 := .int 12 :: _) rfl rfl ?_
  refine w_m0 (pc1 := 164) rfl rfl (h_pI (j := 97) rfl rfl rfl rfl rfl rfl rfl ⟨rfl, rfl⟩ rfl) rfl ?_
  refine w_p (pc1 := 165) rfl rfl ?_
  refine w_ji (pc1 := 168) (vs := [.ref 176]) (rest := []) (m_247 (d := _) (lt := false) (s := 12) rfl (MB_I (v := 12) M (Or.inl rfl)) (RGM_o R (fun x y h => by rw [sI_1, if_neg (by omega)])) (by rw [sI_1, if_pos ⟨rfl, rfl⟩]) (by rw [hk]; decide)) rfl rfl rfl (fun _ _ => rfl) rfl (by exact cl_v my_247 rfl rfl rfl (Nat.le_of_ble_eq_true rfl) rfl (MH_obj rfl rfl) rfl (by decide) rfl rfl) (by rfl) (Nat.le_of_ble_eq_true rfl) (Nat.le_of_ble_eq_true rfl) rfl (fun v h1 d1 hq => ?_) (fun _ _ _ e => e.elim)
  rcases hq with ⟨hv, ⟨C2, ⟨a2, i2, nl2, g2, g3, M2, q2, f2⟩, hh⟩, hn⟩ | ⟨hv, ⟨C2, ⟨c2, j2, g2, F2, f2⟩, hh⟩, hn⟩
  · subst hv; subst hh; subst hn
    refine w_p (pc1 := 176) rfl rfl ?_
    refine w_r rfl rfl rfl (fun _ _ => rfl) rfl ?_
    exact Or.inl ⟨rfl, ⟨_, ⟨_, _, _, g2, g3, M2, ⟨by rw [q2.2, sI_1, if_pos ⟨rfl, rfl⟩], q2.1⟩, fW_t (fW_I (Or.inl rfl)) f2⟩, rfl⟩, rfl⟩
  · subst hv; subst hh; subst hn
    refine w_p (pc1 := 176) rfl rfl ?_
    refine w_r rfl rfl rfl (fun _ _ => rfl) rfl ?_
    exact Or.inr ⟨rfl, ⟨_, ⟨c2, j2, g2, F2, fW_t (fW_I (Or.inl rfl)) f2⟩, rfl⟩, rfl⟩
set_option maxRecDepth 100000 in
theorem m_244_n (M : MB B n C i nl) (h10 : kd B n i ≠ 10) (h13 : kd B n i ≠ 13) (h8 : kd B n i ≠ 8) (h22 : kd B n i ≠ 22) (h20 : kd B n i ≠ 20) (h26 : kd B n i ≠ 26) : Wd L xs (d + 5) y_244 (0, [(0, .ref 176)], [], MH C t, 0) (Rt none (MH (fl_ C 2 (C.1 76 5)) t) 0) nX := by
  refine w_p (pc1 := 1) rfl rfl ?_
  refine w_m0 (pc1 := 4) (st1 := .long 422608071022 :: _) rfl rfl rfl rfl ?_
  refine w_je (pc1 := 7) (vs := [.ref 176, .long 422608071022]) (rest := []) (st1 := [.int 0]) (m_205f (d := _) (sl := 0) ((wd_k (k := 10) M.2.1 (by decide) (by decide)).trans (decide_eq_false h10))) rfl rfl rfl (fun _ _ => rfl) rfl (by exact cl_v my_205 rfl rfl rfl (Nat.le_of_ble_eq_true rfl) rfl (MH_obj rfl rfl) rfl (by decide) rfl rfl) (by rfl) (Nat.le_of_ble_eq_true rfl) (Nat.le_of_ble_eq_true rfl) rfl (by rfl) ?_
  refine w_f (a := 20) (b := 10) rfl rfl rfl ?_
  refine w_p (pc1 := 11) rfl rfl ?_
  refine w_m0 (pc1 := 14) (st1 := .long 109330228406644 :: _) rfl rfl rfl rfl ?_
  refine w_je (pc1 := 17) (vs := [.ref 176, .long 109330228406644]) (rest := []) (st1 := [.int 0]) (m_205f (d := _) (sl := 0) ((wd_k (k := 13) M.2.1 (by decide) (by decide)).trans (decide_eq_false h13))) rfl rfl rfl (fun _ _ => rfl) rfl (by exact cl_v my_205 rfl rfl rfl (Nat.le_of_ble_eq_true rfl) rfl (MH_obj rfl rfl) rfl (by decide) rfl rfl) (by rfl) (Nat.le_of_ble_eq_true rfl) (Nat.le_of_ble_eq_true rfl) rfl (by rfl) ?_
  refine w_t (a := 48) (b := 20) rfl rfl rfl ?_
  refine w_p (pc1 := 49) rfl rfl ?_
  refine w_m0 (pc1 := 52) (st1 := .long 1650549611 :: _) rfl rfl rfl rfl ?_
  refine w_je (pc1 := 55) (vs := [.ref 176, .long 1650549611]) (rest := []) (st1 := [.int 0]) (m_205f (d := _) (sl := 0) ((wd_k (k := 8) M.2.1 (by decide) (by decide)).trans (decide_eq_false h8))) rfl rfl rfl (fun _ _ => rfl) rfl (by exact cl_v my_205 rfl rfl rfl (Nat.le_of_ble_eq_true rfl) rfl (MH_obj rfl rfl) rfl (by decide) rfl rfl) (by rfl) (Nat.le_of_ble_eq_true rfl) (Nat.le_of_ble_eq_true rfl) rfl (by rfl) ?_
  refine w_t (a := 99) (b := 58) rfl rfl rfl ?_
  refine w_p (pc1 := 100) rfl rfl ?_
  refine w_m0 (pc1 := 103) (st1 := .long 1835102827 :: _) rfl rfl rfl rfl ?_
  refine w_je (pc1 := 106) (vs := [.ref 176, .long 1835102827]) (rest := []) (st1 := [.int 0]) (m_205f (d := _) (sl := 0) ((wd_k (k := 22) M.2.1 (by decide) (by decide)).trans (decide_eq_false h22))) rfl rfl rfl (fun _ _ => rfl) rfl (by exact cl_v my_205 rfl rfl rfl (Nat.le_of_ble_eq_true rfl) rfl (MH_obj rfl rfl) rfl (by decide) rfl rfl) (by rfl) (Nat.le_of_ble_eq_true rfl) (Nat.le_of_ble_eq_true rfl) rfl (by rfl) ?_
  refine w_t (a := 123) (b := 109) rfl rfl rfl ?_
  refine w_p (pc1 := 124) rfl rfl ?_
  refine w_m0 (pc1 := 127) (st1 := .long 1818326117 :: _) rfl rfl rfl rfl ?_
  refine w_je (pc1 := 130) (vs := [.ref 176, .long 1818326117]) (rest := []) (st1 := [.int 0]) (m_205f (d := _) (sl := 0) ((wd_k (k := 20) M.2.1 (by decide) (by decide)).trans (decide_eq_false h20))) rfl rfl rfl (fun _ _ => rfl) rfl (by exact cl_v my_205 rfl rfl rfl (Nat.le_of_ble_eq_true rfl) rfl (MH_obj rfl rfl) rfl (by decide) rfl rfl) (by rfl) (Nat.le_of_ble_eq_true rfl) (Nat.le_of_ble_eq_true rfl) rfl (by rfl) ?_
  refine w_f (a := 143) (b := 133) rfl rfl rfl ?_
  refine w_p (pc1 := 134) rfl rfl ?_
  refine w_m0 (pc1 := 137) (st1 := .long 7237495 :: _) rfl rfl rfl rfl ?_
  refine w_je (pc1 := 140) (vs := [.ref 176, .long 7237495]) (rest := []) (st1 := [.int 0]) (m_205f (d := _) (sl := 0) ((wd_k (k := 26) M.2.1 (by decide) (by decide)).trans (decide_eq_false h26))) rfl rfl rfl (fun _ _ => rfl) rfl (by exact cl_v my_205 rfl rfl rfl (Nat.le_of_ble_eq_true rfl) rfl (MH_obj rfl rfl) rfl (by decide) rfl rfl) (by rfl) (Nat.le_of_ble_eq_true rfl) (Nat.le_of_ble_eq_true rfl) rfl (by rfl) ?_
  refine w_t (a := 171) (b := 143) rfl rfl rfl ?_
  refine w_p (pc1 := 172) rfl rfl ?_
  refine w_p (pc1 := 173) (st1 := .int 2 :: _) rfl rfl ?_
  refine w_je (pc1 := 176) (vs := [.ref 176, .int 2]) (rest := []) (st1 := []) (m_200 (d := _) (sl := 0) (fun z => absurd M.2.1.2.1 z)) rfl rfl rfl (fun _ _ => rfl) rfl (by exact cl_v my_200 rfl rfl rfl (Nat.le_of_ble_eq_true rfl) rfl (MH_obj rfl rfl) rfl (by decide) rfl rfl) (by rfl) (Nat.le_of_ble_eq_true rfl) (Nat.le_of_ble_eq_true rfl) rfl (by rfl) ?_
  refine w_r rfl rfl rfl (fun _ _ => rfl) rfl ?_
  exact ⟨rfl, rfl, rfl⟩
/-! nodes -/
def NDM (C : co_T) (ru : Nat → Option ru_T) (tr : Nat → Option tr_T) : Prop := (∀ r, r < 24 → (ru r = none ∧ C.1 83 r = 0) ∨ (∃ u, ru r = some u ∧ C.1 83 r = 1 ∧ C.1 94 r = nI (ndU (some u)))) ∧ (∀ g, g < 8 → (tr g = none ∧ C.1 95 g = 0) ∨ (∃ u, tr g = some u ∧ C.1 95 g = 1 ∧ C.1 105 g = nI (ndG (some u))))
set_option maxRecDepth 100000 in
theorem lp_194g (H : NDM C ru tr) : ∀ (f p x : Nat), p + f = 8 → Wd L xs d y_194 (40, [(2, .int (nI p)), (1, .int (nI x)), (0, .ref 176)], [], MH C t, 0) (Rt (some (.int (nI (x + smN (fun i => ndG (tr i)) f p)))) (MH C t) 0) nX
  | 0, p, x, hp => by
    obtain rfl : p = 8 := by omega
    refine w_p (pc1 := 41) rfl rfl ?_
    refine w_p (pc1 := 43) (st1 := .int 8 :: _) rfl rfl ?_
    refine w_t (a := 74) (b := 46) rfl rfl rfl ?_
    refine w_p (pc1 := 75) rfl rfl ?_
    refine w_r rfl rfl rfl (fun _ _ => rfl) cr_int ?_
    exact ⟨rfl, rfl, rfl⟩
  | f + 1, p, x, hp => by
    have e : smN (fun i => ndG (tr i)) (f + 1) p = ndG (tr p) + smN (fun i => ndG (tr i)) f (p + 1) := rfl
    rcases H.2 p (by omega) with ⟨h1, h2⟩ | ⟨u, h1, h2, h3⟩
    · have e2 : x + smN (fun i => ndG (tr i)) (f + 1) p = x + 0 + smN (fun i => ndG (tr i)) f (p + 1) := by
        rw [e, h1]
        show x + (0 + _) = _
        omega
      rw [e2]
      refine w_p (pc1 := 41) rfl rfl ?_
      refine w_p (pc1 := 43) (st1 := .int 8 :: _) rfl rfl ?_
      refine w_f (a := 74) (b := 46) (bN_ge_f (a := p) (b := 8) (by omega) (by omega) (by omega)) rfl rfl ?_
      refine w_p (pc1 := 47) rfl rfl ?_
      refine w_p (pc1 := 48) rfl rfl ?_
      refine w_m0 (pc1 := 51) rfl rfl (h_gC rfl rfl rfl rfl) rfl ?_
      refine w_p (pc1 := 52) rfl rfl ?_
      refine w_m0 (pc1 := 53) (st1 := .int 0 :: _) rfl rfl (n_ble (e := p) rfl rfl (by decide) rfl (by omega) (h2)) rfl ?_
      refine w_t (a := 65) (b := 56) rfl rfl rfl ?_
      refine w_p (pc1 := 66) (st1 := .int 0 :: _) rfl rfl ?_
      refine w_iadd (pc1 := 67) (u := nI (x)) (v := nI (0)) (z := nI (x + 0)) rfl (nK_add) rfl ?_
      refine w_p (pc1 := 68) (al1 := [(1, .int (nI (x + 0))), (2, .int (nI (p))), (0, .ref 176)]) rfl rfl ?_
      refine w_iinc (pc1 := 71) (u := nI (p)) (z := nI (p + 1)) (al1 := [(2, .int (nI (p + 1))), (1, .int (nI (x + 0))), (0, .ref 176)]) rfl rfl rfl nK_1 rfl rfl ?_
      refine w_p (pc1 := 40) rfl rfl ?_
      exact lp_194g H f (p + 1) (x + 0) (by omega)
    · have e2 : x + smN (fun i => ndG (tr i)) (f + 1) p = x + ndG (some u) + smN (fun i => ndG (tr i)) f (p + 1) := by
        rw [e, h1]
        omega
      rw [e2]
      refine w_p (pc1 := 41) rfl rfl ?_
      refine w_p (pc1 := 43) (st1 := .int 8 :: _) rfl rfl ?_
      refine w_f (a := 74) (b := 46) (bN_ge_f (a := p) (b := 8) (by omega) (by omega) (by omega)) rfl rfl ?_
      refine w_p (pc1 := 47) rfl rfl ?_
      refine w_p (pc1 := 48) rfl rfl ?_
      refine w_m0 (pc1 := 51) rfl rfl (h_gC rfl rfl rfl rfl) rfl ?_
      refine w_p (pc1 := 52) rfl rfl ?_
      refine w_m0 (pc1 := 53) (st1 := .int 1 :: _) rfl rfl (n_ble (e := p) rfl rfl (by decide) rfl (by omega) (h2)) rfl ?_
      refine w_f (a := 65) (b := 56) rfl rfl rfl ?_
      refine w_p (pc1 := 57) rfl rfl ?_
      refine w_m0 (pc1 := 60) rfl rfl (h_gC rfl rfl rfl rfl) rfl ?_
      refine w_p (pc1 := 61) rfl rfl ?_
      refine w_m0 (pc1 := 62) (st1 := .int (nI (ndG (some u))) :: _) rfl rfl (n_ile (e := p) rfl rfl rfl (by omega) (h3)) rfl ?_
      refine w_p (pc1 := 66) rfl rfl ?_
      refine w_iadd (pc1 := 67) (u := nI (x)) (v := nI (ndG (some u))) (z := nI (x + (ndG (some u)))) rfl (nK_add) rfl ?_
      refine w_p (pc1 := 68) (al1 := [(1, .int (nI (x + (ndG (some u))))), (2, .int (nI (p))), (0, .ref 176)]) rfl rfl ?_
      refine w_iinc (pc1 := 71) (u := nI (p)) (z := nI (p + 1)) (al1 := [(2, .int (nI (p + 1))), (1, .int (nI (x + (ndG (some u))))), (0, .ref 176)]) rfl rfl rfl nK_1 rfl rfl ?_
      refine w_p (pc1 := 40) rfl rfl ?_
      exact lp_194g H f (p + 1) (x + ndG (some u)) (by omega)
set_option maxRecDepth 100000 in
theorem lp_194u (H : NDM C ru tr) (K : ∀ x, x = smN (fun i => ndU (ru i)) 24 0 → Wd L xs d y_194 (38, [(1, .int (nI x)), (0, .ref 176)], [], MH C t, 0) P nX) : ∀ (f p x : Nat), p + f = 24 → x + smN (fun i => ndU (ru i)) f p = smN (fun i => ndU (ru i)) 24 0 → Wd L xs d y_194 (4, [(2, .int (nI p)), (1, .int (nI x)), (0, .ref 176)], [], MH C t, 0) P nX
  | 0, p, x, hp, hx => by
    obtain rfl : p = 24 := by omega
    refine w_p (pc1 := 5) rfl rfl ?_
    refine w_p (pc1 := 7) (st1 := .int 24 :: _) rfl rfl ?_
    refine w_t (a := 38) (b := 10) rfl rfl rfl ?_
    refine Wd_al (al := [(1, .int (nI (x))), (0, .ref 176)]) (sba_p [1, 2] rfl rfl) ?_
    exact K x hx
  | f + 1, p, x, hp, hx => by
    have e : smN (fun i => ndU (ru i)) (f + 1) p = ndU (ru p) + smN (fun i => ndU (ru i)) f (p + 1) := rfl
    rw [e] at hx
    rcases H.1 p (by omega) with ⟨h1, h2⟩ | ⟨u, h1, h2, h3⟩
    · have h0 : ndU (ru p) = 0 := by rw [h1]; rfl
      refine w_p (pc1 := 5) rfl rfl ?_
      refine w_p (pc1 := 7) (st1 := .int 24 :: _) rfl rfl ?_
      refine w_f (a := 38) (b := 10) (bN_ge_f (a := p) (b := 24) (by omega) (by omega) (by omega)) rfl rfl ?_
      refine w_p (pc1 := 11) rfl rfl ?_
      refine w_p (pc1 := 12) rfl rfl ?_
      refine w_m0 (pc1 := 15) rfl rfl (h_gC rfl rfl rfl rfl) rfl ?_
      refine w_p (pc1 := 16) rfl rfl ?_
      refine w_m0 (pc1 := 17) (st1 := .int 0 :: _) rfl rfl (n_ble (e := p) rfl rfl (by decide) rfl (by omega) (h2)) rfl ?_
      refine w_t (a := 29) (b := 20) rfl rfl rfl ?_
      refine w_p (pc1 := 30) (st1 := .int 0 :: _) rfl rfl ?_
      refine w_iadd (pc1 := 31) (u := nI (x)) (v := nI (0)) (z := nI (x + 0)) rfl (nK_add) rfl ?_
      refine w_p (pc1 := 32) (al1 := [(1, .int (nI (x + 0))), (2, .int (nI (p))), (0, .ref 176)]) rfl rfl ?_
      refine w_iinc (pc1 := 35) (u := nI (p)) (z := nI (p + 1)) (al1 := [(2, .int (nI (p + 1))), (1, .int (nI (x + 0))), (0, .ref 176)]) rfl rfl rfl nK_1 rfl rfl ?_
      refine w_p (pc1 := 4) rfl rfl ?_
      exact lp_194u H K f (p + 1) (x + 0) (by omega) (by omega)
    · rw [h1] at hx
      refine w_p (pc1 := 5) rfl rfl ?_
      refine w_p (pc1 := 7) (st1 := .int 24 :: _) rfl rfl ?_
      refine w_f (a := 38) (b := 10) (bN_ge_f (a := p) (b := 24) (by omega) (by omega) (by omega)) rfl rfl ?_
      refine w_p (pc1 := 11) rfl rfl ?_
      refine w_p (pc1 := 12) rfl rfl ?_
      refine w_m0 (pc1 := 15) rfl rfl (h_gC rfl rfl rfl rfl) rfl ?_
      refine w_p (pc1 := 16) rfl rfl ?_
      refine w_m0 (pc1 := 17) (st1 := .int 1 :: _) rfl rfl (n_ble (e := p) rfl rfl (by decide) rfl (by omega) (h2)) rfl ?_
      refine w_f (a := 29) (b := 20) rfl rfl rfl ?_
      refine w_p (pc1 := 21) rfl rfl ?_
      refine w_m0 (pc1 := 24) rfl rfl (h_gC rfl rfl rfl rfl) rfl ?_
      refine w_p (pc1 := 25) rfl rfl ?_
      refine w_m0 (pc1 := 26) (st1 := .int (nI (ndU (some u))) :: _) rfl rfl (n_ile (e := p) rfl rfl rfl (by omega) (h3)) rfl ?_
      refine w_p (pc1 := 30) rfl rfl ?_
      refine w_iadd (pc1 := 31) (u := nI (x)) (v := nI (ndU (some u))) (z := nI (x + (ndU (some u)))) rfl (nK_add) rfl ?_
      refine w_p (pc1 := 32) (al1 := [(1, .int (nI (x + (ndU (some u))))), (2, .int (nI (p))), (0, .ref 176)]) rfl rfl ?_
      refine w_iinc (pc1 := 35) (u := nI (p)) (z := nI (p + 1)) (al1 := [(2, .int (nI (p + 1))), (1, .int (nI (x + (ndU (some u))))), (0, .ref 176)]) rfl rfl rfl nK_1 rfl rfl ?_
      refine w_p (pc1 := 4) rfl rfl ?_
      exact lp_194u H K f (p + 1) (x + ndU (some u)) (by omega) (by omega)
set_option maxRecDepth 100000 in
theorem m_194 (H : NDM C ru tr) : Wd L xs d y_194 (0, [(0, .ref 176)], [], MH C t, 0) (Rt (some (.int (nI (ndS ru tr)))) (MH C t) 0) nX := by
  have K : ∀ x, x = smN (fun i => ndU (ru i)) 24 0 → Wd L xs d y_194 (38, [(1, .int (nI x)), (0, .ref 176)], [], MH C t, 0) (Rt (some (.int (nI (ndS ru tr)))) (MH C t) 0) nX := by
    intro x hx
    have e : ndS ru tr = x + smN (fun i => ndG (tr i)) 8 0 := by
      rw [hx]
      rfl
    rw [e]
    refine w_p (pc1 := 39) (st1 := .int 0 :: _) rfl rfl ?_
    refine w_p (pc1 := 40) (al1 := [(2, .int 0), (1, .int (nI (x))), (0, .ref 176)]) rfl rfl ?_
    exact lp_194g H 8 0 x (by omega)
  refine w_p (pc1 := 1) (st1 := .int 0 :: _) rfl rfl ?_
  refine w_p (pc1 := 2) (al1 := [(1, .int 0), (0, .ref 176)]) rfl rfl ?_
  refine w_p (pc1 := 3) (st1 := .int 0 :: _) rfl rfl ?_
  refine w_p (pc1 := 4) (al1 := [(2, .int 0), (1, .int 0), (0, .ref 176)]) rfl rfl ?_
  exact lp_194u H K 24 0 0 (by omega) (Nat.zero_add _)
end MSP2
