
/-! THE OTHER SIDE READS A TABLE, 7: keys -/
section MTG
variable {L : Nat} {xs : Nat → Int32} {B : Nat → Nat} {n : Nat} {C C' C0 C1 : co_T} {t : ab_H} {d i i0 i1 j b e p k w q : Nat} {U V : Nat → Prop} {c : Int32} {sc : sc_T} {row : Option Nat} {tg : Option (Nat × Nat)} {nl : Option Nat} {E : fe_T} {tr : Nat → Option tr_T}
variable {r : Nat} {l : List Nat} {o : Option Nat} {Tb : tb_S} {u : ru_T} {P : Option Value → ab_H → Nat → Prop} {kd1 tb1 tg1 m1 lt1 dl1 up1 : Int32} {cs os : List Nat}
def RU1 (C : co_T) (r : Nat) (kd1 tb1 tg1 m1 lt1 dl1 up1 : Int32) (cs os : List Nat) : Prop := (C.1 84 r = kd1 ∧ C.1 85 r = tb1 ∧ C.1 86 r = tg1 ∧ C.1 87 r = m1) ∧ (arI (C.1 88) (6 * r) cs ∧ arI (C.1 89) (6 * r) os) ∧ (C.1 90 r = lt1 ∧ C.1 92 r = dl1 ∧ C.1 93 r = up1 ∧ C.1 94 r = 0)
set_option maxRecDepth 100000 in
theorem RU1_0 (H : RU0 C r kd1 tb1) : RU1 C r kd1 tb1 (-1) 0 0 0 0 [] [] := ⟨⟨H.1, H.2.1, H.2.2.1, H.2.2.2.1⟩, ⟨fun j x h => (by cases h), fun j x h => (by cases h)⟩, ⟨H.2.2.2.2.1, H.2.2.2.2.2.1, H.2.2.2.2.2.2.1, H.2.2.2.2.2.2.2⟩⟩
set_option maxRecDepth 100000 in
theorem RU1_T (H : RU1 C r kd1 tb1 tg1 m1 lt1 dl1 up1 cs os) (f : frT C C') : RU1 C' r kd1 tb1 tg1 m1 lt1 dl1 up1 cs os := by
  obtain ⟨⟨a1, a2, a3, a4⟩, ⟨b1, b2⟩, ⟨c1, c2, c3, c4⟩⟩ := H
  have e : ∀ k j, k ≠ 76 → C'.1 k j = C.1 k j := fun k j h => f.1 k j (by omega)
  exact ⟨⟨(e 84 r (by omega)).trans a1, (e 85 r (by omega)).trans a2, (e 86 r (by omega)).trans a3, (e 87 r (by omega)).trans a4⟩, ⟨fun j x h => (e 88 _ (by omega)).trans (b1 j x h), fun j x h => (e 89 _ (by omega)).trans (b2 j x h)⟩, ⟨(e 90 r (by omega)).trans c1, (e 92 r (by omega)).trans c2, (e 93 r (by omega)).trans c3, (e 94 r (by omega)).trans c4⟩⟩
set_option maxRecDepth 100000 in
theorem RU1_8 {cs' : List Nat} (H : RU1 C r kd1 tb1 tg1 m1 lt1 dl1 up1 cs os) (f : fN 88 r C C') (a : arI (C'.1 88) (6 * r) cs') : RU1 C' r kd1 tb1 tg1 m1 lt1 dl1 up1 cs' os := by
  obtain ⟨⟨a1, a2, a3, a4⟩, ⟨b1, b2⟩, ⟨c1, c2, c3, c4⟩⟩ := H
  have e : ∀ k j, k ≠ 76 → k ≠ 88 → C'.1 k j = C.1 k j := fun k j h h2 => f.1 k j (by omega) (by omega)
  exact ⟨⟨(e 84 r (by omega) (by omega)).trans a1, (e 85 r (by omega) (by omega)).trans a2, (e 86 r (by omega) (by omega)).trans a3, (e 87 r (by omega) (by omega)).trans a4⟩, ⟨a, fun j x h => (e 89 _ (by omega) (by omega)).trans (b2 j x h)⟩, ⟨(e 90 r (by omega) (by omega)).trans c1, (e 92 r (by omega) (by omega)).trans c2, (e 93 r (by omega) (by omega)).trans c3, (e 94 r (by omega) (by omega)).trans c4⟩⟩
set_option maxRecDepth 100000 in
theorem RU1_9 {os' : List Nat} (H : RU1 C r kd1 tb1 tg1 m1 lt1 dl1 up1 cs os) (f : fN 89 r C C') (a : arI (C'.1 89) (6 * r) os') : RU1 C' r kd1 tb1 tg1 m1 lt1 dl1 up1 cs os' := by
  obtain ⟨⟨a1, a2, a3, a4⟩, ⟨b1, b2⟩, ⟨c1, c2, c3, c4⟩⟩ := H
  have e : ∀ k j, k ≠ 76 → k ≠ 89 → C'.1 k j = C.1 k j := fun k j h h2 => f.1 k j (by omega) (by omega)
  exact ⟨⟨(e 84 r (by omega) (by omega)).trans a1, (e 85 r (by omega) (by omega)).trans a2, (e 86 r (by omega) (by omega)).trans a3, (e 87 r (by omega) (by omega)).trans a4⟩, ⟨fun j x h => (e 88 _ (by omega) (by omega)).trans (b1 j x h), a⟩, ⟨(e 90 r (by omega) (by omega)).trans c1, (e 92 r (by omega) (by omega)).trans c2, (e 93 r (by omega) (by omega)).trans c3, (e 94 r (by omega) (by omega)).trans c4⟩⟩
set_option maxRecDepth 100000 in
theorem RU1_m {v : Int32} (H : RU1 C r kd1 tb1 tg1 m1 lt1 dl1 up1 cs os) : RU1 (sI C 87 r v) r kd1 tb1 tg1 v lt1 dl1 up1 cs os := by
  obtain ⟨⟨a1, a2, a3, a4⟩, ⟨b1, b2⟩, ⟨c1, c2, c3, c4⟩⟩ := H
  have e : ∀ k j, k ≠ 87 → (sI C 87 r v).1 k j = C.1 k j := fun k j h => by rw [sI_1, if_neg (by omega)]
  exact ⟨⟨(e 84 r (by omega)).trans a1, (e 85 r (by omega)).trans a2, (e 86 r (by omega)).trans a3, (by rw [sI_1, if_pos ⟨rfl, rfl⟩])⟩, ⟨fun j x h => (e 88 _ (by omega)).trans (b1 j x h), fun j x h => (e 89 _ (by omega)).trans (b2 j x h)⟩, ⟨(e 90 r (by omega)).trans c1, (e 92 r (by omega)).trans c2, (e 93 r (by omega)).trans c3, (e 94 r (by omega)).trans c4⟩⟩
set_option maxRecDepth 100000 in
theorem RU1_g {v : Int32} (H : RU1 C r kd1 tb1 tg1 m1 lt1 dl1 up1 cs os) : RU1 (sI C 86 r v) r kd1 tb1 v m1 lt1 dl1 up1 cs os := by
  obtain ⟨⟨a1, a2, a3, a4⟩, ⟨b1, b2⟩, ⟨c1, c2, c3, c4⟩⟩ := H
  have e : ∀ k j, k ≠ 86 → (sI C 86 r v).1 k j = C.1 k j := fun k j h => by rw [sI_1, if_neg (by omega)]
  exact ⟨⟨(e 84 r (by omega)).trans a1, (e 85 r (by omega)).trans a2, (by rw [sI_1, if_pos ⟨rfl, rfl⟩]), (e 87 r (by omega)).trans a4⟩, ⟨fun j x h => (e 88 _ (by omega)).trans (b1 j x h), fun j x h => (e 89 _ (by omega)).trans (b2 j x h)⟩, ⟨(e 90 r (by omega)).trans c1, (e 92 r (by omega)).trans c2, (e 93 r (by omega)).trans c3, (e 94 r (by omega)).trans c4⟩⟩
set_option maxRecDepth 100000 in
theorem RU1_d {v : Int32} (H : RU1 C r kd1 tb1 tg1 m1 lt1 dl1 up1 cs os) : RU1 (sI C 92 r v) r kd1 tb1 tg1 m1 lt1 v up1 cs os := by
  obtain ⟨⟨a1, a2, a3, a4⟩, ⟨b1, b2⟩, ⟨c1, c2, c3, c4⟩⟩ := H
  have e : ∀ k j, k ≠ 92 → (sI C 92 r v).1 k j = C.1 k j := fun k j h => by rw [sI_1, if_neg (by omega)]
  exact ⟨⟨(e 84 r (by omega)).trans a1, (e 85 r (by omega)).trans a2, (e 86 r (by omega)).trans a3, (e 87 r (by omega)).trans a4⟩, ⟨fun j x h => (e 88 _ (by omega)).trans (b1 j x h), fun j x h => (e 89 _ (by omega)).trans (b2 j x h)⟩, ⟨(e 90 r (by omega)).trans c1, (by rw [sI_1, if_pos ⟨rfl, rfl⟩]), (e 93 r (by omega)).trans c3, (e 94 r (by omega)).trans c4⟩⟩
set_option maxRecDepth 100000 in
theorem RU1_u {v : Int32} (H : RU1 C r kd1 tb1 tg1 m1 lt1 dl1 up1 cs os) : RU1 (sI C 93 r v) r kd1 tb1 tg1 m1 lt1 dl1 v cs os := by
  obtain ⟨⟨a1, a2, a3, a4⟩, ⟨b1, b2⟩, ⟨c1, c2, c3, c4⟩⟩ := H
  have e : ∀ k j, k ≠ 93 → (sI C 93 r v).1 k j = C.1 k j := fun k j h => by rw [sI_1, if_neg (by omega)]
  exact ⟨⟨(e 84 r (by omega)).trans a1, (e 85 r (by omega)).trans a2, (e 86 r (by omega)).trans a3, (e 87 r (by omega)).trans a4⟩, ⟨fun j x h => (e 88 _ (by omega)).trans (b1 j x h), fun j x h => (e 89 _ (by omega)).trans (b2 j x h)⟩, ⟨(e 90 r (by omega)).trans c1, (e 92 r (by omega)).trans c2, (by rw [sI_1, if_pos ⟨rfl, rfl⟩]), (e 94 r (by omega)).trans c4⟩⟩
def fL (r : Nat) (C C' : co_T) : Prop := (∀ k j, ¬ (k = 76 ∧ (j = 3 ∨ j = 4 ∨ j = 5 ∨ j = 6 ∨ j = 8 ∨ j = 9)) → ¬ (k = 90 ∧ j = r) → C'.1 k j = C.1 k j) ∧ (∀ k j, ¬ (k = 76 ∧ j = 7) → C'.2.1 k j = C.2.1 k j) ∧ C'.2.2 = C.2.2
set_option maxRecDepth 100000 in
theorem fP_L (h : fL r C C') : fP r C C' := ⟨fun k j a b c d e g => h.1 k j (by omega) (by omega), fun k j a _ _ => h.2.1 k j a, h.2.2⟩
set_option maxRecDepth 100000 in
theorem RU1_L {v : Int32} (H : RU1 C r kd1 tb1 tg1 m1 lt1 dl1 up1 cs os) (f : fL r C C') (hv : C'.1 90 r = v) : RU1 C' r kd1 tb1 tg1 m1 v dl1 up1 cs os := by
  obtain ⟨⟨a1, a2, a3, a4⟩, ⟨b1, b2⟩, ⟨c1, c2, c3, c4⟩⟩ := H
  have e : ∀ k j, k ≠ 76 → k ≠ 90 → C'.1 k j = C.1 k j := fun k j h h2 => f.1 k j (by omega) (by omega)
  exact ⟨⟨(e 84 r (by omega) (by omega)).trans a1, (e 85 r (by omega) (by omega)).trans a2, (e 86 r (by omega) (by omega)).trans a3, (e 87 r (by omega) (by omega)).trans a4⟩, ⟨fun j x h => (e 88 _ (by omega) (by omega)).trans (b1 j x h), fun j x h => (e 89 _ (by omega) (by omega)).trans (b2 j x h)⟩, ⟨hv, (e 92 r (by omega) (by omega)).trans c2, (e 93 r (by omega) (by omega)).trans c3, (e 94 r (by omega) (by omega)).trans c4⟩⟩
set_option maxRecDepth 100000 in
theorem RU1_M {kd0 tb0 dl up : Nat} {tg0 : Option Nat} {lt : Bool} (H : RU1 C r (nI kd0) (nI tb0) (tgI tg0) (nI cs.length) (ck lt) (nI dl) (nI up) cs os) : RUM C r (kd0, tb0, cs, tg0, os, lt, dl, up, none) := by
  obtain ⟨⟨a1, a2, a3, a4⟩, ⟨b1, b2⟩, ⟨c1, c2, c3, c4⟩⟩ := H
  exact ⟨⟨a1, a2, a3, a4, b1, b2⟩, ⟨c1, c2, c3⟩, fun O h => (by cases h), fun _ => c4⟩
set_option maxRecDepth 100000 in
theorem TMo_B (H : TMo C b Tb l o) : TBM C Tb.1 b := (H.2.1 b H.1.2.1 H.1.2.2.2).2.2.1
set_option maxRecDepth 100000 in
theorem rKey_e {K : tv2} {kd0 : Nat} (hr : ruN Tb.2.2 ≠ -1) : rKey K Tb b kd0 i nl = pb (pb (xpP K 44 (i + 1)) (fun j => rNam K Tb.1 b 7 [] j)) (fun y => pb (xpP K 45 y.2) (fun j2 => .inr (addR Tb (kd0, b, y.1, none, [], (rDef K j2).1, 0, 0, none), (rDef K j2).2, nl))) := by
  unfold rKey
  rw [if_neg hr, pb_pb]
set_option maxRecDepth 100000 in
theorem nam_6 {K : tv2} {cs : List Nat} {i' : Nat} (h6 : sc.2.1 b ≤ 6) (h : pb (xpP K 44 i) (fun j => rNam K sc b 7 [] j) = .inr (cs, i')) : cs.length ≤ 6 ∧ ∀ x, x ∈ cs → x < 6 := by
  obtain ⟨j, _, h⟩ := pb_inr h
  exact rNam_6 h6 h
set_option maxRecDepth 100000 in
theorem rDef_1 (h : kd B n i = 1) : rDef (tkP B n) i = (false, i) := if_neg (by show ¬ kd B n i = 20; rw [h]; decide)
set_option maxRecDepth 100000 in
theorem m_211_31 (hU : ∀ r, r < 24 → Tb.2.2 r = none → U r) (M : MS B n U V C0 C i nl) (H : TMo C b Tb l none) (hk : kd B n i = 31) : Wd L xs (d + 6) y_211 (0, [(0, .ref 176)], [], MH C t, 0) (PTI B n U V C0 t b (rKey (tkP B n) Tb b 1 i nl)) nX := by
  have hk1 : kd B n i ≠ 1 := M.2.1.1
  have hb := H.1.2.1
  by_cases hr : ruN Tb.2.2 = -1
  · have hx : rKey (tkP B n) Tb b 1 i nl = .inl (6, i) := if_pos hr
    have F := FS_new (c := 6) M (by decide)
    refine w_p (pc1 := 1) rfl rfl ?_
    refine w_m0 (pc1 := 4) rfl rfl (h_gI (j := 4) rfl rfl rfl rfl rfl) rfl ?_
    refine w_p (pc1 := 5) (st1 := .int 1 :: _) rfl rfl ?_
    refine w_t (a := 13) (b := 8) (cb_ne_t (by exact fun e => absurd ((nm_k M.2.1).1.mp e) (by rw [hk]; decide))) rfl rfl ?_
    refine w_p (pc1 := 14) rfl rfl ?_
    refine w_m0 (pc1 := 17) (st1 := .long 31650994523828857 :: _) rfl rfl rfl rfl ?_
    refine w_je (pc1 := 20) (vs := [.ref 176, .long 31650994523828857]) (rest := []) (st1 := [.int 1]) (m_205t (d := _) (sl := 0) ((wd_k (k := 31) M.2.1 (by decide) (by decide)).trans (decide_eq_true hk))) rfl rfl rfl (fun _ _ => rfl) rfl (by exact cl_v my_205 rfl rfl rfl (Nat.le_of_ble_eq_true rfl) rfl (MH_obj rfl rfl) rfl (by decide) rfl rfl) (by rfl) (Nat.le_of_ble_eq_true rfl) (Nat.le_of_ble_eq_true rfl) rfl (by rfl) ?_
    refine w_t (a := 33) (b := 23) rfl rfl rfl ?_
    refine w_p (pc1 := 34) (st1 := .int 1 :: _) rfl rfl ?_
    refine w_p (pc1 := 38) rfl rfl ?_
    refine w_p (pc1 := 39) (al1 := [(1, .int 1), (0, .ref 176)]) rfl rfl ?_
    refine w_p (pc1 := 40) rfl rfl ?_
    refine w_t (a := 69) (b := 43) rfl rfl rfl ?_
    refine w_p (pc1 := 70) rfl rfl ?_
    refine w_p (pc1 := 71) rfl rfl ?_
    refine w_m0 (pc1 := 74) (st1 := .long 31650994523828857 :: _) rfl rfl rfl rfl ?_
    refine w_je (pc1 := 77) (vs := [.ref 176, .long 31650994523828857]) (rest := [.ref 176]) (st1 := [.int 1, .ref 176]) (m_205t (d := _) (sl := 0) ((wd_k (k := 31) M.2.1 (by decide) (by decide)).trans (decide_eq_true hk))) rfl rfl rfl (fun _ _ => rfl) rfl (by exact cl_v my_205 rfl rfl rfl (Nat.le_of_ble_eq_true rfl) rfl (MH_obj rfl rfl) rfl (by decide) rfl rfl) (by rfl) (Nat.le_of_ble_eq_true rfl) (Nat.le_of_ble_eq_true rfl) rfl (by rfl) ?_
    refine w_f (a := 84) (b := 80) rfl rfl rfl ?_
    refine w_p (pc1 := 81) (st1 := .int 1 :: _) rfl rfl ?_
    refine w_p (pc1 := 113) rfl rfl ?_
    refine w_je (pc1 := 116) (vs := [.ref 176, .int 1]) (rest := []) (st1 := [.int 0]) (m_214f (d := _) M H hr) rfl rfl rfl (fun _ _ => rfl) rfl (by exact cl_v my_214 rfl rfl rfl (Nat.le_of_ble_eq_true rfl) rfl (MH_obj rfl rfl) rfl (by decide) rfl rfl) (by rfl) (Nat.le_of_ble_eq_true rfl) (Nat.le_of_ble_eq_true rfl) rfl (by rfl) ?_
    refine w_p (pc1 := 117) (al1 := [(2, .int 0), (1, .int 1), (0, .ref 176)]) rfl rfl ?_
    refine w_p (pc1 := 118) rfl rfl ?_
    refine w_m0 (pc1 := 121) (st1 := .int 6 :: _) rfl rfl (h_gIe (j := 8) rfl rfl rfl rfl rfl (F.1.2.1)) rfl ?_
    refine w_f (a := 125) (b := 124) rfl rfl rfl ?_
    refine w_r rfl rfl rfl (fun _ _ => rfl) rfl ?_
    exact Or.inr ⟨rfl, ⟨_, ⟨6, i, flS_n hx hk1, F⟩, rfl⟩, rfl⟩
  · obtain ⟨r, hr1, hr2, hr3⟩ := ruN_s hr
    have hUr := hU r hr2 hr3
    rw [rKey_e hr]
    refine w_p (pc1 := 1) rfl rfl ?_
    refine w_m0 (pc1 := 4) rfl rfl (h_gI (j := 4) rfl rfl rfl rfl rfl) rfl ?_
    refine w_p (pc1 := 5) (st1 := .int 1 :: _) rfl rfl ?_
    refine w_t (a := 13) (b := 8) (cb_ne_t (by exact fun e => absurd ((nm_k M.2.1).1.mp e) (by rw [hk]; decide))) rfl rfl ?_
    refine w_p (pc1 := 14) rfl rfl ?_
    refine w_m0 (pc1 := 17) (st1 := .long 31650994523828857 :: _) rfl rfl rfl rfl ?_
    refine w_je (pc1 := 20) (vs := [.ref 176, .long 31650994523828857]) (rest := []) (st1 := [.int 1]) (m_205t (d := _) (sl := 0) ((wd_k (k := 31) M.2.1 (by decide) (by decide)).trans (decide_eq_true hk))) rfl rfl rfl (fun _ _ => rfl) rfl (by exact cl_v my_205 rfl rfl rfl (Nat.le_of_ble_eq_true rfl) rfl (MH_obj rfl rfl) rfl (by decide) rfl rfl) (by rfl) (Nat.le_of_ble_eq_true rfl) (Nat.le_of_ble_eq_true rfl) rfl (by rfl) ?_
    refine w_t (a := 33) (b := 23) rfl rfl rfl ?_
    refine w_p (pc1 := 34) (st1 := .int 1 :: _) rfl rfl ?_
    refine w_p (pc1 := 38) rfl rfl ?_
    refine w_p (pc1 := 39) (al1 := [(1, .int 1), (0, .ref 176)]) rfl rfl ?_
    refine w_p (pc1 := 40) rfl rfl ?_
    refine w_t (a := 69) (b := 43) rfl rfl rfl ?_
    refine w_p (pc1 := 70) rfl rfl ?_
    refine w_p (pc1 := 71) rfl rfl ?_
    refine w_m0 (pc1 := 74) (st1 := .long 31650994523828857 :: _) rfl rfl rfl rfl ?_
    refine w_je (pc1 := 77) (vs := [.ref 176, .long 31650994523828857]) (rest := [.ref 176]) (st1 := [.int 1, .ref 176]) (m_205t (d := _) (sl := 0) ((wd_k (k := 31) M.2.1 (by decide) (by decide)).trans (decide_eq_true hk))) rfl rfl rfl (fun _ _ => rfl) rfl (by exact cl_v my_205 rfl rfl rfl (Nat.le_of_ble_eq_true rfl) rfl (MH_obj rfl rfl) rfl (by decide) rfl rfl) (by rfl) (Nat.le_of_ble_eq_true rfl) (Nat.le_of_ble_eq_true rfl) rfl (by rfl) ?_
    refine w_f (a := 84) (b := 80) rfl rfl rfl ?_
    refine w_p (pc1 := 81) (st1 := .int 1 :: _) rfl rfl ?_
    refine w_p (pc1 := 113) rfl rfl ?_
    refine w_ji (pc1 := 116) (vs := [.ref 176, .int 1]) (rest := []) (m_214 (d := _) hUr M H hr1 hr2 hr3) rfl rfl rfl (fun _ _ => rfl) rfl (by exact cl_v my_214 rfl rfl rfl (Nat.le_of_ble_eq_true rfl) rfl (MH_obj rfl rfl) rfl (by decide) rfl rfl) (by rfl) (Nat.le_of_ble_eq_true rfl) (Nat.le_of_ble_eq_true rfl) rfl (fun v h1 d1 hq => ?_) (fun _ _ _ e => e.elim)
    rcases hq with ⟨hv, ⟨C1, ⟨M1, H1, R0, e40⟩, hh⟩, hn⟩
    · subst hv; subst hh; subst hn
      refine w_p (pc1 := 117) (al1 := [(2, .int (nI (r))), (1, .int 1), (0, .ref 176)]) rfl rfl ?_
      refine w_p (pc1 := 118) rfl rfl ?_
      refine w_m0 (pc1 := 121) (st1 := .int 0 :: _) rfl rfl (h_gIe (j := 8) rfl rfl rfl rfl rfl (M1.2.1.2.1)) rfl ?_
      refine w_t (a := 125) (b := 124) rfl rfl rfl ?_
      refine w_p (pc1 := 126) rfl rfl ?_
      refine w_ji (pc1 := 129) (vs := [.ref 176]) (rest := []) (nS (d := _) M1 (by rw [hk]; decide)) rfl rfl rfl (fun _ _ => rfl) rfl (by exact cl_v my_195 rfl rfl rfl (Nat.le_of_ble_eq_true rfl) rfl (MH_obj rfl rfl) rfl (by decide) rfl rfl) (by rfl) (Nat.le_of_ble_eq_true rfl) (Nat.le_of_ble_eq_true rfl) rfl (fun v h1 d1 hq => ?_) (fun _ _ _ e => e.elim)
      rcases hq with ⟨hv, ⟨C2, ⟨g2, M2, f2⟩, hh⟩, hn⟩ | ⟨hv, ⟨C2, ⟨g2, F2, f2⟩, hh⟩, hn⟩
      · subst hv; subst hh; subst hn
        refine w_p (pc1 := 130) rfl rfl ?_
        refine w_m0 (pc1 := 133) (st1 := .int 0 :: _) rfl rfl (h_gIe (j := 8) rfl rfl rfl rfl rfl (M2.2.1.2.1)) rfl ?_
        refine w_t (a := 137) (b := 136) rfl rfl rfl ?_
        refine w_p (pc1 := 138) rfl rfl ?_
        refine w_f (a := 177) (b := 141) rfl rfl rfl ?_
        refine w_p (pc1 := 142) rfl rfl ?_
        refine w_m0 (pc1 := 145) rfl rfl (h_gC rfl rfl rfl rfl) rfl ?_
        refine w_p (pc1 := 146) rfl rfl ?_
        refine w_p (pc1 := 147) rfl rfl ?_
        refine w_p (pc1 := 148) rfl rfl ?_
        refine w_m0 (pc1 := 151) (st1 := .int (nI (b)) :: _) rfl rfl (h_gIe (j := 57) rfl rfl rfl rfl rfl ((TMo_T H1 f2).1.1)) rfl ?_
        refine w_p (pc1 := 152) rfl rfl ?_
        refine w_m0 (pc1 := 155) rfl rfl (h_gC rfl rfl rfl rfl) rfl ?_
        refine w_p (pc1 := 157) (st1 := .int 6 :: _) rfl rfl ?_
        refine w_p (pc1 := 158) rfl rfl ?_
        refine w_imul (pc1 := 159) (u := nI (6)) (v := nI (r)) (z := nI (6 * r)) rfl (nK_mul) rfl ?_
        refine w_ji (pc1 := 162) (vs := [.ref 176, .int (nI (b)), .ref 188, .int (nI (6 * r))]) (rest := [.int (nI (r)), .ref 187]) (m_216_88 (d := _) (b := b) (sc := Tb.1) hUr hr2 M2 (TMo_B (TMo_T H1 f2))) rfl rfl rfl (fun _ _ => rfl) rfl (by exact cl_v my_216 rfl rfl rfl (Nat.le_of_ble_eq_true rfl) rfl (MH_obj rfl rfl) rfl (by decide) rfl rfl) (by rfl) (Nat.le_of_ble_eq_true rfl) (Nat.le_of_ble_eq_true rfl) rfl (fun v h1 d1 hq => ?_) (fun _ _ _ e => e.elim)
        rcases hq with ⟨cs, i3, hv, ⟨C3, ⟨g3, g4, M3, a3, f3⟩, hh⟩, hn⟩ | ⟨a3, hv, ⟨C3, ⟨c3, j3, g3, F3⟩, hh⟩, hn⟩
        · subst hv; subst hh; subst hn
          refine w_m0 (pc1 := 163) rfl rfl (n_is (e := r) rfl rfl rfl (by omega)) rfl ?_
          refine w_p (pc1 := 164) rfl rfl ?_
          refine w_p (pc1 := 166) (st1 := .int 41 :: _) rfl rfl ?_
          refine w_ji (pc1 := 169) (vs := [.ref 176, .int 41]) (rest := []) (m_209 (k := 45) (d := _) (by decide) (by decide) rfl (MS_I (v := nI cs.length) M3 (sx_r (V := V) (k := 87) hUr (by omega)) (by omega))) rfl rfl rfl (fun _ _ => rfl) rfl (by exact cl_v my_209 rfl rfl rfl (Nat.le_of_ble_eq_true rfl) rfl (MH_obj rfl rfl) rfl (by decide) rfl rfl) (by rfl) (Nat.le_of_ble_eq_true rfl) (Nat.le_of_ble_eq_true rfl) rfl (fun v h1 d1 hq => ?_) (fun _ _ _ e => e.elim)
          rcases hq with ⟨hv, ⟨C5, ⟨g5, g5b, M5, f5⟩, hh⟩, hn⟩ | ⟨hv, ⟨C5, ⟨c5, j5, g5, F5, f5⟩, hh⟩, hn⟩
          · subst hv; subst hh; subst hn
            refine w_p (pc1 := 170) rfl rfl ?_
            refine w_p (pc1 := 171) rfl rfl ?_
            refine w_ji (pc1 := 174) (vs := [.ref 176, .int (nI (r))]) (rest := []) (m_217 (d := _) hUr hr2 M5 (by rw [f5.1 90 r (by omega), sI_1, if_neg (by omega), f3.1 90 r (by omega) (by omega), f2.1 90 r (by omega)]; exact R0.2.2.2.2.1)) rfl rfl rfl (fun _ _ => rfl) rfl (by exact cl_v my_217 rfl rfl rfl (Nat.le_of_ble_eq_true rfl) rfl (MH_obj rfl rfl) rfl (by decide) rfl rfl) (by rfl) (Nat.le_of_ble_eq_true rfl) (Nat.le_of_ble_eq_true rfl) rfl (fun v h1 d1 hq => ?_) (fun _ _ _ e => e.elim)
            rcases hq with ⟨hv, ⟨C6, ⟨g6, M6, e90, e1, e2, e3⟩, hh⟩, hn⟩ | ⟨hv, ⟨C6, ⟨g6, F6⟩, hh⟩, hn⟩
            · subst hv; subst hh; subst hn
              refine w_p (pc1 := 254) rfl rfl ?_
              refine w_r rfl rfl rfl (fun _ _ => rfl) rfl ?_
              have U1 := RU1_0 R0
              have U6 := RU1_M (kd0 := 1) (tb0 := b) (tg0 := none) (dl := 0) (up := 0) (RU1_L (RU1_T (RU1_m (v := nI cs.length) (RU1_8 (RU1_T U1 f2) f3 a3)) f5) ⟨e1, e2, e3⟩ e90)
              have H6 := TMo_P (TMo_T (TMo_P (TMo_P (TMo_T H1 f2) (Or.inl rfl) (fP_N (Or.inl rfl) f3)) (Or.inl rfl) (fP_I (k := 87) (v := nI cs.length) (by omega))) f5) (Or.inl rfl) (fP_L ⟨e1, e2, e3⟩)
              have h6 := nam_6 (TMo_B H).2.2.1 g3
              refine Or.inl ⟨rfl, ⟨_, ⟨_, _, _, _, ?_, g6, M6, TMo_c H6 hr1 U6 ⟨h6.1, Nat.zero_le _, fun O h => (by cases h)⟩⟩, rfl⟩, rfl⟩
              rw [pb_r g3, pb_r (show xpP (tkP B n) 45 i3 = .inr (i3 + 1) from if_pos g5)]
            · subst hv; subst hh; subst hn
              refine w_p (pc1 := 254) rfl rfl ?_
              refine w_r rfl rfl rfl (fun _ _ => rfl) rfl ?_
              refine Or.inr ⟨rfl, ⟨_, ⟨1, _, ?_, F6⟩, rfl⟩, rfl⟩
              rw [pb_r g3, pb_r (show xpP (tkP B n) 45 i3 = .inr (i3 + 1) from if_pos g5)]
              exact flS_e rfl rfl g6
          · subst hv; subst hh; subst hn
            refine w_p (pc1 := 170) rfl rfl ?_
            refine w_p (pc1 := 171) rfl rfl ?_
            refine w_je (pc1 := 174) (vs := [.ref 176, .int (nI (r))]) (rest := []) (st1 := []) (m_217f (d := _) F5) rfl rfl rfl (fun _ _ => rfl) rfl (by exact cl_v my_217 rfl rfl rfl (Nat.le_of_ble_eq_true rfl) rfl (MH_obj rfl rfl) rfl (by decide) rfl rfl) (by rfl) (Nat.le_of_ble_eq_true rfl) (Nat.le_of_ble_eq_true rfl) rfl (by rfl) ?_
            refine w_p (pc1 := 254) rfl rfl ?_
            refine w_r rfl rfl rfl (fun _ _ => rfl) rfl ?_
            refine Or.inr ⟨rfl, ⟨_, ⟨c5, j5, ?_, F5⟩, rfl⟩, rfl⟩
            rw [pb_r g3]
            refine flS_c g5 (fun q hq hk => Or.inr ⟨_, rfl, ?_⟩)
            show (rDef (tkP B n) q).2 = q
            rw [rDef_1 (i := q) hk]
        · subst hv; subst hh; subst hn
          refine w_m0 (pc1 := 163) rfl rfl (n_is (e := r) rfl rfl rfl (by omega)) rfl ?_
          refine w_p (pc1 := 164) rfl rfl ?_
          refine w_p (pc1 := 166) (st1 := .int 41 :: _) rfl rfl ?_
          refine w_je (pc1 := 169) (vs := [.ref 176, .int 41]) (rest := []) (st1 := []) (m_209f (d := _) (FS_I (v := nI a3) F3 (sx_r (V := V) (k := 87) hUr (by omega)) (by omega))) rfl rfl rfl (fun _ _ => rfl) rfl (by exact cl_v my_209 rfl rfl rfl (Nat.le_of_ble_eq_true rfl) rfl (MH_obj rfl rfl) rfl (by decide) rfl rfl) (by rfl) (Nat.le_of_ble_eq_true rfl) (Nat.le_of_ble_eq_true rfl) rfl (by rfl) ?_
          refine w_p (pc1 := 170) rfl rfl ?_
          refine w_p (pc1 := 171) rfl rfl ?_
          refine w_je (pc1 := 174) (vs := [.ref 176, .int (nI (r))]) (rest := []) (st1 := []) (m_217f (d := _) (FS_I (v := nI a3) F3 (sx_r (V := V) (k := 87) hUr (by omega)) (by omega))) rfl rfl rfl (fun _ _ => rfl) rfl (by exact cl_v my_217 rfl rfl rfl (Nat.le_of_ble_eq_true rfl) rfl (MH_obj rfl rfl) rfl (by decide) rfl rfl) (by rfl) (Nat.le_of_ble_eq_true rfl) (Nat.le_of_ble_eq_true rfl) rfl (by rfl) ?_
          refine w_p (pc1 := 254) rfl rfl ?_
          refine w_r rfl rfl rfl (fun _ _ => rfl) rfl ?_
          exact Or.inr ⟨rfl, ⟨_, ⟨c3, j3, flS_b g3 (fun q hq hk => bdS_b (bdS_x hk (by decide))), FS_I F3 (sx_r hUr (by omega)) (by omega)⟩, rfl⟩, rfl⟩
      · subst hv; subst hh; subst hn
        refine w_p (pc1 := 130) rfl rfl ?_
        refine w_m0 (pc1 := 133) (st1 := .int 1 :: _) rfl rfl (h_gIe (j := 8) rfl rfl rfl rfl rfl (F2.1.2.1)) rfl ?_
        refine w_f (a := 137) (b := 136) rfl rfl rfl ?_
        refine w_r rfl rfl rfl (fun _ _ => rfl) rfl ?_
        exact Or.inr ⟨rfl, ⟨_, ⟨1, i + 1, flS_1 (bdS_b (bdS_b (bdS_x g2 (by decide)))) g2, F2⟩, rfl⟩, rfl⟩
set_option maxRecDepth 100000 in
theorem m_211_40 (hU : ∀ r, r < 24 → Tb.2.2 r = none → U r) (M : MS B n U V C0 C i nl) (H : TMo C b Tb l none) (hk : kd B n i = 40) : Wd L xs (d + 6) y_211 (0, [(0, .ref 176)], [], MH C t, 0) (PTI B n U V C0 t b (rKey (tkP B n) Tb b 2 i nl)) nX := by
  have hk1 : kd B n i ≠ 1 := M.2.1.1
  have hb := H.1.2.1
  by_cases hr : ruN Tb.2.2 = -1
  · have hx : rKey (tkP B n) Tb b 2 i nl = .inl (6, i) := if_pos hr
    have F := FS_new (c := 6) M (by decide)
    refine w_p (pc1 := 1) rfl rfl ?_
    refine w_m0 (pc1 := 4) rfl rfl (h_gI (j := 4) rfl rfl rfl rfl rfl) rfl ?_
    refine w_p (pc1 := 5) (st1 := .int 1 :: _) rfl rfl ?_
    refine w_t (a := 13) (b := 8) (cb_ne_t (by exact fun e => absurd ((nm_k M.2.1).1.mp e) (by rw [hk]; decide))) rfl rfl ?_
    refine w_p (pc1 := 14) rfl rfl ?_
    refine w_m0 (pc1 := 17) (st1 := .long 31650994523828857 :: _) rfl rfl rfl rfl ?_
    refine w_je (pc1 := 20) (vs := [.ref 176, .long 31650994523828857]) (rest := []) (st1 := [.int 0]) (m_205f (d := _) (sl := 0) ((wd_k (k := 31) M.2.1 (by decide) (by decide)).trans (decide_eq_false (by rw [hk]; decide)))) rfl rfl rfl (fun _ _ => rfl) rfl (by exact cl_v my_205 rfl rfl rfl (Nat.le_of_ble_eq_true rfl) rfl (MH_obj rfl rfl) rfl (by decide) rfl rfl) (by rfl) (Nat.le_of_ble_eq_true rfl) (Nat.le_of_ble_eq_true rfl) rfl (by rfl) ?_
    refine w_f (a := 33) (b := 23) rfl rfl rfl ?_
    refine w_p (pc1 := 24) rfl rfl ?_
    refine w_m0 (pc1 := 27) (st1 := .long 129117075895653 :: _) rfl rfl rfl rfl ?_
    refine w_je (pc1 := 30) (vs := [.ref 176, .long 129117075895653]) (rest := []) (st1 := [.int 1]) (m_205t (d := _) (sl := 0) ((wd_k (k := 40) M.2.1 (by decide) (by decide)).trans (decide_eq_true hk))) rfl rfl rfl (fun _ _ => rfl) rfl (by exact cl_v my_205 rfl rfl rfl (Nat.le_of_ble_eq_true rfl) rfl (MH_obj rfl rfl) rfl (by decide) rfl rfl) (by rfl) (Nat.le_of_ble_eq_true rfl) (Nat.le_of_ble_eq_true rfl) rfl (by rfl) ?_
    refine w_f (a := 37) (b := 33) rfl rfl rfl ?_
    refine w_p (pc1 := 34) (st1 := .int 1 :: _) rfl rfl ?_
    refine w_p (pc1 := 38) rfl rfl ?_
    refine w_p (pc1 := 39) (al1 := [(1, .int 1), (0, .ref 176)]) rfl rfl ?_
    refine w_p (pc1 := 40) rfl rfl ?_
    refine w_t (a := 69) (b := 43) rfl rfl rfl ?_
    refine w_p (pc1 := 70) rfl rfl ?_
    refine w_p (pc1 := 71) rfl rfl ?_
    refine w_m0 (pc1 := 74) (st1 := .long 31650994523828857 :: _) rfl rfl rfl rfl ?_
    refine w_je (pc1 := 77) (vs := [.ref 176, .long 31650994523828857]) (rest := [.ref 176]) (st1 := [.int 0, .ref 176]) (m_205f (d := _) (sl := 0) ((wd_k (k := 31) M.2.1 (by decide) (by decide)).trans (decide_eq_false (by rw [hk]; decide)))) rfl rfl rfl (fun _ _ => rfl) rfl (by exact cl_v my_205 rfl rfl rfl (Nat.le_of_ble_eq_true rfl) rfl (MH_obj rfl rfl) rfl (by decide) rfl rfl) (by rfl) (Nat.le_of_ble_eq_true rfl) (Nat.le_of_ble_eq_true rfl) rfl (by rfl) ?_
    refine w_t (a := 84) (b := 80) rfl rfl rfl ?_
    refine w_p (pc1 := 85) rfl rfl ?_
    refine w_m0 (pc1 := 88) (st1 := .long 129117075895653 :: _) rfl rfl rfl rfl ?_
    refine w_je (pc1 := 91) (vs := [.ref 176, .long 129117075895653]) (rest := [.ref 176]) (st1 := [.int 1, .ref 176]) (m_205t (d := _) (sl := 0) ((wd_k (k := 40) M.2.1 (by decide) (by decide)).trans (decide_eq_true hk))) rfl rfl rfl (fun _ _ => rfl) rfl (by exact cl_v my_205 rfl rfl rfl (Nat.le_of_ble_eq_true rfl) rfl (MH_obj rfl rfl) rfl (by decide) rfl rfl) (by rfl) (Nat.le_of_ble_eq_true rfl) (Nat.le_of_ble_eq_true rfl) rfl (by rfl) ?_
    refine w_f (a := 98) (b := 94) rfl rfl rfl ?_
    refine w_p (pc1 := 95) (st1 := .int 2 :: _) rfl rfl ?_
    refine w_p (pc1 := 113) rfl rfl ?_
    refine w_je (pc1 := 116) (vs := [.ref 176, .int 2]) (rest := []) (st1 := [.int 0]) (m_214f (d := _) M H hr) rfl rfl rfl (fun _ _ => rfl) rfl (by exact cl_v my_214 rfl rfl rfl (Nat.le_of_ble_eq_true rfl) rfl (MH_obj rfl rfl) rfl (by decide) rfl rfl) (by rfl) (Nat.le_of_ble_eq_true rfl) (Nat.le_of_ble_eq_true rfl) rfl (by rfl) ?_
    refine w_p (pc1 := 117) (al1 := [(2, .int 0), (1, .int 1), (0, .ref 176)]) rfl rfl ?_
    refine w_p (pc1 := 118) rfl rfl ?_
    refine w_m0 (pc1 := 121) (st1 := .int 6 :: _) rfl rfl (h_gIe (j := 8) rfl rfl rfl rfl rfl (F.1.2.1)) rfl ?_
    refine w_f (a := 125) (b := 124) rfl rfl rfl ?_
    refine w_r rfl rfl rfl (fun _ _ => rfl) rfl ?_
    exact Or.inr ⟨rfl, ⟨_, ⟨6, i, flS_n hx hk1, F⟩, rfl⟩, rfl⟩
  · obtain ⟨r, hr1, hr2, hr3⟩ := ruN_s hr
    have hUr := hU r hr2 hr3
    rw [rKey_e hr]
    refine w_p (pc1 := 1) rfl rfl ?_
    refine w_m0 (pc1 := 4) rfl rfl (h_gI (j := 4) rfl rfl rfl rfl rfl) rfl ?_
    refine w_p (pc1 := 5) (st1 := .int 1 :: _) rfl rfl ?_
    refine w_t (a := 13) (b := 8) (cb_ne_t (by exact fun e => absurd ((nm_k M.2.1).1.mp e) (by rw [hk]; decide))) rfl rfl ?_
    refine w_p (pc1 := 14) rfl rfl ?_
    refine w_m0 (pc1 := 17) (st1 := .long 31650994523828857 :: _) rfl rfl rfl rfl ?_
    refine w_je (pc1 := 20) (vs := [.ref 176, .long 31650994523828857]) (rest := []) (st1 := [.int 0]) (m_205f (d := _) (sl := 0) ((wd_k (k := 31) M.2.1 (by decide) (by decide)).trans (decide_eq_false (by rw [hk]; decide)))) rfl rfl rfl (fun _ _ => rfl) rfl (by exact cl_v my_205 rfl rfl rfl (Nat.le_of_ble_eq_true rfl) rfl (MH_obj rfl rfl) rfl (by decide) rfl rfl) (by rfl) (Nat.le_of_ble_eq_true rfl) (Nat.le_of_ble_eq_true rfl) rfl (by rfl) ?_
    refine w_f (a := 33) (b := 23) rfl rfl rfl ?_
    refine w_p (pc1 := 24) rfl rfl ?_
    refine w_m0 (pc1 := 27) (st1 := .long 129117075895653 :: _) rfl rfl rfl rfl ?_
    refine w_je (pc1 := 30) (vs := [.ref 176, .long 129117075895653]) (rest := []) (st1 := [.int 1]) (m_205t (d := _) (sl := 0) ((wd_k (k := 40) M.2.1 (by decide) (by decide)).trans (decide_eq_true hk))) rfl rfl rfl (fun _ _ => rfl) rfl (by exact cl_v my_205 rfl rfl rfl (Nat.le_of_ble_eq_true rfl) rfl (MH_obj rfl rfl) rfl (by decide) rfl rfl) (by rfl) (Nat.le_of_ble_eq_true rfl) (Nat.le_of_ble_eq_true rfl) rfl (by rfl) ?_
    refine w_f (a := 37) (b := 33) rfl rfl rfl ?_
    refine w_p (pc1 := 34) (st1 := .int 1 :: _) rfl rfl ?_
    refine w_p (pc1 := 38) rfl rfl ?_
    refine w_p (pc1 := 39) (al1 := [(1, .int 1), (0, .ref 176)]) rfl rfl ?_
    refine w_p (pc1 := 40) rfl rfl ?_
    refine w_t (a := 69) (b := 43) rfl rfl rfl ?_
    refine w_p (pc1 := 70) rfl rfl ?_
    refine w_p (pc1 := 71) rfl rfl ?_
    refine w_m0 (pc1 := 74) (st1 := .long 31650994523828857 :: _) rfl rfl rfl rfl ?_
    refine w_je (pc1 := 77) (vs := [.ref 176, .long 31650994523828857]) (rest := [.ref 176]) (st1 := [.int 0, .ref 176]) (m_205f (d := _) (sl := 0) ((wd_k (k := 31) M.2.1 (by decide) (by decide)).trans (decide_eq_false (by rw [hk]; decide)))) rfl rfl rfl (fun _ _ => rfl) rfl (by exact cl_v my_205 rfl rfl rfl (Nat.le_of_ble_eq_true rfl) rfl (MH_obj rfl rfl) rfl (by decide) rfl rfl) (by rfl) (Nat.le_of_ble_eq_true rfl) (Nat.le_of_ble_eq_true rfl) rfl (by rfl) ?_
    refine w_t (a := 84) (b := 80) rfl rfl rfl ?_
    refine w_p (pc1 := 85) rfl rfl ?_
    refine w_m0 (pc1 := 88) (st1 := .long 129117075895653 :: _) rfl rfl rfl rfl ?_
    refine w_je (pc1 := 91) (vs := [.ref 176, .long 129117075895653]) (rest := [.ref 176]) (st1 := [.int 1, .ref 176]) (m_205t (d := _) (sl := 0) ((wd_k (k := 40) M.2.1 (by decide) (by decide)).trans (decide_eq_true hk))) rfl rfl rfl (fun _ _ => rfl) rfl (by exact cl_v my_205 rfl rfl rfl (Nat.le_of_ble_eq_true rfl) rfl (MH_obj rfl rfl) rfl (by decide) rfl rfl) (by rfl) (Nat.le_of_ble_eq_true rfl) (Nat.le_of_ble_eq_true rfl) rfl (by rfl) ?_
    refine w_f (a := 98) (b := 94) rfl rfl rfl ?_
    refine w_p (pc1 := 95) (st1 := .int 2 :: _) rfl rfl ?_
    refine w_p (pc1 := 113) rfl rfl ?_
    refine w_ji (pc1 := 116) (vs := [.ref 176, .int 2]) (rest := []) (m_214 (d := _) hUr M H hr1 hr2 hr3) rfl rfl rfl (fun _ _ => rfl) rfl (by exact cl_v my_214 rfl rfl rfl (Nat.le_of_ble_eq_true rfl) rfl (MH_obj rfl rfl) rfl (by decide) rfl rfl) (by rfl) (Nat.le_of_ble_eq_true rfl) (Nat.le_of_ble_eq_true rfl) rfl (fun v h1 d1 hq => ?_) (fun _ _ _ e => e.elim)
    rcases hq with ⟨hv, ⟨C1, ⟨M1, H1, R0, e40⟩, hh⟩, hn⟩
    · subst hv; subst hh; subst hn
      refine w_p (pc1 := 117) (al1 := [(2, .int (nI (r))), (1, .int 1), (0, .ref 176)]) rfl rfl ?_
      refine w_p (pc1 := 118) rfl rfl ?_
      refine w_m0 (pc1 := 121) (st1 := .int 0 :: _) rfl rfl (h_gIe (j := 8) rfl rfl rfl rfl rfl (M1.2.1.2.1)) rfl ?_
      refine w_t (a := 125) (b := 124) rfl rfl rfl ?_
      refine w_p (pc1 := 126) rfl rfl ?_
      refine w_ji (pc1 := 129) (vs := [.ref 176]) (rest := []) (nS (d := _) M1 (by rw [hk]; decide)) rfl rfl rfl (fun _ _ => rfl) rfl (by exact cl_v my_195 rfl rfl rfl (Nat.le_of_ble_eq_true rfl) rfl (MH_obj rfl rfl) rfl (by decide) rfl rfl) (by rfl) (Nat.le_of_ble_eq_true rfl) (Nat.le_of_ble_eq_true rfl) rfl (fun v h1 d1 hq => ?_) (fun _ _ _ e => e.elim)
      rcases hq with ⟨hv, ⟨C2, ⟨g2, M2, f2⟩, hh⟩, hn⟩ | ⟨hv, ⟨C2, ⟨g2, F2, f2⟩, hh⟩, hn⟩
      · subst hv; subst hh; subst hn
        refine w_p (pc1 := 130) rfl rfl ?_
        refine w_m0 (pc1 := 133) (st1 := .int 0 :: _) rfl rfl (h_gIe (j := 8) rfl rfl rfl rfl rfl (M2.2.1.2.1)) rfl ?_
        refine w_t (a := 137) (b := 136) rfl rfl rfl ?_
        refine w_p (pc1 := 138) rfl rfl ?_
        refine w_f (a := 177) (b := 141) rfl rfl rfl ?_
        refine w_p (pc1 := 142) rfl rfl ?_
        refine w_m0 (pc1 := 145) rfl rfl (h_gC rfl rfl rfl rfl) rfl ?_
        refine w_p (pc1 := 146) rfl rfl ?_
        refine w_p (pc1 := 147) rfl rfl ?_
        refine w_p (pc1 := 148) rfl rfl ?_
        refine w_m0 (pc1 := 151) (st1 := .int (nI (b)) :: _) rfl rfl (h_gIe (j := 57) rfl rfl rfl rfl rfl ((TMo_T H1 f2).1.1)) rfl ?_
        refine w_p (pc1 := 152) rfl rfl ?_
        refine w_m0 (pc1 := 155) rfl rfl (h_gC rfl rfl rfl rfl) rfl ?_
        refine w_p (pc1 := 157) (st1 := .int 6 :: _) rfl rfl ?_
        refine w_p (pc1 := 158) rfl rfl ?_
        refine w_imul (pc1 := 159) (u := nI (6)) (v := nI (r)) (z := nI (6 * r)) rfl (nK_mul) rfl ?_
        refine w_ji (pc1 := 162) (vs := [.ref 176, .int (nI (b)), .ref 188, .int (nI (6 * r))]) (rest := [.int (nI (r)), .ref 187]) (m_216_88 (d := _) (b := b) (sc := Tb.1) hUr hr2 M2 (TMo_B (TMo_T H1 f2))) rfl rfl rfl (fun _ _ => rfl) rfl (by exact cl_v my_216 rfl rfl rfl (Nat.le_of_ble_eq_true rfl) rfl (MH_obj rfl rfl) rfl (by decide) rfl rfl) (by rfl) (Nat.le_of_ble_eq_true rfl) (Nat.le_of_ble_eq_true rfl) rfl (fun v h1 d1 hq => ?_) (fun _ _ _ e => e.elim)
        rcases hq with ⟨cs, i3, hv, ⟨C3, ⟨g3, g4, M3, a3, f3⟩, hh⟩, hn⟩ | ⟨a3, hv, ⟨C3, ⟨c3, j3, g3, F3⟩, hh⟩, hn⟩
        · subst hv; subst hh; subst hn
          refine w_m0 (pc1 := 163) rfl rfl (n_is (e := r) rfl rfl rfl (by omega)) rfl ?_
          refine w_p (pc1 := 164) rfl rfl ?_
          refine w_p (pc1 := 166) (st1 := .int 41 :: _) rfl rfl ?_
          refine w_ji (pc1 := 169) (vs := [.ref 176, .int 41]) (rest := []) (m_209 (k := 45) (d := _) (by decide) (by decide) rfl (MS_I (v := nI cs.length) M3 (sx_r (V := V) (k := 87) hUr (by omega)) (by omega))) rfl rfl rfl (fun _ _ => rfl) rfl (by exact cl_v my_209 rfl rfl rfl (Nat.le_of_ble_eq_true rfl) rfl (MH_obj rfl rfl) rfl (by decide) rfl rfl) (by rfl) (Nat.le_of_ble_eq_true rfl) (Nat.le_of_ble_eq_true rfl) rfl (fun v h1 d1 hq => ?_) (fun _ _ _ e => e.elim)
          rcases hq with ⟨hv, ⟨C5, ⟨g5, g5b, M5, f5⟩, hh⟩, hn⟩ | ⟨hv, ⟨C5, ⟨c5, j5, g5, F5, f5⟩, hh⟩, hn⟩
          · subst hv; subst hh; subst hn
            refine w_p (pc1 := 170) rfl rfl ?_
            refine w_p (pc1 := 171) rfl rfl ?_
            refine w_ji (pc1 := 174) (vs := [.ref 176, .int (nI (r))]) (rest := []) (m_217 (d := _) hUr hr2 M5 (by rw [f5.1 90 r (by omega), sI_1, if_neg (by omega), f3.1 90 r (by omega) (by omega), f2.1 90 r (by omega)]; exact R0.2.2.2.2.1)) rfl rfl rfl (fun _ _ => rfl) rfl (by exact cl_v my_217 rfl rfl rfl (Nat.le_of_ble_eq_true rfl) rfl (MH_obj rfl rfl) rfl (by decide) rfl rfl) (by rfl) (Nat.le_of_ble_eq_true rfl) (Nat.le_of_ble_eq_true rfl) rfl (fun v h1 d1 hq => ?_) (fun _ _ _ e => e.elim)
            rcases hq with ⟨hv, ⟨C6, ⟨g6, M6, e90, e1, e2, e3⟩, hh⟩, hn⟩ | ⟨hv, ⟨C6, ⟨g6, F6⟩, hh⟩, hn⟩
            · subst hv; subst hh; subst hn
              refine w_p (pc1 := 254) rfl rfl ?_
              refine w_r rfl rfl rfl (fun _ _ => rfl) rfl ?_
              have U1 := RU1_0 R0
              have U6 := RU1_M (kd0 := 2) (tb0 := b) (tg0 := none) (dl := 0) (up := 0) (RU1_L (RU1_T (RU1_m (v := nI cs.length) (RU1_8 (RU1_T U1 f2) f3 a3)) f5) ⟨e1, e2, e3⟩ e90)
              have H6 := TMo_P (TMo_T (TMo_P (TMo_P (TMo_T H1 f2) (Or.inl rfl) (fP_N (Or.inl rfl) f3)) (Or.inl rfl) (fP_I (k := 87) (v := nI cs.length) (by omega))) f5) (Or.inl rfl) (fP_L ⟨e1, e2, e3⟩)
              have h6 := nam_6 (TMo_B H).2.2.1 g3
              refine Or.inl ⟨rfl, ⟨_, ⟨_, _, _, _, ?_, g6, M6, TMo_c H6 hr1 U6 ⟨h6.1, Nat.zero_le _, fun O h => (by cases h)⟩⟩, rfl⟩, rfl⟩
              rw [pb_r g3, pb_r (show xpP (tkP B n) 45 i3 = .inr (i3 + 1) from if_pos g5)]
            · subst hv; subst hh; subst hn
              refine w_p (pc1 := 254) rfl rfl ?_
              refine w_r rfl rfl rfl (fun _ _ => rfl) rfl ?_
              refine Or.inr ⟨rfl, ⟨_, ⟨1, _, ?_, F6⟩, rfl⟩, rfl⟩
              rw [pb_r g3, pb_r (show xpP (tkP B n) 45 i3 = .inr (i3 + 1) from if_pos g5)]
              exact flS_e rfl rfl g6
          · subst hv; subst hh; subst hn
            refine w_p (pc1 := 170) rfl rfl ?_
            refine w_p (pc1 := 171) rfl rfl ?_
            refine w_je (pc1 := 174) (vs := [.ref 176, .int (nI (r))]) (rest := []) (st1 := []) (m_217f (d := _) F5) rfl rfl rfl (fun _ _ => rfl) rfl (by exact cl_v my_217 rfl rfl rfl (Nat.le_of_ble_eq_true rfl) rfl (MH_obj rfl rfl) rfl (by decide) rfl rfl) (by rfl) (Nat.le_of_ble_eq_true rfl) (Nat.le_of_ble_eq_true rfl) rfl (by rfl) ?_
            refine w_p (pc1 := 254) rfl rfl ?_
            refine w_r rfl rfl rfl (fun _ _ => rfl) rfl ?_
            refine Or.inr ⟨rfl, ⟨_, ⟨c5, j5, ?_, F5⟩, rfl⟩, rfl⟩
            rw [pb_r g3]
            refine flS_c g5 (fun q hq hk => Or.inr ⟨_, rfl, ?_⟩)
            show (rDef (tkP B n) q).2 = q
            rw [rDef_1 (i := q) hk]
        · subst hv; subst hh; subst hn
          refine w_m0 (pc1 := 163) rfl rfl (n_is (e := r) rfl rfl rfl (by omega)) rfl ?_
          refine w_p (pc1 := 164) rfl rfl ?_
          refine w_p (pc1 := 166) (st1 := .int 41 :: _) rfl rfl ?_
          refine w_je (pc1 := 169) (vs := [.ref 176, .int 41]) (rest := []) (st1 := []) (m_209f (d := _) (FS_I (v := nI a3) F3 (sx_r (V := V) (k := 87) hUr (by omega)) (by omega))) rfl rfl rfl (fun _ _ => rfl) rfl (by exact cl_v my_209 rfl rfl rfl (Nat.le_of_ble_eq_true rfl) rfl (MH_obj rfl rfl) rfl (by decide) rfl rfl) (by rfl) (Nat.le_of_ble_eq_true rfl) (Nat.le_of_ble_eq_true rfl) rfl (by rfl) ?_
          refine w_p (pc1 := 170) rfl rfl ?_
          refine w_p (pc1 := 171) rfl rfl ?_
          refine w_je (pc1 := 174) (vs := [.ref 176, .int (nI (r))]) (rest := []) (st1 := []) (m_217f (d := _) (FS_I (v := nI a3) F3 (sx_r (V := V) (k := 87) hUr (by omega)) (by omega))) rfl rfl rfl (fun _ _ => rfl) rfl (by exact cl_v my_217 rfl rfl rfl (Nat.le_of_ble_eq_true rfl) rfl (MH_obj rfl rfl) rfl (by decide) rfl rfl) (by rfl) (Nat.le_of_ble_eq_true rfl) (Nat.le_of_ble_eq_true rfl) rfl (by rfl) ?_
          refine w_p (pc1 := 254) rfl rfl ?_
          refine w_r rfl rfl rfl (fun _ _ => rfl) rfl ?_
          exact Or.inr ⟨rfl, ⟨_, ⟨c3, j3, flS_b g3 (fun q hq hk => bdS_b (bdS_x hk (by decide))), FS_I F3 (sx_r hUr (by omega)) (by omega)⟩, rfl⟩, rfl⟩
      · subst hv; subst hh; subst hn
        refine w_p (pc1 := 130) rfl rfl ?_
        refine w_m0 (pc1 := 133) (st1 := .int 1 :: _) rfl rfl (h_gIe (j := 8) rfl rfl rfl rfl rfl (F2.1.2.1)) rfl ?_
        refine w_f (a := 137) (b := 136) rfl rfl rfl ?_
        refine w_r rfl rfl rfl (fun _ _ => rfl) rfl ?_
        exact Or.inr ⟨rfl, ⟨_, ⟨1, i + 1, flS_1 (bdS_b (bdS_b (bdS_x g2 (by decide)))) g2, F2⟩, rfl⟩, rfl⟩
end MTG
