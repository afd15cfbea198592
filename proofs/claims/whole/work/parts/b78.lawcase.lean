
/-! THE LAW: a call of each kind, on both sides -/
section LWC
variable {L : Nat} {xs : Nat → Int32} {B : Nat → Nat} {n m : Nat} {C C' C0 C1 : co_T} {t t0 t1 : ab_H} {d sl sl0 sl1 i i0 i1 j b e ti k k0 kc ks w c : Nat} {sc : sc_T} {row : Option Nat} {tg : Option (Nat × Nat)} {nl : Option Nat} {kd0 tb0 : Int32} {P : Option Value → ab_H → Nat → Prop} {X : Nat → ab_H → Nat → Prop} {cs : List Nat} {ss : List (Option (List op_T))} {E : fe_T} {tr : Nat → Option tr_T} {C2 : co_T} {Pr : Option Value → ab_H → Nat → Prop}
set_option maxRecDepth 100000 in
theorem n_xs {q : List Value} {h : ab_H} {o : Nat} {ini : Bool} {e : Nat} (hi : e < L) (hL : L < 2147483648) : mo L xs o ini .iaload 1 h (.int (nI e) :: .ref 0 :: q) = some (.int (xs e) :: q, h, 0) := by
  have := h_xs (L := L) (xs := xs) (h := h) (q := q) (o := o) (ini := ini) (i := nI e) (in_nI hi hL)
  rwa [nK_nat (by omega)] at this
abbrev al4 (i : Nat) : List (Nat × Value) := [(4, .int (nI i)), (3, .ref 240), (2, .ref 176), (1, .ref 100), (0, .ref 0)]
set_option maxRecDepth 100000 in
theorem lw_2 {Pk : Option Value → ab_H → Nat → Prop} (hi : i + 4 ≤ L) (hL : L < 2147483648) (wk : Wd L xs d y_165 (0, [(0, .ref 100), (1, .int (xs (i + 1))), (2, .ref 240)], [], MH C t, 0) (Pk) nX) (hk : ∀ v h q, Pk v h q → ∃ k C1 t1, some (.int (nI k)) = v ∧ MH C1 t1 = h ∧ k < 8 ∧ ∃ Pm, Wd L xs d y_287 (0, [(0, .ref 176), (1, .int (xs (i + 1)))], [], MH C1 t1, 0) Pm nX ∧ ∀ v2 h2 q2, Pm v2 h2 q2 → ∃ (r : Int32) (C2 : co_T) (t2 : ab_H), some (.int r) = v2 ∧ MH C2 t2 = h2 ∧ C2.1 76 0 = nI k ∧ (k = 0 → C2.2.1 140 0 = r.toInt64) ∧ Wd L xs (d + 1) y_296 (769, al4 i, [], MH C2 t2, sl + q + q2) P X) : Wd L xs (d + 1) y_296 (209, al4 i, [], MH C t, sl) P X := by
  refine w_p (pc1 := 210) rfl rfl ?_
  refine w_p (pc1 := 211) rfl rfl ?_
  refine w_p (pc1 := 213) rfl rfl ?_
  refine w_p (pc1 := 214) (st1 := .int 1 :: _) rfl rfl ?_
  refine w_iadd (pc1 := 215) (u := nI (i)) (v := nI (1)) (z := nI (i + 1)) rfl (nK_add) rfl ?_
  refine w_m0 (pc1 := 216) rfl rfl (n_xs (e := i + 1) (by omega) hL) rfl ?_
  refine w_p (pc1 := 217) rfl rfl ?_
  refine w_ji (pc1 := 220) (vs := [.ref 100, .int (xs (i + 1)), .ref 240]) (rest := []) (wk) rfl rfl rfl (fun _ _ => rfl) rfl (by exact cl_s my_165 rfl rfl rfl (Nat.le_of_ble_eq_true rfl) rfl rfl) (by rfl) (Nat.le_of_ble_eq_true rfl) (Nat.le_of_ble_eq_true rfl) rfl (fun v h q hq => ?_) (fun _ _ _ e => e.elim)
  obtain ⟨k, C1, t1, rfl, rfl, hk8, Pm, wm, hm⟩ := hk _ _ _ hq
  refine w_p (pc1 := 222) (al1 := [(5, .int (nI (k))), (4, .int (nI (i))), (3, .ref 240), (2, .ref 176), (1, .ref 100), (0, .ref 0)]) rfl rfl ?_
  refine w_p (pc1 := 223) rfl rfl ?_
  refine w_p (pc1 := 224) rfl rfl ?_
  refine w_p (pc1 := 226) rfl rfl ?_
  refine w_p (pc1 := 227) (st1 := .int 1 :: _) rfl rfl ?_
  refine w_iadd (pc1 := 228) (u := nI (i)) (v := nI (1)) (z := nI (i + 1)) rfl (nK_add) rfl ?_
  refine w_m0 (pc1 := 229) rfl rfl (n_xs (e := i + 1) (by omega) hL) rfl ?_
  refine w_ji (pc1 := 232) (vs := [.ref 176, .int (xs (i + 1))]) (rest := []) (wm) rfl rfl rfl (fun _ _ => rfl) rfl (by exact cl_v my_287 rfl rfl rfl (Nat.le_of_ble_eq_true rfl) rfl (MH_obj rfl rfl) rfl (by decide) rfl rfl) (by rfl) (Nat.le_of_ble_eq_true rfl) (Nat.le_of_ble_eq_true rfl) rfl (fun v2 h2 q2 hq2 => ?_) (fun _ _ _ e => e.elim)
  obtain ⟨r, C2, t2, rfl, rfl, h0, hval, wz⟩ := hm _ _ _ hq2
  have w7 := m_187 (L := L) (xs := xs) (C := C2) (t := t2) (d := d) (sl := 0)
  rw [h0] at w7
  refine w_p (pc1 := 234) (al1 := [(6, .int (r)), (5, .int (nI (k))), (4, .int (nI (i))), (3, .ref 240), (2, .ref 176), (1, .ref 100), (0, .ref 0)]) rfl rfl ?_
  refine w_p (pc1 := 235) rfl rfl ?_
  refine w_je (pc1 := 238) (vs := [.ref 176]) (rest := []) (st1 := [.int (nI (k))]) (w7) rfl rfl rfl (fun _ _ => rfl) rfl (by exact cl_v my_187 rfl rfl rfl (Nat.le_of_ble_eq_true rfl) rfl (MH_obj rfl rfl) rfl (by decide) rfl rfl) (by rfl) (Nat.le_of_ble_eq_true rfl) (Nat.le_of_ble_eq_true rfl) rfl (by rfl) ?_
  refine w_p (pc1 := 240) rfl rfl ?_
  refine w_t (a := 245) (b := 243) (bN_eq_t (a := k) (b := k) (by omega) (by omega) (by rfl)) rfl rfl ?_
  refine w_p (pc1 := 247) rfl rfl ?_
  by_cases hk0 : k = 0
  · have hv := hval hk0
    refine w_f (a := 262) (b := 250) (bN_ne_f (a := k) (b := 0) (by omega) (by omega) (by omega)) rfl rfl ?_
    refine w_p (pc1 := 251) rfl rfl ?_
    refine w_p (pc1 := 252) (st1 := .int 0 :: _) rfl rfl ?_
    refine w_m0 (pc1 := 253) (st1 := .long (r.toInt64) :: _) rfl rfl (n_lle (e := 0) rfl rfl rfl (by decide) (hv)) rfl ?_
    refine w_p (pc1 := 255) rfl rfl ?_
    refine w_p (pc1 := 256) (st1 := .long (r.toInt64) :: _) rfl rfl ?_
    refine w_p (pc1 := 257) rfl rfl ?_
    refine w_t (a := 262) (b := 260) (lb_eq_t (by rfl)) rfl rfl ?_
    refine w_p (pc1 := 769) rfl rfl ?_
    refine Wd_al (al := [(4, .int (nI (i))), (3, .ref 240), (2, .ref 176), (1, .ref 100), (0, .ref 0)]) (sba_p [2, 3, 4, 5, 6] rfl rfl) ?_
    exact wz
  · skip
    refine w_t (a := 262) (b := 250) (bN_ne_t (a := k) (b := 0) (by omega) (by omega) (by omega)) rfl rfl ?_
    refine w_p (pc1 := 769) rfl rfl ?_
    refine Wd_al (al := [(4, .int (nI (i))), (3, .ref 240), (2, .ref 176), (1, .ref 100), (0, .ref 0)]) (sba_p [2, 3, 4, 5, 6] rfl rfl) ?_
    exact wz
set_option maxRecDepth 100000 in
theorem lw_3 {Pk : Option Value → ab_H → Nat → Prop} (hi : i + 4 ≤ L) (hL : L < 2147483648) (wk : Wd L xs d y_167 (0, [(0, .ref 100), (1, .int (xs (i + 1))), (2, .ref 240)], [], MH C t, 0) (Pk) nX) (hk : ∀ v h q, Pk v h q → ∃ k C1 t1, some (.int (nI k)) = v ∧ MH C1 t1 = h ∧ k < 8 ∧ ∃ Pm, Wd L xs d y_288 (0, [(0, .ref 176), (1, .int (xs (i + 1)))], [], MH C1 t1, 0) Pm nX ∧ ∀ v2 h2 q2, Pm v2 h2 q2 → ∃ (r : Int32) (C2 : co_T) (t2 : ab_H), some (.int r) = v2 ∧ MH C2 t2 = h2 ∧ C2.1 76 0 = nI k ∧ (k = 0 → C2.2.1 140 0 = r.toInt64) ∧ Wd L xs (d + 1) y_296 (769, al4 i, [], MH C2 t2, sl + q + q2) P X) : Wd L xs (d + 1) y_296 (265, al4 i, [], MH C t, sl) P X := by
  refine w_p (pc1 := 266) rfl rfl ?_
  refine w_p (pc1 := 267) rfl rfl ?_
  refine w_p (pc1 := 269) rfl rfl ?_
  refine w_p (pc1 := 270) (st1 := .int 1 :: _) rfl rfl ?_
  refine w_iadd (pc1 := 271) (u := nI (i)) (v := nI (1)) (z := nI (i + 1)) rfl (nK_add) rfl ?_
  refine w_m0 (pc1 := 272) rfl rfl (n_xs (e := i + 1) (by omega) hL) rfl ?_
  refine w_p (pc1 := 273) rfl rfl ?_
  refine w_ji (pc1 := 276) (vs := [.ref 100, .int (xs (i + 1)), .ref 240]) (rest := []) (wk) rfl rfl rfl (fun _ _ => rfl) rfl (by exact cl_s my_167 rfl rfl rfl (Nat.le_of_ble_eq_true rfl) rfl rfl) (by rfl) (Nat.le_of_ble_eq_true rfl) (Nat.le_of_ble_eq_true rfl) rfl (fun v h q hq => ?_) (fun _ _ _ e => e.elim)
  obtain ⟨k, C1, t1, rfl, rfl, hk8, Pm, wm, hm⟩ := hk _ _ _ hq
  refine w_p (pc1 := 278) (al1 := [(5, .int (nI (k))), (4, .int (nI (i))), (3, .ref 240), (2, .ref 176), (1, .ref 100), (0, .ref 0)]) rfl rfl ?_
  refine w_p (pc1 := 279) rfl rfl ?_
  refine w_p (pc1 := 280) rfl rfl ?_
  refine w_p (pc1 := 282) rfl rfl ?_
  refine w_p (pc1 := 283) (st1 := .int 1 :: _) rfl rfl ?_
  refine w_iadd (pc1 := 284) (u := nI (i)) (v := nI (1)) (z := nI (i + 1)) rfl (nK_add) rfl ?_
  refine w_m0 (pc1 := 285) rfl rfl (n_xs (e := i + 1) (by omega) hL) rfl ?_
  refine w_ji (pc1 := 288) (vs := [.ref 176, .int (xs (i + 1))]) (rest := []) (wm) rfl rfl rfl (fun _ _ => rfl) rfl (by exact cl_v my_288 rfl rfl rfl (Nat.le_of_ble_eq_true rfl) rfl (MH_obj rfl rfl) rfl (by decide) rfl rfl) (by rfl) (Nat.le_of_ble_eq_true rfl) (Nat.le_of_ble_eq_true rfl) rfl (fun v2 h2 q2 hq2 => ?_) (fun _ _ _ e => e.elim)
  obtain ⟨r, C2, t2, rfl, rfl, h0, hval, wz⟩ := hm _ _ _ hq2
  have w7 := m_187 (L := L) (xs := xs) (C := C2) (t := t2) (d := d) (sl := 0)
  rw [h0] at w7
  refine w_p (pc1 := 290) (al1 := [(6, .int (r)), (5, .int (nI (k))), (4, .int (nI (i))), (3, .ref 240), (2, .ref 176), (1, .ref 100), (0, .ref 0)]) rfl rfl ?_
  refine w_p (pc1 := 291) rfl rfl ?_
  refine w_je (pc1 := 294) (vs := [.ref 176]) (rest := []) (st1 := [.int (nI (k))]) (w7) rfl rfl rfl (fun _ _ => rfl) rfl (by exact cl_v my_187 rfl rfl rfl (Nat.le_of_ble_eq_true rfl) rfl (MH_obj rfl rfl) rfl (by decide) rfl rfl) (by rfl) (Nat.le_of_ble_eq_true rfl) (Nat.le_of_ble_eq_true rfl) rfl (by rfl) ?_
  refine w_p (pc1 := 296) rfl rfl ?_
  refine w_t (a := 301) (b := 299) (bN_eq_t (a := k) (b := k) (by omega) (by omega) (by rfl)) rfl rfl ?_
  refine w_p (pc1 := 303) rfl rfl ?_
  by_cases hk0 : k = 0
  · have hv := hval hk0
    refine w_f (a := 318) (b := 306) (bN_ne_f (a := k) (b := 0) (by omega) (by omega) (by omega)) rfl rfl ?_
    refine w_p (pc1 := 307) rfl rfl ?_
    refine w_p (pc1 := 308) (st1 := .int 0 :: _) rfl rfl ?_
    refine w_m0 (pc1 := 309) (st1 := .long (r.toInt64) :: _) rfl rfl (n_lle (e := 0) rfl rfl rfl (by decide) (hv)) rfl ?_
    refine w_p (pc1 := 311) rfl rfl ?_
    refine w_p (pc1 := 312) (st1 := .long (r.toInt64) :: _) rfl rfl ?_
    refine w_p (pc1 := 313) rfl rfl ?_
    refine w_t (a := 318) (b := 316) (lb_eq_t (by rfl)) rfl rfl ?_
    refine w_p (pc1 := 769) rfl rfl ?_
    refine Wd_al (al := [(4, .int (nI (i))), (3, .ref 240), (2, .ref 176), (1, .ref 100), (0, .ref 0)]) (sba_p [2, 3, 4, 5, 6] rfl rfl) ?_
    exact wz
  · skip
    refine w_t (a := 318) (b := 306) (bN_ne_t (a := k) (b := 0) (by omega) (by omega) (by omega)) rfl rfl ?_
    refine w_p (pc1 := 769) rfl rfl ?_
    refine Wd_al (al := [(4, .int (nI (i))), (3, .ref 240), (2, .ref 176), (1, .ref 100), (0, .ref 0)]) (sba_p [2, 3, 4, 5, 6] rfl rfl) ?_
    exact wz
set_option maxRecDepth 100000 in
theorem lw_4 {Pk : Int64 → Option Value → ab_H → Nat → Prop} (hi : i + 4 ≤ L) (hL : L < 2147483648) (wk : ∀ a : Int64, Wd L xs d y_172 (0, [(0, .ref 100), (1, .int (xs (i + 1))), (2, .long a), (4, .ref 240)], [], MH C t, 0) (Pk a) nX) (hk : ∀ (a : Int64), ∀ v h q, Pk a v h q → ∃ k C1 t1, some (.int (nI k)) = v ∧ MH C1 t1 = h ∧ k < 8 ∧ ∃ Pm, Wd L xs d y_289 (0, [(0, .ref 176), (1, .int (xs (i + 1))), (2, .long a)], [], MH C1 t1, 0) Pm nX ∧ ∀ v2 h2 q2, Pm v2 h2 q2 → ∃ (r : Int32) (C2 : co_T) (t2 : ab_H), some (.int r) = v2 ∧ MH C2 t2 = h2 ∧ C2.1 76 0 = nI k ∧ (k = 0 → C2.2.1 140 0 = r.toInt64) ∧ Wd L xs (d + 1) y_296 (769, al4 i, [], MH C2 t2, sl + q + q2) P X) : Wd L xs (d + 1) y_296 (321, al4 i, [], MH C t, sl) P X := by
  refine w_p (pc1 := 322) rfl rfl ?_
  refine w_p (pc1 := 323) rfl rfl ?_
  refine w_p (pc1 := 325) rfl rfl ?_
  refine w_p (pc1 := 326) (st1 := .int 1 :: _) rfl rfl ?_
  refine w_iadd (pc1 := 327) (u := nI (i)) (v := nI (1)) (z := nI (i + 1)) rfl (nK_add) rfl ?_
  refine w_m0 (pc1 := 328) rfl rfl (n_xs (e := i + 1) (by omega) hL) rfl ?_
  refine w_p (pc1 := 329) rfl rfl ?_
  refine w_p (pc1 := 331) rfl rfl ?_
  refine w_p (pc1 := 332) (st1 := .int 2 :: _) rfl rfl ?_
  refine w_iadd (pc1 := 333) (u := nI (i)) (v := nI (2)) (z := nI (i + 2)) rfl (nK_add) rfl ?_
  refine w_m0 (pc1 := 334) rfl rfl (n_xs (e := i + 2) (by omega) hL) rfl ?_
  refine w_p (pc1 := 335) (st1 := .long ((xs (i + 2)).toInt64) :: _) rfl rfl ?_
  refine w_p (pc1 := 337) (st1 := .int 32 :: _) rfl rfl ?_
  refine w_p (pc1 := 338) rfl rfl ?_
  refine w_p (pc1 := 339) rfl rfl ?_
  refine w_p (pc1 := 341) rfl rfl ?_
  refine w_p (pc1 := 342) (st1 := .int 3 :: _) rfl rfl ?_
  refine w_iadd (pc1 := 343) (u := nI (i)) (v := nI (3)) (z := nI (i + 3)) rfl (nK_add) rfl ?_
  refine w_m0 (pc1 := 344) rfl rfl (n_xs (e := i + 3) (by omega) hL) rfl ?_
  refine w_p (pc1 := 345) (st1 := .long ((xs (i + 3)).toInt64) :: _) rfl rfl ?_
  refine w_m0 (pc1 := 348) (st1 := .long 4294967295 :: _) rfl rfl rfl rfl ?_
  refine w_p (pc1 := 349) rfl rfl ?_
  refine w_p (pc1 := 350) rfl rfl ?_
  refine w_p (pc1 := 351) rfl rfl ?_
  refine w_ji (pc1 := 354) (vs := [.ref 100, .int (xs (i + 1)), _, .ref 240]) (rest := []) (wk _) rfl rfl rfl (fun _ _ => rfl) rfl (by exact cl_s my_172 rfl rfl rfl (Nat.le_of_ble_eq_true rfl) rfl rfl) (by rfl) (Nat.le_of_ble_eq_true rfl) (Nat.le_of_ble_eq_true rfl) rfl (fun v h q hq => ?_) (fun _ _ _ e => e.elim)
  obtain ⟨k, C1, t1, rfl, rfl, hk8, Pm, wm, hm⟩ := hk _ _ _ _ hq
  refine w_p (pc1 := 356) (al1 := [(5, .int (nI (k))), (4, .int (nI (i))), (3, .ref 240), (2, .ref 176), (1, .ref 100), (0, .ref 0)]) rfl rfl ?_
  refine w_p (pc1 := 357) rfl rfl ?_
  refine w_p (pc1 := 358) rfl rfl ?_
  refine w_p (pc1 := 360) rfl rfl ?_
  refine w_p (pc1 := 361) (st1 := .int 1 :: _) rfl rfl ?_
  refine w_iadd (pc1 := 362) (u := nI (i)) (v := nI (1)) (z := nI (i + 1)) rfl (nK_add) rfl ?_
  refine w_m0 (pc1 := 363) rfl rfl (n_xs (e := i + 1) (by omega) hL) rfl ?_
  refine w_p (pc1 := 364) rfl rfl ?_
  refine w_p (pc1 := 366) rfl rfl ?_
  refine w_p (pc1 := 367) (st1 := .int 2 :: _) rfl rfl ?_
  refine w_iadd (pc1 := 368) (u := nI (i)) (v := nI (2)) (z := nI (i + 2)) rfl (nK_add) rfl ?_
  refine w_m0 (pc1 := 369) rfl rfl (n_xs (e := i + 2) (by omega) hL) rfl ?_
  refine w_p (pc1 := 370) (st1 := .long ((xs (i + 2)).toInt64) :: _) rfl rfl ?_
  refine w_p (pc1 := 372) (st1 := .int 32 :: _) rfl rfl ?_
  refine w_p (pc1 := 373) rfl rfl ?_
  refine w_p (pc1 := 374) rfl rfl ?_
  refine w_p (pc1 := 376) rfl rfl ?_
  refine w_p (pc1 := 377) (st1 := .int 3 :: _) rfl rfl ?_
  refine w_iadd (pc1 := 378) (u := nI (i)) (v := nI (3)) (z := nI (i + 3)) rfl (nK_add) rfl ?_
  refine w_m0 (pc1 := 379) rfl rfl (n_xs (e := i + 3) (by omega) hL) rfl ?_
  refine w_p (pc1 := 380) (st1 := .long ((xs (i + 3)).toInt64) :: _) rfl rfl ?_
  refine w_m0 (pc1 := 383) (st1 := .long 4294967295 :: _) rfl rfl rfl rfl ?_
  refine w_p (pc1 := 384) rfl rfl ?_
  refine w_p (pc1 := 385) rfl rfl ?_
  refine w_ji (pc1 := 388) (vs := [.ref 176, .int (xs (i + 1)), _]) (rest := []) (wm) rfl rfl rfl (fun _ _ => rfl) rfl (by exact cl_v my_289 rfl rfl rfl (Nat.le_of_ble_eq_true rfl) rfl (MH_obj rfl rfl) rfl (by decide) rfl rfl) (by rfl) (Nat.le_of_ble_eq_true rfl) (Nat.le_of_ble_eq_true rfl) rfl (fun v2 h2 q2 hq2 => ?_) (fun _ _ _ e => e.elim)
  obtain ⟨r, C2, t2, rfl, rfl, h0, hval, wz⟩ := hm _ _ _ hq2
  have w7 := m_187 (L := L) (xs := xs) (C := C2) (t := t2) (d := d) (sl := 0)
  rw [h0] at w7
  refine w_p (pc1 := 390) (al1 := [(6, .int (r)), (5, .int (nI (k))), (4, .int (nI (i))), (3, .ref 240), (2, .ref 176), (1, .ref 100), (0, .ref 0)]) rfl rfl ?_
  refine w_p (pc1 := 391) rfl rfl ?_
  refine w_je (pc1 := 394) (vs := [.ref 176]) (rest := []) (st1 := [.int (nI (k))]) (w7) rfl rfl rfl (fun _ _ => rfl) rfl (by exact cl_v my_187 rfl rfl rfl (Nat.le_of_ble_eq_true rfl) rfl (MH_obj rfl rfl) rfl (by decide) rfl rfl) (by rfl) (Nat.le_of_ble_eq_true rfl) (Nat.le_of_ble_eq_true rfl) rfl (by rfl) ?_
  refine w_p (pc1 := 396) rfl rfl ?_
  refine w_t (a := 401) (b := 399) (bN_eq_t (a := k) (b := k) (by omega) (by omega) (by rfl)) rfl rfl ?_
  refine w_p (pc1 := 403) rfl rfl ?_
  by_cases hk0 : k = 0
  · have hv := hval hk0
    refine w_f (a := 418) (b := 406) (bN_ne_f (a := k) (b := 0) (by omega) (by omega) (by omega)) rfl rfl ?_
    refine w_p (pc1 := 407) rfl rfl ?_
    refine w_p (pc1 := 408) (st1 := .int 0 :: _) rfl rfl ?_
    refine w_m0 (pc1 := 409) (st1 := .long (r.toInt64) :: _) rfl rfl (n_lle (e := 0) rfl rfl rfl (by decide) (hv)) rfl ?_
    refine w_p (pc1 := 411) rfl rfl ?_
    refine w_p (pc1 := 412) (st1 := .long (r.toInt64) :: _) rfl rfl ?_
    refine w_p (pc1 := 413) rfl rfl ?_
    refine w_t (a := 418) (b := 416) (lb_eq_t (by rfl)) rfl rfl ?_
    refine w_p (pc1 := 769) rfl rfl ?_
    refine Wd_al (al := [(4, .int (nI (i))), (3, .ref 240), (2, .ref 176), (1, .ref 100), (0, .ref 0)]) (sba_p [2, 3, 4, 5, 6] rfl rfl) ?_
    exact wz
  · skip
    refine w_t (a := 418) (b := 406) (bN_ne_t (a := k) (b := 0) (by omega) (by omega) (by omega)) rfl rfl ?_
    refine w_p (pc1 := 769) rfl rfl ?_
    refine Wd_al (al := [(4, .int (nI (i))), (3, .ref 240), (2, .ref 176), (1, .ref 100), (0, .ref 0)]) (sba_p [2, 3, 4, 5, 6] rfl rfl) ?_
    exact wz
set_option maxRecDepth 100000 in
theorem lw_5 {Pk : Option Value → ab_H → Nat → Prop} (hi : i + 4 ≤ L) (hL : L < 2147483648) (wk : Wd L xs d y_174 (0, [(0, .ref 100), (1, .int (xs (i + 1))), (2, .int (xs (i + 2))), (3, .ref 240)], [], MH C t, 0) (Pk) nX) (hk : ∀ v h q, Pk v h q → ∃ k C1 t1, some (.int (nI k)) = v ∧ MH C1 t1 = h ∧ k < 8 ∧ ∃ Pm, Wd L xs d y_290 (0, [(0, .ref 176), (1, .int (xs (i + 1))), (2, .int (xs (i + 2)))], [], MH C1 t1, 0) Pm nX ∧ ∀ v2 h2 q2, Pm v2 h2 q2 → ∃ (r : Int64) (C2 : co_T) (t2 : ab_H), some (.long r) = v2 ∧ MH C2 t2 = h2 ∧ C2.1 76 0 = nI k ∧ (k = 0 → C2.2.1 140 0 = r) ∧ Wd L xs (d + 1) y_296 (769, al4 i, [], MH C2 t2, sl + q + q2) P X) : Wd L xs (d + 1) y_296 (421, al4 i, [], MH C t, sl) P X := by
  refine w_p (pc1 := 422) rfl rfl ?_
  refine w_p (pc1 := 423) rfl rfl ?_
  refine w_p (pc1 := 425) rfl rfl ?_
  refine w_p (pc1 := 426) (st1 := .int 1 :: _) rfl rfl ?_
  refine w_iadd (pc1 := 427) (u := nI (i)) (v := nI (1)) (z := nI (i + 1)) rfl (nK_add) rfl ?_
  refine w_m0 (pc1 := 428) rfl rfl (n_xs (e := i + 1) (by omega) hL) rfl ?_
  refine w_p (pc1 := 429) rfl rfl ?_
  refine w_p (pc1 := 431) rfl rfl ?_
  refine w_p (pc1 := 432) (st1 := .int 2 :: _) rfl rfl ?_
  refine w_iadd (pc1 := 433) (u := nI (i)) (v := nI (2)) (z := nI (i + 2)) rfl (nK_add) rfl ?_
  refine w_m0 (pc1 := 434) rfl rfl (n_xs (e := i + 2) (by omega) hL) rfl ?_
  refine w_p (pc1 := 435) rfl rfl ?_
  refine w_ji (pc1 := 438) (vs := [.ref 100, .int (xs (i + 1)), .int (xs (i + 2)), .ref 240]) (rest := []) (wk) rfl rfl rfl (fun _ _ => rfl) rfl (by exact cl_s my_174 rfl rfl rfl (Nat.le_of_ble_eq_true rfl) rfl rfl) (by rfl) (Nat.le_of_ble_eq_true rfl) (Nat.le_of_ble_eq_true rfl) rfl (fun v h q hq => ?_) (fun _ _ _ e => e.elim)
  obtain ⟨k, C1, t1, rfl, rfl, hk8, Pm, wm, hm⟩ := hk _ _ _ hq
  refine w_p (pc1 := 440) (al1 := [(5, .int (nI (k))), (4, .int (nI (i))), (3, .ref 240), (2, .ref 176), (1, .ref 100), (0, .ref 0)]) rfl rfl ?_
  refine w_p (pc1 := 441) rfl rfl ?_
  refine w_p (pc1 := 442) rfl rfl ?_
  refine w_p (pc1 := 444) rfl rfl ?_
  refine w_p (pc1 := 445) (st1 := .int 1 :: _) rfl rfl ?_
  refine w_iadd (pc1 := 446) (u := nI (i)) (v := nI (1)) (z := nI (i + 1)) rfl (nK_add) rfl ?_
  refine w_m0 (pc1 := 447) rfl rfl (n_xs (e := i + 1) (by omega) hL) rfl ?_
  refine w_p (pc1 := 448) rfl rfl ?_
  refine w_p (pc1 := 450) rfl rfl ?_
  refine w_p (pc1 := 451) (st1 := .int 2 :: _) rfl rfl ?_
  refine w_iadd (pc1 := 452) (u := nI (i)) (v := nI (2)) (z := nI (i + 2)) rfl (nK_add) rfl ?_
  refine w_m0 (pc1 := 453) rfl rfl (n_xs (e := i + 2) (by omega) hL) rfl ?_
  refine w_ji (pc1 := 456) (vs := [.ref 176, .int (xs (i + 1)), .int (xs (i + 2))]) (rest := []) (wm) rfl rfl rfl (fun _ _ => rfl) rfl (by exact cl_v my_290 rfl rfl rfl (Nat.le_of_ble_eq_true rfl) rfl (MH_obj rfl rfl) rfl (by decide) rfl rfl) (by rfl) (Nat.le_of_ble_eq_true rfl) (Nat.le_of_ble_eq_true rfl) rfl (fun v2 h2 q2 hq2 => ?_) (fun _ _ _ e => e.elim)
  obtain ⟨r, C2, t2, rfl, rfl, h0, hval, wz⟩ := hm _ _ _ hq2
  have w7 := m_187 (L := L) (xs := xs) (C := C2) (t := t2) (d := d) (sl := 0)
  rw [h0] at w7
  refine w_p (pc1 := 458) (al1 := [(6, .long (r)), (5, .int (nI (k))), (4, .int (nI (i))), (3, .ref 240), (2, .ref 176), (1, .ref 100), (0, .ref 0)]) rfl rfl ?_
  refine w_p (pc1 := 459) rfl rfl ?_
  refine w_je (pc1 := 462) (vs := [.ref 176]) (rest := []) (st1 := [.int (nI (k))]) (w7) rfl rfl rfl (fun _ _ => rfl) rfl (by exact cl_v my_187 rfl rfl rfl (Nat.le_of_ble_eq_true rfl) rfl (MH_obj rfl rfl) rfl (by decide) rfl rfl) (by rfl) (Nat.le_of_ble_eq_true rfl) (Nat.le_of_ble_eq_true rfl) rfl (by rfl) ?_
  refine w_p (pc1 := 464) rfl rfl ?_
  refine w_t (a := 469) (b := 467) (bN_eq_t (a := k) (b := k) (by omega) (by omega) (by rfl)) rfl rfl ?_
  refine w_p (pc1 := 471) rfl rfl ?_
  by_cases hk0 : k = 0
  · have hv := hval hk0
    refine w_f (a := 485) (b := 474) (bN_ne_f (a := k) (b := 0) (by omega) (by omega) (by omega)) rfl rfl ?_
    refine w_p (pc1 := 475) rfl rfl ?_
    refine w_p (pc1 := 476) (st1 := .int 0 :: _) rfl rfl ?_
    refine w_m0 (pc1 := 477) (st1 := .long (r) :: _) rfl rfl (n_lle (e := 0) rfl rfl rfl (by decide) (hv)) rfl ?_
    refine w_p (pc1 := 479) rfl rfl ?_
    refine w_p (pc1 := 480) rfl rfl ?_
    refine w_t (a := 485) (b := 483) (lb_eq_t (by rfl)) rfl rfl ?_
    refine w_p (pc1 := 769) rfl rfl ?_
    refine Wd_al (al := [(4, .int (nI (i))), (3, .ref 240), (2, .ref 176), (1, .ref 100), (0, .ref 0)]) (sba_p [2, 3, 4, 5, 6] rfl rfl) ?_
    exact wz
  · skip
    refine w_t (a := 485) (b := 474) (bN_ne_t (a := k) (b := 0) (by omega) (by omega) (by omega)) rfl rfl ?_
    refine w_p (pc1 := 769) rfl rfl ?_
    refine Wd_al (al := [(4, .int (nI (i))), (3, .ref 240), (2, .ref 176), (1, .ref 100), (0, .ref 0)]) (sba_p [2, 3, 4, 5, 6] rfl rfl) ?_
    exact wz
set_option maxRecDepth 100000 in
theorem lw_6 {Pk : Option Value → ab_H → Nat → Prop} (hi : i + 4 ≤ L) (hL : L < 2147483648) (wk : Wd L xs d y_176 (0, [(0, .ref 100), (1, .int (xs (i + 1))), (2, .int (xs (i + 2))), (3, .int (xs (i + 3))), (4, .ref 240)], [], MH C t, 0) (Pk) nX) (hk : ∀ v h q, Pk v h q → ∃ k C1 t1, some (.int (nI k)) = v ∧ MH C1 t1 = h ∧ k < 8 ∧ ∃ Pm, Wd L xs d y_291 (0, [(0, .ref 176), (1, .int (xs (i + 1))), (2, .int (xs (i + 2))), (3, .int (xs (i + 3)))], [], MH C1 t1, 0) Pm nX ∧ ∀ v2 h2 q2, Pm v2 h2 q2 → ∃ (r : Int64) (C2 : co_T) (t2 : ab_H), some (.long r) = v2 ∧ MH C2 t2 = h2 ∧ C2.1 76 0 = nI k ∧ (k = 0 → C2.2.1 140 0 = r) ∧ Wd L xs (d + 1) y_296 (769, al4 i, [], MH C2 t2, sl + q + q2) P X) : Wd L xs (d + 1) y_296 (488, al4 i, [], MH C t, sl) P X := by
  refine w_p (pc1 := 489) rfl rfl ?_
  refine w_p (pc1 := 490) rfl rfl ?_
  refine w_p (pc1 := 492) rfl rfl ?_
  refine w_p (pc1 := 493) (st1 := .int 1 :: _) rfl rfl ?_
  refine w_iadd (pc1 := 494) (u := nI (i)) (v := nI (1)) (z := nI (i + 1)) rfl (nK_add) rfl ?_
  refine w_m0 (pc1 := 495) rfl rfl (n_xs (e := i + 1) (by omega) hL) rfl ?_
  refine w_p (pc1 := 496) rfl rfl ?_
  refine w_p (pc1 := 498) rfl rfl ?_
  refine w_p (pc1 := 499) (st1 := .int 2 :: _) rfl rfl ?_
  refine w_iadd (pc1 := 500) (u := nI (i)) (v := nI (2)) (z := nI (i + 2)) rfl (nK_add) rfl ?_
  refine w_m0 (pc1 := 501) rfl rfl (n_xs (e := i + 2) (by omega) hL) rfl ?_
  refine w_p (pc1 := 502) rfl rfl ?_
  refine w_p (pc1 := 504) rfl rfl ?_
  refine w_p (pc1 := 505) (st1 := .int 3 :: _) rfl rfl ?_
  refine w_iadd (pc1 := 506) (u := nI (i)) (v := nI (3)) (z := nI (i + 3)) rfl (nK_add) rfl ?_
  refine w_m0 (pc1 := 507) rfl rfl (n_xs (e := i + 3) (by omega) hL) rfl ?_
  refine w_p (pc1 := 508) rfl rfl ?_
  refine w_ji (pc1 := 511) (vs := [.ref 100, .int (xs (i + 1)), .int (xs (i + 2)), .int (xs (i + 3)), .ref 240]) (rest := []) (wk) rfl rfl rfl (fun _ _ => rfl) rfl (by exact cl_s my_176 rfl rfl rfl (Nat.le_of_ble_eq_true rfl) rfl rfl) (by rfl) (Nat.le_of_ble_eq_true rfl) (Nat.le_of_ble_eq_true rfl) rfl (fun v h q hq => ?_) (fun _ _ _ e => e.elim)
  obtain ⟨k, C1, t1, rfl, rfl, hk8, Pm, wm, hm⟩ := hk _ _ _ hq
  refine w_p (pc1 := 513) (al1 := [(5, .int (nI (k))), (4, .int (nI (i))), (3, .ref 240), (2, .ref 176), (1, .ref 100), (0, .ref 0)]) rfl rfl ?_
  refine w_p (pc1 := 514) rfl rfl ?_
  refine w_p (pc1 := 515) rfl rfl ?_
  refine w_p (pc1 := 517) rfl rfl ?_
  refine w_p (pc1 := 518) (st1 := .int 1 :: _) rfl rfl ?_
  refine w_iadd (pc1 := 519) (u := nI (i)) (v := nI (1)) (z := nI (i + 1)) rfl (nK_add) rfl ?_
  refine w_m0 (pc1 := 520) rfl rfl (n_xs (e := i + 1) (by omega) hL) rfl ?_
  refine w_p (pc1 := 521) rfl rfl ?_
  refine w_p (pc1 := 523) rfl rfl ?_
  refine w_p (pc1 := 524) (st1 := .int 2 :: _) rfl rfl ?_
  refine w_iadd (pc1 := 525) (u := nI (i)) (v := nI (2)) (z := nI (i + 2)) rfl (nK_add) rfl ?_
  refine w_m0 (pc1 := 526) rfl rfl (n_xs (e := i + 2) (by omega) hL) rfl ?_
  refine w_p (pc1 := 527) rfl rfl ?_
  refine w_p (pc1 := 529) rfl rfl ?_
  refine w_p (pc1 := 530) (st1 := .int 3 :: _) rfl rfl ?_
  refine w_iadd (pc1 := 531) (u := nI (i)) (v := nI (3)) (z := nI (i + 3)) rfl (nK_add) rfl ?_
  refine w_m0 (pc1 := 532) rfl rfl (n_xs (e := i + 3) (by omega) hL) rfl ?_
  refine w_ji (pc1 := 535) (vs := [.ref 176, .int (xs (i + 1)), .int (xs (i + 2)), .int (xs (i + 3))]) (rest := []) (wm) rfl rfl rfl (fun _ _ => rfl) rfl (by exact cl_v my_291 rfl rfl rfl (Nat.le_of_ble_eq_true rfl) rfl (MH_obj rfl rfl) rfl (by decide) rfl rfl) (by rfl) (Nat.le_of_ble_eq_true rfl) (Nat.le_of_ble_eq_true rfl) rfl (fun v2 h2 q2 hq2 => ?_) (fun _ _ _ e => e.elim)
  obtain ⟨r, C2, t2, rfl, rfl, h0, hval, wz⟩ := hm _ _ _ hq2
  have w7 := m_187 (L := L) (xs := xs) (C := C2) (t := t2) (d := d) (sl := 0)
  rw [h0] at w7
  refine w_p (pc1 := 537) (al1 := [(6, .long (r)), (5, .int (nI (k))), (4, .int (nI (i))), (3, .ref 240), (2, .ref 176), (1, .ref 100), (0, .ref 0)]) rfl rfl ?_
  refine w_p (pc1 := 538) rfl rfl ?_
  refine w_je (pc1 := 541) (vs := [.ref 176]) (rest := []) (st1 := [.int (nI (k))]) (w7) rfl rfl rfl (fun _ _ => rfl) rfl (by exact cl_v my_187 rfl rfl rfl (Nat.le_of_ble_eq_true rfl) rfl (MH_obj rfl rfl) rfl (by decide) rfl rfl) (by rfl) (Nat.le_of_ble_eq_true rfl) (Nat.le_of_ble_eq_true rfl) rfl (by rfl) ?_
  refine w_p (pc1 := 543) rfl rfl ?_
  refine w_t (a := 548) (b := 546) (bN_eq_t (a := k) (b := k) (by omega) (by omega) (by rfl)) rfl rfl ?_
  refine w_p (pc1 := 550) rfl rfl ?_
  by_cases hk0 : k = 0
  · have hv := hval hk0
    refine w_f (a := 564) (b := 553) (bN_ne_f (a := k) (b := 0) (by omega) (by omega) (by omega)) rfl rfl ?_
    refine w_p (pc1 := 554) rfl rfl ?_
    refine w_p (pc1 := 555) (st1 := .int 0 :: _) rfl rfl ?_
    refine w_m0 (pc1 := 556) (st1 := .long (r) :: _) rfl rfl (n_lle (e := 0) rfl rfl rfl (by decide) (hv)) rfl ?_
    refine w_p (pc1 := 558) rfl rfl ?_
    refine w_p (pc1 := 559) rfl rfl ?_
    refine w_t (a := 564) (b := 562) (lb_eq_t (by rfl)) rfl rfl ?_
    refine w_p (pc1 := 769) rfl rfl ?_
    refine Wd_al (al := [(4, .int (nI (i))), (3, .ref 240), (2, .ref 176), (1, .ref 100), (0, .ref 0)]) (sba_p [2, 3, 4, 5, 6] rfl rfl) ?_
    exact wz
  · skip
    refine w_t (a := 564) (b := 553) (bN_ne_t (a := k) (b := 0) (by omega) (by omega) (by omega)) rfl rfl ?_
    refine w_p (pc1 := 769) rfl rfl ?_
    refine Wd_al (al := [(4, .int (nI (i))), (3, .ref 240), (2, .ref 176), (1, .ref 100), (0, .ref 0)]) (sba_p [2, 3, 4, 5, 6] rfl rfl) ?_
    exact wz
set_option maxRecDepth 100000 in
theorem lw_7 {Pk : Option Value → ab_H → Nat → Prop} (hi : i + 4 ≤ L) (hL : L < 2147483648) (wk : Wd L xs d y_178 (0, [(0, .ref 100), (1, .int (xs (i + 1))), (2, .int (xs (i + 2))), (3, .ref 240)], [], MH C t, 0) (Pk) nX) (hk : ∀ v h q, Pk v h q → ∃ k C1 t1, some (.int (nI k)) = v ∧ MH C1 t1 = h ∧ k < 8 ∧ ∃ Pm, Wd L xs d y_292 (0, [(0, .ref 176), (1, .int (xs (i + 1))), (2, .int (xs (i + 2)))], [], MH C1 t1, 0) Pm nX ∧ ∀ v2 h2 q2, Pm v2 h2 q2 → ∃ (r : Int32) (C2 : co_T) (t2 : ab_H), some (.int r) = v2 ∧ MH C2 t2 = h2 ∧ C2.1 76 0 = nI k ∧ (k = 0 → C2.2.1 140 0 = r.toInt64) ∧ Wd L xs (d + 1) y_296 (769, al4 i, [], MH C2 t2, sl + q + q2) P X) : Wd L xs (d + 1) y_296 (567, al4 i, [], MH C t, sl) P X := by
  refine w_p (pc1 := 568) rfl rfl ?_
  refine w_p (pc1 := 569) rfl rfl ?_
  refine w_p (pc1 := 571) rfl rfl ?_
  refine w_p (pc1 := 572) (st1 := .int 1 :: _) rfl rfl ?_
  refine w_iadd (pc1 := 573) (u := nI (i)) (v := nI (1)) (z := nI (i + 1)) rfl (nK_add) rfl ?_
  refine w_m0 (pc1 := 574) rfl rfl (n_xs (e := i + 1) (by omega) hL) rfl ?_
  refine w_p (pc1 := 575) rfl rfl ?_
  refine w_p (pc1 := 577) rfl rfl ?_
  refine w_p (pc1 := 578) (st1 := .int 2 :: _) rfl rfl ?_
  refine w_iadd (pc1 := 579) (u := nI (i)) (v := nI (2)) (z := nI (i + 2)) rfl (nK_add) rfl ?_
  refine w_m0 (pc1 := 580) rfl rfl (n_xs (e := i + 2) (by omega) hL) rfl ?_
  refine w_p (pc1 := 581) rfl rfl ?_
  refine w_ji (pc1 := 584) (vs := [.ref 100, .int (xs (i + 1)), .int (xs (i + 2)), .ref 240]) (rest := []) (wk) rfl rfl rfl (fun _ _ => rfl) rfl (by exact cl_s my_178 rfl rfl rfl (Nat.le_of_ble_eq_true rfl) rfl rfl) (by rfl) (Nat.le_of_ble_eq_true rfl) (Nat.le_of_ble_eq_true rfl) rfl (fun v h q hq => ?_) (fun _ _ _ e => e.elim)
  obtain ⟨k, C1, t1, rfl, rfl, hk8, Pm, wm, hm⟩ := hk _ _ _ hq
  refine w_p (pc1 := 586) (al1 := [(5, .int (nI (k))), (4, .int (nI (i))), (3, .ref 240), (2, .ref 176), (1, .ref 100), (0, .ref 0)]) rfl rfl ?_
  refine w_p (pc1 := 587) rfl rfl ?_
  refine w_p (pc1 := 588) rfl rfl ?_
  refine w_p (pc1 := 590) rfl rfl ?_
  refine w_p (pc1 := 591) (st1 := .int 1 :: _) rfl rfl ?_
  refine w_iadd (pc1 := 592) (u := nI (i)) (v := nI (1)) (z := nI (i + 1)) rfl (nK_add) rfl ?_
  refine w_m0 (pc1 := 593) rfl rfl (n_xs (e := i + 1) (by omega) hL) rfl ?_
  refine w_p (pc1 := 594) rfl rfl ?_
  refine w_p (pc1 := 596) rfl rfl ?_
  refine w_p (pc1 := 597) (st1 := .int 2 :: _) rfl rfl ?_
  refine w_iadd (pc1 := 598) (u := nI (i)) (v := nI (2)) (z := nI (i + 2)) rfl (nK_add) rfl ?_
  refine w_m0 (pc1 := 599) rfl rfl (n_xs (e := i + 2) (by omega) hL) rfl ?_
  refine w_ji (pc1 := 602) (vs := [.ref 176, .int (xs (i + 1)), .int (xs (i + 2))]) (rest := []) (wm) rfl rfl rfl (fun _ _ => rfl) rfl (by exact cl_v my_292 rfl rfl rfl (Nat.le_of_ble_eq_true rfl) rfl (MH_obj rfl rfl) rfl (by decide) rfl rfl) (by rfl) (Nat.le_of_ble_eq_true rfl) (Nat.le_of_ble_eq_true rfl) rfl (fun v2 h2 q2 hq2 => ?_) (fun _ _ _ e => e.elim)
  obtain ⟨r, C2, t2, rfl, rfl, h0, hval, wz⟩ := hm _ _ _ hq2
  have w7 := m_187 (L := L) (xs := xs) (C := C2) (t := t2) (d := d) (sl := 0)
  rw [h0] at w7
  refine w_p (pc1 := 604) (al1 := [(6, .int (r)), (5, .int (nI (k))), (4, .int (nI (i))), (3, .ref 240), (2, .ref 176), (1, .ref 100), (0, .ref 0)]) rfl rfl ?_
  refine w_p (pc1 := 605) rfl rfl ?_
  refine w_je (pc1 := 608) (vs := [.ref 176]) (rest := []) (st1 := [.int (nI (k))]) (w7) rfl rfl rfl (fun _ _ => rfl) rfl (by exact cl_v my_187 rfl rfl rfl (Nat.le_of_ble_eq_true rfl) rfl (MH_obj rfl rfl) rfl (by decide) rfl rfl) (by rfl) (Nat.le_of_ble_eq_true rfl) (Nat.le_of_ble_eq_true rfl) rfl (by rfl) ?_
  refine w_p (pc1 := 610) rfl rfl ?_
  refine w_t (a := 615) (b := 613) (bN_eq_t (a := k) (b := k) (by omega) (by omega) (by rfl)) rfl rfl ?_
  refine w_p (pc1 := 617) rfl rfl ?_
  by_cases hk0 : k = 0
  · have hv := hval hk0
    refine w_f (a := 632) (b := 620) (bN_ne_f (a := k) (b := 0) (by omega) (by omega) (by omega)) rfl rfl ?_
    refine w_p (pc1 := 621) rfl rfl ?_
    refine w_p (pc1 := 622) (st1 := .int 0 :: _) rfl rfl ?_
    refine w_m0 (pc1 := 623) (st1 := .long (r.toInt64) :: _) rfl rfl (n_lle (e := 0) rfl rfl rfl (by decide) (hv)) rfl ?_
    refine w_p (pc1 := 625) rfl rfl ?_
    refine w_p (pc1 := 626) (st1 := .long (r.toInt64) :: _) rfl rfl ?_
    refine w_p (pc1 := 627) rfl rfl ?_
    refine w_t (a := 632) (b := 630) (lb_eq_t (by rfl)) rfl rfl ?_
    refine w_p (pc1 := 769) rfl rfl ?_
    refine Wd_al (al := [(4, .int (nI (i))), (3, .ref 240), (2, .ref 176), (1, .ref 100), (0, .ref 0)]) (sba_p [2, 3, 4, 5, 6] rfl rfl) ?_
    exact wz
  · skip
    refine w_t (a := 632) (b := 620) (bN_ne_t (a := k) (b := 0) (by omega) (by omega) (by omega)) rfl rfl ?_
    refine w_p (pc1 := 769) rfl rfl ?_
    refine Wd_al (al := [(4, .int (nI (i))), (3, .ref 240), (2, .ref 176), (1, .ref 100), (0, .ref 0)]) (sba_p [2, 3, 4, 5, 6] rfl rfl) ?_
    exact wz
set_option maxRecDepth 100000 in
theorem lw_8 {Pk : Option Value → ab_H → Nat → Prop} (hi : i + 4 ≤ L) (hL : L < 2147483648) (wk : Wd L xs d y_181 (0, [(0, .ref 100), (1, .int (xs (i + 1))), (2, .int (xs (i + 2))), (3, .ref 240)], [], MH C t, 0) (Pk) nX) (hk : ∀ v h q, Pk v h q → ∃ k C1 t1, some (.int (nI k)) = v ∧ MH C1 t1 = h ∧ k < 8 ∧ ∃ Pm, Wd L xs d y_293 (0, [(0, .ref 176), (1, .int (xs (i + 1))), (2, .int (xs (i + 2)))], [], MH C1 t1, 0) Pm nX ∧ ∀ v2 h2 q2, Pm v2 h2 q2 → ∃ (r : Int64) (C2 : co_T) (t2 : ab_H), some (.long r) = v2 ∧ MH C2 t2 = h2 ∧ C2.1 76 0 = nI k ∧ (k = 0 → C2.2.1 140 0 = r) ∧ Wd L xs (d + 1) y_296 (769, al4 i, [], MH C2 t2, sl + q + q2) P X) : Wd L xs (d + 1) y_296 (635, al4 i, [], MH C t, sl) P X := by
  refine w_p (pc1 := 636) rfl rfl ?_
  refine w_p (pc1 := 637) rfl rfl ?_
  refine w_p (pc1 := 639) rfl rfl ?_
  refine w_p (pc1 := 640) (st1 := .int 1 :: _) rfl rfl ?_
  refine w_iadd (pc1 := 641) (u := nI (i)) (v := nI (1)) (z := nI (i + 1)) rfl (nK_add) rfl ?_
  refine w_m0 (pc1 := 642) rfl rfl (n_xs (e := i + 1) (by omega) hL) rfl ?_
  refine w_p (pc1 := 643) rfl rfl ?_
  refine w_p (pc1 := 645) rfl rfl ?_
  refine w_p (pc1 := 646) (st1 := .int 2 :: _) rfl rfl ?_
  refine w_iadd (pc1 := 647) (u := nI (i)) (v := nI (2)) (z := nI (i + 2)) rfl (nK_add) rfl ?_
  refine w_m0 (pc1 := 648) rfl rfl (n_xs (e := i + 2) (by omega) hL) rfl ?_
  refine w_p (pc1 := 649) rfl rfl ?_
  refine w_ji (pc1 := 652) (vs := [.ref 100, .int (xs (i + 1)), .int (xs (i + 2)), .ref 240]) (rest := []) (wk) rfl rfl rfl (fun _ _ => rfl) rfl (by exact cl_s my_181 rfl rfl rfl (Nat.le_of_ble_eq_true rfl) rfl rfl) (by rfl) (Nat.le_of_ble_eq_true rfl) (Nat.le_of_ble_eq_true rfl) rfl (fun v h q hq => ?_) (fun _ _ _ e => e.elim)
  obtain ⟨k, C1, t1, rfl, rfl, hk8, Pm, wm, hm⟩ := hk _ _ _ hq
  refine w_p (pc1 := 654) (al1 := [(5, .int (nI (k))), (4, .int (nI (i))), (3, .ref 240), (2, .ref 176), (1, .ref 100), (0, .ref 0)]) rfl rfl ?_
  refine w_p (pc1 := 655) rfl rfl ?_
  refine w_p (pc1 := 656) rfl rfl ?_
  refine w_p (pc1 := 658) rfl rfl ?_
  refine w_p (pc1 := 659) (st1 := .int 1 :: _) rfl rfl ?_
  refine w_iadd (pc1 := 660) (u := nI (i)) (v := nI (1)) (z := nI (i + 1)) rfl (nK_add) rfl ?_
  refine w_m0 (pc1 := 661) rfl rfl (n_xs (e := i + 1) (by omega) hL) rfl ?_
  refine w_p (pc1 := 662) rfl rfl ?_
  refine w_p (pc1 := 664) rfl rfl ?_
  refine w_p (pc1 := 665) (st1 := .int 2 :: _) rfl rfl ?_
  refine w_iadd (pc1 := 666) (u := nI (i)) (v := nI (2)) (z := nI (i + 2)) rfl (nK_add) rfl ?_
  refine w_m0 (pc1 := 667) rfl rfl (n_xs (e := i + 2) (by omega) hL) rfl ?_
  refine w_ji (pc1 := 670) (vs := [.ref 176, .int (xs (i + 1)), .int (xs (i + 2))]) (rest := []) (wm) rfl rfl rfl (fun _ _ => rfl) rfl (by exact cl_v my_293 rfl rfl rfl (Nat.le_of_ble_eq_true rfl) rfl (MH_obj rfl rfl) rfl (by decide) rfl rfl) (by rfl) (Nat.le_of_ble_eq_true rfl) (Nat.le_of_ble_eq_true rfl) rfl (fun v2 h2 q2 hq2 => ?_) (fun _ _ _ e => e.elim)
  obtain ⟨r, C2, t2, rfl, rfl, h0, hval, wz⟩ := hm _ _ _ hq2
  have w7 := m_187 (L := L) (xs := xs) (C := C2) (t := t2) (d := d) (sl := 0)
  rw [h0] at w7
  refine w_p (pc1 := 672) (al1 := [(6, .long (r)), (5, .int (nI (k))), (4, .int (nI (i))), (3, .ref 240), (2, .ref 176), (1, .ref 100), (0, .ref 0)]) rfl rfl ?_
  refine w_p (pc1 := 673) rfl rfl ?_
  refine w_je (pc1 := 676) (vs := [.ref 176]) (rest := []) (st1 := [.int (nI (k))]) (w7) rfl rfl rfl (fun _ _ => rfl) rfl (by exact cl_v my_187 rfl rfl rfl (Nat.le_of_ble_eq_true rfl) rfl (MH_obj rfl rfl) rfl (by decide) rfl rfl) (by rfl) (Nat.le_of_ble_eq_true rfl) (Nat.le_of_ble_eq_true rfl) rfl (by rfl) ?_
  refine w_p (pc1 := 678) rfl rfl ?_
  refine w_t (a := 683) (b := 681) (bN_eq_t (a := k) (b := k) (by omega) (by omega) (by rfl)) rfl rfl ?_
  refine w_p (pc1 := 685) rfl rfl ?_
  by_cases hk0 : k = 0
  · have hv := hval hk0
    refine w_f (a := 699) (b := 688) (bN_ne_f (a := k) (b := 0) (by omega) (by omega) (by omega)) rfl rfl ?_
    refine w_p (pc1 := 689) rfl rfl ?_
    refine w_p (pc1 := 690) (st1 := .int 0 :: _) rfl rfl ?_
    refine w_m0 (pc1 := 691) (st1 := .long (r) :: _) rfl rfl (n_lle (e := 0) rfl rfl rfl (by decide) (hv)) rfl ?_
    refine w_p (pc1 := 693) rfl rfl ?_
    refine w_p (pc1 := 694) rfl rfl ?_
    refine w_t (a := 699) (b := 697) (lb_eq_t (by rfl)) rfl rfl ?_
    refine w_p (pc1 := 769) rfl rfl ?_
    refine Wd_al (al := [(4, .int (nI (i))), (3, .ref 240), (2, .ref 176), (1, .ref 100), (0, .ref 0)]) (sba_p [2, 3, 4, 5, 6] rfl rfl) ?_
    exact wz
  · skip
    refine w_t (a := 699) (b := 688) (bN_ne_t (a := k) (b := 0) (by omega) (by omega) (by omega)) rfl rfl ?_
    refine w_p (pc1 := 769) rfl rfl ?_
    refine Wd_al (al := [(4, .int (nI (i))), (3, .ref 240), (2, .ref 176), (1, .ref 100), (0, .ref 0)]) (sba_p [2, 3, 4, 5, 6] rfl rfl) ?_
    exact wz
set_option maxRecDepth 100000 in
theorem lw_9 {Pk : Option Value → ab_H → Nat → Prop} (hi : i + 4 ≤ L) (hL : L < 2147483648) (wk : Wd L xs d y_183 (0, [(0, .ref 100), (1, .int (xs (i + 1))), (2, .ref 240)], [], MH C t, 0) (Pk) nX) (hk : ∀ v h q, Pk v h q → ∃ k C1 t1, some (.int (nI k)) = v ∧ MH C1 t1 = h ∧ k < 8 ∧ ∃ Pm, Wd L xs d y_294 (0, [(0, .ref 176), (1, .int (xs (i + 1)))], [], MH C1 t1, 0) Pm nX ∧ ∀ v2 h2 q2, Pm v2 h2 q2 → ∃ (r : Int32) (C2 : co_T) (t2 : ab_H), some (.int r) = v2 ∧ MH C2 t2 = h2 ∧ C2.1 76 0 = nI k ∧ (k = 0 → C2.2.1 140 0 = r.toInt64) ∧ Wd L xs (d + 1) y_296 (769, al4 i, [], MH C2 t2, sl + q + q2) P X) : Wd L xs (d + 1) y_296 (702, al4 i, [], MH C t, sl) P X := by
  refine w_p (pc1 := 703) rfl rfl ?_
  refine w_p (pc1 := 704) rfl rfl ?_
  refine w_p (pc1 := 706) rfl rfl ?_
  refine w_p (pc1 := 707) (st1 := .int 1 :: _) rfl rfl ?_
  refine w_iadd (pc1 := 708) (u := nI (i)) (v := nI (1)) (z := nI (i + 1)) rfl (nK_add) rfl ?_
  refine w_m0 (pc1 := 709) rfl rfl (n_xs (e := i + 1) (by omega) hL) rfl ?_
  refine w_p (pc1 := 710) rfl rfl ?_
  refine w_ji (pc1 := 713) (vs := [.ref 100, .int (xs (i + 1)), .ref 240]) (rest := []) (wk) rfl rfl rfl (fun _ _ => rfl) rfl (by exact cl_s my_183 rfl rfl rfl (Nat.le_of_ble_eq_true rfl) rfl rfl) (by rfl) (Nat.le_of_ble_eq_true rfl) (Nat.le_of_ble_eq_true rfl) rfl (fun v h q hq => ?_) (fun _ _ _ e => e.elim)
  obtain ⟨k, C1, t1, rfl, rfl, hk8, Pm, wm, hm⟩ := hk _ _ _ hq
  refine w_p (pc1 := 715) (al1 := [(5, .int (nI (k))), (4, .int (nI (i))), (3, .ref 240), (2, .ref 176), (1, .ref 100), (0, .ref 0)]) rfl rfl ?_
  refine w_p (pc1 := 716) rfl rfl ?_
  refine w_p (pc1 := 717) rfl rfl ?_
  refine w_p (pc1 := 719) rfl rfl ?_
  refine w_p (pc1 := 720) (st1 := .int 1 :: _) rfl rfl ?_
  refine w_iadd (pc1 := 721) (u := nI (i)) (v := nI (1)) (z := nI (i + 1)) rfl (nK_add) rfl ?_
  refine w_m0 (pc1 := 722) rfl rfl (n_xs (e := i + 1) (by omega) hL) rfl ?_
  refine w_ji (pc1 := 725) (vs := [.ref 176, .int (xs (i + 1))]) (rest := []) (wm) rfl rfl rfl (fun _ _ => rfl) rfl (by exact cl_v my_294 rfl rfl rfl (Nat.le_of_ble_eq_true rfl) rfl (MH_obj rfl rfl) rfl (by decide) rfl rfl) (by rfl) (Nat.le_of_ble_eq_true rfl) (Nat.le_of_ble_eq_true rfl) rfl (fun v2 h2 q2 hq2 => ?_) (fun _ _ _ e => e.elim)
  obtain ⟨r, C2, t2, rfl, rfl, h0, hval, wz⟩ := hm _ _ _ hq2
  have w7 := m_187 (L := L) (xs := xs) (C := C2) (t := t2) (d := d) (sl := 0)
  rw [h0] at w7
  refine w_p (pc1 := 727) (al1 := [(6, .int (r)), (5, .int (nI (k))), (4, .int (nI (i))), (3, .ref 240), (2, .ref 176), (1, .ref 100), (0, .ref 0)]) rfl rfl ?_
  refine w_p (pc1 := 728) rfl rfl ?_
  refine w_je (pc1 := 731) (vs := [.ref 176]) (rest := []) (st1 := [.int (nI (k))]) (w7) rfl rfl rfl (fun _ _ => rfl) rfl (by exact cl_v my_187 rfl rfl rfl (Nat.le_of_ble_eq_true rfl) rfl (MH_obj rfl rfl) rfl (by decide) rfl rfl) (by rfl) (Nat.le_of_ble_eq_true rfl) (Nat.le_of_ble_eq_true rfl) rfl (by rfl) ?_
  refine w_p (pc1 := 733) rfl rfl ?_
  refine w_t (a := 738) (b := 736) (bN_eq_t (a := k) (b := k) (by omega) (by omega) (by rfl)) rfl rfl ?_
  refine w_p (pc1 := 740) rfl rfl ?_
  by_cases hk0 : k = 0
  · have hv := hval hk0
    refine w_f (a := 755) (b := 743) (bN_ne_f (a := k) (b := 0) (by omega) (by omega) (by omega)) rfl rfl ?_
    refine w_p (pc1 := 744) rfl rfl ?_
    refine w_p (pc1 := 745) (st1 := .int 0 :: _) rfl rfl ?_
    refine w_m0 (pc1 := 746) (st1 := .long (r.toInt64) :: _) rfl rfl (n_lle (e := 0) rfl rfl rfl (by decide) (hv)) rfl ?_
    refine w_p (pc1 := 748) rfl rfl ?_
    refine w_p (pc1 := 749) (st1 := .long (r.toInt64) :: _) rfl rfl ?_
    refine w_p (pc1 := 750) rfl rfl ?_
    refine w_t (a := 755) (b := 753) (lb_eq_t (by rfl)) rfl rfl ?_
    refine w_p (pc1 := 769) rfl rfl ?_
    refine Wd_al (al := [(4, .int (nI (i))), (3, .ref 240), (2, .ref 176), (1, .ref 100), (0, .ref 0)]) (sba_p [2, 3, 4, 5, 6] rfl rfl) ?_
    exact wz
  · skip
    refine w_t (a := 755) (b := 743) (bN_ne_t (a := k) (b := 0) (by omega) (by omega) (by omega)) rfl rfl ?_
    refine w_p (pc1 := 769) rfl rfl ?_
    refine Wd_al (al := [(4, .int (nI (i))), (3, .ref 240), (2, .ref 176), (1, .ref 100), (0, .ref 0)]) (sba_p [2, 3, 4, 5, 6] rfl rfl) ?_
    exact wz
set_option maxRecDepth 100000 in
theorem lw_0 {Pk : Int64 → Option Value → ab_H → Nat → Prop} (hi : i + 4 ≤ L) (hL : L < 2147483648) (wk : ∀ a : Int64, Wd L xs d y_162 (0, [(0, .ref 100), (1, .long a), (3, .int (xs (i + 3))), (4, .ref 240)], [], MH C t, 0) (Pk a) nX) (hk : ∀ (a : Int64), ∀ v h q, Pk a v h q → ∃ k C1 t1, some (.int (nI k)) = v ∧ MH C1 t1 = h ∧ k < 8 ∧ ∃ Pm, Wd L xs d y_188 (0, [(0, .ref 176), (1, .long a), (3, .int (xs (i + 3)))], [], MH C1 t1, 0) Pm nX ∧ ∀ v2 h2 q2, Pm v2 h2 q2 → ∃ (r : Int32) (C2 : co_T) (t2 : ab_H), some (.int r) = v2 ∧ MH C2 t2 = h2 ∧ C2.1 76 0 = nI k ∧ (k = 0 → C2.2.1 140 0 = r.toInt64) ∧ Wd L xs (d + 1) y_296 (769, al4 i, [], MH C2 t2, sl + q + q2) P X) : Wd L xs (d + 1) y_296 (96, al4 i, [], MH C t, sl) P X := by
  refine w_p (pc1 := 97) rfl rfl ?_
  refine w_p (pc1 := 98) rfl rfl ?_
  refine w_p (pc1 := 100) rfl rfl ?_
  refine w_p (pc1 := 101) (st1 := .int 1 :: _) rfl rfl ?_
  refine w_iadd (pc1 := 102) (u := nI (i)) (v := nI (1)) (z := nI (i + 1)) rfl (nK_add) rfl ?_
  refine w_m0 (pc1 := 103) rfl rfl (n_xs (e := i + 1) (by omega) hL) rfl ?_
  refine w_p (pc1 := 104) (st1 := .long ((xs (i + 1)).toInt64) :: _) rfl rfl ?_
  refine w_p (pc1 := 106) (st1 := .int 32 :: _) rfl rfl ?_
  refine w_p (pc1 := 107) rfl rfl ?_
  refine w_p (pc1 := 108) rfl rfl ?_
  refine w_p (pc1 := 110) rfl rfl ?_
  refine w_p (pc1 := 111) (st1 := .int 2 :: _) rfl rfl ?_
  refine w_iadd (pc1 := 112) (u := nI (i)) (v := nI (2)) (z := nI (i + 2)) rfl (nK_add) rfl ?_
  refine w_m0 (pc1 := 113) rfl rfl (n_xs (e := i + 2) (by omega) hL) rfl ?_
  refine w_p (pc1 := 114) (st1 := .long ((xs (i + 2)).toInt64) :: _) rfl rfl ?_
  refine w_m0 (pc1 := 117) (st1 := .long 4294967295 :: _) rfl rfl rfl rfl ?_
  refine w_p (pc1 := 118) rfl rfl ?_
  refine w_p (pc1 := 119) rfl rfl ?_
  refine w_p (pc1 := 120) rfl rfl ?_
  refine w_p (pc1 := 122) rfl rfl ?_
  refine w_p (pc1 := 123) (st1 := .int 3 :: _) rfl rfl ?_
  refine w_iadd (pc1 := 124) (u := nI (i)) (v := nI (3)) (z := nI (i + 3)) rfl (nK_add) rfl ?_
  refine w_m0 (pc1 := 125) rfl rfl (n_xs (e := i + 3) (by omega) hL) rfl ?_
  refine w_p (pc1 := 126) rfl rfl ?_
  refine w_ji (pc1 := 129) (vs := [.ref 100, _, .int (xs (i + 3)), .ref 240]) (rest := []) (wk _) rfl rfl rfl (fun _ _ => rfl) rfl (by exact cl_s my_162 rfl rfl rfl (Nat.le_of_ble_eq_true rfl) rfl rfl) (by rfl) (Nat.le_of_ble_eq_true rfl) (Nat.le_of_ble_eq_true rfl) rfl (fun v h q hq => ?_) (fun _ _ _ e => e.elim)
  obtain ⟨k, C1, t1, rfl, rfl, hk8, Pm, wm, hm⟩ := hk _ _ _ _ hq
  refine w_p (pc1 := 131) (al1 := [(5, .int (nI (k))), (4, .int (nI (i))), (3, .ref 240), (2, .ref 176), (1, .ref 100), (0, .ref 0)]) rfl rfl ?_
  refine w_p (pc1 := 132) rfl rfl ?_
  refine w_p (pc1 := 133) rfl rfl ?_
  refine w_p (pc1 := 135) rfl rfl ?_
  refine w_p (pc1 := 136) (st1 := .int 1 :: _) rfl rfl ?_
  refine w_iadd (pc1 := 137) (u := nI (i)) (v := nI (1)) (z := nI (i + 1)) rfl (nK_add) rfl ?_
  refine w_m0 (pc1 := 138) rfl rfl (n_xs (e := i + 1) (by omega) hL) rfl ?_
  refine w_p (pc1 := 139) (st1 := .long ((xs (i + 1)).toInt64) :: _) rfl rfl ?_
  refine w_p (pc1 := 141) (st1 := .int 32 :: _) rfl rfl ?_
  refine w_p (pc1 := 142) rfl rfl ?_
  refine w_p (pc1 := 143) rfl rfl ?_
  refine w_p (pc1 := 145) rfl rfl ?_
  refine w_p (pc1 := 146) (st1 := .int 2 :: _) rfl rfl ?_
  refine w_iadd (pc1 := 147) (u := nI (i)) (v := nI (2)) (z := nI (i + 2)) rfl (nK_add) rfl ?_
  refine w_m0 (pc1 := 148) rfl rfl (n_xs (e := i + 2) (by omega) hL) rfl ?_
  refine w_p (pc1 := 149) (st1 := .long ((xs (i + 2)).toInt64) :: _) rfl rfl ?_
  refine w_m0 (pc1 := 152) (st1 := .long 4294967295 :: _) rfl rfl rfl rfl ?_
  refine w_p (pc1 := 153) rfl rfl ?_
  refine w_p (pc1 := 154) rfl rfl ?_
  refine w_p (pc1 := 155) rfl rfl ?_
  refine w_p (pc1 := 157) rfl rfl ?_
  refine w_p (pc1 := 158) (st1 := .int 3 :: _) rfl rfl ?_
  refine w_iadd (pc1 := 159) (u := nI (i)) (v := nI (3)) (z := nI (i + 3)) rfl (nK_add) rfl ?_
  refine w_m0 (pc1 := 160) rfl rfl (n_xs (e := i + 3) (by omega) hL) rfl ?_
  refine w_ji (pc1 := 163) (vs := [.ref 176, _, .int (xs (i + 3))]) (rest := []) (wm) rfl rfl rfl (fun _ _ => rfl) rfl (by exact cl_v my_188 rfl rfl rfl (Nat.le_of_ble_eq_true rfl) rfl (MH_obj rfl rfl) rfl (by decide) rfl rfl) (by rfl) (Nat.le_of_ble_eq_true rfl) (Nat.le_of_ble_eq_true rfl) rfl (fun v2 h2 q2 hq2 => ?_) (fun _ _ _ e => e.elim)
  obtain ⟨r, C2, t2, rfl, rfl, h0, hval, wz⟩ := hm _ _ _ hq2
  have w7 := m_187 (L := L) (xs := xs) (C := C2) (t := t2) (d := d) (sl := 0)
  rw [h0] at w7
  refine w_p (pc1 := 165) (al1 := [(6, .int (r)), (5, .int (nI (k))), (4, .int (nI (i))), (3, .ref 240), (2, .ref 176), (1, .ref 100), (0, .ref 0)]) rfl rfl ?_
  refine w_p (pc1 := 166) rfl rfl ?_
  refine w_je (pc1 := 169) (vs := [.ref 176]) (rest := []) (st1 := [.int (nI (k))]) (w7) rfl rfl rfl (fun _ _ => rfl) rfl (by exact cl_v my_187 rfl rfl rfl (Nat.le_of_ble_eq_true rfl) rfl (MH_obj rfl rfl) rfl (by decide) rfl rfl) (by rfl) (Nat.le_of_ble_eq_true rfl) (Nat.le_of_ble_eq_true rfl) rfl (by rfl) ?_
  refine w_p (pc1 := 171) rfl rfl ?_
  refine w_t (a := 176) (b := 174) (bN_eq_t (a := k) (b := k) (by omega) (by omega) (by rfl)) rfl rfl ?_
  refine w_p (pc1 := 178) rfl rfl ?_
  by_cases hk0 : k = 0
  · have hv := hval hk0
    refine w_f (a := 193) (b := 181) (bN_ne_f (a := k) (b := 0) (by omega) (by omega) (by omega)) rfl rfl ?_
    refine w_p (pc1 := 182) rfl rfl ?_
    refine w_p (pc1 := 183) (st1 := .int 0 :: _) rfl rfl ?_
    refine w_m0 (pc1 := 184) (st1 := .long (r.toInt64) :: _) rfl rfl (n_lle (e := 0) rfl rfl rfl (by decide) (hv)) rfl ?_
    refine w_p (pc1 := 186) rfl rfl ?_
    refine w_p (pc1 := 187) (st1 := .long (r.toInt64) :: _) rfl rfl ?_
    refine w_p (pc1 := 188) rfl rfl ?_
    refine w_t (a := 193) (b := 191) (lb_eq_t (by rfl)) rfl rfl ?_
    refine w_p (pc1 := 769) rfl rfl ?_
    refine Wd_al (al := [(4, .int (nI (i))), (3, .ref 240), (2, .ref 176), (1, .ref 100), (0, .ref 0)]) (sba_p [2, 3, 4, 5, 6] rfl rfl) ?_
    exact wz
  · skip
    refine w_t (a := 193) (b := 181) (bN_ne_t (a := k) (b := 0) (by omega) (by omega) (by omega)) rfl rfl ?_
    refine w_p (pc1 := 769) rfl rfl ?_
    refine Wd_al (al := [(4, .int (nI (i))), (3, .ref 240), (2, .ref 176), (1, .ref 100), (0, .ref 0)]) (sba_p [2, 3, 4, 5, 6] rfl rfl) ?_
    exact wz
set_option maxRecDepth 100000 in
theorem lw_1 {Pk : Option Value → ab_H → Nat → Prop} (wk : Wd L xs d y_9 (0, [(0, .ref 100)], [], MH C t, 0) Pk nX) (hk : ∀ v h q, Pk v h q → ∃ k C1 t1, some (.int (nI k)) = v ∧ MH C1 t1 = h ∧ k < 8 ∧ ∃ Pm, Wd L xs d y_191 (0, [(0, .ref 176)], [], MH C1 t1, 0) Pm nX ∧ ∀ v2 h2 q2, Pm v2 h2 q2 → ∃ (C2 : co_T) (t2 : ab_H), some (.int (nI k)) = v2 ∧ MH C2 t2 = h2 ∧ Wd L xs (d + 1) y_296 (769, al4 i, [], MH C2 t2, sl + q + q2) P X) : Wd L xs (d + 1) y_296 (196, al4 i, [], MH C t, sl) P X := by
  refine w_p (pc1 := 197) rfl rfl ?_
  refine w_ji (pc1 := 200) (vs := [.ref 100]) (rest := []) (wk) rfl rfl rfl (fun _ _ => rfl) rfl (by exact cl_v my_9 rfl rfl rfl (Nat.le_of_ble_eq_true rfl) rfl (MH_obj rfl rfl) rfl (by decide) rfl rfl) (by rfl) (Nat.le_of_ble_eq_true rfl) (Nat.le_of_ble_eq_true rfl) rfl (fun v h q hq => ?_) (fun _ _ _ e => e.elim)
  obtain ⟨k, C1, t1, rfl, rfl, hk8, Pm, wm, hm⟩ := hk _ _ _ hq
  refine w_p (pc1 := 201) rfl rfl ?_
  refine w_ji (pc1 := 204) (vs := [.ref 176]) (rest := [.int (nI (k))]) (wm) rfl rfl rfl (fun _ _ => rfl) rfl (by exact cl_v my_191 rfl rfl rfl (Nat.le_of_ble_eq_true rfl) rfl (MH_obj rfl rfl) rfl (by decide) rfl rfl) (by rfl) (Nat.le_of_ble_eq_true rfl) (Nat.le_of_ble_eq_true rfl) rfl (fun v2 h2 q2 hq2 => ?_) (fun _ _ _ e => e.elim)
  obtain ⟨C2, t2, rfl, rfl, wz⟩ := hm _ _ _ hq2
  refine w_t (a := 769) (b := 207) (bN_eq_t (a := k) (b := k) (by omega) (by omega) (by rfl)) rfl rfl ?_
  exact wz
set_option maxRecDepth 100000 in
theorem lw_10 {Pk : Option Value → ab_H → Nat → Prop} (wk : Wd L xs d y_159 (0, [(0, .ref 100)], [], MH C t, 0) Pk nX) (hk : ∀ v h q, Pk v h q → ∃ C1 t1, none = v ∧ MH C1 t1 = h ∧ ∃ Pm, Wd L xs d y_295 (0, [(0, .ref 176)], [], MH C1 t1, 0) Pm nX ∧ ∀ v2 h2 q2, Pm v2 h2 q2 → ∃ (C2 : co_T) (t2 : ab_H), none = v2 ∧ MH C2 t2 = h2 ∧ Wd L xs (d + 1) y_296 (769, al4 i, [], MH C2 t2, sl + q + q2) P X) : Wd L xs (d + 1) y_296 (758, al4 i, [], MH C t, sl) P X := by
  refine w_p (pc1 := 759) rfl rfl ?_
  refine w_ji (pc1 := 762) (vs := [.ref 100]) (rest := []) (wk) rfl rfl rfl (fun _ _ => rfl) rfl (by exact cl_v my_159 rfl rfl rfl (Nat.le_of_ble_eq_true rfl) rfl (MH_obj rfl rfl) rfl (by decide) rfl rfl) (by rfl) (Nat.le_of_ble_eq_true rfl) (Nat.le_of_ble_eq_true rfl) rfl (fun v h q hq => ?_) (fun _ _ _ e => e.elim)
  obtain ⟨C1, t1, rfl, rfl, Pm, wm, hm⟩ := hk _ _ _ hq
  refine w_p (pc1 := 763) rfl rfl ?_
  refine w_ji (pc1 := 766) (vs := [.ref 176]) (rest := []) (wm) rfl rfl rfl (fun _ _ => rfl) rfl (by exact cl_v my_295 rfl rfl rfl (Nat.le_of_ble_eq_true rfl) rfl (MH_obj rfl rfl) rfl (by decide) rfl rfl) (by rfl) (Nat.le_of_ble_eq_true rfl) (Nat.le_of_ble_eq_true rfl) rfl (fun v2 h2 q2 hq2 => ?_) (fun _ _ _ e => e.elim)
  obtain ⟨C2, t2, rfl, rfl, wz⟩ := hm _ _ _ hq2
  refine w_p (pc1 := 769) rfl rfl ?_
  exact wz
end LWC
