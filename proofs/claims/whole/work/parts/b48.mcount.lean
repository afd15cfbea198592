
/-! THE OTHER SIDE: how many; find -/
section MCO
variable {L : Nat} {xs : Nat → Int32} {B : Nat → Nat} {n m : Nat} {C C' C0 C1 : co_T} {t t0 t1 : ab_H} {d sl sl0 sl1 i i0 i1 j b e ti k k0 kc ks w c : Nat} {sc : sc_T} {row : Option Nat} {tg : Option (Nat × Nat)} {nl : Option Nat} {kd0 tb0 : Int32} {P : Option Value → ab_H → Nat → Prop} {X : Nat → ab_H → Nat → Prop} {cs : List Nat} {ss : List (Option (List op_T))} {E : fe_T} {tr : Nat → Option tr_T} {x r y z : Int32} {a : Int64} {n1 n2 n3 c1 c2 c3 : Nat} {fT fR fG : Nat → Bool} {u : Bool}
set_option maxRecDepth 100000 in
theorem cnt_t {p : Nat → Bool} (h : p k = true) : cnt p (n + 1) k = 1 + cnt p n (k + 1) := by rw [cnt, h]; rfl
set_option maxRecDepth 100000 in
theorem cnt_f {p : Nat → Bool} (h : p k = false) : cnt p (n + 1) k = 0 + cnt p n (k + 1) := by rw [cnt, h]; rfl
def lmt (m : Nat) (p : Nat → Bool) (j : Nat) : Bool := decide (j < m) && p j
set_option maxRecDepth 100000 in
theorem lmt_t {p : Nat → Bool} (h : k < m) : lmt m p k = p k := by unfold lmt; rw [decide_eq_true h, Bool.true_and]
set_option maxRecDepth 100000 in
theorem lmt_f {p : Nat → Bool} (h : m ≤ k) : lmt m p k = false := by unfold lmt; rw [decide_eq_false (by omega), Bool.false_and]
set_option maxRecDepth 100000 in
theorem cnt_l {p : Nat → Bool} : ∀ (f n k : Nat), k + n = m → cnt (lmt m p) (n + f) k = cnt p n k
  | 0, 0, k, h => rfl
  | f + 1, 0, k, h => by
    have z := cnt_l (p := p) f 0 (k + 1)
    rw [show 0 + (f + 1) = f + 1 by omega, cnt_f (lmt_f (by omega)), cnt]
    clear z
    have : ∀ (f k : Nat), m ≤ k → cnt (lmt m p) f k = 0 := by
      intro f
      induction f with
      | zero => intro k _; rfl
      | succ f ih => intro k hk; rw [cnt_f (lmt_f hk), ih (k + 1) (by omega)]
    rw [this f (k + 1) (by omega)]
  | f, n + 1, k, h => by
    rw [show n + 1 + f = (n + f) + 1 by omega, cnt, cnt, cnt_l f n (k + 1) (by omega), lmt_t (by omega)]
set_option maxRecDepth 100000 in
theorem lp_288 (hT : ∀ j, j < 6 → C.1 78 j = ck (fT j)) (hR : ∀ j, j < 24 → C.1 83 j = ck (fR j)) (hG : ∀ j, j < 8 → C.1 95 j = ck (fG j)) (k : Wd L xs d y_288 (112, [(5, .int (nI 24)), (4, .int (nI n3)), (3, .int (nI n2)), (2, .int (nI n1)), (0, .ref 176), (1, .int x)], [], MH C t, sl) P X) : ∀ (f i c1 c2 c3 : Nat), i + f = 24 → c1 + cnt (lmt 6 fT) f i = n1 → c2 + cnt fR f i = n2 → c3 + cnt (lmt 8 fG) f i = n3 → Wd L xs d y_288 (29, [(5, .int (nI i)), (4, .int (nI c3)), (3, .int (nI c2)), (2, .int (nI c1)), (0, .ref 176), (1, .int x)], [], MH C t, sl) P X
  | 0, i, c1, c2, c3, hi, e1, e2, e3 => by
    obtain rfl : i = 24 := by omega
    obtain rfl : c1 = n1 := e1
    obtain rfl : c2 = n2 := e2
    obtain rfl : c3 = n3 := e3
    refine w_p (pc1 := 31) rfl rfl ?_
    refine w_p (pc1 := 33) (st1 := .int 24 :: _) rfl rfl ?_
    refine w_t (a := 112) (b := 36) (bN_ge_t (a := 24) (b := 24) (by omega) (by omega) (by omega)) rfl rfl ?_
    exact k
  | f + 1, i, c1, c2, c3, hi, e1, e2, e3 => by
    have h2 := hR i (by omega)
    cases b2 : fR i with
    | true =>
      rw [b2] at h2
      by_cases l6 : i < 6
      · have h1 := hT i l6
        have h3 := hG i (by omega)
        cases b1 : fT i with
        | true =>
          rw [b1] at h1
          cases b3 : fG i with
          | true =>
            rw [b3] at h3
            rw [cnt_t ((lmt_t l6).trans b1)] at e1
            rw [cnt_t b2] at e2
            rw [cnt_t ((lmt_t (by omega)).trans b3)] at e3
            have ih := lp_288 hT hR hG k f (i + 1) (c1 + 1) (c2 + 1) (c3 + 1) (by omega) (by omega) (by omega) (by omega)
            refine w_p (pc1 := 31) rfl rfl ?_
            refine w_p (pc1 := 33) (st1 := .int 24 :: _) rfl rfl ?_
            refine w_f (a := 112) (b := 36) (bN_ge_f (a := i) (b := 24) (by omega) (by omega) (by omega)) rfl rfl ?_
            refine w_p (pc1 := 37) rfl rfl ?_
            refine w_p (pc1 := 39) rfl rfl ?_
            refine w_p (pc1 := 41) (st1 := .int 6 :: _) rfl rfl ?_
            refine w_f (a := 58) (b := 44) (bN_ge_f (a := i) (b := 6) (by omega) (by omega) (by omega)) rfl rfl ?_
            refine w_p (pc1 := 45) rfl rfl ?_
            refine w_m0 (pc1 := 48) rfl rfl (h_gC rfl rfl rfl rfl) rfl ?_
            refine w_p (pc1 := 50) rfl rfl ?_
            refine w_m0 (pc1 := 51) (st1 := .int 1 :: _) rfl rfl (n_ble (e := i) rfl rfl (by decide) rfl (by omega) (h1)) rfl ?_
            refine w_f (a := 58) (b := 54) rfl rfl rfl ?_
            refine w_p (pc1 := 55) (st1 := .int 1 :: _) rfl rfl ?_
            refine w_p (pc1 := 59) rfl rfl ?_
            refine w_iadd (pc1 := 60) (u := nI (c1)) (v := nI (1)) (z := nI (c1 + 1)) rfl (nK_add) rfl ?_
            refine w_p (pc1 := 61) (al1 := [(2, .int (nI (c1 + 1))), (5, .int (nI (i))), (4, .int (nI (c3))), (3, .int (nI (c2))), (0, .ref 176), (1, .int (x))]) rfl rfl ?_
            refine w_p (pc1 := 62) rfl rfl ?_
            refine w_p (pc1 := 63) rfl rfl ?_
            refine w_m0 (pc1 := 66) rfl rfl (h_gC rfl rfl rfl rfl) rfl ?_
            refine w_p (pc1 := 68) rfl rfl ?_
            refine w_m0 (pc1 := 69) (st1 := .int 1 :: _) rfl rfl (n_ble (e := i) rfl rfl (by decide) rfl (by omega) (h2)) rfl ?_
            refine w_f (a := 76) (b := 72) rfl rfl rfl ?_
            refine w_p (pc1 := 73) (st1 := .int 1 :: _) rfl rfl ?_
            refine w_p (pc1 := 77) rfl rfl ?_
            refine w_iadd (pc1 := 78) (u := nI (c2)) (v := nI (1)) (z := nI (c2 + 1)) rfl (nK_add) rfl ?_
            refine w_p (pc1 := 79) (al1 := [(3, .int (nI (c2 + 1))), (2, .int (nI (c1 + 1))), (5, .int (nI (i))), (4, .int (nI (c3))), (0, .ref 176), (1, .int (x))]) rfl rfl ?_
            refine w_p (pc1 := 81) rfl rfl ?_
            refine w_p (pc1 := 83) rfl rfl ?_
            refine w_p (pc1 := 85) (st1 := .int 8 :: _) rfl rfl ?_
            refine w_f (a := 102) (b := 88) (bN_ge_f (a := i) (b := 8) (by omega) (by omega) (by omega)) rfl rfl ?_
            refine w_p (pc1 := 89) rfl rfl ?_
            refine w_m0 (pc1 := 92) rfl rfl (h_gC rfl rfl rfl rfl) rfl ?_
            refine w_p (pc1 := 94) rfl rfl ?_
            refine w_m0 (pc1 := 95) (st1 := .int 1 :: _) rfl rfl (n_ble (e := i) rfl rfl (by decide) rfl (by omega) (h3)) rfl ?_
            refine w_f (a := 102) (b := 98) rfl rfl rfl ?_
            refine w_p (pc1 := 99) (st1 := .int 1 :: _) rfl rfl ?_
            refine w_p (pc1 := 103) rfl rfl ?_
            refine w_iadd (pc1 := 104) (u := nI (c3)) (v := nI (1)) (z := nI (c3 + 1)) rfl (nK_add) rfl ?_
            refine w_p (pc1 := 106) (al1 := [(4, .int (nI (c3 + 1))), (3, .int (nI (c2 + 1))), (2, .int (nI (c1 + 1))), (5, .int (nI (i))), (0, .ref 176), (1, .int (x))]) rfl rfl ?_
            refine w_iinc (pc1 := 109) (u := nI (i)) (z := nI (i + 1)) (al1 := [(5, .int (nI (i + 1))), (4, .int (nI (c3 + 1))), (3, .int (nI (c2 + 1))), (2, .int (nI (c1 + 1))), (0, .ref 176), (1, .int (x))]) rfl rfl rfl nK_1 rfl rfl ?_
            refine w_p (pc1 := 29) rfl rfl ?_
            exact ih
          | false =>
            rw [b3] at h3
            rw [cnt_t ((lmt_t l6).trans b1)] at e1
            rw [cnt_t b2] at e2
            rw [cnt_f ((lmt_t (by omega)).trans b3)] at e3
            have ih := lp_288 hT hR hG k f (i + 1) (c1 + 1) (c2 + 1) (c3 + 0) (by omega) (by omega) (by omega) (by omega)
            refine w_p (pc1 := 31) rfl rfl ?_
            refine w_p (pc1 := 33) (st1 := .int 24 :: _) rfl rfl ?_
            refine w_f (a := 112) (b := 36) (bN_ge_f (a := i) (b := 24) (by omega) (by omega) (by omega)) rfl rfl ?_
            refine w_p (pc1 := 37) rfl rfl ?_
            refine w_p (pc1 := 39) rfl rfl ?_
            refine w_p (pc1 := 41) (st1 := .int 6 :: _) rfl rfl ?_
            refine w_f (a := 58) (b := 44) (bN_ge_f (a := i) (b := 6) (by omega) (by omega) (by omega)) rfl rfl ?_
            refine w_p (pc1 := 45) rfl rfl ?_
            refine w_m0 (pc1 := 48) rfl rfl (h_gC rfl rfl rfl rfl) rfl ?_
            refine w_p (pc1 := 50) rfl rfl ?_
            refine w_m0 (pc1 := 51) (st1 := .int 1 :: _) rfl rfl (n_ble (e := i) rfl rfl (by decide) rfl (by omega) (h1)) rfl ?_
            refine w_f (a := 58) (b := 54) rfl rfl rfl ?_
            refine w_p (pc1 := 55) (st1 := .int 1 :: _) rfl rfl ?_
            refine w_p (pc1 := 59) rfl rfl ?_
            refine w_iadd (pc1 := 60) (u := nI (c1)) (v := nI (1)) (z := nI (c1 + 1)) rfl (nK_add) rfl ?_
            refine w_p (pc1 := 61) (al1 := [(2, .int (nI (c1 + 1))), (5, .int (nI (i))), (4, .int (nI (c3))), (3, .int (nI (c2))), (0, .ref 176), (1, .int (x))]) rfl rfl ?_
            refine w_p (pc1 := 62) rfl rfl ?_
            refine w_p (pc1 := 63) rfl rfl ?_
            refine w_m0 (pc1 := 66) rfl rfl (h_gC rfl rfl rfl rfl) rfl ?_
            refine w_p (pc1 := 68) rfl rfl ?_
            refine w_m0 (pc1 := 69) (st1 := .int 1 :: _) rfl rfl (n_ble (e := i) rfl rfl (by decide) rfl (by omega) (h2)) rfl ?_
            refine w_f (a := 76) (b := 72) rfl rfl rfl ?_
            refine w_p (pc1 := 73) (st1 := .int 1 :: _) rfl rfl ?_
            refine w_p (pc1 := 77) rfl rfl ?_
            refine w_iadd (pc1 := 78) (u := nI (c2)) (v := nI (1)) (z := nI (c2 + 1)) rfl (nK_add) rfl ?_
            refine w_p (pc1 := 79) (al1 := [(3, .int (nI (c2 + 1))), (2, .int (nI (c1 + 1))), (5, .int (nI (i))), (4, .int (nI (c3))), (0, .ref 176), (1, .int (x))]) rfl rfl ?_
            refine w_p (pc1 := 81) rfl rfl ?_
            refine w_p (pc1 := 83) rfl rfl ?_
            refine w_p (pc1 := 85) (st1 := .int 8 :: _) rfl rfl ?_
            refine w_f (a := 102) (b := 88) (bN_ge_f (a := i) (b := 8) (by omega) (by omega) (by omega)) rfl rfl ?_
            refine w_p (pc1 := 89) rfl rfl ?_
            refine w_m0 (pc1 := 92) rfl rfl (h_gC rfl rfl rfl rfl) rfl ?_
            refine w_p (pc1 := 94) rfl rfl ?_
            refine w_m0 (pc1 := 95) (st1 := .int 0 :: _) rfl rfl (n_ble (e := i) rfl rfl (by decide) rfl (by omega) (h3)) rfl ?_
            refine w_t (a := 102) (b := 98) rfl rfl rfl ?_
            refine w_p (pc1 := 103) (st1 := .int 0 :: _) rfl rfl ?_
            refine w_iadd (pc1 := 104) (u := nI (c3)) (v := nI (0)) (z := nI (c3 + 0)) rfl (nK_add) rfl ?_
            refine w_p (pc1 := 106) (al1 := [(4, .int (nI (c3 + 0))), (3, .int (nI (c2 + 1))), (2, .int (nI (c1 + 1))), (5, .int (nI (i))), (0, .ref 176), (1, .int (x))]) rfl rfl ?_
            refine w_iinc (pc1 := 109) (u := nI (i)) (z := nI (i + 1)) (al1 := [(5, .int (nI (i + 1))), (4, .int (nI (c3 + 0))), (3, .int (nI (c2 + 1))), (2, .int (nI (c1 + 1))), (0, .ref 176), (1, .int (x))]) rfl rfl rfl nK_1 rfl rfl ?_
            refine w_p (pc1 := 29) rfl rfl ?_
            exact ih
        | false =>
          rw [b1] at h1
          cases b3 : fG i with
          | true =>
            rw [b3] at h3
            rw [cnt_f ((lmt_t l6).trans b1)] at e1
            rw [cnt_t b2] at e2
            rw [cnt_t ((lmt_t (by omega)).trans b3)] at e3
            have ih := lp_288 hT hR hG k f (i + 1) (c1 + 0) (c2 + 1) (c3 + 1) (by omega) (by omega) (by omega) (by omega)
            refine w_p (pc1 := 31) rfl rfl ?_
            refine w_p (pc1 := 33) (st1 := .int 24 :: _) rfl rfl ?_
            refine w_f (a := 112) (b := 36) (bN_ge_f (a := i) (b := 24) (by omega) (by omega) (by omega)) rfl rfl ?_
            refine w_p (pc1 := 37) rfl rfl ?_
            refine w_p (pc1 := 39) rfl rfl ?_
            refine w_p (pc1 := 41) (st1 := .int 6 :: _) rfl rfl ?_
            refine w_f (a := 58) (b := 44) (bN_ge_f (a := i) (b := 6) (by omega) (by omega) (by omega)) rfl rfl ?_
            refine w_p (pc1 := 45) rfl rfl ?_
            refine w_m0 (pc1 := 48) rfl rfl (h_gC rfl rfl rfl rfl) rfl ?_
            refine w_p (pc1 := 50) rfl rfl ?_
            refine w_m0 (pc1 := 51) (st1 := .int 0 :: _) rfl rfl (n_ble (e := i) rfl rfl (by decide) rfl (by omega) (h1)) rfl ?_
            refine w_t (a := 58) (b := 54) rfl rfl rfl ?_
            refine w_p (pc1 := 59) (st1 := .int 0 :: _) rfl rfl ?_
            refine w_iadd (pc1 := 60) (u := nI (c1)) (v := nI (0)) (z := nI (c1 + 0)) rfl (nK_add) rfl ?_
            refine w_p (pc1 := 61) (al1 := [(2, .int (nI (c1 + 0))), (5, .int (nI (i))), (4, .int (nI (c3))), (3, .int (nI (c2))), (0, .ref 176), (1, .int (x))]) rfl rfl ?_
            refine w_p (pc1 := 62) rfl rfl ?_
            refine w_p (pc1 := 63) rfl rfl ?_
            refine w_m0 (pc1 := 66) rfl rfl (h_gC rfl rfl rfl rfl) rfl ?_
            refine w_p (pc1 := 68) rfl rfl ?_
            refine w_m0 (pc1 := 69) (st1 := .int 1 :: _) rfl rfl (n_ble (e := i) rfl rfl (by decide) rfl (by omega) (h2)) rfl ?_
            refine w_f (a := 76) (b := 72) rfl rfl rfl ?_
            refine w_p (pc1 := 73) (st1 := .int 1 :: _) rfl rfl ?_
            refine w_p (pc1 := 77) rfl rfl ?_
            refine w_iadd (pc1 := 78) (u := nI (c2)) (v := nI (1)) (z := nI (c2 + 1)) rfl (nK_add) rfl ?_
            refine w_p (pc1 := 79) (al1 := [(3, .int (nI (c2 + 1))), (2, .int (nI (c1 + 0))), (5, .int (nI (i))), (4, .int (nI (c3))), (0, .ref 176), (1, .int (x))]) rfl rfl ?_
            refine w_p (pc1 := 81) rfl rfl ?_
            refine w_p (pc1 := 83) rfl rfl ?_
            refine w_p (pc1 := 85) (st1 := .int 8 :: _) rfl rfl ?_
            refine w_f (a := 102) (b := 88) (bN_ge_f (a := i) (b := 8) (by omega) (by omega) (by omega)) rfl rfl ?_
            refine w_p (pc1 := 89) rfl rfl ?_
            refine w_m0 (pc1 := 92) rfl rfl (h_gC rfl rfl rfl rfl) rfl ?_
            refine w_p (pc1 := 94) rfl rfl ?_
            refine w_m0 (pc1 := 95) (st1 := .int 1 :: _) rfl rfl (n_ble (e := i) rfl rfl (by decide) rfl (by omega) (h3)) rfl ?_
            refine w_f (a := 102) (b := 98) rfl rfl rfl ?_
            refine w_p (pc1 := 99) (st1 := .int 1 :: _) rfl rfl ?_
            refine w_p (pc1 := 103) rfl rfl ?_
            refine w_iadd (pc1 := 104) (u := nI (c3)) (v := nI (1)) (z := nI (c3 + 1)) rfl (nK_add) rfl ?_
            refine w_p (pc1 := 106) (al1 := [(4, .int (nI (c3 + 1))), (3, .int (nI (c2 + 1))), (2, .int (nI (c1 + 0))), (5, .int (nI (i))), (0, .ref 176), (1, .int (x))]) rfl rfl ?_
            refine w_iinc (pc1 := 109) (u := nI (i)) (z := nI (i + 1)) (al1 := [(5, .int (nI (i + 1))), (4, .int (nI (c3 + 1))), (3, .int (nI (c2 + 1))), (2, .int (nI (c1 + 0))), (0, .ref 176), (1, .int (x))]) rfl rfl rfl nK_1 rfl rfl ?_
            refine w_p (pc1 := 29) rfl rfl ?_
            exact ih
          | false =>
            rw [b3] at h3
            rw [cnt_f ((lmt_t l6).trans b1)] at e1
            rw [cnt_t b2] at e2
            rw [cnt_f ((lmt_t (by omega)).trans b3)] at e3
            have ih := lp_288 hT hR hG k f (i + 1) (c1 + 0) (c2 + 1) (c3 + 0) (by omega) (by omega) (by omega) (by omega)
            refine w_p (pc1 := 31) rfl rfl ?_
            refine w_p (pc1 := 33) (st1 := .int 24 :: _) rfl rfl ?_
            refine w_f (a := 112) (b := 36) (bN_ge_f (a := i) (b := 24) (by omega) (by omega) (by omega)) rfl rfl ?_
            refine w_p (pc1 := 37) rfl rfl ?_
            refine w_p (pc1 := 39) rfl rfl ?_
            refine w_p (pc1 := 41) (st1 := .int 6 :: _) rfl rfl ?_
            refine w_f (a := 58) (b := 44) (bN_ge_f (a := i) (b := 6) (by omega) (by omega) (by omega)) rfl rfl ?_
            refine w_p (pc1 := 45) rfl rfl ?_
            refine w_m0 (pc1 := 48) rfl rfl (h_gC rfl rfl rfl rfl) rfl ?_
            refine w_p (pc1 := 50) rfl rfl ?_
            refine w_m0 (pc1 := 51) (st1 := .int 0 :: _) rfl rfl (n_ble (e := i) rfl rfl (by decide) rfl (by omega) (h1)) rfl ?_
            refine w_t (a := 58) (b := 54) rfl rfl rfl ?_
            refine w_p (pc1 := 59) (st1 := .int 0 :: _) rfl rfl ?_
            refine w_iadd (pc1 := 60) (u := nI (c1)) (v := nI (0)) (z := nI (c1 + 0)) rfl (nK_add) rfl ?_
            refine w_p (pc1 := 61) (al1 := [(2, .int (nI (c1 + 0))), (5, .int (nI (i))), (4, .int (nI (c3))), (3, .int (nI (c2))), (0, .ref 176), (1, .int (x))]) rfl rfl ?_
            refine w_p (pc1 := 62) rfl rfl ?_
            refine w_p (pc1 := 63) rfl rfl ?_
            refine w_m0 (pc1 := 66) rfl rfl (h_gC rfl rfl rfl rfl) rfl ?_
            refine w_p (pc1 := 68) rfl rfl ?_
            refine w_m0 (pc1 := 69) (st1 := .int 1 :: _) rfl rfl (n_ble (e := i) rfl rfl (by decide) rfl (by omega) (h2)) rfl ?_
            refine w_f (a := 76) (b := 72) rfl rfl rfl ?_
            refine w_p (pc1 := 73) (st1 := .int 1 :: _) rfl rfl ?_
            refine w_p (pc1 := 77) rfl rfl ?_
            refine w_iadd (pc1 := 78) (u := nI (c2)) (v := nI (1)) (z := nI (c2 + 1)) rfl (nK_add) rfl ?_
            refine w_p (pc1 := 79) (al1 := [(3, .int (nI (c2 + 1))), (2, .int (nI (c1 + 0))), (5, .int (nI (i))), (4, .int (nI (c3))), (0, .ref 176), (1, .int (x))]) rfl rfl ?_
            refine w_p (pc1 := 81) rfl rfl ?_
            refine w_p (pc1 := 83) rfl rfl ?_
            refine w_p (pc1 := 85) (st1 := .int 8 :: _) rfl rfl ?_
            refine w_f (a := 102) (b := 88) (bN_ge_f (a := i) (b := 8) (by omega) (by omega) (by omega)) rfl rfl ?_
            refine w_p (pc1 := 89) rfl rfl ?_
            refine w_m0 (pc1 := 92) rfl rfl (h_gC rfl rfl rfl rfl) rfl ?_
            refine w_p (pc1 := 94) rfl rfl ?_
            refine w_m0 (pc1 := 95) (st1 := .int 0 :: _) rfl rfl (n_ble (e := i) rfl rfl (by decide) rfl (by omega) (h3)) rfl ?_
            refine w_t (a := 102) (b := 98) rfl rfl rfl ?_
            refine w_p (pc1 := 103) (st1 := .int 0 :: _) rfl rfl ?_
            refine w_iadd (pc1 := 104) (u := nI (c3)) (v := nI (0)) (z := nI (c3 + 0)) rfl (nK_add) rfl ?_
            refine w_p (pc1 := 106) (al1 := [(4, .int (nI (c3 + 0))), (3, .int (nI (c2 + 1))), (2, .int (nI (c1 + 0))), (5, .int (nI (i))), (0, .ref 176), (1, .int (x))]) rfl rfl ?_
            refine w_iinc (pc1 := 109) (u := nI (i)) (z := nI (i + 1)) (al1 := [(5, .int (nI (i + 1))), (4, .int (nI (c3 + 0))), (3, .int (nI (c2 + 1))), (2, .int (nI (c1 + 0))), (0, .ref 176), (1, .int (x))]) rfl rfl rfl nK_1 rfl rfl ?_
            refine w_p (pc1 := 29) rfl rfl ?_
            exact ih
      · by_cases l8 : i < 8
        · have h3 := hG i l8
          cases b3 : fG i with
          | true =>
            rw [b3] at h3
            rw [cnt_f (lmt_f (by omega))] at e1
            rw [cnt_t b2] at e2
            rw [cnt_t ((lmt_t l8).trans b3)] at e3
            have ih := lp_288 hT hR hG k f (i + 1) (c1 + 0) (c2 + 1) (c3 + 1) (by omega) (by omega) (by omega) (by omega)
            refine w_p (pc1 := 31) rfl rfl ?_
            refine w_p (pc1 := 33) (st1 := .int 24 :: _) rfl rfl ?_
            refine w_f (a := 112) (b := 36) (bN_ge_f (a := i) (b := 24) (by omega) (by omega) (by omega)) rfl rfl ?_
            refine w_p (pc1 := 37) rfl rfl ?_
            refine w_p (pc1 := 39) rfl rfl ?_
            refine w_p (pc1 := 41) (st1 := .int 6 :: _) rfl rfl ?_
            refine w_t (a := 58) (b := 44) (bN_ge_t (a := i) (b := 6) (by omega) (by omega) (by omega)) rfl rfl ?_
            refine w_p (pc1 := 59) (st1 := .int 0 :: _) rfl rfl ?_
            refine w_iadd (pc1 := 60) (u := nI (c1)) (v := nI (0)) (z := nI (c1 + 0)) rfl (nK_add) rfl ?_
            refine w_p (pc1 := 61) (al1 := [(2, .int (nI (c1 + 0))), (5, .int (nI (i))), (4, .int (nI (c3))), (3, .int (nI (c2))), (0, .ref 176), (1, .int (x))]) rfl rfl ?_
            refine w_p (pc1 := 62) rfl rfl ?_
            refine w_p (pc1 := 63) rfl rfl ?_
            refine w_m0 (pc1 := 66) rfl rfl (h_gC rfl rfl rfl rfl) rfl ?_
            refine w_p (pc1 := 68) rfl rfl ?_
            refine w_m0 (pc1 := 69) (st1 := .int 1 :: _) rfl rfl (n_ble (e := i) rfl rfl (by decide) rfl (by omega) (h2)) rfl ?_
            refine w_f (a := 76) (b := 72) rfl rfl rfl ?_
            refine w_p (pc1 := 73) (st1 := .int 1 :: _) rfl rfl ?_
            refine w_p (pc1 := 77) rfl rfl ?_
            refine w_iadd (pc1 := 78) (u := nI (c2)) (v := nI (1)) (z := nI (c2 + 1)) rfl (nK_add) rfl ?_
            refine w_p (pc1 := 79) (al1 := [(3, .int (nI (c2 + 1))), (2, .int (nI (c1 + 0))), (5, .int (nI (i))), (4, .int (nI (c3))), (0, .ref 176), (1, .int (x))]) rfl rfl ?_
            refine w_p (pc1 := 81) rfl rfl ?_
            refine w_p (pc1 := 83) rfl rfl ?_
            refine w_p (pc1 := 85) (st1 := .int 8 :: _) rfl rfl ?_
            refine w_f (a := 102) (b := 88) (bN_ge_f (a := i) (b := 8) (by omega) (by omega) (by omega)) rfl rfl ?_
            refine w_p (pc1 := 89) rfl rfl ?_
            refine w_m0 (pc1 := 92) rfl rfl (h_gC rfl rfl rfl rfl) rfl ?_
            refine w_p (pc1 := 94) rfl rfl ?_
            refine w_m0 (pc1 := 95) (st1 := .int 1 :: _) rfl rfl (n_ble (e := i) rfl rfl (by decide) rfl (by omega) (h3)) rfl ?_
            refine w_f (a := 102) (b := 98) rfl rfl rfl ?_
            refine w_p (pc1 := 99) (st1 := .int 1 :: _) rfl rfl ?_
            refine w_p (pc1 := 103) rfl rfl ?_
            refine w_iadd (pc1 := 104) (u := nI (c3)) (v := nI (1)) (z := nI (c3 + 1)) rfl (nK_add) rfl ?_
            refine w_p (pc1 := 106) (al1 := [(4, .int (nI (c3 + 1))), (3, .int (nI (c2 + 1))), (2, .int (nI (c1 + 0))), (5, .int (nI (i))), (0, .ref 176), (1, .int (x))]) rfl rfl ?_
            refine w_iinc (pc1 := 109) (u := nI (i)) (z := nI (i + 1)) (al1 := [(5, .int (nI (i + 1))), (4, .int (nI (c3 + 1))), (3, .int (nI (c2 + 1))), (2, .int (nI (c1 + 0))), (0, .ref 176), (1, .int (x))]) rfl rfl rfl nK_1 rfl rfl ?_
            refine w_p (pc1 := 29) rfl rfl ?_
            exact ih
          | false =>
            rw [b3] at h3
            rw [cnt_f (lmt_f (by omega))] at e1
            rw [cnt_t b2] at e2
            rw [cnt_f ((lmt_t l8).trans b3)] at e3
            have ih := lp_288 hT hR hG k f (i + 1) (c1 + 0) (c2 + 1) (c3 + 0) (by omega) (by omega) (by omega) (by omega)
            refine w_p (pc1 := 31) rfl rfl ?_
            refine w_p (pc1 := 33) (st1 := .int 24 :: _) rfl rfl ?_
            refine w_f (a := 112) (b := 36) (bN_ge_f (a := i) (b := 24) (by omega) (by omega) (by omega)) rfl rfl ?_
            refine w_p (pc1 := 37) rfl rfl ?_
            refine w_p (pc1 := 39) rfl rfl ?_
            refine w_p (pc1 := 41) (st1 := .int 6 :: _) rfl rfl ?_
            refine w_t (a := 58) (b := 44) (bN_ge_t (a := i) (b := 6) (by omega) (by omega) (by omega)) rfl rfl ?_
            refine w_p (pc1 := 59) (st1 := .int 0 :: _) rfl rfl ?_
            refine w_iadd (pc1 := 60) (u := nI (c1)) (v := nI (0)) (z := nI (c1 + 0)) rfl (nK_add) rfl ?_
            refine w_p (pc1 := 61) (al1 := [(2, .int (nI (c1 + 0))), (5, .int (nI (i))), (4, .int (nI (c3))), (3, .int (nI (c2))), (0, .ref 176), (1, .int (x))]) rfl rfl ?_
            refine w_p (pc1 := 62) rfl rfl ?_
            refine w_p (pc1 := 63) rfl rfl ?_
            refine w_m0 (pc1 := 66) rfl rfl (h_gC rfl rfl rfl rfl) rfl ?_
            refine w_p (pc1 := 68) rfl rfl ?_
            refine w_m0 (pc1 := 69) (st1 := .int 1 :: _) rfl rfl (n_ble (e := i) rfl rfl (by decide) rfl (by omega) (h2)) rfl ?_
            refine w_f (a := 76) (b := 72) rfl rfl rfl ?_
            refine w_p (pc1 := 73) (st1 := .int 1 :: _) rfl rfl ?_
            refine w_p (pc1 := 77) rfl rfl ?_
            refine w_iadd (pc1 := 78) (u := nI (c2)) (v := nI (1)) (z := nI (c2 + 1)) rfl (nK_add) rfl ?_
            refine w_p (pc1 := 79) (al1 := [(3, .int (nI (c2 + 1))), (2, .int (nI (c1 + 0))), (5, .int (nI (i))), (4, .int (nI (c3))), (0, .ref 176), (1, .int (x))]) rfl rfl ?_
            refine w_p (pc1 := 81) rfl rfl ?_
            refine w_p (pc1 := 83) rfl rfl ?_
            refine w_p (pc1 := 85) (st1 := .int 8 :: _) rfl rfl ?_
            refine w_f (a := 102) (b := 88) (bN_ge_f (a := i) (b := 8) (by omega) (by omega) (by omega)) rfl rfl ?_
            refine w_p (pc1 := 89) rfl rfl ?_
            refine w_m0 (pc1 := 92) rfl rfl (h_gC rfl rfl rfl rfl) rfl ?_
            refine w_p (pc1 := 94) rfl rfl ?_
            refine w_m0 (pc1 := 95) (st1 := .int 0 :: _) rfl rfl (n_ble (e := i) rfl rfl (by decide) rfl (by omega) (h3)) rfl ?_
            refine w_t (a := 102) (b := 98) rfl rfl rfl ?_
            refine w_p (pc1 := 103) (st1 := .int 0 :: _) rfl rfl ?_
            refine w_iadd (pc1 := 104) (u := nI (c3)) (v := nI (0)) (z := nI (c3 + 0)) rfl (nK_add) rfl ?_
            refine w_p (pc1 := 106) (al1 := [(4, .int (nI (c3 + 0))), (3, .int (nI (c2 + 1))), (2, .int (nI (c1 + 0))), (5, .int (nI (i))), (0, .ref 176), (1, .int (x))]) rfl rfl ?_
            refine w_iinc (pc1 := 109) (u := nI (i)) (z := nI (i + 1)) (al1 := [(5, .int (nI (i + 1))), (4, .int (nI (c3 + 0))), (3, .int (nI (c2 + 1))), (2, .int (nI (c1 + 0))), (0, .ref 176), (1, .int (x))]) rfl rfl rfl nK_1 rfl rfl ?_
            refine w_p (pc1 := 29) rfl rfl ?_
            exact ih
        · skip
          rw [cnt_f (lmt_f (by omega))] at e1
          rw [cnt_t b2] at e2
          rw [cnt_f (lmt_f (by omega))] at e3
          have ih := lp_288 hT hR hG k f (i + 1) (c1 + 0) (c2 + 1) (c3 + 0) (by omega) (by omega) (by omega) (by omega)
          refine w_p (pc1 := 31) rfl rfl ?_
          refine w_p (pc1 := 33) (st1 := .int 24 :: _) rfl rfl ?_
          refine w_f (a := 112) (b := 36) (bN_ge_f (a := i) (b := 24) (by omega) (by omega) (by omega)) rfl rfl ?_
          refine w_p (pc1 := 37) rfl rfl ?_
          refine w_p (pc1 := 39) rfl rfl ?_
          refine w_p (pc1 := 41) (st1 := .int 6 :: _) rfl rfl ?_
          refine w_t (a := 58) (b := 44) (bN_ge_t (a := i) (b := 6) (by omega) (by omega) (by omega)) rfl rfl ?_
          refine w_p (pc1 := 59) (st1 := .int 0 :: _) rfl rfl ?_
          refine w_iadd (pc1 := 60) (u := nI (c1)) (v := nI (0)) (z := nI (c1 + 0)) rfl (nK_add) rfl ?_
          refine w_p (pc1 := 61) (al1 := [(2, .int (nI (c1 + 0))), (5, .int (nI (i))), (4, .int (nI (c3))), (3, .int (nI (c2))), (0, .ref 176), (1, .int (x))]) rfl rfl ?_
          refine w_p (pc1 := 62) rfl rfl ?_
          refine w_p (pc1 := 63) rfl rfl ?_
          refine w_m0 (pc1 := 66) rfl rfl (h_gC rfl rfl rfl rfl) rfl ?_
          refine w_p (pc1 := 68) rfl rfl ?_
          refine w_m0 (pc1 := 69) (st1 := .int 1 :: _) rfl rfl (n_ble (e := i) rfl rfl (by decide) rfl (by omega) (h2)) rfl ?_
          refine w_f (a := 76) (b := 72) rfl rfl rfl ?_
          refine w_p (pc1 := 73) (st1 := .int 1 :: _) rfl rfl ?_
          refine w_p (pc1 := 77) rfl rfl ?_
          refine w_iadd (pc1 := 78) (u := nI (c2)) (v := nI (1)) (z := nI (c2 + 1)) rfl (nK_add) rfl ?_
          refine w_p (pc1 := 79) (al1 := [(3, .int (nI (c2 + 1))), (2, .int (nI (c1 + 0))), (5, .int (nI (i))), (4, .int (nI (c3))), (0, .ref 176), (1, .int (x))]) rfl rfl ?_
          refine w_p (pc1 := 81) rfl rfl ?_
          refine w_p (pc1 := 83) rfl rfl ?_
          refine w_p (pc1 := 85) (st1 := .int 8 :: _) rfl rfl ?_
          refine w_t (a := 102) (b := 88) (bN_ge_t (a := i) (b := 8) (by omega) (by omega) (by omega)) rfl rfl ?_
          refine w_p (pc1 := 103) (st1 := .int 0 :: _) rfl rfl ?_
          refine w_iadd (pc1 := 104) (u := nI (c3)) (v := nI (0)) (z := nI (c3 + 0)) rfl (nK_add) rfl ?_
          refine w_p (pc1 := 106) (al1 := [(4, .int (nI (c3 + 0))), (3, .int (nI (c2 + 1))), (2, .int (nI (c1 + 0))), (5, .int (nI (i))), (0, .ref 176), (1, .int (x))]) rfl rfl ?_
          refine w_iinc (pc1 := 109) (u := nI (i)) (z := nI (i + 1)) (al1 := [(5, .int (nI (i + 1))), (4, .int (nI (c3 + 0))), (3, .int (nI (c2 + 1))), (2, .int (nI (c1 + 0))), (0, .ref 176), (1, .int (x))]) rfl rfl rfl nK_1 rfl rfl ?_
          refine w_p (pc1 := 29) rfl rfl ?_
          exact ih
    | false =>
      rw [b2] at h2
      by_cases l6 : i < 6
      · have h1 := hT i l6
        have h3 := hG i (by omega)
        cases b1 : fT i with
        | true =>
          rw [b1] at h1
          cases b3 : fG i with
          | true =>
            rw [b3] at h3
            rw [cnt_t ((lmt_t l6).trans b1)] at e1
            rw [cnt_f b2] at e2
            rw [cnt_t ((lmt_t (by omega)).trans b3)] at e3
            have ih := lp_288 hT hR hG k f (i + 1) (c1 + 1) (c2 + 0) (c3 + 1) (by omega) (by omega) (by omega) (by omega)
            refine w_p (pc1 := 31) rfl rfl ?_
            refine w_p (pc1 := 33) (st1 := .int 24 :: _) rfl rfl ?_
            refine w_f (a := 112) (b := 36) (bN_ge_f (a := i) (b := 24) (by omega) (by omega) (by omega)) rfl rfl ?_
            refine w_p (pc1 := 37) rfl rfl ?_
            refine w_p (pc1 := 39) rfl rfl ?_
            refine w_p (pc1 := 41) (st1 := .int 6 :: _) rfl rfl ?_
            refine w_f (a := 58) (b := 44) (bN_ge_f (a := i) (b := 6) (by omega) (by omega) (by omega)) rfl rfl ?_
            refine w_p (pc1 := 45) rfl rfl ?_
            refine w_m0 (pc1 := 48) rfl rfl (h_gC rfl rfl rfl rfl) rfl ?_
            refine w_p (pc1 := 50) rfl rfl ?_
            refine w_m0 (pc1 := 51) (st1 := .int 1 :: _) rfl rfl (n_ble (e := i) rfl rfl (by decide) rfl (by omega) (h1)) rfl ?_
            refine w_f (a := 58) (b := 54) rfl rfl rfl ?_
            refine w_p (pc1 := 55) (st1 := .int 1 :: _) rfl rfl ?_
            refine w_p (pc1 := 59) rfl rfl ?_
            refine w_iadd (pc1 := 60) (u := nI (c1)) (v := nI (1)) (z := nI (c1 + 1)) rfl (nK_add) rfl ?_
            refine w_p (pc1 := 61) (al1 := [(2, .int (nI (c1 + 1))), (5, .int (nI (i))), (4, .int (nI (c3))), (3, .int (nI (c2))), (0, .ref 176), (1, .int (x))]) rfl rfl ?_
            refine w_p (pc1 := 62) rfl rfl ?_
            refine w_p (pc1 := 63) rfl rfl ?_
            refine w_m0 (pc1 := 66) rfl rfl (h_gC rfl rfl rfl rfl) rfl ?_
            refine w_p (pc1 := 68) rfl rfl ?_
            refine w_m0 (pc1 := 69) (st1 := .int 0 :: _) rfl rfl (n_ble (e := i) rfl rfl (by decide) rfl (by omega) (h2)) rfl ?_
            refine w_t (a := 76) (b := 72) rfl rfl rfl ?_
            refine w_p (pc1 := 77) (st1 := .int 0 :: _) rfl rfl ?_
            refine w_iadd (pc1 := 78) (u := nI (c2)) (v := nI (0)) (z := nI (c2 + 0)) rfl (nK_add) rfl ?_
            refine w_p (pc1 := 79) (al1 := [(3, .int (nI (c2 + 0))), (2, .int (nI (c1 + 1))), (5, .int (nI (i))), (4, .int (nI (c3))), (0, .ref 176), (1, .int (x))]) rfl rfl ?_
            refine w_p (pc1 := 81) rfl rfl ?_
            refine w_p (pc1 := 83) rfl rfl ?_
            refine w_p (pc1 := 85) (st1 := .int 8 :: _) rfl rfl ?_
            refine w_f (a := 102) (b := 88) (bN_ge_f (a := i) (b := 8) (by omega) (by omega) (by omega)) rfl rfl ?_
            refine w_p (pc1 := 89) rfl rfl ?_
            refine w_m0 (pc1 := 92) rfl rfl (h_gC rfl rfl rfl rfl) rfl ?_
            refine w_p (pc1 := 94) rfl rfl ?_
            refine w_m0 (pc1 := 95) (st1 := .int 1 :: _) rfl rfl (n_ble (e := i) rfl rfl (by decide) rfl (by omega) (h3)) rfl ?_
            refine w_f (a := 102) (b := 98) rfl rfl rfl ?_
            refine w_p (pc1 := 99) (st1 := .int 1 :: _) rfl rfl ?_
            refine w_p (pc1 := 103) rfl rfl ?_
            refine w_iadd (pc1 := 104) (u := nI (c3)) (v := nI (1)) (z := nI (c3 + 1)) rfl (nK_add) rfl ?_
            refine w_p (pc1 := 106) (al1 := [(4, .int (nI (c3 + 1))), (3, .int (nI (c2 + 0))), (2, .int (nI (c1 + 1))), (5, .int (nI (i))), (0, .ref 176), (1, .int (x))]) rfl rfl ?_
            refine w_iinc (pc1 := 109) (u := nI (i)) (z := nI (i + 1)) (al1 := [(5, .int (nI (i + 1))), (4, .int (nI (c3 + 1))), (3, .int (nI (c2 + 0))), (2, .int (nI (c1 + 1))), (0, .ref 176), (1, .int (x))]) rfl rfl rfl nK_1 rfl rfl ?_
            refine w_p (pc1 := 29) rfl rfl ?_
            exact ih
          | false =>
            rw [b3] at h3
            rw [cnt_t ((lmt_t l6).trans b1)] at e1
            rw [cnt_f b2] at e2
            rw [cnt_f ((lmt_t (by omega)).trans b3)] at e3
            have ih := lp_288 hT hR hG k f (i + 1) (c1 + 1) (c2 + 0) (c3 + 0) (by omega) (by omega) (by omega) (by omega)
            refine w_p (pc1 := 31) rfl rfl ?_
            refine w_p (pc1 := 33) (st1 := .int 24 :: _) rfl rfl ?_
            refine w_f (a := 112) (b := 36) (bN_ge_f (a := i) (b := 24) (by omega) (by omega) (by omega)) rfl rfl ?_
            refine w_p (pc1 := 37) rfl rfl ?_
            refine w_p (pc1 := 39) rfl rfl ?_
            refine w_p (pc1 := 41) (st1 := .int 6 :: _) rfl rfl ?_
            refine w_f (a := 58) (b := 44) (bN_ge_f (a := i) (b := 6) (by omega) (by omega) (by omega)) rfl rfl ?_
            refine w_p (pc1 := 45) rfl rfl ?_
            refine w_m0 (pc1 := 48) rfl rfl (h_gC rfl rfl rfl rfl) rfl ?_
            refine w_p (pc1 := 50) rfl rfl ?_
            refine w_m0 (pc1 := 51) (st1 := .int 1 :: _) rfl rfl (n_ble (e := i) rfl rfl (by decide) rfl (by omega) (h1)) rfl ?_
            refine w_f (a := 58) (b := 54) rfl rfl rfl ?_
            refine w_p (pc1 := 55) (st1 := .int 1 :: _) rfl rfl ?_
            refine w_p (pc1 := 59) rfl rfl ?_
            refine w_iadd (pc1 := 60) (u := nI (c1)) (v := nI (1)) (z := nI (c1 + 1)) rfl (nK_add) rfl ?_
            refine w_p (pc1 := 61) (al1 := [(2, .int (nI (c1 + 1))), (5, .int (nI (i))), (4, .int (nI (c3))), (3, .int (nI (c2))), (0, .ref 176), (1, .int (x))]) rfl rfl ?_
            refine w_p (pc1 := 62) rfl rfl ?_
            refine w_p (pc1 := 63) rfl rfl ?_
            refine w_m0 (pc1 := 66) rfl rfl (h_gC rfl rfl rfl rfl) rfl ?_
            refine w_p (pc1 := 68) rfl rfl ?_
            refine w_m0 (pc1 := 69) (st1 := .int 0 :: _) rfl rfl (n_ble (e := i) rfl rfl (by decide) rfl (by omega) (h2)) rfl ?_
            refine w_t (a := 76) (b := 72) rfl rfl rfl ?_
            refine w_p (pc1 := 77) (st1 := .int 0 :: _) rfl rfl ?_
            refine w_iadd (pc1 := 78) (u := nI (c2)) (v := nI (0)) (z := nI (c2 + 0)) rfl (nK_add) rfl ?_
            refine w_p (pc1 := 79) (al1 := [(3, .int (nI (c2 + 0))), (2, .int (nI (c1 + 1))), (5, .int (nI (i))), (4, .int (nI (c3))), (0, .ref 176), (1, .int (x))]) rfl rfl ?_
            refine w_p (pc1 := 81) rfl rfl ?_
            refine w_p (pc1 := 83) rfl rfl ?_
            refine w_p (pc1 := 85) (st1 := .int 8 :: _) rfl rfl ?_
            refine w_f (a := 102) (b := 88) (bN_ge_f (a := i) (b := 8) (by omega) (by omega) (by omega)) rfl rfl ?_
            refine w_p (pc1 := 89) rfl rfl ?_
            refine w_m0 (pc1 := 92) rfl rfl (h_gC rfl rfl rfl rfl) rfl ?_
            refine w_p (pc1 := 94) rfl rfl ?_
            refine w_m0 (pc1 := 95) (st1 := .int 0 :: _) rfl rfl (n_ble (e := i) rfl rfl (by decide) rfl (by omega) (h3)) rfl ?_
            refine w_t (a := 102) (b := 98) rfl rfl rfl ?_
            refine w_p (pc1 := 103) (st1 := .int 0 :: _) rfl rfl ?_
            refine w_iadd (pc1 := 104) (u := nI (c3)) (v := nI (0)) (z := nI (c3 + 0)) rfl (nK_add) rfl ?_
            refine w_p (pc1 := 106) (al1 := [(4, .int (nI (c3 + 0))), (3, .int (nI (c2 + 0))), (2, .int (nI (c1 + 1))), (5, .int (nI (i))), (0, .ref 176), (1, .int (x))]) rfl rfl ?_
            refine w_iinc (pc1 := 109) (u := nI (i)) (z := nI (i + 1)) (al1 := [(5, .int (nI (i + 1))), (4, .int (nI (c3 + 0))), (3, .int (nI (c2 + 0))), (2, .int (nI (c1 + 1))), (0, .ref 176), (1, .int (x))]) rfl rfl rfl nK_1 rfl rfl ?_
            refine w_p (pc1 := 29) rfl rfl ?_
            exact ih
        | false =>
          rw [b1] at h1
          cases b3 : fG i with
          | true =>
            rw [b3] at h3
            rw [cnt_f ((lmt_t l6).trans b1)] at e1
            rw [cnt_f b2] at e2
            rw [cnt_t ((lmt_t (by omega)).trans b3)] at e3
            have ih := lp_288 hT hR hG k f (i + 1) (c1 + 0) (c2 + 0) (c3 + 1) (by omega) (by omega) (by omega) (by omega)
            refine w_p (pc1 := 31) rfl rfl ?_
            refine w_p (pc1 := 33) (st1 := .int 24 :: _) rfl rfl ?_
            refine w_f (a := 112) (b := 36) (bN_ge_f (a := i) (b := 24) (by omega) (by omega) (by omega)) rfl rfl ?_
            refine w_p (pc1 := 37) rfl rfl ?_
            refine w_p (pc1 := 39) rfl rfl ?_
            refine w_p (pc1 := 41) (st1 := .int 6 :: _) rfl rfl ?_
            refine w_f (a := 58) (b := 44) (bN_ge_f (a := i) (b := 6) (by omega) (by omega) (by omega)) rfl rfl ?_
            refine w_p (pc1 := 45) rfl rfl ?_
            refine w_m0 (pc1 := 48) rfl rfl (h_gC rfl rfl rfl rfl) rfl ?_
            refine w_p (pc1 := 50) rfl rfl ?_
            refine w_m0 (pc1 := 51) (st1 := .int 0 :: _) rfl rfl (n_ble (e := i) rfl rfl (by decide) rfl (by omega) (h1)) rfl ?_
            refine w_t (a := 58) (b := 54) rfl rfl rfl ?_
            refine w_p (pc1 := 59) (st1 := .int 0 :: _) rfl rfl ?_
            refine w_iadd (pc1 := 60) (u := nI (c1)) (v := nI (0)) (z := nI (c1 + 0)) rfl (nK_add) rfl ?_
            refine w_p (pc1 := 61) (al1 := [(2, .int (nI (c1 + 0))), (5, .int (nI (i))), (4, .int (nI (c3))), (3, .int (nI (c2))), (0, .ref 176), (1, .int (x))]) rfl rfl ?_
            refine w_p (pc1 := 62) rfl rfl ?_
            refine w_p (pc1 := 63) rfl rfl ?_
            refine w_m0 (pc1 := 66) rfl rfl (h_gC rfl rfl rfl rfl) rfl ?_
            refine w_p (pc1 := 68) rfl rfl ?_
            refine w_m0 (pc1 := 69) (st1 := .int 0 :: _) rfl rfl (n_ble (e := i) rfl rfl (by decide) rfl (by omega) (h2)) rfl ?_
            refine w_t (a := 76) (b := 72) rfl rfl rfl ?_
            refine w_p (pc1 := 77) (st1 := .int 0 :: _) rfl rfl ?_
            refine w_iadd (pc1 := 78) (u := nI (c2)) (v := nI (0)) (z := nI (c2 + 0)) rfl (nK_add) rfl ?_
            refine w_p (pc1 := 79) (al1 := [(3, .int (nI (c2 + 0))), (2, .int (nI (c1 + 0))), (5, .int (nI (i))), (4, .int (nI (c3))), (0, .ref 176), (1, .int (x))]) rfl rfl ?_
            refine w_p (pc1 := 81) rfl rfl ?_
            refine w_p (pc1 := 83) rfl rfl ?_
            refine w_p (pc1 := 85) (st1 := .int 8 :: _) rfl rfl ?_
            refine w_f (a := 102) (b := 88) (bN_ge_f (a := i) (b := 8) (by omega) (by omega) (by omega)) rfl rfl ?_
            refine w_p (pc1 := 89) rfl rfl ?_
            refine w_m0 (pc1 := 92) rfl rfl (h_gC rfl rfl rfl rfl) rfl ?_
            refine w_p (pc1 := 94) rfl rfl ?_
            refine w_m0 (pc1 := 95) (st1 := .int 1 :: _) rfl rfl (n_ble (e := i) rfl rfl (by decide) rfl (by omega) (h3)) rfl ?_
            refine w_f (a := 102) (b := 98) rfl rfl rfl ?_
            refine w_p (pc1 := 99) (st1 := .int 1 :: _) rfl rfl ?_
            refine w_p (pc1 := 103) rfl rfl ?_
            refine w_iadd (pc1 := 104) (u := nI (c3)) (v := nI (1)) (z := nI (c3 + 1)) rfl (nK_add) rfl ?_
            refine w_p (pc1 := 106) (al1 := [(4, .int (nI (c3 + 1))), (3, .int (nI (c2 + 0))), (2, .int (nI (c1 + 0))), (5, .int (nI (i))), (0, .ref 176), (1, .int (x))]) rfl rfl ?_
            refine w_iinc (pc1 := 109) (u := nI (i)) (z := nI (i + 1)) (al1 := [(5, .int (nI (i + 1))), (4, .int (nI (c3 + 1))), (3, .int (nI (c2 + 0))), (2, .int (nI (c1 + 0))), (0, .ref 176), (1, .int (x))]) rfl rfl rfl nK_1 rfl rfl ?_
            refine w_p (pc1 := 29) rfl rfl ?_
            exact ih
          | false =>
            rw [b3] at h3
            rw [cnt_f ((lmt_t l6).trans b1)] at e1
            rw [cnt_f b2] at e2
            rw [cnt_f ((lmt_t (by omega)).trans b3)] at e3
            have ih := lp_288 hT hR hG k f (i + 1) (c1 + 0) (c2 + 0) (c3 + 0) (by omega) (by omega) (by omega) (by omega)
            refine w_p (pc1 := 31) rfl rfl ?_
            refine w_p (pc1 := 33) (st1 := .int 24 :: _) rfl rfl ?_
            refine w_f (a := 112) (b := 36) (bN_ge_f (a := i) (b := 24) (by omega) (by omega) (by omega)) rfl rfl ?_
            refine w_p (pc1 := 37) rfl rfl ?_
            refine w_p (pc1 := 39) rfl rfl ?_
            refine w_p (pc1 := 41) (st1 := .int 6 :: _) rfl rfl ?_
            refine w_f (a := 58) (b := 44) (bN_ge_f (a := i) (b := 6) (by omega) (by omega) (by omega)) rfl rfl ?_
            refine w_p (pc1 := 45) rfl rfl ?_
            refine w_m0 (pc1 := 48) rfl rfl (h_gC rfl rfl rfl rfl) rfl ?_
            refine w_p (pc1 := 50) rfl rfl ?_
            refine w_m0 (pc1 := 51) (st1 := .int 0 :: _) rfl rfl (n_ble (e := i) rfl rfl (by decide) rfl (by omega) (h1)) rfl ?_
            refine w_t (a := 58) (b := 54) rfl rfl rfl ?_
            refine w_p (pc1 := 59) (st1 := .int 0 :: _) rfl rfl ?_
            refine w_iadd (pc1 := 60) (u := nI (c1)) (v := nI (0)) (z := nI (c1 + 0)) rfl (nK_add) rfl ?_
            refine w_p (pc1 := 61) (al1 := [(2, .int (nI (c1 + 0))), (5, .int (nI (i))), (4, .int (nI (c3))), (3, .int (nI (c2))), (0, .ref 176), (1, .int (x))]) rfl rfl ?_
            refine w_p (pc1 := 62) rfl rfl ?_
            refine w_p (pc1 := 63) rfl rfl ?_
            refine w_m0 (pc1 := 66) rfl rfl (h_gC rfl rfl rfl rfl) rfl ?_
            refine w_p (pc1 := 68) rfl rfl ?_
            refine w_m0 (pc1 := 69) (st1 := .int 0 :: _) rfl rfl (n_ble (e := i) rfl rfl (by decide) rfl (by omega) (h2)) rfl ?_
            refine w_t (a := 76) (b := 72) rfl rfl rfl ?_
            refine w_p (pc1 := 77) (st1 := .int 0 :: _) rfl rfl ?_
            refine w_iadd (pc1 := 78) (u := nI (c2)) (v := nI (0)) (z := nI (c2 + 0)) rfl (nK_add) rfl ?_
            refine w_p (pc1 := 79) (al1 := [(3, .int (nI (c2 + 0))), (2, .int (nI (c1 + 0))), (5, .int (nI (i))), (4, .int (nI (c3))), (0, .ref 176), (1, .int (x))]) rfl rfl ?_
            refine w_p (pc1 := 81) rfl rfl ?_
            refine w_p (pc1 := 83) rfl rfl ?_
            refine w_p (pc1 := 85) (st1 := .int 8 :: _) rfl rfl ?_
            refine w_f (a := 102) (b := 88) (bN_ge_f (a := i) (b := 8) (by omega) (by omega) (by omega)) rfl rfl ?_
            refine w_p (pc1 := 89) rfl rfl ?_
            refine w_m0 (pc1 := 92) rfl rfl (h_gC rfl rfl rfl rfl) rfl ?_
            refine w_p (pc1 := 94) rfl rfl ?_
            refine w_m0 (pc1 := 95) (st1 := .int 0 :: _) rfl rfl (n_ble (e := i) rfl rfl (by decide) rfl (by omega) (h3)) rfl ?_
            refine w_t (a := 102) (b := 98) rfl rfl rfl ?_
            refine w_p (pc1 := 103) (st1 := .int 0 :: _) rfl rfl ?_
            refine w_iadd (pc1 := 104) (u := nI (c3)) (v := nI (0)) (z := nI (c3 + 0)) rfl (nK_add) rfl ?_
            refine w_p (pc1 := 106) (al1 := [(4, .int (nI (c3 + 0))), (3, .int (nI (c2 + 0))), (2, .int (nI (c1 + 0))), (5, .int (nI (i))), (0, .ref 176), (1, .int (x))]) rfl rfl ?_
            refine w_iinc (pc1 := 109) (u := nI (i)) (z := nI (i + 1)) (al1 := [(5, .int (nI (i + 1))), (4, .int (nI (c3 + 0))), (3, .int (nI (c2 + 0))), (2, .int (nI (c1 + 0))), (0, .ref 176), (1, .int (x))]) rfl rfl rfl nK_1 rfl rfl ?_
            refine w_p (pc1 := 29) rfl rfl ?_
            exact ih
      · by_cases l8 : i < 8
        · have h3 := hG i l8
          cases b3 : fG i with
          | true =>
            rw [b3] at h3
            rw [cnt_f (lmt_f (by omega))] at e1
            rw [cnt_f b2] at e2
            rw [cnt_t ((lmt_t l8).trans b3)] at e3
            have ih := lp_288 hT hR hG k f (i + 1) (c1 + 0) (c2 + 0) (c3 + 1) (by omega) (by omega) (by omega) (by omega)
            refine w_p (pc1 := 31) rfl rfl ?_
            refine w_p (pc1 := 33) (st1 := .int 24 :: _) rfl rfl ?_
            refine w_f (a := 112) (b := 36) (bN_ge_f (a := i) (b := 24) (by omega) (by omega) (by omega)) rfl rfl ?_
            refine w_p (pc1 := 37) rfl rfl ?_
            refine w_p (pc1 := 39) rfl rfl ?_
            refine w_p (pc1 := 41) (st1 := .int 6 :: _) rfl rfl ?_
            refine w_t (a := 58) (b := 44) (bN_ge_t (a := i) (b := 6) (by omega) (by omega) (by omega)) rfl rfl ?_
            refine w_p (pc1 := 59) (st1 := .int 0 :: _) rfl rfl ?_
            refine w_iadd (pc1 := 60) (u := nI (c1)) (v := nI (0)) (z := nI (c1 + 0)) rfl (nK_add) rfl ?_
            refine w_p (pc1 := 61) (al1 := [(2, .int (nI (c1 + 0))), (5, .int (nI (i))), (4, .int (nI (c3))), (3, .int (nI (c2))), (0, .ref 176), (1, .int (x))]) rfl rfl ?_
            refine w_p (pc1 := 62) rfl rfl ?_
            refine w_p (pc1 := 63) rfl rfl ?_
            refine w_m0 (pc1 := 66) rfl rfl (h_gC rfl rfl rfl rfl) rfl ?_
            refine w_p (pc1 := 68) rfl rfl ?_
            refine w_m0 (pc1 := 69) (st1 := .int 0 :: _) rfl rfl (n_ble (e := i) rfl rfl (by decide) rfl (by omega) (h2)) rfl ?_
            refine w_t (a := 76) (b := 72) rfl rfl rfl ?_
            refine w_p (pc1 := 77) (st1 := .int 0 :: _) rfl rfl ?_
            refine w_iadd (pc1 := 78) (u := nI (c2)) (v := nI (0)) (z := nI (c2 + 0)) rfl (nK_add) rfl ?_
            refine w_p (pc1 := 79) (al1 := [(3, .int (nI (c2 + 0))), (2, .int (nI (c1 + 0))), (5, .int (nI (i))), (4, .int (nI (c3))), (0, .ref 176), (1, .int (x))]) rfl rfl ?_
            refine w_p (pc1 := 81) rfl rfl ?_
            refine w_p (pc1 := 83) rfl rfl ?_
            refine w_p (pc1 := 85) (st1 := .int 8 :: _) rfl rfl ?_
            refine w_f (a := 102) (b := 88) (bN_ge_f (a := i) (b := 8) (by omega) (by omega) (by omega)) rfl rfl ?_
            refine w_p (pc1 := 89) rfl rfl ?_
            refine w_m0 (pc1 := 92) rfl rfl (h_gC rfl rfl rfl rfl) rfl ?_
            refine w_p (pc1 := 94) rfl rfl ?_
            refine w_m0 (pc1 := 95) (st1 := .int 1 :: _) rfl rfl (n_ble (e := i) rfl rfl (by decide) rfl (by omega) (h3)) rfl ?_
            refine w_f (a := 102) (b := 98) rfl rfl rfl ?_
            refine w_p (pc1 := 99) (st1 := .int 1 :: _) rfl rfl ?_
            refine w_p (pc1 := 103) rfl rfl ?_
            refine w_iadd (pc1 := 104) (u := nI (c3)) (v := nI (1)) (z := nI (c3 + 1)) rfl (nK_add) rfl ?_
            refine w_p (pc1 := 106) (al1 := [(4, .int (nI (c3 + 1))), (3, .int (nI (c2 + 0))), (2, .int (nI (c1 + 0))), (5, .int (nI (i))), (0, .ref 176), (1, .int (x))]) rfl rfl ?_
            refine w_iinc (pc1 := 109) (u := nI (i)) (z := nI (i + 1)) (al1 := [(5, .int (nI (i + 1))), (4, .int (nI (c3 + 1))), (3, .int (nI (c2 + 0))), (2, .int (nI (c1 + 0))), (0, .ref 176), (1, .int (x))]) rfl rfl rfl nK_1 rfl rfl ?_
            refine w_p (pc1 := 29) rfl rfl ?_
            exact ih
          | false =>
            rw [b3] at h3
            rw [cnt_f (lmt_f (by omega))] at e1
            rw [cnt_f b2] at e2
            rw [cnt_f ((lmt_t l8).trans b3)] at e3
            have ih := lp_288 hT hR hG k f (i + 1) (c1 + 0) (c2 + 0) (c3 + 0) (by omega) (by omega) (by omega) (by omega)
            refine w_p (pc1 := 31) rfl rfl ?_
            refine w_p (pc1 := 33) (st1 := .int 24 :: _) rfl rfl ?_
            refine w_f (a := 112) (b := 36) (bN_ge_f (a := i) (b := 24) (by omega) (by omega) (by omega)) rfl rfl ?_
            refine w_p (pc1 := 37) rfl rfl ?_
            refine w_p (pc1 := 39) rfl rfl ?_
            refine w_p (pc1 := 41) (st1 := .int 6 :: _) rfl rfl ?_
            refine w_t (a := 58) (b := 44) (bN_ge_t (a := i) (b := 6) (by omega) (by omega) (by omega)) rfl rfl ?_
            refine w_p (pc1 := 59) (st1 := .int 0 :: _) rfl rfl ?_
            refine w_iadd (pc1 := 60) (u := nI (c1)) (v := nI (0)) (z := nI (c1 + 0)) rfl (nK_add) rfl ?_
            refine w_p (pc1 := 61) (al1 := [(2, .int (nI (c1 + 0))), (5, .int (nI (i))), (4, .int (nI (c3))), (3, .int (nI (c2))), (0, .ref 176), (1, .int (x))]) rfl rfl ?_
            refine w_p (pc1 := 62) rfl rfl ?_
            refine w_p (pc1 := 63) rfl rfl ?_
            refine w_m0 (pc1 := 66) rfl rfl (h_gC rfl rfl rfl rfl) rfl ?_
            refine w_p (pc1 := 68) rfl rfl ?_
            refine w_m0 (pc1 := 69) (st1 := .int 0 :: _) rfl rfl (n_ble (e := i) rfl rfl (by decide) rfl (by omega) (h2)) rfl ?_
            refine w_t (a := 76) (b := 72) rfl rfl rfl ?_
            refine w_p (pc1 := 77) (st1 := .int 0 :: _) rfl rfl ?_
            refine w_iadd (pc1 := 78) (u := nI (c2)) (v := nI (0)) (z := nI (c2 + 0)) rfl (nK_add) rfl ?_
            refine w_p (pc1 := 79) (al1 := [(3, .int (nI (c2 + 0))), (2, .int (nI (c1 + 0))), (5, .int (nI (i))), (4, .int (nI (c3))), (0, .ref 176), (1, .int (x))]) rfl rfl ?_
            refine w_p (pc1 := 81) rfl rfl ?_
            refine w_p (pc1 := 83) rfl rfl ?_
            refine w_p (pc1 := 85) (st1 := .int 8 :: _) rfl rfl ?_
            refine w_f (a := 102) (b := 88) (bN_ge_f (a := i) (b := 8) (by omega) (by omega) (by omega)) rfl rfl ?_
            refine w_p (pc1 := 89) rfl rfl ?_
            refine w_m0 (pc1 := 92) rfl rfl (h_gC rfl rfl rfl rfl) rfl ?_
            refine w_p (pc1 := 94) rfl rfl ?_
            refine w_m0 (pc1 := 95) (st1 := .int 0 :: _) rfl rfl (n_ble (e := i) rfl rfl (by decide) rfl (by omega) (h3)) rfl ?_
            refine w_t (a := 102) (b := 98) rfl rfl rfl ?_
            refine w_p (pc1 := 103) (st1 := .int 0 :: _) rfl rfl ?_
            refine w_iadd (pc1 := 104) (u := nI (c3)) (v := nI (0)) (z := nI (c3 + 0)) rfl (nK_add) rfl ?_
            refine w_p (pc1 := 106) (al1 := [(4, .int (nI (c3 + 0))), (3, .int (nI (c2 + 0))), (2, .int (nI (c1 + 0))), (5, .int (nI (i))), (0, .ref 176), (1, .int (x))]) rfl rfl ?_
            refine w_iinc (pc1 := 109) (u := nI (i)) (z := nI (i + 1)) (al1 := [(5, .int (nI (i + 1))), (4, .int (nI (c3 + 0))), (3, .int (nI (c2 + 0))), (2, .int (nI (c1 + 0))), (0, .ref 176), (1, .int (x))]) rfl rfl rfl nK_1 rfl rfl ?_
            refine w_p (pc1 := 29) rfl rfl ?_
            exact ih
        · skip
          rw [cnt_f (lmt_f (by omega))] at e1
          rw [cnt_f b2] at e2
          rw [cnt_f (lmt_f (by omega))] at e3
          have ih := lp_288 hT hR hG k f (i + 1) (c1 + 0) (c2 + 0) (c3 + 0) (by omega) (by omega) (by omega) (by omega)
          refine w_p (pc1 := 31) rfl rfl ?_
          refine w_p (pc1 := 33) (st1 := .int 24 :: _) rfl rfl ?_
          refine w_f (a := 112) (b := 36) (bN_ge_f (a := i) (b := 24) (by omega) (by omega) (by omega)) rfl rfl ?_
          refine w_p (pc1 := 37) rfl rfl ?_
          refine w_p (pc1 := 39) rfl rfl ?_
          refine w_p (pc1 := 41) (st1 := .int 6 :: _) rfl rfl ?_
          refine w_t (a := 58) (b := 44) (bN_ge_t (a := i) (b := 6) (by omega) (by omega) (by omega)) rfl rfl ?_
          refine w_p (pc1 := 59) (st1 := .int 0 :: _) rfl rfl ?_
          refine w_iadd (pc1 := 60) (u := nI (c1)) (v := nI (0)) (z := nI (c1 + 0)) rfl (nK_add) rfl ?_
          refine w_p (pc1 := 61) (al1 := [(2, .int (nI (c1 + 0))), (5, .int (nI (i))), (4, .int (nI (c3))), (3, .int (nI (c2))), (0, .ref 176), (1, .int (x))]) rfl rfl ?_
          refine w_p (pc1 := 62) rfl rfl ?_
          refine w_p (pc1 := 63) rfl rfl ?_
          refine w_m0 (pc1 := 66) rfl rfl (h_gC rfl rfl rfl rfl) rfl ?_
          refine w_p (pc1 := 68) rfl rfl ?_
          refine w_m0 (pc1 := 69) (st1 := .int 0 :: _) rfl rfl (n_ble (e := i) rfl rfl (by decide) rfl (by omega) (h2)) rfl ?_
          refine w_t (a := 76) (b := 72) rfl rfl rfl ?_
          refine w_p (pc1 := 77) (st1 := .int 0 :: _) rfl rfl ?_
          refine w_iadd (pc1 := 78) (u := nI (c2)) (v := nI (0)) (z := nI (c2 + 0)) rfl (nK_add) rfl ?_
          refine w_p (pc1 := 79) (al1 := [(3, .int (nI (c2 + 0))), (2, .int (nI (c1 + 0))), (5, .int (nI (i))), (4, .int (nI (c3))), (0, .ref 176), (1, .int (x))]) rfl rfl ?_
          refine w_p (pc1 := 81) rfl rfl ?_
          refine w_p (pc1 := 83) rfl rfl ?_
          refine w_p (pc1 := 85) (st1 := .int 8 :: _) rfl rfl ?_
          refine w_t (a := 102) (b := 88) (bN_ge_t (a := i) (b := 8) (by omega) (by omega) (by omega)) rfl rfl ?_
          refine w_p (pc1 := 103) (st1 := .int 0 :: _) rfl rfl ?_
          refine w_iadd (pc1 := 104) (u := nI (c3)) (v := nI (0)) (z := nI (c3 + 0)) rfl (nK_add) rfl ?_
          refine w_p (pc1 := 106) (al1 := [(4, .int (nI (c3 + 0))), (3, .int (nI (c2 + 0))), (2, .int (nI (c1 + 0))), (5, .int (nI (i))), (0, .ref 176), (1, .int (x))]) rfl rfl ?_
          refine w_iinc (pc1 := 109) (u := nI (i)) (z := nI (i + 1)) (al1 := [(5, .int (nI (i + 1))), (4, .int (nI (c3 + 0))), (3, .int (nI (c2 + 0))), (2, .int (nI (c1 + 0))), (0, .ref 176), (1, .int (x))]) rfl rfl rfl nK_1 rfl rfl ?_
          refine w_p (pc1 := 29) rfl rfl ?_
          exact ih
set_option maxRecDepth 100000 in
theorem m_288_0 (hT : ∀ j, j < 6 → C.1 78 j = ck (fT j)) (hR : ∀ j, j < 24 → C.1 83 j = ck (fR j)) (hG : ∀ j, j < 8 → C.1 95 j = ck (fG j)) : Wd L xs (d + 1) y_288 (0, [(0, .ref 176), (1, .int 0)], [], MH C t, sl) (Rt (some (.int (nI (cnt fT 6 0)))) (MH (sI C 76 0 0) t) sl) nX := by
  refine w_p (pc1 := 1) rfl rfl ?_
  refine w_p (pc1 := 2) rfl rfl ?_
  refine w_p (pc1 := 3) (st1 := .long 0 :: _) rfl rfl ?_
  refine w_p (pc1 := 4) (st1 := .long 0 :: _) rfl rfl ?_
  refine w_m0 (pc1 := 7) (st1 := .long 6 :: _) rfl rfl rfl rfl ?_
  refine w_je (pc1 := 10) (vs := [.long 0, .long 0, .long 6]) (rest := [.ref 176]) (st1 := [.int 1, .ref 176]) (m_189t (d := d) (sl := 0) (isIn_t (x := 0) (m := 0) (n := 6) rfl rfl (by decide) (by decide))) rfl rfl rfl (fun _ _ => rfl) rfl (by exact cl_s my_189 rfl rfl rfl (Nat.le_of_ble_eq_true rfl) rfl rfl) (by rfl) (Nat.le_of_ble_eq_true rfl) (Nat.le_of_ble_eq_true rfl) rfl (by rfl) ?_
  refine w_p (pc1 := 11) (st1 := .int 1 :: _) rfl rfl ?_
  refine w_je (pc1 := 14) (vs := [.ref 176, .int 1, .int 1]) (rest := []) (st1 := [.int 1]) (m_190 (d := d) (sl := 0)) rfl rfl rfl (fun _ _ => rfl) rfl (by exact cl_v my_190 rfl rfl rfl (Nat.le_of_ble_eq_true rfl) rfl (MH_obj rfl rfl) rfl (by decide) rfl rfl) (by rfl) (Nat.le_of_ble_eq_true rfl) (Nat.le_of_ble_eq_true rfl) rfl (by rfl) ?_
  refine w_t (a := 19) (b := 17) rfl rfl rfl ?_
  refine w_p (pc1 := 20) (st1 := .int 0 :: _) rfl rfl ?_
  refine w_p (pc1 := 21) (al1 := [(2, .int 0), (0, .ref 176), (1, .int 0)]) rfl rfl ?_
  refine w_p (pc1 := 22) (st1 := .int 0 :: _) rfl rfl ?_
  refine w_p (pc1 := 23) (al1 := [(3, .int 0), (2, .int 0), (0, .ref 176), (1, .int 0)]) rfl rfl ?_
  refine w_p (pc1 := 24) (st1 := .int 0 :: _) rfl rfl ?_
  refine w_p (pc1 := 26) (al1 := [(4, .int 0), (3, .int 0), (2, .int 0), (0, .ref 176), (1, .int 0)]) rfl rfl ?_
  refine w_p (pc1 := 27) (st1 := .int 0 :: _) rfl rfl ?_
  refine w_p (pc1 := 29) (al1 := [(5, .int 0), (4, .int 0), (3, .int 0), (2, .int 0), (0, .ref 176), (1, .int 0)]) rfl rfl ?_
  refine lp_288 (C := sI C 76 0 0) (fT := fT) (fR := fR) (fG := fG) (n1 := cnt fT 6 0) (n2 := cnt fR 24 0) (n3 := cnt fG 8 0) hT hR hG ?_ 24 0 0 0 0 rfl ((Nat.zero_add _).trans (cnt_l 18 6 0 rfl)) (Nat.zero_add _) ((Nat.zero_add _).trans (cnt_l 16 8 0 rfl))
  refine w_p (pc1 := 113) rfl rfl ?_
  refine w_f (a := 120) (b := 116) rfl rfl rfl ?_
  refine w_p (pc1 := 117) rfl rfl ?_
  refine w_p (pc1 := 187) rfl rfl ?_
  refine w_r rfl rfl rfl (fun _ _ => rfl) cr_int ?_
  exact ⟨rfl, rfl, rfl⟩
set_option maxRecDepth 100000 in
theorem m_288_1 (hT : ∀ j, j < 6 → C.1 78 j = ck (fT j)) (hR : ∀ j, j < 24 → C.1 83 j = ck (fR j)) (hG : ∀ j, j < 8 → C.1 95 j = ck (fG j)) : Wd L xs (d + 1) y_288 (0, [(0, .ref 176), (1, .int 1)], [], MH C t, sl) (Rt (some (.int (nI (cnt fR 24 0)))) (MH (sI C 76 0 0) t) sl) nX := by
  refine w_p (pc1 := 1) rfl rfl ?_
  refine w_p (pc1 := 2) rfl rfl ?_
  refine w_p (pc1 := 3) (st1 := .long 1 :: _) rfl rfl ?_
  refine w_p (pc1 := 4) (st1 := .long 0 :: _) rfl rfl ?_
  refine w_m0 (pc1 := 7) (st1 := .long 6 :: _) rfl rfl rfl rfl ?_
  refine w_je (pc1 := 10) (vs := [.long 1, .long 0, .long 6]) (rest := [.ref 176]) (st1 := [.int 1, .ref 176]) (m_189t (d := d) (sl := 0) (isIn_t (x := 1) (m := 0) (n := 6) rfl rfl (by decide) (by decide))) rfl rfl rfl (fun _ _ => rfl) rfl (by exact cl_s my_189 rfl rfl rfl (Nat.le_of_ble_eq_true rfl) rfl rfl) (by rfl) (Nat.le_of_ble_eq_true rfl) (Nat.le_of_ble_eq_true rfl) rfl (by rfl) ?_
  refine w_p (pc1 := 11) (st1 := .int 1 :: _) rfl rfl ?_
  refine w_je (pc1 := 14) (vs := [.ref 176, .int 1, .int 1]) (rest := []) (st1 := [.int 1]) (m_190 (d := d) (sl := 0)) rfl rfl rfl (fun _ _ => rfl) rfl (by exact cl_v my_190 rfl rfl rfl (Nat.le_of_ble_eq_true rfl) rfl (MH_obj rfl rfl) rfl (by decide) rfl rfl) (by rfl) (Nat.le_of_ble_eq_true rfl) (Nat.le_of_ble_eq_true rfl) rfl (by rfl) ?_
  refine w_t (a := 19) (b := 17) rfl rfl rfl ?_
  refine w_p (pc1 := 20) (st1 := .int 0 :: _) rfl rfl ?_
  refine w_p (pc1 := 21) (al1 := [(2, .int 0), (0, .ref 176), (1, .int 1)]) rfl rfl ?_
  refine w_p (pc1 := 22) (st1 := .int 0 :: _) rfl rfl ?_
  refine w_p (pc1 := 23) (al1 := [(3, .int 0), (2, .int 0), (0, .ref 176), (1, .int 1)]) rfl rfl ?_
  refine w_p (pc1 := 24) (st1 := .int 0 :: _) rfl rfl ?_
  refine w_p (pc1 := 26) (al1 := [(4, .int 0), (3, .int 0), (2, .int 0), (0, .ref 176), (1, .int 1)]) rfl rfl ?_
  refine w_p (pc1 := 27) (st1 := .int 0 :: _) rfl rfl ?_
  refine w_p (pc1 := 29) (al1 := [(5, .int 0), (4, .int 0), (3, .int 0), (2, .int 0), (0, .ref 176), (1, .int 1)]) rfl rfl ?_
  refine lp_288 (C := sI C 76 0 0) (fT := fT) (fR := fR) (fG := fG) (n1 := cnt fT 6 0) (n2 := cnt fR 24 0) (n3 := cnt fG 8 0) hT hR hG ?_ 24 0 0 0 0 rfl ((Nat.zero_add _).trans (cnt_l 18 6 0 rfl)) (Nat.zero_add _) ((Nat.zero_add _).trans (cnt_l 16 8 0 rfl))
  refine w_p (pc1 := 113) rfl rfl ?_
  refine w_t (a := 120) (b := 116) rfl rfl rfl ?_
  refine w_p (pc1 := 121) rfl rfl ?_
  refine w_p (pc1 := 122) (st1 := .int 1 :: _) rfl rfl ?_
  refine w_f (a := 129) (b := 125) rfl rfl rfl ?_
  refine w_p (pc1 := 126) rfl rfl ?_
  refine w_p (pc1 := 187) rfl rfl ?_
  refine w_r rfl rfl rfl (fun _ _ => rfl) cr_int ?_
  exact ⟨rfl, rfl, rfl⟩
set_option maxRecDepth 100000 in
theorem m_288_2 (hT : ∀ j, j < 6 → C.1 78 j = ck (fT j)) (hR : ∀ j, j < 24 → C.1 83 j = ck (fR j)) (hG : ∀ j, j < 8 → C.1 95 j = ck (fG j)) : Wd L xs (d + 1) y_288 (0, [(0, .ref 176), (1, .int 2)], [], MH C t, sl) (Rt (some (.int (nI (cnt fG 8 0)))) (MH (sI C 76 0 0) t) sl) nX := by
  refine w_p (pc1 := 1) rfl rfl ?_
  refine w_p (pc1 := 2) rfl rfl ?_
  refine w_p (pc1 := 3) (st1 := .long 2 :: _) rfl rfl ?_
  refine w_p (pc1 := 4) (st1 := .long 0 :: _) rfl rfl ?_
  refine w_m0 (pc1 := 7) (st1 := .long 6 :: _) rfl rfl rfl rfl ?_
  refine w_je (pc1 := 10) (vs := [.long 2, .long 0, .long 6]) (rest := [.ref 176]) (st1 := [.int 1, .ref 176]) (m_189t (d := d) (sl := 0) (isIn_t (x := 2) (m := 0) (n := 6) rfl rfl (by decide) (by decide))) rfl rfl rfl (fun _ _ => rfl) rfl (by exact cl_s my_189 rfl rfl rfl (Nat.le_of_ble_eq_true rfl) rfl rfl) (by rfl) (Nat.le_of_ble_eq_true rfl) (Nat.le_of_ble_eq_true rfl) rfl (by rfl) ?_
  refine w_p (pc1 := 11) (st1 := .int 1 :: _) rfl rfl ?_
  refine w_je (pc1 := 14) (vs := [.ref 176, .int 1, .int 1]) (rest := []) (st1 := [.int 1]) (m_190 (d := d) (sl := 0)) rfl rfl rfl (fun _ _ => rfl) rfl (by exact cl_v my_190 rfl rfl rfl (Nat.le_of_ble_eq_true rfl) rfl (MH_obj rfl rfl) rfl (by decide) rfl rfl) (by rfl) (Nat.le_of_ble_eq_true rfl) (Nat.le_of_ble_eq_true rfl) rfl (by rfl) ?_
  refine w_t (a := 19) (b := 17) rfl rfl rfl ?_
  refine w_p (pc1 := 20) (st1 := .int 0 :: _) rfl rfl ?_
  refine w_p (pc1 := 21) (al1 := [(2, .int 0), (0, .ref 176), (1, .int 2)]) rfl rfl ?_
  refine w_p (pc1 := 22) (st1 := .int 0 :: _) rfl rfl ?_
  refine w_p (pc1 := 23) (al1 := [(3, .int 0), (2, .int 0), (0, .ref 176), (1, .int 2)]) rfl rfl ?_
  refine w_p (pc1 := 24) (st1 := .int 0 :: _) rfl rfl ?_
  refine w_p (pc1 := 26) (al1 := [(4, .int 0), (3, .int 0), (2, .int 0), (0, .ref 176), (1, .int 2)]) rfl rfl ?_
  refine w_p (pc1 := 27) (st1 := .int 0 :: _) rfl rfl ?_
  refine w_p (pc1 := 29) (al1 := [(5, .int 0), (4, .int 0), (3, .int 0), (2, .int 0), (0, .ref 176), (1, .int 2)]) rfl rfl ?_
  refine lp_288 (C := sI C 76 0 0) (fT := fT) (fR := fR) (fG := fG) (n1 := cnt fT 6 0) (n2 := cnt fR 24 0) (n3 := cnt fG 8 0) hT hR hG ?_ 24 0 0 0 0 rfl ((Nat.zero_add _).trans (cnt_l 18 6 0 rfl)) (Nat.zero_add _) ((Nat.zero_add _).trans (cnt_l 16 8 0 rfl))
  refine w_p (pc1 := 113) rfl rfl ?_
  refine w_t (a := 120) (b := 116) rfl rfl rfl ?_
  refine w_p (pc1 := 121) rfl rfl ?_
  refine w_p (pc1 := 122) (st1 := .int 1 :: _) rfl rfl ?_
  refine w_t (a := 129) (b := 125) rfl rfl rfl ?_
  refine w_p (pc1 := 130) rfl rfl ?_
  refine w_p (pc1 := 131) (st1 := .int 2 :: _) rfl rfl ?_
  refine w_f (a := 139) (b := 134) rfl rfl rfl ?_
  refine w_p (pc1 := 136) rfl rfl ?_
  refine w_p (pc1 := 187) rfl rfl ?_
  refine w_r rfl rfl rfl (fun _ _ => rfl) cr_int ?_
  exact ⟨rfl, rfl, rfl⟩
set_option maxRecDepth 100000 in
theorem m_288_3 (hT : ∀ j, j < 6 → C.1 78 j = ck (fT j)) (hR : ∀ j, j < 24 → C.1 83 j = ck (fR j)) (hG : ∀ j, j < 8 → C.1 95 j = ck (fG j)) (hx : C.1 76 70 = x) : Wd L xs (d + 1) y_288 (0, [(0, .ref 176), (1, .int 3)], [], MH C t, sl) (Rt (some (.int (x))) (MH (sI C 76 0 0) t) sl) nX := by
  refine w_p (pc1 := 1) rfl rfl ?_
  refine w_p (pc1 := 2) rfl rfl ?_
  refine w_p (pc1 := 3) (st1 := .long 3 :: _) rfl rfl ?_
  refine w_p (pc1 := 4) (st1 := .long 0 :: _) rfl rfl ?_
  refine w_m0 (pc1 := 7) (st1 := .long 6 :: _) rfl rfl rfl rfl ?_
  refine w_je (pc1 := 10) (vs := [.long 3, .long 0, .long 6]) (rest := [.ref 176]) (st1 := [.int 1, .ref 176]) (m_189t (d := d) (sl := 0) (isIn_t (x := 3) (m := 0) (n := 6) rfl rfl (by decide) (by decide))) rfl rfl rfl (fun _ _ => rfl) rfl (by exact cl_s my_189 rfl rfl rfl (Nat.le_of_ble_eq_true rfl) rfl rfl) (by rfl) (Nat.le_of_ble_eq_true rfl) (Nat.le_of_ble_eq_true rfl) rfl (by rfl) ?_
  refine w_p (pc1 := 11) (st1 := .int 1 :: _) rfl rfl ?_
  refine w_je (pc1 := 14) (vs := [.ref 176, .int 1, .int 1]) (rest := []) (st1 := [.int 1]) (m_190 (d := d) (sl := 0)) rfl rfl rfl (fun _ _ => rfl) rfl (by exact cl_v my_190 rfl rfl rfl (Nat.le_of_ble_eq_true rfl) rfl (MH_obj rfl rfl) rfl (by decide) rfl rfl) (by rfl) (Nat.le_of_ble_eq_true rfl) (Nat.le_of_ble_eq_true rfl) rfl (by rfl) ?_
  refine w_t (a := 19) (b := 17) rfl rfl rfl ?_
  refine w_p (pc1 := 20) (st1 := .int 0 :: _) rfl rfl ?_
  refine w_p (pc1 := 21) (al1 := [(2, .int 0), (0, .ref 176), (1, .int 3)]) rfl rfl ?_
  refine w_p (pc1 := 22) (st1 := .int 0 :: _) rfl rfl ?_
  refine w_p (pc1 := 23) (al1 := [(3, .int 0), (2, .int 0), (0, .ref 176), (1, .int 3)]) rfl rfl ?_
  refine w_p (pc1 := 24) (st1 := .int 0 :: _) rfl rfl ?_
  refine w_p (pc1 := 26) (al1 := [(4, .int 0), (3, .int 0), (2, .int 0), (0, .ref 176), (1, .int 3)]) rfl rfl ?_
  refine w_p (pc1 := 27) (st1 := .int 0 :: _) rfl rfl ?_
  refine w_p (pc1 := 29) (al1 := [(5, .int 0), (4, .int 0), (3, .int 0), (2, .int 0), (0, .ref 176), (1, .int 3)]) rfl rfl ?_
  refine lp_288 (C := sI C 76 0 0) (fT := fT) (fR := fR) (fG := fG) (n1 := cnt fT 6 0) (n2 := cnt fR 24 0) (n3 := cnt fG 8 0) hT hR hG ?_ 24 0 0 0 0 rfl ((Nat.zero_add _).trans (cnt_l 18 6 0 rfl)) (Nat.zero_add _) ((Nat.zero_add _).trans (cnt_l 16 8 0 rfl))
  refine w_p (pc1 := 113) rfl rfl ?_
  refine w_t (a := 120) (b := 116) rfl rfl rfl ?_
  refine w_p (pc1 := 121) rfl rfl ?_
  refine w_p (pc1 := 122) (st1 := .int 1 :: _) rfl rfl ?_
  refine w_t (a := 129) (b := 125) rfl rfl rfl ?_
  refine w_p (pc1 := 130) rfl rfl ?_
  refine w_p (pc1 := 131) (st1 := .int 2 :: _) rfl rfl ?_
  refine w_t (a := 139) (b := 134) rfl rfl rfl ?_
  refine w_p (pc1 := 140) rfl rfl ?_
  refine w_p (pc1 := 141) (st1 := .int 3 :: _) rfl rfl ?_
  refine w_f (a := 151) (b := 144) rfl rfl rfl ?_
  refine w_p (pc1 := 145) rfl rfl ?_
  refine w_m0 (pc1 := 148) (st1 := .int (x) :: _) rfl rfl (h_gIe (j := 70) rfl rfl rfl rfl rfl (hx)) rfl ?_
  refine w_p (pc1 := 187) rfl rfl ?_
  refine w_r rfl rfl rfl (fun _ _ => rfl) cr_int ?_
  exact ⟨rfl, rfl, rfl⟩
set_option maxRecDepth 100000 in
theorem m_288_4 (hT : ∀ j, j < 6 → C.1 78 j = ck (fT j)) (hR : ∀ j, j < 24 → C.1 83 j = ck (fR j)) (hG : ∀ j, j < 8 → C.1 95 j = ck (fG j)) (w : Wd L xs d y_194 (0, [(0, .ref 176)], [], MH (sI C 76 0 0) t, 0) (Rt (some (.int x)) (MH (sI C 76 0 0) t) 0) nX) : Wd L xs (d + 1) y_288 (0, [(0, .ref 176), (1, .int 4)], [], MH C t, sl) (Rt (some (.int (x))) (MH (sI C 76 0 0) t) sl) nX := by
  refine w_p (pc1 := 1) rfl rfl ?_
  refine w_p (pc1 := 2) rfl rfl ?_
  refine w_p (pc1 := 3) (st1 := .long 4 :: _) rfl rfl ?_
  refine w_p (pc1 := 4) (st1 := .long 0 :: _) rfl rfl ?_
  refine w_m0 (pc1 := 7) (st1 := .long 6 :: _) rfl rfl rfl rfl ?_
  refine w_je (pc1 := 10) (vs := [.long 4, .long 0, .long 6]) (rest := [.ref 176]) (st1 := [.int 1, .ref 176]) (m_189t (d := d) (sl := 0) (isIn_t (x := 4) (m := 0) (n := 6) rfl rfl (by decide) (by decide))) rfl rfl rfl (fun _ _ => rfl) rfl (by exact cl_s my_189 rfl rfl rfl (Nat.le_of_ble_eq_true rfl) rfl rfl) (by rfl) (Nat.le_of_ble_eq_true rfl) (Nat.le_of_ble_eq_true rfl) rfl (by rfl) ?_
  refine w_p (pc1 := 11) (st1 := .int 1 :: _) rfl rfl ?_
  refine w_je (pc1 := 14) (vs := [.ref 176, .int 1, .int 1]) (rest := []) (st1 := [.int 1]) (m_190 (d := d) (sl := 0)) rfl rfl rfl (fun _ _ => rfl) rfl (by exact cl_v my_190 rfl rfl rfl (Nat.le_of_ble_eq_true rfl) rfl (MH_obj rfl rfl) rfl (by decide) rfl rfl) (by rfl) (Nat.le_of_ble_eq_true rfl) (Nat.le_of_ble_eq_true rfl) rfl (by rfl) ?_
  refine w_t (a := 19) (b := 17) rfl rfl rfl ?_
  refine w_p (pc1 := 20) (st1 := .int 0 :: _) rfl rfl ?_
  refine w_p (pc1 := 21) (al1 := [(2, .int 0), (0, .ref 176), (1, .int 4)]) rfl rfl ?_
  refine w_p (pc1 := 22) (st1 := .int 0 :: _) rfl rfl ?_
  refine w_p (pc1 := 23) (al1 := [(3, .int 0), (2, .int 0), (0, .ref 176), (1, .int 4)]) rfl rfl ?_
  refine w_p (pc1 := 24) (st1 := .int 0 :: _) rfl rfl ?_
  refine w_p (pc1 := 26) (al1 := [(4, .int 0), (3, .int 0), (2, .int 0), (0, .ref 176), (1, .int 4)]) rfl rfl ?_
  refine w_p (pc1 := 27) (st1 := .int 0 :: _) rfl rfl ?_
  refine w_p (pc1 := 29) (al1 := [(5, .int 0), (4, .int 0), (3, .int 0), (2, .int 0), (0, .ref 176), (1, .int 4)]) rfl rfl ?_
  refine lp_288 (C := sI C 76 0 0) (fT := fT) (fR := fR) (fG := fG) (n1 := cnt fT 6 0) (n2 := cnt fR 24 0) (n3 := cnt fG 8 0) hT hR hG ?_ 24 0 0 0 0 rfl ((Nat.zero_add _).trans (cnt_l 18 6 0 rfl)) (Nat.zero_add _) ((Nat.zero_add _).trans (cnt_l 16 8 0 rfl))
  refine w_p (pc1 := 113) rfl rfl ?_
  refine w_t (a := 120) (b := 116) rfl rfl rfl ?_
  refine w_p (pc1 := 121) rfl rfl ?_
  refine w_p (pc1 := 122) (st1 := .int 1 :: _) rfl rfl ?_
  refine w_t (a := 129) (b := 125) rfl rfl rfl ?_
  refine w_p (pc1 := 130) rfl rfl ?_
  refine w_p (pc1 := 131) (st1 := .int 2 :: _) rfl rfl ?_
  refine w_t (a := 139) (b := 134) rfl rfl rfl ?_
  refine w_p (pc1 := 140) rfl rfl ?_
  refine w_p (pc1 := 141) (st1 := .int 3 :: _) rfl rfl ?_
  refine w_t (a := 151) (b := 144) rfl rfl rfl ?_
  refine w_p (pc1 := 152) rfl rfl ?_
  refine w_p (pc1 := 153) (st1 := .int 4 :: _) rfl rfl ?_
  refine w_f (a := 163) (b := 156) rfl rfl rfl ?_
  refine w_p (pc1 := 157) rfl rfl ?_
  refine w_je (pc1 := 160) (vs := [.ref 176]) (rest := []) (st1 := [.int (x)]) (w) rfl rfl rfl (fun _ _ => rfl) rfl (by exact cl_v my_194 rfl rfl rfl (Nat.le_of_ble_eq_true rfl) rfl (MH_obj rfl rfl) rfl (by decide) rfl rfl) (by rfl) (Nat.le_of_ble_eq_true rfl) (Nat.le_of_ble_eq_true rfl) rfl (by rfl) ?_
  refine w_p (pc1 := 187) rfl rfl ?_
  refine w_r rfl rfl rfl (fun _ _ => rfl) cr_int ?_
  exact ⟨rfl, rfl, rfl⟩
set_option maxRecDepth 100000 in
theorem m_288_5 (hT : ∀ j, j < 6 → C.1 78 j = ck (fT j)) (hR : ∀ j, j < 24 → C.1 83 j = ck (fR j)) (hG : ∀ j, j < 8 → C.1 95 j = ck (fG j)) (hu : C.1 76 69 = ck u) : Wd L xs (d + 1) y_288 (0, [(0, .ref 176), (1, .int 5)], [], MH C t, sl) (Rt (some (.int (ck u))) (MH (sI C 76 0 0) t) sl) nX := by
  refine w_p (pc1 := 1) rfl rfl ?_
  refine w_p (pc1 := 2) rfl rfl ?_
  refine w_p (pc1 := 3) (st1 := .long 5 :: _) rfl rfl ?_
  refine w_p (pc1 := 4) (st1 := .long 0 :: _) rfl rfl ?_
  refine w_m0 (pc1 := 7) (st1 := .long 6 :: _) rfl rfl rfl rfl ?_
  refine w_je (pc1 := 10) (vs := [.long 5, .long 0, .long 6]) (rest := [.ref 176]) (st1 := [.int 1, .ref 176]) (m_189t (d := d) (sl := 0) (isIn_t (x := 5) (m := 0) (n := 6) rfl rfl (by decide) (by decide))) rfl rfl rfl (fun _ _ => rfl) rfl (by exact cl_s my_189 rfl rfl rfl (Nat.le_of_ble_eq_true rfl) rfl rfl) (by rfl) (Nat.le_of_ble_eq_true rfl) (Nat.le_of_ble_eq_true rfl) rfl (by rfl) ?_
  refine w_p (pc1 := 11) (st1 := .int 1 :: _) rfl rfl ?_
  refine w_je (pc1 := 14) (vs := [.ref 176, .int 1, .int 1]) (rest := []) (st1 := [.int 1]) (m_190 (d := d) (sl := 0)) rfl rfl rfl (fun _ _ => rfl) rfl (by exact cl_v my_190 rfl rfl rfl (Nat.le_of_ble_eq_true rfl) rfl (MH_obj rfl rfl) rfl (by decide) rfl rfl) (by rfl) (Nat.le_of_ble_eq_true rfl) (Nat.le_of_ble_eq_true rfl) rfl (by rfl) ?_
  refine w_t (a := 19) (b := 17) rfl rfl rfl ?_
  refine w_p (pc1 := 20) (st1 := .int 0 :: _) rfl rfl ?_
  refine w_p (pc1 := 21) (al1 := [(2, .int 0), (0, .ref 176), (1, .int 5)]) rfl rfl ?_
  refine w_p (pc1 := 22) (st1 := .int 0 :: _) rfl rfl ?_
  refine w_p (pc1 := 23) (al1 := [(3, .int 0), (2, .int 0), (0, .ref 176), (1, .int 5)]) rfl rfl ?_
  refine w_p (pc1 := 24) (st1 := .int 0 :: _) rfl rfl ?_
  refine w_p (pc1 := 26) (al1 := [(4, .int 0), (3, .int 0), (2, .int 0), (0, .ref 176), (1, .int 5)]) rfl rfl ?_
  refine w_p (pc1 := 27) (st1 := .int 0 :: _) rfl rfl ?_
  refine w_p (pc1 := 29) (al1 := [(5, .int 0), (4, .int 0), (3, .int 0), (2, .int 0), (0, .ref 176), (1, .int 5)]) rfl rfl ?_
  refine lp_288 (C := sI C 76 0 0) (fT := fT) (fR := fR) (fG := fG) (n1 := cnt fT 6 0) (n2 := cnt fR 24 0) (n3 := cnt fG 8 0) hT hR hG ?_ 24 0 0 0 0 rfl ((Nat.zero_add _).trans (cnt_l 18 6 0 rfl)) (Nat.zero_add _) ((Nat.zero_add _).trans (cnt_l 16 8 0 rfl))
  cases u with
  | true =>
    refine w_p (pc1 := 113) rfl rfl ?_
    refine w_t (a := 120) (b := 116) rfl rfl rfl ?_
    refine w_p (pc1 := 121) rfl rfl ?_
    refine w_p (pc1 := 122) (st1 := .int 1 :: _) rfl rfl ?_
    refine w_t (a := 129) (b := 125) rfl rfl rfl ?_
    refine w_p (pc1 := 130) rfl rfl ?_
    refine w_p (pc1 := 131) (st1 := .int 2 :: _) rfl rfl ?_
    refine w_t (a := 139) (b := 134) rfl rfl rfl ?_
    refine w_p (pc1 := 140) rfl rfl ?_
    refine w_p (pc1 := 141) (st1 := .int 3 :: _) rfl rfl ?_
    refine w_t (a := 151) (b := 144) rfl rfl rfl ?_
    refine w_p (pc1 := 152) rfl rfl ?_
    refine w_p (pc1 := 153) (st1 := .int 4 :: _) rfl rfl ?_
    refine w_t (a := 163) (b := 156) rfl rfl rfl ?_
    refine w_p (pc1 := 164) rfl rfl ?_
    refine w_p (pc1 := 165) (st1 := .int 5 :: _) rfl rfl ?_
    refine w_f (a := 183) (b := 168) rfl rfl rfl ?_
    refine w_p (pc1 := 169) rfl rfl ?_
    refine w_m0 (pc1 := 172) (st1 := .int 1 :: _) rfl rfl (h_gIe (j := 69) rfl rfl rfl rfl rfl (hu)) rfl ?_
    refine w_f (a := 179) (b := 175) rfl rfl rfl ?_
    refine w_p (pc1 := 176) (st1 := .int 1 :: _) rfl rfl ?_
    refine w_p (pc1 := 187) rfl rfl ?_
    refine w_r rfl rfl rfl (fun _ _ => rfl) cr_int ?_
    exact ⟨rfl, rfl, rfl⟩
  | false =>
    refine w_p (pc1 := 113) rfl rfl ?_
    refine w_t (a := 120) (b := 116) rfl rfl rfl ?_
    refine w_p (pc1 := 121) rfl rfl ?_
    refine w_p (pc1 := 122) (st1 := .int 1 :: _) rfl rfl ?_
    refine w_t (a := 129) (b := 125) rfl rfl rfl ?_
    refine w_p (pc1 := 130) rfl rfl ?_
    refine w_p (pc1 := 131) (st1 := .int 2 :: _) rfl rfl ?_
    refine w_t (a := 139) (b := 134) rfl rfl rfl ?_
    refine w_p (pc1 := 140) rfl rfl ?_
    refine w_p (pc1 := 141) (st1 := .int 3 :: _) rfl rfl ?_
    refine w_t (a := 151) (b := 144) rfl rfl rfl ?_
    refine w_p (pc1 := 152) rfl rfl ?_
    refine w_p (pc1 := 153) (st1 := .int 4 :: _) rfl rfl ?_
    refine w_t (a := 163) (b := 156) rfl rfl rfl ?_
    refine w_p (pc1 := 164) rfl rfl ?_
    refine w_p (pc1 := 165) (st1 := .int 5 :: _) rfl rfl ?_
    refine w_f (a := 183) (b := 168) rfl rfl rfl ?_
    refine w_p (pc1 := 169) rfl rfl ?_
    refine w_m0 (pc1 := 172) (st1 := .int 0 :: _) rfl rfl (h_gIe (j := 69) rfl rfl rfl rfl rfl (hu)) rfl ?_
    refine w_t (a := 179) (b := 175) rfl rfl rfl ?_
    refine w_p (pc1 := 180) (st1 := .int 0 :: _) rfl rfl ?_
    refine w_p (pc1 := 187) rfl rfl ?_
    refine w_r rfl rfl rfl (fun _ _ => rfl) cr_int ?_
    exact ⟨rfl, rfl, rfl⟩
set_option maxRecDepth 100000 in
theorem m_288_6 (hT : ∀ j, j < 6 → C.1 78 j = ck (fT j)) (hR : ∀ j, j < 24 → C.1 83 j = ck (fR j)) (hG : ∀ j, j < 8 → C.1 95 j = ck (fG j)) (hx : C.1 76 2 = x) : Wd L xs (d + 1) y_288 (0, [(0, .ref 176), (1, .int 6)], [], MH C t, sl) (Rt (some (.int (x))) (MH (sI C 76 0 0) t) sl) nX := by
  refine w_p (pc1 := 1) rfl rfl ?_
  refine w_p (pc1 := 2) rfl rfl ?_
  refine w_p (pc1 := 3) (st1 := .long 6 :: _) rfl rfl ?_
  refine w_p (pc1 := 4) (st1 := .long 0 :: _) rfl rfl ?_
  refine w_m0 (pc1 := 7) (st1 := .long 6 :: _) rfl rfl rfl rfl ?_
  refine w_je (pc1 := 10) (vs := [.long 6, .long 0, .long 6]) (rest := [.ref 176]) (st1 := [.int 1, .ref 176]) (m_189t (d := d) (sl := 0) (isIn_t (x := 6) (m := 0) (n := 6) rfl rfl (by decide) (by decide))) rfl rfl rfl (fun _ _ => rfl) rfl (by exact cl_s my_189 rfl rfl rfl (Nat.le_of_ble_eq_true rfl) rfl rfl) (by rfl) (Nat.le_of_ble_eq_true rfl) (Nat.le_of_ble_eq_true rfl) rfl (by rfl) ?_
  refine w_p (pc1 := 11) (st1 := .int 1 :: _) rfl rfl ?_
  refine w_je (pc1 := 14) (vs := [.ref 176, .int 1, .int 1]) (rest := []) (st1 := [.int 1]) (m_190 (d := d) (sl := 0)) rfl rfl rfl (fun _ _ => rfl) rfl (by exact cl_v my_190 rfl rfl rfl (Nat.le_of_ble_eq_true rfl) rfl (MH_obj rfl rfl) rfl (by decide) rfl rfl) (by rfl) (Nat.le_of_ble_eq_true rfl) (Nat.le_of_ble_eq_true rfl) rfl (by rfl) ?_
  refine w_t (a := 19) (b := 17) rfl rfl rfl ?_
  refine w_p (pc1 := 20) (st1 := .int 0 :: _) rfl rfl ?_
  refine w_p (pc1 := 21) (al1 := [(2, .int 0), (0, .ref 176), (1, .int 6)]) rfl rfl ?_
  refine w_p (pc1 := 22) (st1 := .int 0 :: _) rfl rfl ?_
  refine w_p (pc1 := 23) (al1 := [(3, .int 0), (2, .int 0), (0, .ref 176), (1, .int 6)]) rfl rfl ?_
  refine w_p (pc1 := 24) (st1 := .int 0 :: _) rfl rfl ?_
  refine w_p (pc1 := 26) (al1 := [(4, .int 0), (3, .int 0), (2, .int 0), (0, .ref 176), (1, .int 6)]) rfl rfl ?_
  refine w_p (pc1 := 27) (st1 := .int 0 :: _) rfl rfl ?_
  refine w_p (pc1 := 29) (al1 := [(5, .int 0), (4, .int 0), (3, .int 0), (2, .int 0), (0, .ref 176), (1, .int 6)]) rfl rfl ?_
  refine lp_288 (C := sI C 76 0 0) (fT := fT) (fR := fR) (fG := fG) (n1 := cnt fT 6 0) (n2 := cnt fR 24 0) (n3 := cnt fG 8 0) hT hR hG ?_ 24 0 0 0 0 rfl ((Nat.zero_add _).trans (cnt_l 18 6 0 rfl)) (Nat.zero_add _) ((Nat.zero_add _).trans (cnt_l 16 8 0 rfl))
  refine w_p (pc1 := 113) rfl rfl ?_
  refine w_t (a := 120) (b := 116) rfl rfl rfl ?_
  refine w_p (pc1 := 121) rfl rfl ?_
  refine w_p (pc1 := 122) (st1 := .int 1 :: _) rfl rfl ?_
  refine w_t (a := 129) (b := 125) rfl rfl rfl ?_
  refine w_p (pc1 := 130) rfl rfl ?_
  refine w_p (pc1 := 131) (st1 := .int 2 :: _) rfl rfl ?_
  refine w_t (a := 139) (b := 134) rfl rfl rfl ?_
  refine w_p (pc1 := 140) rfl rfl ?_
  refine w_p (pc1 := 141) (st1 := .int 3 :: _) rfl rfl ?_
  refine w_t (a := 151) (b := 144) rfl rfl rfl ?_
  refine w_p (pc1 := 152) rfl rfl ?_
  refine w_p (pc1 := 153) (st1 := .int 4 :: _) rfl rfl ?_
  refine w_t (a := 163) (b := 156) rfl rfl rfl ?_
  refine w_p (pc1 := 164) rfl rfl ?_
  refine w_p (pc1 := 165) (st1 := .int 5 :: _) rfl rfl ?_
  refine w_t (a := 183) (b := 168) rfl rfl rfl ?_
  refine w_p (pc1 := 184) rfl rfl ?_
  refine w_m0 (pc1 := 187) (st1 := .int (x) :: _) rfl rfl (h_gIe (j := 2) rfl rfl rfl rfl rfl (hx)) rfl ?_
  refine w_r rfl rfl rfl (fun _ _ => rfl) cr_int ?_
  exact ⟨rfl, rfl, rfl⟩
set_option maxRecDepth 100000 in
theorem m_288o (h : ¬ (0 ≤ x.toInt ∧ x.toInt ≤ 6)) : Wd L xs (d + 1) y_288 (0, [(0, .ref 176), (1, .int x)], [], MH C t, sl) (Rt (some (.int 0)) (MH (sI C 76 0 1) t) sl) nX := by
  refine w_p (pc1 := 1) rfl rfl ?_
  refine w_p (pc1 := 2) rfl rfl ?_
  refine w_p (pc1 := 3) rfl rfl ?_
  refine w_p (pc1 := 4) (st1 := .long 0 :: _) rfl rfl ?_
  refine w_m0 (pc1 := 7) (st1 := .long 6 :: _) rfl rfl rfl rfl ?_
  refine w_je (pc1 := 10) (vs := [_, .long 0, .long 6]) (rest := [.ref 176]) (st1 := [.int 0, .ref 176]) (m_189f (d := d) (sl := 0) (isIn_f (x := x) (m := 0) (n := 6) rfl rfl h)) rfl rfl rfl (fun _ _ => rfl) rfl (by exact cl_s my_189 rfl rfl rfl (Nat.le_of_ble_eq_true rfl) rfl rfl) (by rfl) (Nat.le_of_ble_eq_true rfl) (Nat.le_of_ble_eq_true rfl) rfl (by rfl) ?_
  refine w_p (pc1 := 11) (st1 := .int 1 :: _) rfl rfl ?_
  refine w_je (pc1 := 14) (vs := [.ref 176, .int 0, .int 1]) (rest := []) (st1 := [.int 0]) (m_190 (d := d) (sl := 0)) rfl rfl rfl (fun _ _ => rfl) rfl (by exact cl_v my_190 rfl rfl rfl (Nat.le_of_ble_eq_true rfl) rfl (MH_obj rfl rfl) rfl (by decide) rfl rfl) (by rfl) (Nat.le_of_ble_eq_true rfl) (Nat.le_of_ble_eq_true rfl) rfl (by rfl) ?_
  refine w_f (a := 19) (b := 17) rfl rfl rfl ?_
  refine w_p (pc1 := 18) (st1 := .int 0 :: _) rfl rfl ?_
  refine w_r rfl rfl rfl (fun _ _ => rfl) cr_int ?_
  exact ⟨rfl, rfl, rfl⟩
set_option maxRecDepth 100000 in
theorem m_289_0 (w : Wd L xs d y_208 (0, [(0, .ref 176), (1, .long a)], [], MH (sI C 76 0 0) t, 0) (Rt (some (.int r)) (MH (sI C 76 0 0) t) 0) nX) : Wd L xs (d + 1) y_289 (0, [(0, .ref 176), (1, .int 0), (2, .long a)], [], MH C t, sl) (Rt (some (.int r)) (MH (sI C 76 0 0) t) sl) nX := by
  refine w_p (pc1 := 1) rfl rfl ?_
  refine w_p (pc1 := 2) rfl rfl ?_
  refine w_p (pc1 := 3) (st1 := .long 0 :: _) rfl rfl ?_
  refine w_p (pc1 := 4) (st1 := .long 0 :: _) rfl rfl ?_
  refine w_m0 (pc1 := 7) (st1 := .long 8 :: _) rfl rfl rfl rfl ?_
  refine w_je (pc1 := 10) (vs := [.long 0, .long 0, .long 8]) (rest := [.ref 176]) (st1 := [.int 1, .ref 176]) (m_189t (d := d) (sl := 0) (isIn_t (x := 0) (m := 0) (n := 8) rfl rfl (by decide) (by decide))) rfl rfl rfl (fun _ _ => rfl) rfl (by exact cl_s my_189 rfl rfl rfl (Nat.le_of_ble_eq_true rfl) rfl rfl) (by rfl) (Nat.le_of_ble_eq_true rfl) (Nat.le_of_ble_eq_true rfl) rfl (by rfl) ?_
  refine w_p (pc1 := 11) (st1 := .int 1 :: _) rfl rfl ?_
  refine w_je (pc1 := 14) (vs := [.ref 176, .int 1, .int 1]) (rest := []) (st1 := [.int 1]) (m_190 (d := d) (sl := 0)) rfl rfl rfl (fun _ _ => rfl) rfl (by exact cl_v my_190 rfl rfl rfl (Nat.le_of_ble_eq_true rfl) rfl (MH_obj rfl rfl) rfl (by decide) rfl rfl) (by rfl) (Nat.le_of_ble_eq_true rfl) (Nat.le_of_ble_eq_true rfl) rfl (by rfl) ?_
  refine w_t (a := 19) (b := 17) rfl rfl rfl ?_
  refine w_p (pc1 := 20) rfl rfl ?_
  refine w_p (pc1 := 21) (st1 := .int 3 :: _) rfl rfl ?_
  refine w_f (a := 55) (b := 24) rfl rfl rfl ?_
  refine w_p (pc1 := 25) rfl rfl ?_
  refine w_f (a := 36) (b := 28) rfl rfl rfl ?_
  refine w_p (pc1 := 29) rfl rfl ?_
  refine w_p (pc1 := 30) rfl rfl ?_
  refine w_je (pc1 := 33) (vs := [.ref 176, .long (a)]) (rest := []) (st1 := [.int (r)]) (w) rfl rfl rfl (fun _ _ => rfl) rfl (by exact cl_v my_208 rfl rfl rfl (Nat.le_of_ble_eq_true rfl) rfl (MH_obj rfl rfl) rfl (by decide) rfl rfl) (by rfl) (Nat.le_of_ble_eq_true rfl) (Nat.le_of_ble_eq_true rfl) rfl (by rfl) ?_
  refine w_p (pc1 := 54) rfl rfl ?_
  refine w_r rfl rfl rfl (fun _ _ => rfl) cr_int ?_
  exact ⟨rfl, rfl, rfl⟩
set_option maxRecDepth 100000 in
theorem m_289_1 (w : Wd L xs d y_237 (0, [(0, .ref 176), (1, .long a)], [], MH (sI C 76 0 0) t, 0) (Rt (some (.int r)) (MH (sI C 76 0 0) t) 0) nX) : Wd L xs (d + 1) y_289 (0, [(0, .ref 176), (1, .int 1), (2, .long a)], [], MH C t, sl) (Rt (some (.int r)) (MH (sI C 76 0 0) t) sl) nX := by
  refine w_p (pc1 := 1) rfl rfl ?_
  refine w_p (pc1 := 2) rfl rfl ?_
  refine w_p (pc1 := 3) (st1 := .long 1 :: _) rfl rfl ?_
  refine w_p (pc1 := 4) (st1 := .long 0 :: _) rfl rfl ?_
  refine w_m0 (pc1 := 7) (st1 := .long 8 :: _) rfl rfl rfl rfl ?_
  refine w_je (pc1 := 10) (vs := [.long 1, .long 0, .long 8]) (rest := [.ref 176]) (st1 := [.int 1, .ref 176]) (m_189t (d := d) (sl := 0) (isIn_t (x := 1) (m := 0) (n := 8) rfl rfl (by decide) (by decide))) rfl rfl rfl (fun _ _ => rfl) rfl (by exact cl_s my_189 rfl rfl rfl (Nat.le_of_ble_eq_true rfl) rfl rfl) (by rfl) (Nat.le_of_ble_eq_true rfl) (Nat.le_of_ble_eq_true rfl) rfl (by rfl) ?_
  refine w_p (pc1 := 11) (st1 := .int 1 :: _) rfl rfl ?_
  refine w_je (pc1 := 14) (vs := [.ref 176, .int 1, .int 1]) (rest := []) (st1 := [.int 1]) (m_190 (d := d) (sl := 0)) rfl rfl rfl (fun _ _ => rfl) rfl (by exact cl_v my_190 rfl rfl rfl (Nat.le_of_ble_eq_true rfl) rfl (MH_obj rfl rfl) rfl (by decide) rfl rfl) (by rfl) (Nat.le_of_ble_eq_true rfl) (Nat.le_of_ble_eq_true rfl) rfl (by rfl) ?_
  refine w_t (a := 19) (b := 17) rfl rfl rfl ?_
  refine w_p (pc1 := 20) rfl rfl ?_
  refine w_p (pc1 := 21) (st1 := .int 3 :: _) rfl rfl ?_
  refine w_f (a := 55) (b := 24) rfl rfl rfl ?_
  refine w_p (pc1 := 25) rfl rfl ?_
  refine w_t (a := 36) (b := 28) rfl rfl rfl ?_
  refine w_p (pc1 := 37) rfl rfl ?_
  refine w_p (pc1 := 38) (st1 := .int 1 :: _) rfl rfl ?_
  refine w_f (a := 49) (b := 41) rfl rfl rfl ?_
  refine w_p (pc1 := 42) rfl rfl ?_
  refine w_p (pc1 := 43) rfl rfl ?_
  refine w_je (pc1 := 46) (vs := [.ref 176, .long (a)]) (rest := []) (st1 := [.int (r)]) (w) rfl rfl rfl (fun _ _ => rfl) rfl (by exact cl_v my_237 rfl rfl rfl (Nat.le_of_ble_eq_true rfl) rfl (MH_obj rfl rfl) rfl (by decide) rfl rfl) (by rfl) (Nat.le_of_ble_eq_true rfl) (Nat.le_of_ble_eq_true rfl) rfl (by rfl) ?_
  refine w_p (pc1 := 54) rfl rfl ?_
  refine w_r rfl rfl rfl (fun _ _ => rfl) cr_int ?_
  exact ⟨rfl, rfl, rfl⟩
set_option maxRecDepth 100000 in
theorem m_289_2 (w : Wd L xs d y_246 (0, [(0, .ref 176), (1, .long a)], [], MH (sI C 76 0 0) t, 0) (Rt (some (.int r)) (MH (sI C 76 0 0) t) 0) nX) : Wd L xs (d + 1) y_289 (0, [(0, .ref 176), (1, .int 2), (2, .long a)], [], MH C t, sl) (Rt (some (.int r)) (MH (sI C 76 0 0) t) sl) nX := by
  refine w_p (pc1 := 1) rfl rfl ?_
  refine w_p (pc1 := 2) rfl rfl ?_
  refine w_p (pc1 := 3) (st1 := .long 2 :: _) rfl rfl ?_
  refine w_p (pc1 := 4) (st1 := .long 0 :: _) rfl rfl ?_
  refine w_m0 (pc1 := 7) (st1 := .long 8 :: _) rfl rfl rfl rfl ?_
  refine w_je (pc1 := 10) (vs := [.long 2, .long 0, .long 8]) (rest := [.ref 176]) (st1 := [.int 1, .ref 176]) (m_189t (d := d) (sl := 0) (isIn_t (x := 2) (m := 0) (n := 8) rfl rfl (by decide) (by decide))) rfl rfl rfl (fun _ _ => rfl) rfl (by exact cl_s my_189 rfl rfl rfl (Nat.le_of_ble_eq_true rfl) rfl rfl) (by rfl) (Nat.le_of_ble_eq_true rfl) (Nat.le_of_ble_eq_true rfl) rfl (by rfl) ?_
  refine w_p (pc1 := 11) (st1 := .int 1 :: _) rfl rfl ?_
  refine w_je (pc1 := 14) (vs := [.ref 176, .int 1, .int 1]) (rest := []) (st1 := [.int 1]) (m_190 (d := d) (sl := 0)) rfl rfl rfl (fun _ _ => rfl) rfl (by exact cl_v my_190 rfl rfl rfl (Nat.le_of_ble_eq_true rfl) rfl (MH_obj rfl rfl) rfl (by decide) rfl rfl) (by rfl) (Nat.le_of_ble_eq_true rfl) (Nat.le_of_ble_eq_true rfl) rfl (by rfl) ?_
  refine w_t (a := 19) (b := 17) rfl rfl rfl ?_
  refine w_p (pc1 := 20) rfl rfl ?_
  refine w_p (pc1 := 21) (st1 := .int 3 :: _) rfl rfl ?_
  refine w_f (a := 55) (b := 24) rfl rfl rfl ?_
  refine w_p (pc1 := 25) rfl rfl ?_
  refine w_t (a := 36) (b := 28) rfl rfl rfl ?_
  refine w_p (pc1 := 37) rfl rfl ?_
  refine w_p (pc1 := 38) (st1 := .int 1 :: _) rfl rfl ?_
  refine w_t (a := 49) (b := 41) rfl rfl rfl ?_
  refine w_p (pc1 := 50) rfl rfl ?_
  refine w_p (pc1 := 51) rfl rfl ?_
  refine w_je (pc1 := 54) (vs := [.ref 176, .long (a)]) (rest := []) (st1 := [.int (r)]) (w) rfl rfl rfl (fun _ _ => rfl) rfl (by exact cl_v my_246 rfl rfl rfl (Nat.le_of_ble_eq_true rfl) rfl (MH_obj rfl rfl) rfl (by decide) rfl rfl) (by rfl) (Nat.le_of_ble_eq_true rfl) (Nat.le_of_ble_eq_true rfl) rfl (by rfl) ?_
  refine w_r rfl rfl rfl (fun _ _ => rfl) cr_int ?_
  exact ⟨rfl, rfl, rfl⟩
set_option maxRecDepth 100000 in
theorem m_289_3 (hf : C.1 78 0 = 1) (w : Wd L xs d y_213 (0, [(0, .ref 176), (1, .int 0), (2, .long a)], [], MH (sI C 76 0 0) t, 0) (Rt (some (.int r)) (MH (sI C 76 0 0) t) 0) nX) : Wd L xs (d + 1) y_289 (0, [(0, .ref 176), (1, .int 3), (2, .long a)], [], MH C t, sl) (Rt (some (.int r)) (MH (sI C 76 0 0) t) sl) nX := by
  refine w_p (pc1 := 1) rfl rfl ?_
  refine w_p (pc1 := 2) rfl rfl ?_
  refine w_p (pc1 := 3) (st1 := .long 3 :: _) rfl rfl ?_
  refine w_p (pc1 := 4) (st1 := .long 0 :: _) rfl rfl ?_
  refine w_m0 (pc1 := 7) (st1 := .long 8 :: _) rfl rfl rfl rfl ?_
  refine w_je (pc1 := 10) (vs := [.long 3, .long 0, .long 8]) (rest := [.ref 176]) (st1 := [.int 1, .ref 176]) (m_189t (d := d) (sl := 0) (isIn_t (x := 3) (m := 0) (n := 8) rfl rfl (by decide) (by decide))) rfl rfl rfl (fun _ _ => rfl) rfl (by exact cl_s my_189 rfl rfl rfl (Nat.le_of_ble_eq_true rfl) rfl rfl) (by rfl) (Nat.le_of_ble_eq_true rfl) (Nat.le_of_ble_eq_true rfl) rfl (by rfl) ?_
  refine w_p (pc1 := 11) (st1 := .int 1 :: _) rfl rfl ?_
  refine w_je (pc1 := 14) (vs := [.ref 176, .int 1, .int 1]) (rest := []) (st1 := [.int 1]) (m_190 (d := d) (sl := 0)) rfl rfl rfl (fun _ _ => rfl) rfl (by exact cl_v my_190 rfl rfl rfl (Nat.le_of_ble_eq_true rfl) rfl (MH_obj rfl rfl) rfl (by decide) rfl rfl) (by rfl) (Nat.le_of_ble_eq_true rfl) (Nat.le_of_ble_eq_true rfl) rfl (by rfl) ?_
  refine w_t (a := 19) (b := 17) rfl rfl rfl ?_
  refine w_p (pc1 := 20) rfl rfl ?_
  refine w_p (pc1 := 21) (st1 := .int 3 :: _) rfl rfl ?_
  refine w_t (a := 55) (b := 24) rfl rfl rfl ?_
  refine w_p (pc1 := 56) rfl rfl ?_
  refine w_m0 (pc1 := 59) rfl rfl (h_gC rfl rfl rfl rfl) rfl ?_
  refine w_p (pc1 := 60) rfl rfl ?_
  refine w_p (pc1 := 61) (st1 := .int 3 :: _) rfl rfl ?_
  refine w_p (pc1 := 62) (st1 := .int 0 :: _) rfl rfl ?_
  refine w_m0 (pc1 := 63) (st1 := .int 1 :: _) rfl rfl (n_ble (e := 0) rfl rfl (by decide) rfl (by decide) (hf)) rfl ?_
  refine w_f (a := 77) (b := 66) rfl rfl rfl ?_
  refine w_p (pc1 := 67) rfl rfl ?_
  refine w_p (pc1 := 68) rfl rfl ?_
  refine w_p (pc1 := 69) (st1 := .int 3 :: _) rfl rfl ?_
  refine w_p (pc1 := 70) (st1 := .int 0 :: _) rfl rfl ?_
  refine w_p (pc1 := 71) rfl rfl ?_
  refine w_je (pc1 := 74) (vs := [.ref 176, .int 0, .long (a)]) (rest := []) (st1 := [.int (r)]) (w) rfl rfl rfl (fun _ _ => rfl) rfl (by exact cl_v my_213 rfl rfl rfl (Nat.le_of_ble_eq_true rfl) rfl (MH_obj rfl rfl) rfl (by decide) rfl rfl) (by rfl) (Nat.le_of_ble_eq_true rfl) (Nat.le_of_ble_eq_true rfl) rfl (by rfl) ?_
  refine w_p (pc1 := 78) rfl rfl ?_
  refine w_r rfl rfl rfl (fun _ _ => rfl) cr_int ?_
  exact ⟨rfl, rfl, rfl⟩
set_option maxRecDepth 100000 in
theorem m_289_3n (hf : C.1 78 0 = 0) : Wd L xs (d + 1) y_289 (0, [(0, .ref 176), (1, .int 3), (2, .long a)], [], MH C t, sl) (Rt (some (.int (-1))) (MH (sI C 76 0 0) t) sl) nX := by
  refine w_p (pc1 := 1) rfl rfl ?_
  refine w_p (pc1 := 2) rfl rfl ?_
  refine w_p (pc1 := 3) (st1 := .long 3 :: _) rfl rfl ?_
  refine w_p (pc1 := 4) (st1 := .long 0 :: _) rfl rfl ?_
  refine w_m0 (pc1 := 7) (st1 := .long 8 :: _) rfl rfl rfl rfl ?_
  refine w_je (pc1 := 10) (vs := [.long 3, .long 0, .long 8]) (rest := [.ref 176]) (st1 := [.int 1, .ref 176]) (m_189t (d := d) (sl := 0) (isIn_t (x := 3) (m := 0) (n := 8) rfl rfl (by decide) (by decide))) rfl rfl rfl (fun _ _ => rfl) rfl (by exact cl_s my_189 rfl rfl rfl (Nat.le_of_ble_eq_true rfl) rfl rfl) (by rfl) (Nat.le_of_ble_eq_true rfl) (Nat.le_of_ble_eq_true rfl) rfl (by rfl) ?_
  refine w_p (pc1 := 11) (st1 := .int 1 :: _) rfl rfl ?_
  refine w_je (pc1 := 14) (vs := [.ref 176, .int 1, .int 1]) (rest := []) (st1 := [.int 1]) (m_190 (d := d) (sl := 0)) rfl rfl rfl (fun _ _ => rfl) rfl (by exact cl_v my_190 rfl rfl rfl (Nat.le_of_ble_eq_true rfl) rfl (MH_obj rfl rfl) rfl (by decide) rfl rfl) (by rfl) (Nat.le_of_ble_eq_true rfl) (Nat.le_of_ble_eq_true rfl) rfl (by rfl) ?_
  refine w_t (a := 19) (b := 17) rfl rfl rfl ?_
  refine w_p (pc1 := 20) rfl rfl ?_
  refine w_p (pc1 := 21) (st1 := .int 3 :: _) rfl rfl ?_
  refine w_t (a := 55) (b := 24) rfl rfl rfl ?_
  refine w_p (pc1 := 56) rfl rfl ?_
  refine w_m0 (pc1 := 59) rfl rfl (h_gC rfl rfl rfl rfl) rfl ?_
  refine w_p (pc1 := 60) rfl rfl ?_
  refine w_p (pc1 := 61) (st1 := .int 3 :: _) rfl rfl ?_
  refine w_p (pc1 := 62) (st1 := .int 0 :: _) rfl rfl ?_
  refine w_m0 (pc1 := 63) (st1 := .int 0 :: _) rfl rfl (n_ble (e := 0) rfl rfl (by decide) rfl (by decide) (hf)) rfl ?_
  refine w_t (a := 77) (b := 66) rfl rfl rfl ?_
  refine w_p (pc1 := 78) (st1 := .int (-1) :: _) rfl rfl ?_
  refine w_r rfl rfl rfl (fun _ _ => rfl) cr_int ?_
  exact ⟨rfl, rfl, rfl⟩
set_option maxRecDepth 100000 in
theorem m_289_4 (hf : C.1 78 1 = 1) (w : Wd L xs d y_213 (0, [(0, .ref 176), (1, .int 1), (2, .long a)], [], MH (sI C 76 0 0) t, 0) (Rt (some (.int r)) (MH (sI C 76 0 0) t) 0) nX) : Wd L xs (d + 1) y_289 (0, [(0, .ref 176), (1, .int 4), (2, .long a)], [], MH C t, sl) (Rt (some (.int r)) (MH (sI C 76 0 0) t) sl) nX := by
  refine w_p (pc1 := 1) rfl rfl ?_
  refine w_p (pc1 := 2) rfl rfl ?_
  refine w_p (pc1 := 3) (st1 := .long 4 :: _) rfl rfl ?_
  refine w_p (pc1 := 4) (st1 := .long 0 :: _) rfl rfl ?_
  refine w_m0 (pc1 := 7) (st1 := .long 8 :: _) rfl rfl rfl rfl ?_
  refine w_je (pc1 := 10) (vs := [.long 4, .long 0, .long 8]) (rest := [.ref 176]) (st1 := [.int 1, .ref 176]) (m_189t (d := d) (sl := 0) (isIn_t (x := 4) (m := 0) (n := 8) rfl rfl (by decide) (by decide))) rfl rfl rfl (fun _ _ => rfl) rfl (by exact cl_s my_189 rfl rfl rfl (Nat.le_of_ble_eq_true rfl) rfl rfl) (by rfl) (Nat.le_of_ble_eq_true rfl) (Nat.le_of_ble_eq_true rfl) rfl (by rfl) ?_
  refine w_p (pc1 := 11) (st1 := .int 1 :: _) rfl rfl ?_
  refine w_je (pc1 := 14) (vs := [.ref 176, .int 1, .int 1]) (rest := []) (st1 := [.int 1]) (m_190 (d := d) (sl := 0)) rfl rfl rfl (fun _ _ => rfl) rfl (by exact cl_v my_190 rfl rfl rfl (Nat.le_of_ble_eq_true rfl) rfl (MH_obj rfl rfl) rfl (by decide) rfl rfl) (by rfl) (Nat.le_of_ble_eq_true rfl) (Nat.le_of_ble_eq_true rfl) rfl (by rfl) ?_
  refine w_t (a := 19) (b := 17) rfl rfl rfl ?_
  refine w_p (pc1 := 20) rfl rfl ?_
  refine w_p (pc1 := 21) (st1 := .int 3 :: _) rfl rfl ?_
  refine w_t (a := 55) (b := 24) rfl rfl rfl ?_
  refine w_p (pc1 := 56) rfl rfl ?_
  refine w_m0 (pc1 := 59) rfl rfl (h_gC rfl rfl rfl rfl) rfl ?_
  refine w_p (pc1 := 60) rfl rfl ?_
  refine w_p (pc1 := 61) (st1 := .int 3 :: _) rfl rfl ?_
  refine w_p (pc1 := 62) (st1 := .int 1 :: _) rfl rfl ?_
  refine w_m0 (pc1 := 63) (st1 := .int 1 :: _) rfl rfl (n_ble (e := 1) rfl rfl (by decide) rfl (by decide) (hf)) rfl ?_
  refine w_f (a := 77) (b := 66) rfl rfl rfl ?_
  refine w_p (pc1 := 67) rfl rfl ?_
  refine w_p (pc1 := 68) rfl rfl ?_
  refine w_p (pc1 := 69) (st1 := .int 3 :: _) rfl rfl ?_
  refine w_p (pc1 := 70) (st1 := .int 1 :: _) rfl rfl ?_
  refine w_p (pc1 := 71) rfl rfl ?_
  refine w_je (pc1 := 74) (vs := [.ref 176, .int 1, .long (a)]) (rest := []) (st1 := [.int (r)]) (w) rfl rfl rfl (fun _ _ => rfl) rfl (by exact cl_v my_213 rfl rfl rfl (Nat.le_of_ble_eq_true rfl) rfl (MH_obj rfl rfl) rfl (by decide) rfl rfl) (by rfl) (Nat.le_of_ble_eq_true rfl) (Nat.le_of_ble_eq_true rfl) rfl (by rfl) ?_
  refine w_p (pc1 := 78) rfl rfl ?_
  refine w_r rfl rfl rfl (fun _ _ => rfl) cr_int ?_
  exact ⟨rfl, rfl, rfl⟩
set_option maxRecDepth 100000 in
theorem m_289_4n (hf : C.1 78 1 = 0) : Wd L xs (d + 1) y_289 (0, [(0, .ref 176), (1, .int 4), (2, .long a)], [], MH C t, sl) (Rt (some (.int (-1))) (MH (sI C 76 0 0) t) sl) nX := by
  refine w_p (pc1 := 1) rfl rfl ?_
  refine w_p (pc1 := 2) rfl rfl ?_
  refine w_p (pc1 := 3) (st1 := .long 4 :: _) rfl rfl ?_
  refine w_p (pc1 := 4) (st1 := .long 0 :: _) rfl rfl ?_
  refine w_m0 (pc1 := 7) (st1 := .long 8 :: _) rfl rfl rfl rfl ?_
  refine w_je (pc1 := 10) (vs := [.long 4, .long 0, .long 8]) (rest := [.ref 176]) (st1 := [.int 1, .ref 176]) (m_189t (d := d) (sl := 0) (isIn_t (x := 4) (m := 0) (n := 8) rfl rfl (by decide) (by decide))) rfl rfl rfl (fun _ _ => rfl) rfl (by exact cl_s my_189 rfl rfl rfl (Nat.le_of_ble_eq_true rfl) rfl rfl) (by rfl) (Nat.le_of_ble_eq_true rfl) (Nat.le_of_ble_eq_true rfl) rfl (by rfl) ?_
  refine w_p (pc1 := 11) (st1 := .int 1 :: _) rfl rfl ?_
  refine w_je (pc1 := 14) (vs := [.ref 176, .int 1, .int 1]) (rest := []) (st1 := [.int 1]) (m_190 (d := d) (sl := 0)) rfl rfl rfl (fun _ _ => rfl) rfl (by exact cl_v my_190 rfl rfl rfl (Nat.le_of_ble_eq_true rfl) rfl (MH_obj rfl rfl) rfl (by decide) rfl rfl) (by rfl) (Nat.le_of_ble_eq_true rfl) (Nat.le_of_ble_eq_true rfl) rfl (by rfl) ?_
  refine w_t (a := 19) (b := 17) rfl rfl rfl ?_
  refine w_p (pc1 := 20) rfl rfl ?_
  refine w_p (pc1 := 21) (st1 := .int 3 :: _) rfl rfl ?_
  refine w_t (a := 55) (b := 24) rfl rfl rfl ?_
  refine w_p (pc1 := 56) rfl rfl ?_
  refine w_m0 (pc1 := 59) rfl rfl (h_gC rfl rfl rfl rfl) rfl ?_
  refine w_p (pc1 := 60) rfl rfl ?_
  refine w_p (pc1 := 61) (st1 := .int 3 :: _) rfl rfl ?_
  refine w_p (pc1 := 62) (st1 := .int 1 :: _) rfl rfl ?_
  refine w_m0 (pc1 := 63) (st1 := .int 0 :: _) rfl rfl (n_ble (e := 1) rfl rfl (by decide) rfl (by decide) (hf)) rfl ?_
  refine w_t (a := 77) (b := 66) rfl rfl rfl ?_
  refine w_p (pc1 := 78) (st1 := .int (-1) :: _) rfl rfl ?_
  refine w_r rfl rfl rfl (fun _ _ => rfl) cr_int ?_
  exact ⟨rfl, rfl, rfl⟩
set_option maxRecDepth 100000 in
theorem m_289_5 (hf : C.1 78 2 = 1) (w : Wd L xs d y_213 (0, [(0, .ref 176), (1, .int 2), (2, .long a)], [], MH (sI C 76 0 0) t, 0) (Rt (some (.int r)) (MH (sI C 76 0 0) t) 0) nX) : Wd L xs (d + 1) y_289 (0, [(0, .ref 176), (1, .int 5), (2, .long a)], [], MH C t, sl) (Rt (some (.int r)) (MH (sI C 76 0 0) t) sl) nX := by
  refine w_p (pc1 := 1) rfl rfl ?_
  refine w_p (pc1 := 2) rfl rfl ?_
  refine w_p (pc1 := 3) (st1 := .long 5 :: _) rfl rfl ?_
  refine w_p (pc1 := 4) (st1 := .long 0 :: _) rfl rfl ?_
  refine w_m0 (pc1 := 7) (st1 := .long 8 :: _) rfl rfl rfl rfl ?_
  refine w_je (pc1 := 10) (vs := [.long 5, .long 0, .long 8]) (rest := [.ref 176]) (st1 := [.int 1, .ref 176]) (m_189t (d := d) (sl := 0) (isIn_t (x := 5) (m := 0) (n := 8) rfl rfl (by decide) (by decide))) rfl rfl rfl (fun _ _ => rfl) rfl (by exact cl_s my_189 rfl rfl rfl (Nat.le_of_ble_eq_true rfl) rfl rfl) (by rfl) (Nat.le_of_ble_eq_true rfl) (Nat.le_of_ble_eq_true rfl) rfl (by rfl) ?_
  refine w_p (pc1 := 11) (st1 := .int 1 :: _) rfl rfl ?_
  refine w_je (pc1 := 14) (vs := [.ref 176, .int 1, .int 1]) (rest := []) (st1 := [.int 1]) (m_190 (d := d) (sl := 0)) rfl rfl rfl (fun _ _ => rfl) rfl (by exact cl_v my_190 rfl rfl rfl (Nat.le_of_ble_eq_true rfl) rfl (MH_obj rfl rfl) rfl (by decide) rfl rfl) (by rfl) (Nat.le_of_ble_eq_true rfl) (Nat.le_of_ble_eq_true rfl) rfl (by rfl) ?_
  refine w_t (a := 19) (b := 17) rfl rfl rfl ?_
  refine w_p (pc1 := 20) rfl rfl ?_
  refine w_p (pc1 := 21) (st1 := .int 3 :: _) rfl rfl ?_
  refine w_t (a := 55) (b := 24) rfl rfl rfl ?_
  refine w_p (pc1 := 56) rfl rfl ?_
  refine w_m0 (pc1 := 59) rfl rfl (h_gC rfl rfl rfl rfl) rfl ?_
  refine w_p (pc1 := 60) rfl rfl ?_
  refine w_p (pc1 := 61) (st1 := .int 3 :: _) rfl rfl ?_
  refine w_p (pc1 := 62) (st1 := .int 2 :: _) rfl rfl ?_
  refine w_m0 (pc1 := 63) (st1 := .int 1 :: _) rfl rfl (n_ble (e := 2) rfl rfl (by decide) rfl (by decide) (hf)) rfl ?_
  refine w_f (a := 77) (b := 66) rfl rfl rfl ?_
  refine w_p (pc1 := 67) rfl rfl ?_
  refine w_p (pc1 := 68) rfl rfl ?_
  refine w_p (pc1 := 69) (st1 := .int 3 :: _) rfl rfl ?_
  refine w_p (pc1 := 70) (st1 := .int 2 :: _) rfl rfl ?_
  refine w_p (pc1 := 71) rfl rfl ?_
  refine w_je (pc1 := 74) (vs := [.ref 176, .int 2, .long (a)]) (rest := []) (st1 := [.int (r)]) (w) rfl rfl rfl (fun _ _ => rfl) rfl (by exact cl_v my_213 rfl rfl rfl (Nat.le_of_ble_eq_true rfl) rfl (MH_obj rfl rfl) rfl (by decide) rfl rfl) (by rfl) (Nat.le_of_ble_eq_true rfl) (Nat.le_of_ble_eq_true rfl) rfl (by rfl) ?_
  refine w_p (pc1 := 78) rfl rfl ?_
  refine w_r rfl rfl rfl (fun _ _ => rfl) cr_int ?_
  exact ⟨rfl, rfl, rfl⟩
set_option maxRecDepth 100000 in
theorem m_289_5n (hf : C.1 78 2 = 0) : Wd L xs (d + 1) y_289 (0, [(0, .ref 176), (1, .int 5), (2, .long a)], [], MH C t, sl) (Rt (some (.int (-1))) (MH (sI C 76 0 0) t) sl) nX := by
  refine w_p (pc1 := 1) rfl rfl ?_
  refine w_p (pc1 := 2) rfl rfl ?_
  refine w_p (pc1 := 3) (st1 := .long 5 :: _) rfl rfl ?_
  refine w_p (pc1 := 4) (st1 := .long 0 :: _) rfl rfl ?_
  refine w_m0 (pc1 := 7) (st1 := .long 8 :: _) rfl rfl rfl rfl ?_
  refine w_je (pc1 := 10) (vs := [.long 5, .long 0, .long 8]) (rest := [.ref 176]) (st1 := [.int 1, .ref 176]) (m_189t (d := d) (sl := 0) (isIn_t (x := 5) (m := 0) (n := 8) rfl rfl (by decide) (by decide))) rfl rfl rfl (fun _ _ => rfl) rfl (by exact cl_s my_189 rfl rfl rfl (Nat.le_of_ble_eq_true rfl) rfl rfl) (by rfl) (Nat.le_of_ble_eq_true rfl) (Nat.le_of_ble_eq_true rfl) rfl (by rfl) ?_
  refine w_p (pc1 := 11) (st1 := .int 1 :: _) rfl rfl ?_
  refine w_je (pc1 := 14) (vs := [.ref 176, .int 1, .int 1]) (rest := []) (st1 := [.int 1]) (m_190 (d := d) (sl := 0)) rfl rfl rfl (fun _ _ => rfl) rfl (by exact cl_v my_190 rfl rfl rfl (Nat.le_of_ble_eq_true rfl) rfl (MH_obj rfl rfl) rfl (by decide) rfl rfl) (by rfl) (Nat.le_of_ble_eq_true rfl) (Nat.le_of_ble_eq_true rfl) rfl (by rfl) ?_
  refine w_t (a := 19) (b := 17) rfl rfl rfl ?_
  refine w_p (pc1 := 20) rfl rfl ?_
  refine w_p (pc1 := 21) (st1 := .int 3 :: _) rfl rfl ?_
  refine w_t (a := 55) (b := 24) rfl rfl rfl ?_
  refine w_p (pc1 := 56) rfl rfl ?_
  refine w_m0 (pc1 := 59) rfl rfl (h_gC rfl rfl rfl rfl) rfl ?_
  refine w_p (pc1 := 60) rfl rfl ?_
  refine w_p (pc1 := 61) (st1 := .int 3 :: _) rfl rfl ?_
  refine w_p (pc1 := 62) (st1 := .int 2 :: _) rfl rfl ?_
  refine w_m0 (pc1 := 63) (st1 := .int 0 :: _) rfl rfl (n_ble (e := 2) rfl rfl (by decide) rfl (by decide) (hf)) rfl ?_
  refine w_t (a := 77) (b := 66) rfl rfl rfl ?_
  refine w_p (pc1 := 78) (st1 := .int (-1) :: _) rfl rfl ?_
  refine w_r rfl rfl rfl (fun _ _ => rfl) cr_int ?_
  exact ⟨rfl, rfl, rfl⟩
set_option maxRecDepth 100000 in
theorem m_289_6 (hf : C.1 78 3 = 1) (w : Wd L xs d y_213 (0, [(0, .ref 176), (1, .int 3), (2, .long a)], [], MH (sI C 76 0 0) t, 0) (Rt (some (.int r)) (MH (sI C 76 0 0) t) 0) nX) : Wd L xs (d + 1) y_289 (0, [(0, .ref 176), (1, .int 6), (2, .long a)], [], MH C t, sl) (Rt (some (.int r)) (MH (sI C 76 0 0) t) sl) nX := by
  refine w_p (pc1 := 1) rfl rfl ?_
  refine w_p (pc1 := 2) rfl rfl ?_
  refine w_p (pc1 := 3) (st1 := .long 6 :: _) rfl rfl ?_
  refine w_p (pc1 := 4) (st1 := .long 0 :: _) rfl rfl ?_
  refine w_m0 (pc1 := 7) (st1 := .long 8 :: _) rfl rfl rfl rfl ?_
  refine w_je (pc1 := 10) (vs := [.long 6, .long 0, .long 8]) (rest := [.ref 176]) (st1 := [.int 1, .ref 176]) (m_189t (d := d) (sl := 0) (isIn_t (x := 6) (m := 0) (n := 8) rfl rfl (by decide) (by decide))) rfl rfl rfl (fun _ _ => rfl) rfl (by exact cl_s my_189 rfl rfl rfl (Nat.le_of_ble_eq_true rfl) rfl rfl) (by rfl) (Nat.le_of_ble_eq_true rfl) (Nat.le_of_ble_eq_true rfl) rfl (by rfl) ?_
  refine w_p (pc1 := 11) (st1 := .int 1 :: _) rfl rfl ?_
  refine w_je (pc1 := 14) (vs := [.ref 176, .int 1, .int 1]) (rest := []) (st1 := [.int 1]) (m_190 (d := d) (sl := 0)) rfl rfl rfl (fun _ _ => rfl) rfl (by exact cl_v my_190 rfl rfl rfl (Nat.le_of_ble_eq_true rfl) rfl (MH_obj rfl rfl) rfl (by decide) rfl rfl) (by rfl) (Nat.le_of_ble_eq_true rfl) (Nat.le_of_ble_eq_true rfl) rfl (by rfl) ?_
  refine w_t (a := 19) (b := 17) rfl rfl rfl ?_
  refine w_p (pc1 := 20) rfl rfl ?_
  refine w_p (pc1 := 21) (st1 := .int 3 :: _) rfl rfl ?_
  refine w_t (a := 55) (b := 24) rfl rfl rfl ?_
  refine w_p (pc1 := 56) rfl rfl ?_
  refine w_m0 (pc1 := 59) rfl rfl (h_gC rfl rfl rfl rfl) rfl ?_
  refine w_p (pc1 := 60) rfl rfl ?_
  refine w_p (pc1 := 61) (st1 := .int 3 :: _) rfl rfl ?_
  refine w_p (pc1 := 62) (st1 := .int 3 :: _) rfl rfl ?_
  refine w_m0 (pc1 := 63) (st1 := .int 1 :: _) rfl rfl (n_ble (e := 3) rfl rfl (by decide) rfl (by decide) (hf)) rfl ?_
  refine w_f (a := 77) (b := 66) rfl rfl rfl ?_
  refine w_p (pc1 := 67) rfl rfl ?_
  refine w_p (pc1 := 68) rfl rfl ?_
  refine w_p (pc1 := 69) (st1 := .int 3 :: _) rfl rfl ?_
  refine w_p (pc1 := 70) (st1 := .int 3 :: _) rfl rfl ?_
  refine w_p (pc1 := 71) rfl rfl ?_
  refine w_je (pc1 := 74) (vs := [.ref 176, .int 3, .long (a)]) (rest := []) (st1 := [.int (r)]) (w) rfl rfl rfl (fun _ _ => rfl) rfl (by exact cl_v my_213 rfl rfl rfl (Nat.le_of_ble_eq_true rfl) rfl (MH_obj rfl rfl) rfl (by decide) rfl rfl) (by rfl) (Nat.le_of_ble_eq_true rfl) (Nat.le_of_ble_eq_true rfl) rfl (by rfl) ?_
  refine w_p (pc1 := 78) rfl rfl ?_
  refine w_r rfl rfl rfl (fun _ _ => rfl) cr_int ?_
  exact ⟨rfl, rfl, rfl⟩
set_option maxRecDepth 100000 in
theorem m_289_6n (hf : C.1 78 3 = 0) : Wd L xs (d + 1) y_289 (0, [(0, .ref 176), (1, .int 6), (2, .long a)], [], MH C t, sl) (Rt (some (.int (-1))) (MH (sI C 76 0 0) t) sl) nX := by
  refine w_p (pc1 := 1) rfl rfl ?_
  refine w_p (pc1 := 2) rfl rfl ?_
  refine w_p (pc1 := 3) (st1 := .long 6 :: _) rfl rfl ?_
  refine w_p (pc1 := 4) (st1 := .long 0 :: _) rfl rfl ?_
  refine w_m0 (pc1 := 7) (st1 := .long 8 :: _) rfl rfl rfl rfl ?_
  refine w_je (pc1 := 10) (vs := [.long 6, .long 0, .long 8]) (rest := [.ref 176]) (st1 := [.int 1, .ref 176]) (m_189t (d := d) (sl := 0) (isIn_t (x := 6) (m := 0) (n := 8) rfl rfl (by decide) (by decide))) rfl rfl rfl (fun _ _ => rfl) rfl (by exact cl_s my_189 rfl rfl rfl (Nat.le_of_ble_eq_true rfl) rfl rfl) (by rfl) (Nat.le_of_ble_eq_true rfl) (Nat.le_of_ble_eq_true rfl) rfl (by rfl) ?_
  refine w_p (pc1 := 11) (st1 := .int 1 :: _) rfl rfl ?_
  refine w_je (pc1 := 14) (vs := [.ref 176, .int 1, .int 1]) (rest := []) (st1 := [.int 1]) (m_190 (d := d) (sl := 0)) rfl rfl rfl (fun _ _ => rfl) rfl (by exact cl_v my_190 rfl rfl rfl (Nat.le_of_ble_eq_true rfl) rfl (MH_obj rfl rfl) rfl (by decide) rfl rfl) (by rfl) (Nat.le_of_ble_eq_true rfl) (Nat.le_of_ble_eq_true rfl) rfl (by rfl) ?_
  refine w_t (a := 19) (b := 17) rfl rfl rfl ?_
  refine w_p (pc1 := 20) rfl rfl ?_
  refine w_p (pc1 := 21) (st1 := .int 3 :: _) rfl rfl ?_
  refine w_t (a := 55) (b := 24) rfl rfl rfl ?_
  refine w_p (pc1 := 56) rfl rfl ?_
  refine w_m0 (pc1 := 59) rfl rfl (h_gC rfl rfl rfl rfl) rfl ?_
  refine w_p (pc1 := 60) rfl rfl ?_
  refine w_p (pc1 := 61) (st1 := .int 3 :: _) rfl rfl ?_
  refine w_p (pc1 := 62) (st1 := .int 3 :: _) rfl rfl ?_
  refine w_m0 (pc1 := 63) (st1 := .int 0 :: _) rfl rfl (n_ble (e := 3) rfl rfl (by decide) rfl (by decide) (hf)) rfl ?_
  refine w_t (a := 77) (b := 66) rfl rfl rfl ?_
  refine w_p (pc1 := 78) (st1 := .int (-1) :: _) rfl rfl ?_
  refine w_r rfl rfl rfl (fun _ _ => rfl) cr_int ?_
  exact ⟨rfl, rfl, rfl⟩
set_option maxRecDepth 100000 in
theorem m_289_7 (hf : C.1 78 4 = 1) (w : Wd L xs d y_213 (0, [(0, .ref 176), (1, .int 4), (2, .long a)], [], MH (sI C 76 0 0) t, 0) (Rt (some (.int r)) (MH (sI C 76 0 0) t) 0) nX) : Wd L xs (d + 1) y_289 (0, [(0, .ref 176), (1, .int 7), (2, .long a)], [], MH C t, sl) (Rt (some (.int r)) (MH (sI C 76 0 0) t) sl) nX := by
  refine w_p (pc1 := 1) rfl rfl ?_
  refine w_p (pc1 := 2) rfl rfl ?_
  refine w_p (pc1 := 3) (st1 := .long 7 :: _) rfl rfl ?_
  refine w_p (pc1 := 4) (st1 := .long 0 :: _) rfl rfl ?_
  refine w_m0 (pc1 := 7) (st1 := .long 8 :: _) rfl rfl rfl rfl ?_
  refine w_je (pc1 := 10) (vs := [.long 7, .long 0, .long 8]) (rest := [.ref 176]) (st1 := [.int 1, .ref 176]) (m_189t (d := d) (sl := 0) (isIn_t (x := 7) (m := 0) (n := 8) rfl rfl (by decide) (by decide))) rfl rfl rfl (fun _ _ => rfl) rfl (by exact cl_s my_189 rfl rfl rfl (Nat.le_of_ble_eq_true rfl) rfl rfl) (by rfl) (Nat.le_of_ble_eq_true rfl) (Nat.le_of_ble_eq_true rfl) rfl (by rfl) ?_
  refine w_p (pc1 := 11) (st1 := .int 1 :: _) rfl rfl ?_
  refine w_je (pc1 := 14) (vs := [.ref 176, .int 1, .int 1]) (rest := []) (st1 := [.int 1]) (m_190 (d := d) (sl := 0)) rfl rfl rfl (fun _ _ => rfl) rfl (by exact cl_v my_190 rfl rfl rfl (Nat.le_of_ble_eq_true rfl) rfl (MH_obj rfl rfl) rfl (by decide) rfl rfl) (by rfl) (Nat.le_of_ble_eq_true rfl) (Nat.le_of_ble_eq_true rfl) rfl (by rfl) ?_
  refine w_t (a := 19) (b := 17) rfl rfl rfl ?_
  refine w_p (pc1 := 20) rfl rfl ?_
  refine w_p (pc1 := 21) (st1 := .int 3 :: _) rfl rfl ?_
  refine w_t (a := 55) (b := 24) rfl rfl rfl ?_
  refine w_p (pc1 := 56) rfl rfl ?_
  refine w_m0 (pc1 := 59) rfl rfl (h_gC rfl rfl rfl rfl) rfl ?_
  refine w_p (pc1 := 60) rfl rfl ?_
  refine w_p (pc1 := 61) (st1 := .int 3 :: _) rfl rfl ?_
  refine w_p (pc1 := 62) (st1 := .int 4 :: _) rfl rfl ?_
  refine w_m0 (pc1 := 63) (st1 := .int 1 :: _) rfl rfl (n_ble (e := 4) rfl rfl (by decide) rfl (by decide) (hf)) rfl ?_
  refine w_f (a := 77) (b := 66) rfl rfl rfl ?_
  refine w_p (pc1 := 67) rfl rfl ?_
  refine w_p (pc1 := 68) rfl rfl ?_
  refine w_p (pc1 := 69) (st1 := .int 3 :: _) rfl rfl ?_
  refine w_p (pc1 := 70) (st1 := .int 4 :: _) rfl rfl ?_
  refine w_p (pc1 := 71) rfl rfl ?_
  refine w_je (pc1 := 74) (vs := [.ref 176, .int 4, .long (a)]) (rest := []) (st1 := [.int (r)]) (w) rfl rfl rfl (fun _ _ => rfl) rfl (by exact cl_v my_213 rfl rfl rfl (Nat.le_of_ble_eq_true rfl) rfl (MH_obj rfl rfl) rfl (by decide) rfl rfl) (by rfl) (Nat.le_of_ble_eq_true rfl) (Nat.le_of_ble_eq_true rfl) rfl (by rfl) ?_
  refine w_p (pc1 := 78) rfl rfl ?_
  refine w_r rfl rfl rfl (fun _ _ => rfl) cr_int ?_
  exact ⟨rfl, rfl, rfl⟩
set_option maxRecDepth 100000 in
theorem m_289_7n (hf : C.1 78 4 = 0) : Wd L xs (d + 1) y_289 (0, [(0, .ref 176), (1, .int 7), (2, .long a)], [], MH C t, sl) (Rt (some (.int (-1))) (MH (sI C 76 0 0) t) sl) nX := by
  refine w_p (pc1 := 1) rfl rfl ?_
  refine w_p (pc1 := 2) rfl rfl ?_
  refine w_p (pc1 := 3) (st1 := .long 7 :: _) rfl rfl ?_
  refine w_p (pc1 := 4) (st1 := .long 0 :: _) rfl rfl ?_
  refine w_m0 (pc1 := 7) (st1 := .long 8 :: _) rfl rfl rfl rfl ?_
  refine w_je (pc1 := 10) (vs := [.long 7, .long 0, .long 8]) (rest := [.ref 176]) (st1 := [.int 1, .ref 176]) (m_189t (d := d) (sl := 0) (isIn_t (x := 7) (m := 0) (n := 8) rfl rfl (by decide) (by decide))) rfl rfl rfl (fun _ _ => rfl) rfl (by exact cl_s my_189 rfl rfl rfl (Nat.le_of_ble_eq_true rfl) rfl rfl) (by rfl) (Nat.le_of_ble_eq_true rfl) (Nat.le_of_ble_eq_true rfl) rfl (by rfl) ?_
  refine w_p (pc1 := 11) (st1 := .int 1 :: _) rfl rfl ?_
  refine w_je (pc1 := 14) (vs := [.ref 176, .int 1, .int 1]) (rest := []) (st1 := [.int 1]) (m_190 (d := d) (sl := 0)) rfl rfl rfl (fun _ _ => rfl) rfl (by exact cl_v my_190 rfl rfl rfl (Nat.le_of_ble_eq_true rfl) rfl (MH_obj rfl rfl) rfl (by decide) rfl rfl) (by rfl) (Nat.le_of_ble_eq_true rfl) (Nat.le_of_ble_eq_true rfl) rfl (by rfl) ?_
  refine w_t (a := 19) (b := 17) rfl rfl rfl ?_
  refine w_p (pc1 := 20) rfl rfl ?_
  refine w_p (pc1 := 21) (st1 := .int 3 :: _) rfl rfl ?_
  refine w_t (a := 55) (b := 24) rfl rfl rfl ?_
  refine w_p (pc1 := 56) rfl rfl ?_
  refine w_m0 (pc1 := 59) rfl rfl (h_gC rfl rfl rfl rfl) rfl ?_
  refine w_p (pc1 := 60) rfl rfl ?_
  refine w_p (pc1 := 61) (st1 := .int 3 :: _) rfl rfl ?_
  refine w_p (pc1 := 62) (st1 := .int 4 :: _) rfl rfl ?_
  refine w_m0 (pc1 := 63) (st1 := .int 0 :: _) rfl rfl (n_ble (e := 4) rfl rfl (by decide) rfl (by decide) (hf)) rfl ?_
  refine w_t (a := 77) (b := 66) rfl rfl rfl ?_
  refine w_p (pc1 := 78) (st1 := .int (-1) :: _) rfl rfl ?_
  refine w_r rfl rfl rfl (fun _ _ => rfl) cr_int ?_
  exact ⟨rfl, rfl, rfl⟩
set_option maxRecDepth 100000 in
theorem m_289_8 (hf : C.1 78 5 = 1) (w : Wd L xs d y_213 (0, [(0, .ref 176), (1, .int 5), (2, .long a)], [], MH (sI C 76 0 0) t, 0) (Rt (some (.int r)) (MH (sI C 76 0 0) t) 0) nX) : Wd L xs (d + 1) y_289 (0, [(0, .ref 176), (1, .int 8), (2, .long a)], [], MH C t, sl) (Rt (some (.int r)) (MH (sI C 76 0 0) t) sl) nX := by
  refine w_p (pc1 := 1) rfl rfl ?_
  refine w_p (pc1 := 2) rfl rfl ?_
  refine w_p (pc1 := 3) (st1 := .long 8 :: _) rfl rfl ?_
  refine w_p (pc1 := 4) (st1 := .long 0 :: _) rfl rfl ?_
  refine w_m0 (pc1 := 7) (st1 := .long 8 :: _) rfl rfl rfl rfl ?_
  refine w_je (pc1 := 10) (vs := [.long 8, .long 0, .long 8]) (rest := [.ref 176]) (st1 := [.int 1, .ref 176]) (m_189t (d := d) (sl := 0) (isIn_t (x := 8) (m := 0) (n := 8) rfl rfl (by decide) (by decide))) rfl rfl rfl (fun _ _ => rfl) rfl (by exact cl_s my_189 rfl rfl rfl (Nat.le_of_ble_eq_true rfl) rfl rfl) (by rfl) (Nat.le_of_ble_eq_true rfl) (Nat.le_of_ble_eq_true rfl) rfl (by rfl) ?_
  refine w_p (pc1 := 11) (st1 := .int 1 :: _) rfl rfl ?_
  refine w_je (pc1 := 14) (vs := [.ref 176, .int 1, .int 1]) (rest := []) (st1 := [.int 1]) (m_190 (d := d) (sl := 0)) rfl rfl rfl (fun _ _ => rfl) rfl (by exact cl_v my_190 rfl rfl rfl (Nat.le_of_ble_eq_true rfl) rfl (MH_obj rfl rfl) rfl (by decide) rfl rfl) (by rfl) (Nat.le_of_ble_eq_true rfl) (Nat.le_of_ble_eq_true rfl) rfl (by rfl) ?_
  refine w_t (a := 19) (b := 17) rfl rfl rfl ?_
  refine w_p (pc1 := 20) rfl rfl ?_
  refine w_p (pc1 := 21) (st1 := .int 3 :: _) rfl rfl ?_
  refine w_t (a := 55) (b := 24) rfl rfl rfl ?_
  refine w_p (pc1 := 56) rfl rfl ?_
  refine w_m0 (pc1 := 59) rfl rfl (h_gC rfl rfl rfl rfl) rfl ?_
  refine w_p (pc1 := 60) rfl rfl ?_
  refine w_p (pc1 := 61) (st1 := .int 3 :: _) rfl rfl ?_
  refine w_p (pc1 := 62) (st1 := .int 5 :: _) rfl rfl ?_
  refine w_m0 (pc1 := 63) (st1 := .int 1 :: _) rfl rfl (n_ble (e := 5) rfl rfl (by decide) rfl (by decide) (hf)) rfl ?_
  refine w_f (a := 77) (b := 66) rfl rfl rfl ?_
  refine w_p (pc1 := 67) rfl rfl ?_
  refine w_p (pc1 := 68) rfl rfl ?_
  refine w_p (pc1 := 69) (st1 := .int 3 :: _) rfl rfl ?_
  refine w_p (pc1 := 70) (st1 := .int 5 :: _) rfl rfl ?_
  refine w_p (pc1 := 71) rfl rfl ?_
  refine w_je (pc1 := 74) (vs := [.ref 176, .int 5, .long (a)]) (rest := []) (st1 := [.int (r)]) (w) rfl rfl rfl (fun _ _ => rfl) rfl (by exact cl_v my_213 rfl rfl rfl (Nat.le_of_ble_eq_true rfl) rfl (MH_obj rfl rfl) rfl (by decide) rfl rfl) (by rfl) (Nat.le_of_ble_eq_true rfl) (Nat.le_of_ble_eq_true rfl) rfl (by rfl) ?_
  refine w_p (pc1 := 78) rfl rfl ?_
  refine w_r rfl rfl rfl (fun _ _ => rfl) cr_int ?_
  exact ⟨rfl, rfl, rfl⟩
set_option maxRecDepth 100000 in
theorem m_289_8n (hf : C.1 78 5 = 0) : Wd L xs (d + 1) y_289 (0, [(0, .ref 176), (1, .int 8), (2, .long a)], [], MH C t, sl) (Rt (some (.int (-1))) (MH (sI C 76 0 0) t) sl) nX := by
  refine w_p (pc1 := 1) rfl rfl ?_
  refine w_p (pc1 := 2) rfl rfl ?_
  refine w_p (pc1 := 3) (st1 := .long 8 :: _) rfl rfl ?_
  refine w_p (pc1 := 4) (st1 := .long 0 :: _) rfl rfl ?_
  refine w_m0 (pc1 := 7) (st1 := .long 8 :: _) rfl rfl rfl rfl ?_
  refine w_je (pc1 := 10) (vs := [.long 8, .long 0, .long 8]) (rest := [.ref 176]) (st1 := [.int 1, .ref 176]) (m_189t (d := d) (sl := 0) (isIn_t (x := 8) (m := 0) (n := 8) rfl rfl (by decide) (by decide))) rfl rfl rfl (fun _ _ => rfl) rfl (by exact cl_s my_189 rfl rfl rfl (Nat.le_of_ble_eq_true rfl) rfl rfl) (by rfl) (Nat.le_of_ble_eq_true rfl) (Nat.le_of_ble_eq_true rfl) rfl (by rfl) ?_
  refine w_p (pc1 := 11) (st1 := .int 1 :: _) rfl rfl ?_
  refine w_je (pc1 := 14) (vs := [.ref 176, .int 1, .int 1]) (rest := []) (st1 := [.int 1]) (m_190 (d := d) (sl := 0)) rfl rfl rfl (fun _ _ => rfl) rfl (by exact cl_v my_190 rfl rfl rfl (Nat.le_of_ble_eq_true rfl) rfl (MH_obj rfl rfl) rfl (by decide) rfl rfl) (by rfl) (Nat.le_of_ble_eq_true rfl) (Nat.le_of_ble_eq_true rfl) rfl (by rfl) ?_
  refine w_t (a := 19) (b := 17) rfl rfl rfl ?_
  refine w_p (pc1 := 20) rfl rfl ?_
  refine w_p (pc1 := 21) (st1 := .int 3 :: _) rfl rfl ?_
  refine w_t (a := 55) (b := 24) rfl rfl rfl ?_
  refine w_p (pc1 := 56) rfl rfl ?_
  refine w_m0 (pc1 := 59) rfl rfl (h_gC rfl rfl rfl rfl) rfl ?_
  refine w_p (pc1 := 60) rfl rfl ?_
  refine w_p (pc1 := 61) (st1 := .int 3 :: _) rfl rfl ?_
  refine w_p (pc1 := 62) (st1 := .int 5 :: _) rfl rfl ?_
  refine w_m0 (pc1 := 63) (st1 := .int 0 :: _) rfl rfl (n_ble (e := 5) rfl rfl (by decide) rfl (by decide) (hf)) rfl ?_
  refine w_t (a := 77) (b := 66) rfl rfl rfl ?_
  refine w_p (pc1 := 78) (st1 := .int (-1) :: _) rfl rfl ?_
  refine w_r rfl rfl rfl (fun _ _ => rfl) cr_int ?_
  exact ⟨rfl, rfl, rfl⟩
set_option maxRecDepth 100000 in
theorem m_289o (h : ¬ (0 ≤ x.toInt ∧ x.toInt ≤ 8)) : Wd L xs (d + 1) y_289 (0, [(0, .ref 176), (1, .int x), (2, .long a)], [], MH C t, sl) (Rt (some (.int 0)) (MH (sI C 76 0 1) t) sl) nX := by
  refine w_p (pc1 := 1) rfl rfl ?_
  refine w_p (pc1 := 2) rfl rfl ?_
  refine w_p (pc1 := 3) rfl rfl ?_
  refine w_p (pc1 := 4) (st1 := .long 0 :: _) rfl rfl ?_
  refine w_m0 (pc1 := 7) (st1 := .long 8 :: _) rfl rfl rfl rfl ?_
  refine w_je (pc1 := 10) (vs := [_, .long 0, .long 8]) (rest := [.ref 176]) (st1 := [.int 0, .ref 176]) (m_189f (d := d) (sl := 0) (isIn_f (x := x) (m := 0) (n := 8) rfl rfl h)) rfl rfl rfl (fun _ _ => rfl) rfl (by exact cl_s my_189 rfl rfl rfl (Nat.le_of_ble_eq_true rfl) rfl rfl) (by rfl) (Nat.le_of_ble_eq_true rfl) (Nat.le_of_ble_eq_true rfl) rfl (by rfl) ?_
  refine w_p (pc1 := 11) (st1 := .int 1 :: _) rfl rfl ?_
  refine w_je (pc1 := 14) (vs := [.ref 176, .int 0, .int 1]) (rest := []) (st1 := [.int 0]) (m_190 (d := d) (sl := 0)) rfl rfl rfl (fun _ _ => rfl) rfl (by exact cl_v my_190 rfl rfl rfl (Nat.le_of_ble_eq_true rfl) rfl (MH_obj rfl rfl) rfl (by decide) rfl rfl) (by rfl) (Nat.le_of_ble_eq_true rfl) (Nat.le_of_ble_eq_true rfl) rfl (by rfl) ?_
  refine w_f (a := 19) (b := 17) rfl rfl rfl ?_
  refine w_p (pc1 := 18) (st1 := .int 0 :: _) rfl rfl ?_
  refine w_r rfl rfl rfl (fun _ _ => rfl) cr_int ?_
  exact ⟨rfl, rfl, rfl⟩
end MCO
