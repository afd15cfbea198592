
/-! ONE SIDE: answers are noted -/
section NOT
variable {L : Nat} {xs : Nat → Int32} {B : Nat → Nat} {n m : Nat} {C C' C0 C1 : co_T} {t t0 t1 : ab_H} {d sl sl0 sl1 i i0 i1 j b e ti k k0 kc ks w c : Nat} {sc : sc_T} {row : Option Nat} {tg : Option (Nat × Nat)} {nl : Option Nat} {kd0 tb0 : Int32} {P : Option Value → ab_H → Nat → Prop} {X : Nat → ab_H → Nat → Prop} {cs : List Nat} {ss : List (Option (List op_T))} {E : fe_T} {tr : Nat → Option tr_T}
def ntC (C : co_T) (e : Nat) (v : Nat → Int32) (g : Int32) : co_T := sI (sI (sI (sI (sI (sI (sI (sI C 75 0 (if e = 1 then v 0 else -1)) 75 1 (if e = 1 then v 1 else -1)) 75 2 (if e = 2 then v 2 else -1)) 75 3 (if e = 2 then v 3 else -1)) 75 4 (if e = 3 then v 4 else -1)) 75 5 (v 5)) 75 6 (v 6)) 75 7 g
set_option maxRecDepth 100000 in
theorem m_158 {v : Nat → Int32} {g : Int32} (he : e < 8) (h0 : C.1 1 9 = v 0) (h1 : C.1 1 10 = v 1) (h2 : C.1 24 9 = v 2) (h3 : C.1 24 10 = v 3) (h4 : C.1 24 11 = v 4) (h5 : C.1 24 7 = v 5) (h6 : C.1 24 8 = v 6) : Wd L xs d y_158 (0, [(0, .ref 100), (1, .int (nI e)), (2, .int g)], [], MH C t, sl) (Rt none (MH (ntC C e v g) t) sl) nX := by
  by_cases e1 : e = 1
  · have e2 : ¬ e = 2 := by omega
    have e3 : ¬ e = 3 := by omega
    refine w_p (pc1 := 1) rfl rfl ?_
    refine w_m0 (pc1 := 4) rfl rfl (h_gC rfl rfl rfl rfl) rfl ?_
    refine w_p (pc1 := 5) (st1 := .int 0 :: _) rfl rfl ?_
    refine w_p (pc1 := 6) rfl rfl ?_
    refine w_p (pc1 := 7) (st1 := .int 1 :: _) rfl rfl ?_
    refine w_f (a := 20) (b := 10) (bN_ne_f (a := e) (b := 1) (by omega) (by omega) (by omega)) rfl rfl ?_
    refine w_p (pc1 := 11) rfl rfl ?_
    refine w_m0 (pc1 := 14) rfl rfl (h_gC rfl rfl rfl rfl) rfl ?_
    refine w_m0 (pc1 := 17) (st1 := .int (v 0) :: _) rfl rfl (h_gIe (j := 9) rfl rfl rfl rfl rfl (by (repeat rw [sI_1, if_neg (by omega)]); exact h0)) rfl ?_
    refine w_p (pc1 := 21) rfl rfl ?_
    refine w_m0 (pc1 := 22) rfl rfl (n_is (e := 0) rfl rfl rfl (by omega)) rfl ?_
    refine w_p (pc1 := 23) rfl rfl ?_
    refine w_m0 (pc1 := 26) rfl rfl (h_gC rfl rfl rfl rfl) rfl ?_
    refine w_p (pc1 := 27) (st1 := .int 1 :: _) rfl rfl ?_
    refine w_p (pc1 := 28) rfl rfl ?_
    refine w_p (pc1 := 29) (st1 := .int 1 :: _) rfl rfl ?_
    refine w_f (a := 42) (b := 32) (bN_ne_f (a := e) (b := 1) (by omega) (by omega) (by omega)) rfl rfl ?_
    refine w_p (pc1 := 33) rfl rfl ?_
    refine w_m0 (pc1 := 36) rfl rfl (h_gC rfl rfl rfl rfl) rfl ?_
    refine w_m0 (pc1 := 39) (st1 := .int (v 1) :: _) rfl rfl (h_gIe (j := 10) rfl rfl rfl rfl rfl (by (repeat rw [sI_1, if_neg (by omega)]); exact h1)) rfl ?_
    refine w_p (pc1 := 43) rfl rfl ?_
    refine w_m0 (pc1 := 44) rfl rfl (n_is (e := 1) rfl rfl rfl (by omega)) rfl ?_
    refine w_p (pc1 := 45) rfl rfl ?_
    refine w_m0 (pc1 := 48) rfl rfl (h_gC rfl rfl rfl rfl) rfl ?_
    refine w_p (pc1 := 49) (st1 := .int 2 :: _) rfl rfl ?_
    refine w_p (pc1 := 50) rfl rfl ?_
    refine w_p (pc1 := 51) (st1 := .int 2 :: _) rfl rfl ?_
    refine w_t (a := 64) (b := 54) (bN_ne_t (a := e) (b := 2) (by omega) (by omega) (by omega)) rfl rfl ?_
    refine w_p (pc1 := 65) (st1 := .int (-1) :: _) rfl rfl ?_
    refine w_m0 (pc1 := 66) rfl rfl (n_is (e := 2) rfl rfl rfl (by omega)) rfl ?_
    refine w_p (pc1 := 67) rfl rfl ?_
    refine w_m0 (pc1 := 70) rfl rfl (h_gC rfl rfl rfl rfl) rfl ?_
    refine w_p (pc1 := 71) (st1 := .int 3 :: _) rfl rfl ?_
    refine w_p (pc1 := 72) rfl rfl ?_
    refine w_p (pc1 := 73) (st1 := .int 2 :: _) rfl rfl ?_
    refine w_t (a := 86) (b := 76) (bN_ne_t (a := e) (b := 2) (by omega) (by omega) (by omega)) rfl rfl ?_
    refine w_p (pc1 := 87) (st1 := .int (-1) :: _) rfl rfl ?_
    refine w_m0 (pc1 := 88) rfl rfl (n_is (e := 3) rfl rfl rfl (by omega)) rfl ?_
    refine w_p (pc1 := 89) rfl rfl ?_
    refine w_m0 (pc1 := 92) rfl rfl (h_gC rfl rfl rfl rfl) rfl ?_
    refine w_p (pc1 := 93) (st1 := .int 4 :: _) rfl rfl ?_
    refine w_p (pc1 := 94) rfl rfl ?_
    refine w_p (pc1 := 95) (st1 := .int 3 :: _) rfl rfl ?_
    refine w_t (a := 108) (b := 98) (bN_ne_t (a := e) (b := 3) (by omega) (by omega) (by omega)) rfl rfl ?_
    refine w_p (pc1 := 109) (st1 := .int (-1) :: _) rfl rfl ?_
    refine w_m0 (pc1 := 110) rfl rfl (n_is (e := 4) rfl rfl rfl (by omega)) rfl ?_
    refine w_p (pc1 := 111) rfl rfl ?_
    refine w_m0 (pc1 := 114) rfl rfl (h_gC rfl rfl rfl rfl) rfl ?_
    refine w_p (pc1 := 115) (st1 := .int 5 :: _) rfl rfl ?_
    refine w_p (pc1 := 116) rfl rfl ?_
    refine w_m0 (pc1 := 119) rfl rfl (h_gC rfl rfl rfl rfl) rfl ?_
    refine w_m0 (pc1 := 122) (st1 := .int (v 5) :: _) rfl rfl (h_gIe (j := 7) rfl rfl rfl rfl rfl (by (repeat rw [sI_1, if_neg (by omega)]); exact h5)) rfl ?_
    refine w_m0 (pc1 := 123) rfl rfl (n_is (e := 5) rfl rfl rfl (by omega)) rfl ?_
    refine w_p (pc1 := 124) rfl rfl ?_
    refine w_m0 (pc1 := 127) rfl rfl (h_gC rfl rfl rfl rfl) rfl ?_
    refine w_p (pc1 := 129) (st1 := .int 6 :: _) rfl rfl ?_
    refine w_p (pc1 := 130) rfl rfl ?_
    refine w_m0 (pc1 := 133) rfl rfl (h_gC rfl rfl rfl rfl) rfl ?_
    refine w_m0 (pc1 := 136) (st1 := .int (v 6) :: _) rfl rfl (h_gIe (j := 8) rfl rfl rfl rfl rfl (by (repeat rw [sI_1, if_neg (by omega)]); exact h6)) rfl ?_
    refine w_m0 (pc1 := 137) rfl rfl (n_is (e := 6) rfl rfl rfl (by omega)) rfl ?_
    refine w_p (pc1 := 138) rfl rfl ?_
    refine w_m0 (pc1 := 141) rfl rfl (h_gC rfl rfl rfl rfl) rfl ?_
    refine w_p (pc1 := 143) (st1 := .int 7 :: _) rfl rfl ?_
    refine w_p (pc1 := 144) rfl rfl ?_
    refine w_m0 (pc1 := 145) rfl rfl (n_is (e := 7) rfl rfl rfl (by omega)) rfl ?_
    refine w_r rfl rfl rfl (fun _ _ => rfl) rfl ?_
    refine ⟨rfl, ?_, rfl⟩
    unfold ntC
    rw [if_pos e1, if_pos e1, if_neg e2, if_neg e2, if_neg e3]
  · by_cases e2 : e = 2
    · have e3 : ¬ e = 3 := by omega
      refine w_p (pc1 := 1) rfl rfl ?_
      refine w_m0 (pc1 := 4) rfl rfl (h_gC rfl rfl rfl rfl) rfl ?_
      refine w_p (pc1 := 5) (st1 := .int 0 :: _) rfl rfl ?_
      refine w_p (pc1 := 6) rfl rfl ?_
      refine w_p (pc1 := 7) (st1 := .int 1 :: _) rfl rfl ?_
      refine w_t (a := 20) (b := 10) (bN_ne_t (a := e) (b := 1) (by omega) (by omega) (by omega)) rfl rfl ?_
      refine w_p (pc1 := 21) (st1 := .int (-1) :: _) rfl rfl ?_
      refine w_m0 (pc1 := 22) rfl rfl (n_is (e := 0) rfl rfl rfl (by omega)) rfl ?_
      refine w_p (pc1 := 23) rfl rfl ?_
      refine w_m0 (pc1 := 26) rfl rfl (h_gC rfl rfl rfl rfl) rfl ?_
      refine w_p (pc1 := 27) (st1 := .int 1 :: _) rfl rfl ?_
      refine w_p (pc1 := 28) rfl rfl ?_
      refine w_p (pc1 := 29) (st1 := .int 1 :: _) rfl rfl ?_
      refine w_t (a := 42) (b := 32) (bN_ne_t (a := e) (b := 1) (by omega) (by omega) (by omega)) rfl rfl ?_
      refine w_p (pc1 := 43) (st1 := .int (-1) :: _) rfl rfl ?_
      refine w_m0 (pc1 := 44) rfl rfl (n_is (e := 1) rfl rfl rfl (by omega)) rfl ?_
      refine w_p (pc1 := 45) rfl rfl ?_
      refine w_m0 (pc1 := 48) rfl rfl (h_gC rfl rfl rfl rfl) rfl ?_
      refine w_p (pc1 := 49) (st1 := .int 2 :: _) rfl rfl ?_
      refine w_p (pc1 := 50) rfl rfl ?_
      refine w_p (pc1 := 51) (st1 := .int 2 :: _) rfl rfl ?_
      refine w_f (a := 64) (b := 54) (bN_ne_f (a := e) (b := 2) (by omega) (by omega) (by omega)) rfl rfl ?_
      refine w_p (pc1 := 55) rfl rfl ?_
      refine w_m0 (pc1 := 58) rfl rfl (h_gC rfl rfl rfl rfl) rfl ?_
      refine w_m0 (pc1 := 61) (st1 := .int (v 2) :: _) rfl rfl (h_gIe (j := 9) rfl rfl rfl rfl rfl (by (repeat rw [sI_1, if_neg (by omega)]); exact h2)) rfl ?_
      refine w_p (pc1 := 65) rfl rfl ?_
      refine w_m0 (pc1 := 66) rfl rfl (n_is (e := 2) rfl rfl rfl (by omega)) rfl ?_
      refine w_p (pc1 := 67) rfl rfl ?_
      refine w_m0 (pc1 := 70) rfl rfl (h_gC rfl rfl rfl rfl) rfl ?_
      refine w_p (pc1 := 71) (st1 := .int 3 :: _) rfl rfl ?_
      refine w_p (pc1 := 72) rfl rfl ?_
      refine w_p (pc1 := 73) (st1 := .int 2 :: _) rfl rfl ?_
      refine w_f (a := 86) (b := 76) (bN_ne_f (a := e) (b := 2) (by omega) (by omega) (by omega)) rfl rfl ?_
      refine w_p (pc1 := 77) rfl rfl ?_
      refine w_m0 (pc1 := 80) rfl rfl (h_gC rfl rfl rfl rfl) rfl ?_
      refine w_m0 (pc1 := 83) (st1 := .int (v 3) :: _) rfl rfl (h_gIe (j := 10) rfl rfl rfl rfl rfl (by (repeat rw [sI_1, if_neg (by omega)]); exact h3)) rfl ?_
      refine w_p (pc1 := 87) rfl rfl ?_
      refine w_m0 (pc1 := 88) rfl rfl (n_is (e := 3) rfl rfl rfl (by omega)) rfl ?_
      refine w_p (pc1 := 89) rfl rfl ?_
      refine w_m0 (pc1 := 92) rfl rfl (h_gC rfl rfl rfl rfl) rfl ?_
      refine w_p (pc1 := 93) (st1 := .int 4 :: _) rfl rfl ?_
      refine w_p (pc1 := 94) rfl rfl ?_
      refine w_p (pc1 := 95) (st1 := .int 3 :: _) rfl rfl ?_
      refine w_t (a := 108) (b := 98) (bN_ne_t (a := e) (b := 3) (by omega) (by omega) (by omega)) rfl rfl ?_
      refine w_p (pc1 := 109) (st1 := .int (-1) :: _) rfl rfl ?_
      refine w_m0 (pc1 := 110) rfl rfl (n_is (e := 4) rfl rfl rfl (by omega)) rfl ?_
      refine w_p (pc1 := 111) rfl rfl ?_
      refine w_m0 (pc1 := 114) rfl rfl (h_gC rfl rfl rfl rfl) rfl ?_
      refine w_p (pc1 := 115) (st1 := .int 5 :: _) rfl rfl ?_
      refine w_p (pc1 := 116) rfl rfl ?_
      refine w_m0 (pc1 := 119) rfl rfl (h_gC rfl rfl rfl rfl) rfl ?_
      refine w_m0 (pc1 := 122) (st1 := .int (v 5) :: _) rfl rfl (h_gIe (j := 7) rfl rfl rfl rfl rfl (by (repeat rw [sI_1, if_neg (by omega)]); exact h5)) rfl ?_
      refine w_m0 (pc1 := 123) rfl rfl (n_is (e := 5) rfl rfl rfl (by omega)) rfl ?_
      refine w_p (pc1 := 124) rfl rfl ?_
      refine w_m0 (pc1 := 127) rfl rfl (h_gC rfl rfl rfl rfl) rfl ?_
      refine w_p (pc1 := 129) (st1 := .int 6 :: _) rfl rfl ?_
      refine w_p (pc1 := 130) rfl rfl ?_
      refine w_m0 (pc1 := 133) rfl rfl (h_gC rfl rfl rfl rfl) rfl ?_
      refine w_m0 (pc1 := 136) (st1 := .int (v 6) :: _) rfl rfl (h_gIe (j := 8) rfl rfl rfl rfl rfl (by (repeat rw [sI_1, if_neg (by omega)]); exact h6)) rfl ?_
      refine w_m0 (pc1 := 137) rfl rfl (n_is (e := 6) rfl rfl rfl (by omega)) rfl ?_
      refine w_p (pc1 := 138) rfl rfl ?_
      refine w_m0 (pc1 := 141) rfl rfl (h_gC rfl rfl rfl rfl) rfl ?_
      refine w_p (pc1 := 143) (st1 := .int 7 :: _) rfl rfl ?_
      refine w_p (pc1 := 144) rfl rfl ?_
      refine w_m0 (pc1 := 145) rfl rfl (n_is (e := 7) rfl rfl rfl (by omega)) rfl ?_
      refine w_r rfl rfl rfl (fun _ _ => rfl) rfl ?_
      refine ⟨rfl, ?_, rfl⟩
      unfold ntC
      rw [if_neg e1, if_neg e1, if_pos e2, if_pos e2, if_neg e3]
    · by_cases e3 : e = 3
      · skip
        refine w_p (pc1 := 1) rfl rfl ?_
        refine w_m0 (pc1 := 4) rfl rfl (h_gC rfl rfl rfl rfl) rfl ?_
        refine w_p (pc1 := 5) (st1 := .int 0 :: _) rfl rfl ?_
        refine w_p (pc1 := 6) rfl rfl ?_
        refine w_p (pc1 := 7) (st1 := .int 1 :: _) rfl rfl ?_
        refine w_t (a := 20) (b := 10) (bN_ne_t (a := e) (b := 1) (by omega) (by omega) (by omega)) rfl rfl ?_
        refine w_p (pc1 := 21) (st1 := .int (-1) :: _) rfl rfl ?_
        refine w_m0 (pc1 := 22) rfl rfl (n_is (e := 0) rfl rfl rfl (by omega)) rfl ?_
        refine w_p (pc1 := 23) rfl rfl ?_
        refine w_m0 (pc1 := 26) rfl rfl (h_gC rfl rfl rfl rfl) rfl ?_
        refine w_p (pc1 := 27) (st1 := .int 1 :: _) rfl rfl ?_
        refine w_p (pc1 := 28) rfl rfl ?_
        refine w_p (pc1 := 29) (st1 := .int 1 :: _) rfl rfl ?_
        refine w_t (a := 42) (b := 32) (bN_ne_t (a := e) (b := 1) (by omega) (by omega) (by omega)) rfl rfl ?_
        refine w_p (pc1 := 43) (st1 := .int (-1) :: _) rfl rfl ?_
        refine w_m0 (pc1 := 44) rfl rfl (n_is (e := 1) rfl rfl rfl (by omega)) rfl ?_
        refine w_p (pc1 := 45) rfl rfl ?_
        refine w_m0 (pc1 := 48) rfl rfl (h_gC rfl rfl rfl rfl) rfl ?_
        refine w_p (pc1 := 49) (st1 := .int 2 :: _) rfl rfl ?_
        refine w_p (pc1 := 50) rfl rfl ?_
        refine w_p (pc1 := 51) (st1 := .int 2 :: _) rfl rfl ?_
        refine w_t (a := 64) (b := 54) (bN_ne_t (a := e) (b := 2) (by omega) (by omega) (by omega)) rfl rfl ?_
        refine w_p (pc1 := 65) (st1 := .int (-1) :: _) rfl rfl ?_
        refine w_m0 (pc1 := 66) rfl rfl (n_is (e := 2) rfl rfl rfl (by omega)) rfl ?_
        refine w_p (pc1 := 67) rfl rfl ?_
        refine w_m0 (pc1 := 70) rfl rfl (h_gC rfl rfl rfl rfl) rfl ?_
        refine w_p (pc1 := 71) (st1 := .int 3 :: _) rfl rfl ?_
        refine w_p (pc1 := 72) rfl rfl ?_
        refine w_p (pc1 := 73) (st1 := .int 2 :: _) rfl rfl ?_
        refine w_t (a := 86) (b := 76) (bN_ne_t (a := e) (b := 2) (by omega) (by omega) (by omega)) rfl rfl ?_
        refine w_p (pc1 := 87) (st1 := .int (-1) :: _) rfl rfl ?_
        refine w_m0 (pc1 := 88) rfl rfl (n_is (e := 3) rfl rfl rfl (by omega)) rfl ?_
        refine w_p (pc1 := 89) rfl rfl ?_
        refine w_m0 (pc1 := 92) rfl rfl (h_gC rfl rfl rfl rfl) rfl ?_
        refine w_p (pc1 := 93) (st1 := .int 4 :: _) rfl rfl ?_
        refine w_p (pc1 := 94) rfl rfl ?_
        refine w_p (pc1 := 95) (st1 := .int 3 :: _) rfl rfl ?_
        refine w_f (a := 108) (b := 98) (bN_ne_f (a := e) (b := 3) (by omega) (by omega) (by omega)) rfl rfl ?_
        refine w_p (pc1 := 99) rfl rfl ?_
        refine w_m0 (pc1 := 102) rfl rfl (h_gC rfl rfl rfl rfl) rfl ?_
        refine w_m0 (pc1 := 105) (st1 := .int (v 4) :: _) rfl rfl (h_gIe (j := 11) rfl rfl rfl rfl rfl (by (repeat rw [sI_1, if_neg (by omega)]); exact h4)) rfl ?_
        refine w_p (pc1 := 109) rfl rfl ?_
        refine w_m0 (pc1 := 110) rfl rfl (n_is (e := 4) rfl rfl rfl (by omega)) rfl ?_
        refine w_p (pc1 := 111) rfl rfl ?_
        refine w_m0 (pc1 := 114) rfl rfl (h_gC rfl rfl rfl rfl) rfl ?_
        refine w_p (pc1 := 115) (st1 := .int 5 :: _) rfl rfl ?_
        refine w_p (pc1 := 116) rfl rfl ?_
        refine w_m0 (pc1 := 119) rfl rfl (h_gC rfl rfl rfl rfl) rfl ?_
        refine w_m0 (pc1 := 122) (st1 := .int (v 5) :: _) rfl rfl (h_gIe (j := 7) rfl rfl rfl rfl rfl (by (repeat rw [sI_1, if_neg (by omega)]); exact h5)) rfl ?_
        refine w_m0 (pc1 := 123) rfl rfl (n_is (e := 5) rfl rfl rfl (by omega)) rfl ?_
        refine w_p (pc1 := 124) rfl rfl ?_
        refine w_m0 (pc1 := 127) rfl rfl (h_gC rfl rfl rfl rfl) rfl ?_
        refine w_p (pc1 := 129) (st1 := .int 6 :: _) rfl rfl ?_
        refine w_p (pc1 := 130) rfl rfl ?_
        refine w_m0 (pc1 := 133) rfl rfl (h_gC rfl rfl rfl rfl) rfl ?_
        refine w_m0 (pc1 := 136) (st1 := .int (v 6) :: _) rfl rfl (h_gIe (j := 8) rfl rfl rfl rfl rfl (by (repeat rw [sI_1, if_neg (by omega)]); exact h6)) rfl ?_
        refine w_m0 (pc1 := 137) rfl rfl (n_is (e := 6) rfl rfl rfl (by omega)) rfl ?_
        refine w_p (pc1 := 138) rfl rfl ?_
        refine w_m0 (pc1 := 141) rfl rfl (h_gC rfl rfl rfl rfl) rfl ?_
        refine w_p (pc1 := 143) (st1 := .int 7 :: _) rfl rfl ?_
        refine w_p (pc1 := 144) rfl rfl ?_
        refine w_m0 (pc1 := 145) rfl rfl (n_is (e := 7) rfl rfl rfl (by omega)) rfl ?_
        refine w_r rfl rfl rfl (fun _ _ => rfl) rfl ?_
        refine ⟨rfl, ?_, rfl⟩
        unfold ntC
        rw [if_neg e1, if_neg e1, if_neg e2, if_neg e2, if_pos e3]
      · skip
        refine w_p (pc1 := 1) rfl rfl ?_
        refine w_m0 (pc1 := 4) rfl rfl (h_gC rfl rfl rfl rfl) rfl ?_
        refine w_p (pc1 := 5) (st1 := .int 0 :: _) rfl rfl ?_
        refine w_p (pc1 := 6) rfl rfl ?_
        refine w_p (pc1 := 7) (st1 := .int 1 :: _) rfl rfl ?_
        refine w_t (a := 20) (b := 10) (bN_ne_t (a := e) (b := 1) (by omega) (by omega) (by omega)) rfl rfl ?_
        refine w_p (pc1 := 21) (st1 := .int (-1) :: _) rfl rfl ?_
        refine w_m0 (pc1 := 22) rfl rfl (n_is (e := 0) rfl rfl rfl (by omega)) rfl ?_
        refine w_p (pc1 := 23) rfl rfl ?_
        refine w_m0 (pc1 := 26) rfl rfl (h_gC rfl rfl rfl rfl) rfl ?_
        refine w_p (pc1 := 27) (st1 := .int 1 :: _) rfl rfl ?_
        refine w_p (pc1 := 28) rfl rfl ?_
        refine w_p (pc1 := 29) (st1 := .int 1 :: _) rfl rfl ?_
        refine w_t (a := 42) (b := 32) (bN_ne_t (a := e) (b := 1) (by omega) (by omega) (by omega)) rfl rfl ?_
        refine w_p (pc1 := 43) (st1 := .int (-1) :: _) rfl rfl ?_
        refine w_m0 (pc1 := 44) rfl rfl (n_is (e := 1) rfl rfl rfl (by omega)) rfl ?_
        refine w_p (pc1 := 45) rfl rfl ?_
        refine w_m0 (pc1 := 48) rfl rfl (h_gC rfl rfl rfl rfl) rfl ?_
        refine w_p (pc1 := 49) (st1 := .int 2 :: _) rfl rfl ?_
        refine w_p (pc1 := 50) rfl rfl ?_
        refine w_p (pc1 := 51) (st1 := .int 2 :: _) rfl rfl ?_
        refine w_t (a := 64) (b := 54) (bN_ne_t (a := e) (b := 2) (by omega) (by omega) (by omega)) rfl rfl ?_
        refine w_p (pc1 := 65) (st1 := .int (-1) :: _) rfl rfl ?_
        refine w_m0 (pc1 := 66) rfl rfl (n_is (e := 2) rfl rfl rfl (by omega)) rfl ?_
        refine w_p (pc1 := 67) rfl rfl ?_
        refine w_m0 (pc1 := 70) rfl rfl (h_gC rfl rfl rfl rfl) rfl ?_
        refine w_p (pc1 := 71) (st1 := .int 3 :: _) rfl rfl ?_
        refine w_p (pc1 := 72) rfl rfl ?_
        refine w_p (pc1 := 73) (st1 := .int 2 :: _) rfl rfl ?_
        refine w_t (a := 86) (b := 76) (bN_ne_t (a := e) (b := 2) (by omega) (by omega) (by omega)) rfl rfl ?_
        refine w_p (pc1 := 87) (st1 := .int (-1) :: _) rfl rfl ?_
        refine w_m0 (pc1 := 88) rfl rfl (n_is (e := 3) rfl rfl rfl (by omega)) rfl ?_
        refine w_p (pc1 := 89) rfl rfl ?_
        refine w_m0 (pc1 := 92) rfl rfl (h_gC rfl rfl rfl rfl) rfl ?_
        refine w_p (pc1 := 93) (st1 := .int 4 :: _) rfl rfl ?_
        refine w_p (pc1 := 94) rfl rfl ?_
        refine w_p (pc1 := 95) (st1 := .int 3 :: _) rfl rfl ?_
        refine w_t (a := 108) (b := 98) (bN_ne_t (a := e) (b := 3) (by omega) (by omega) (by omega)) rfl rfl ?_
        refine w_p (pc1 := 109) (st1 := .int (-1) :: _) rfl rfl ?_
        refine w_m0 (pc1 := 110) rfl rfl (n_is (e := 4) rfl rfl rfl (by omega)) rfl ?_
        refine w_p (pc1 := 111) rfl rfl ?_
        refine w_m0 (pc1 := 114) rfl rfl (h_gC rfl rfl rfl rfl) rfl ?_
        refine w_p (pc1 := 115) (st1 := .int 5 :: _) rfl rfl ?_
        refine w_p (pc1 := 116) rfl rfl ?_
        refine w_m0 (pc1 := 119) rfl rfl (h_gC rfl rfl rfl rfl) rfl ?_
        refine w_m0 (pc1 := 122) (st1 := .int (v 5) :: _) rfl rfl (h_gIe (j := 7) rfl rfl rfl rfl rfl (by (repeat rw [sI_1, if_neg (by omega)]); exact h5)) rfl ?_
        refine w_m0 (pc1 := 123) rfl rfl (n_is (e := 5) rfl rfl rfl (by omega)) rfl ?_
        refine w_p (pc1 := 124) rfl rfl ?_
        refine w_m0 (pc1 := 127) rfl rfl (h_gC rfl rfl rfl rfl) rfl ?_
        refine w_p (pc1 := 129) (st1 := .int 6 :: _) rfl rfl ?_
        refine w_p (pc1 := 130) rfl rfl ?_
        refine w_m0 (pc1 := 133) rfl rfl (h_gC rfl rfl rfl rfl) rfl ?_
        refine w_m0 (pc1 := 136) (st1 := .int (v 6) :: _) rfl rfl (h_gIe (j := 8) rfl rfl rfl rfl rfl (by (repeat rw [sI_1, if_neg (by omega)]); exact h6)) rfl ?_
        refine w_m0 (pc1 := 137) rfl rfl (n_is (e := 6) rfl rfl rfl (by omega)) rfl ?_
        refine w_p (pc1 := 138) rfl rfl ?_
        refine w_m0 (pc1 := 141) rfl rfl (h_gC rfl rfl rfl rfl) rfl ?_
        refine w_p (pc1 := 143) (st1 := .int 7 :: _) rfl rfl ?_
        refine w_p (pc1 := 144) rfl rfl ?_
        refine w_m0 (pc1 := 145) rfl rfl (n_is (e := 7) rfl rfl rfl (by omega)) rfl ?_
        refine w_r rfl rfl rfl (fun _ _ => rfl) rfl ?_
        refine ⟨rfl, ?_, rfl⟩
        unfold ntC
        rw [if_neg e1, if_neg e1, if_neg e2, if_neg e2, if_neg e3]
end NOT
