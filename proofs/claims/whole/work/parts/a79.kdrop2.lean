
/-! ONE SIDE: a table is dropped, 2: its triggers, the whole of it -/
section DR2
variable {L : Nat} {xs : Nat → Int32} {B : Nat → Nat} {n m : Nat} {C C' C0 C1 : co_T} {t t0 t1 : ab_H} {d sl sl0 sl1 i i0 i1 j b e ti k k0 kc ks w c : Nat} {sc : sc_T} {row : Option Nat} {tg : Option (Nat × Nat)} {nl : Option Nat} {kd0 tb0 : Int32} {P : Option Value → ab_H → Nat → Prop} {X : Nat → ab_H → Nat → Prop} {cs : List Nat} {ss : List (Option (List op_T))} {E : fe_T} {tr : Nat → Option tr_T}
def SLg (C : co_T) (t : ab_H) (q p z : Nat) (tbo : Nat → Option Nat) : Prop := ∀ j, p ≤ j → j < z → match tbo j with
  | none => C.2.2 q j = none
  | some tb => ∃ k x l, C.2.2 q j = some (241 + k) ∧ t[k]? = some (.inr (10, .long x :: .int (nI tb) :: l)) ∧ tb < 6
set_option maxRecDepth 100000 in
theorem lp_98g {tbo : Nat → Option Nat} (hb : b < 6) : ∀ (f p : Nat) (C : co_T), p + f = 8 → SLg C t 12 p 8 tbo → (∀ C', drS C C' 12 p 8 b tbo → Wd L xs (d + 1) y_98 (117, [(2, .int (nI 8)), (0, .ref 106), (1, .int (nI b))], [], MH C' t, sl) P X) → Wd L xs (d + 1) y_98 (76, [(2, .int (nI p)), (0, .ref 106), (1, .int (nI b))], [], MH C t, sl) P X
  | 0, p, C, hp, hS, H => by
    obtain rfl : p = 8 := by omega
    have h0 := H C ⟨rfl, rfl, fun _ _ _ => rfl, fun j hj => by rw [if_neg (by omega)]⟩
    refine w_p (pc1 := 77) rfl rfl ?_
    refine w_p (pc1 := 79) (st1 := .int 8 :: _) rfl rfl ?_
    refine w_t (a := 117) (b := 82) (bN_ge_t (a := 8) (b := 8) (by omega) (by omega) (by omega)) rfl rfl ?_
    exact h0
  | f + 1, p, C, hp, hS, H => by
    have hq := hS p (Nat.le_refl _) (by omega)
    have same : (tbo p ≠ some b) → ∀ C', drS C C' 12 (p + 1) 8 b tbo → drS C C' 12 p 8 b tbo := fun hne C' D => ⟨D.1, D.2.1, D.2.2.1, fun j hj => by
      rw [D.2.2.2 j hj]
      by_cases e : j = p
      · subst e
        rw [if_neg (by omega), if_neg (fun h => hne h.2)]
      · by_cases e2 : p ≤ j ∧ tbo j = some b
        · rw [if_pos e2, if_pos ⟨by omega, e2.2⟩]
        · rw [if_neg e2, if_neg (fun h => e2 ⟨by omega, h.2⟩)]⟩
    cases e : tbo p with
    | none =>
      rw [e] at hq
      have hq : C.2.2 12 p = none := hq
      have ih := lp_98g hb f (p + 1) C (by omega) (fun j h1 h2 => hS j (by omega) h2) (fun C' D => H C' (same (by rw [e]; intro h; cases h) C' D))
      refine w_p (pc1 := 77) rfl rfl ?_
      refine w_p (pc1 := 79) (st1 := .int 8 :: _) rfl rfl ?_
      refine w_f (a := 117) (b := 82) (bN_ge_f (a := p) (b := 8) (by omega) (by omega) (by omega)) rfl rfl ?_
      refine w_p (pc1 := 83) rfl rfl ?_
      refine w_m0 (pc1 := 86) rfl rfl (h_gC rfl rfl rfl rfl) rfl ?_
      refine w_p (pc1 := 87) rfl rfl ?_
      refine w_m0 (pc1 := 88) (st1 := .null :: _) rfl rfl (n_aln (e := p) rfl rfl (by decide) rfl (by omega) (hq)) rfl ?_
      refine w_t (a := 111) (b := 91) rfl rfl rfl ?_
      refine w_iinc (pc1 := 114) (u := nI (p)) (z := nI (p + 1)) (al1 := [(2, .int (nI (p + 1))), (0, .ref 106), (1, .int (nI (b)))]) rfl rfl rfl nK_1 rfl rfl ?_
      refine w_p (pc1 := 76) rfl rfl ?_
      exact ih
    | some tb =>
      rw [e] at hq
      obtain ⟨kk, x, l, hq, g1, htb⟩ := hq
      by_cases hbb : tb = b
      · have hS2 : SLg (sQ C 12 p none) t 12 (p + 1) 8 tbo := fun j h1 h2 => by
          have := hS j (by omega) h2
          cases e2 : tbo j with
          | none =>
            rw [e2] at this
            show (sQ C 12 p none).2.2 12 j = none
            rw [sQ_3, if_neg (by omega)]
            exact this
          | some tb2 =>
            rw [e2] at this
            obtain ⟨k2, x2, l2, a1, a2, a3⟩ := this
            exact ⟨k2, x2, l2, by rw [sQ_3, if_neg (by omega)]; exact a1, a2, a3⟩
        have ih := lp_98g hb f (p + 1) (sQ C 12 p none) (by omega) hS2 (fun C' D => H C' ⟨D.1, D.2.1, (fun k j hk => by
          rw [D.2.2.1 k j hk, sQ_3, if_neg (by omega)]), fun j hj => by
          rw [D.2.2.2 j hj, sQ_3]
          by_cases e3 : j = p
          · subst e3
            rw [if_neg (by omega), if_pos ⟨rfl, rfl⟩, if_pos ⟨Nat.le_refl _, by rw [e, hbb]⟩]
          · rw [if_neg (fun h : 12 = 12 ∧ j = p => e3 h.2)]
            by_cases e2 : p ≤ j ∧ tbo j = some b
            · rw [if_pos e2, if_pos ⟨by omega, e2.2⟩]
            · rw [if_neg e2, if_neg (fun h => e2 ⟨by omega, h.2⟩)]⟩)
        refine w_p (pc1 := 77) rfl rfl ?_
        refine w_p (pc1 := 79) (st1 := .int 8 :: _) rfl rfl ?_
        refine w_f (a := 117) (b := 82) (bN_ge_f (a := p) (b := 8) (by omega) (by omega) (by omega)) rfl rfl ?_
        refine w_p (pc1 := 83) rfl rfl ?_
        refine w_m0 (pc1 := 86) rfl rfl (h_gC rfl rfl rfl rfl) rfl ?_
        refine w_p (pc1 := 87) rfl rfl ?_
        refine w_m0 (pc1 := 88) (st1 := .ref (241 + kk) :: _) rfl rfl (n_als (e := p) rfl rfl (by decide) rfl (by omega) (hq)) rfl ?_
        refine w_f (a := 111) (b := 91) rfl rfl rfl ?_
        refine w_p (pc1 := 92) rfl rfl ?_
        refine w_m0 (pc1 := 95) rfl rfl (h_gC rfl rfl rfl rfl) rfl ?_
        refine w_p (pc1 := 96) rfl rfl ?_
        refine w_m0 (pc1 := 97) (st1 := .ref (241 + kk) :: _) rfl rfl (n_als (e := p) rfl rfl (by decide) rfl (by omega) (hq)) rfl ?_
        refine w_m0 (pc1 := 100) (st1 := .int (nI (tb)) :: _) rfl rfl (x_gf (k := kk) rfl g1 rfl) rfl ?_
        refine w_p (pc1 := 101) rfl rfl ?_
        refine w_f (a := 111) (b := 104) (bN_ne_f (a := tb) (b := b) (by omega) (by omega) (by omega)) rfl rfl ?_
        refine w_p (pc1 := 105) rfl rfl ?_
        refine w_m0 (pc1 := 108) rfl rfl (h_gC rfl rfl rfl rfl) rfl ?_
        refine w_p (pc1 := 109) rfl rfl ?_
        refine w_p (pc1 := 110) rfl rfl ?_
        refine w_m0 (pc1 := 111) rfl rfl (x_asFn (k := 12) (e := p) rfl rfl (by decide) (by omega) (by omega)) rfl ?_
        refine w_iinc (pc1 := 114) (u := nI (p)) (z := nI (p + 1)) (al1 := [(2, .int (nI (p + 1))), (0, .ref 106), (1, .int (nI (b)))]) rfl rfl rfl nK_1 rfl rfl ?_
        refine w_p (pc1 := 76) rfl rfl ?_
        exact ih
      · have ih := lp_98g hb f (p + 1) C (by omega) (fun j h1 h2 => hS j (by omega) h2) (fun C' D => H C' (same (by rw [e]; intro h; cases h; exact hbb rfl) C' D))
        refine w_p (pc1 := 77) rfl rfl ?_
        refine w_p (pc1 := 79) (st1 := .int 8 :: _) rfl rfl ?_
        refine w_f (a := 117) (b := 82) (bN_ge_f (a := p) (b := 8) (by omega) (by omega) (by omega)) rfl rfl ?_
        refine w_p (pc1 := 83) rfl rfl ?_
        refine w_m0 (pc1 := 86) rfl rfl (h_gC rfl rfl rfl rfl) rfl ?_
        refine w_p (pc1 := 87) rfl rfl ?_
        refine w_m0 (pc1 := 88) (st1 := .ref (241 + kk) :: _) rfl rfl (n_als (e := p) rfl rfl (by decide) rfl (by omega) (hq)) rfl ?_
        refine w_f (a := 111) (b := 91) rfl rfl rfl ?_
        refine w_p (pc1 := 92) rfl rfl ?_
        refine w_m0 (pc1 := 95) rfl rfl (h_gC rfl rfl rfl rfl) rfl ?_
        refine w_p (pc1 := 96) rfl rfl ?_
        refine w_m0 (pc1 := 97) (st1 := .ref (241 + kk) :: _) rfl rfl (n_als (e := p) rfl rfl (by decide) rfl (by omega) (hq)) rfl ?_
        refine w_m0 (pc1 := 100) (st1 := .int (nI (tb)) :: _) rfl rfl (x_gf (k := kk) rfl g1 rfl) rfl ?_
        refine w_p (pc1 := 101) rfl rfl ?_
        refine w_t (a := 111) (b := 104) (bN_ne_t (a := tb) (b := b) (by omega) (by omega) (by omega)) rfl rfl ?_
        refine w_iinc (pc1 := 114) (u := nI (p)) (z := nI (p + 1)) (al1 := [(2, .int (nI (p + 1))), (0, .ref 106), (1, .int (nI (b)))]) rfl rfl rfl nK_1 rfl rfl ?_
        refine w_p (pc1 := 76) rfl rfl ?_
        exact ih
set_option maxRecDepth 100000 in
theorem m_99 (hb : b < 6) : Wd L xs d y_99 (0, [(0, .ref 113), (1, .int (nI b))], [], MH C t, sl) (Rt none (MH (sI (sI C 16 b 0) 17 b 0) t) sl) nX := by
  refine w_p (pc1 := 1) rfl rfl ?_
  refine w_f (a := 24) (b := 4) (bN_lt_f (a := b) (b := 0) (by omega) (by omega) (by omega)) rfl rfl ?_
  refine w_p (pc1 := 5) rfl rfl ?_
  refine w_p (pc1 := 7) (st1 := .int 6 :: _) rfl rfl ?_
  refine w_f (a := 24) (b := 10) (bN_ge_f (a := b) (b := 6) (by omega) (by omega) (by omega)) rfl rfl ?_
  refine w_p (pc1 := 11) rfl rfl ?_
  refine w_m0 (pc1 := 14) rfl rfl (h_gC rfl rfl rfl rfl) rfl ?_
  refine w_p (pc1 := 15) rfl rfl ?_
  refine w_p (pc1 := 16) (st1 := .int 0 :: _) rfl rfl ?_
  refine w_m0 (pc1 := 17) rfl rfl (n_is (e := b) rfl rfl rfl (by omega)) rfl ?_
  refine w_p (pc1 := 18) rfl rfl ?_
  refine w_m0 (pc1 := 21) rfl rfl (h_gC rfl rfl rfl rfl) rfl ?_
  refine w_p (pc1 := 22) rfl rfl ?_
  refine w_p (pc1 := 23) (st1 := .int 0 :: _) rfl rfl ?_
  refine w_m0 (pc1 := 24) rfl rfl (n_is (e := b) rfl rfl rfl (by omega)) rfl ?_
  refine w_r rfl rfl rfl (fun _ _ => rfl) rfl ?_
  exact ⟨rfl, rfl, rfl⟩
/-! a table that is there -/
def dpC (C : co_T) (b : Nat) : co_T := sI (sI (sI (sJ C 7 b 0) 8 b 0) 16 b 0) 17 b 0
set_option maxRecDepth 100000 in
theorem m_98 {tbo tbg : Nat → Option Nat} (hb : b < 6) (hT : isT C b = true) (hS : SLt C t 11 0 24 tbo) (hG : SLg C t 12 0 8 tbg) : Wd L xs (d + 1) y_98 (0, [(0, .ref 106), (1, .int (nI b))], [], MH C t, sl) (fun v h q => none = v ∧ (∃ C1 C2, drS (dpC C b) C1 11 0 24 b tbo ∧ drS C1 C2 12 0 8 b tbg ∧ MH C2 t = h) ∧ sl = q) nX := by
  have hgo := lp_98r (L := L) (xs := xs) (d := d) (t := t) (sl := sl) (tbo := tbo) (P := fun v h q => none = v ∧ (∃ C1 C2, drS (dpC C b) C1 11 0 24 b tbo ∧ drS C1 C2 12 0 8 b tbg ∧ MH C2 t = h) ∧ sl = q) (X := nX) hb 24 0 (dpC C b) rfl hS (fun C1 D => by
    have hg := lp_98g (L := L) (xs := xs) (d := d) (t := t) (sl := sl) (tbo := tbg) (P := fun v h q => none = v ∧ (∃ C1 C2, drS (dpC C b) C1 11 0 24 b tbo ∧ drS C1 C2 12 0 8 b tbg ∧ MH C2 t = h) ∧ sl = q) (X := nX) hb 8 0 C1 rfl (fun j h1 h2 => by
      have := hG j h1 h2
      cases e : tbg j with
      | none =>
        rw [e] at this
        show C1.2.2 12 j = none
        rw [D.2.2.1 12 j (by omega)]
        exact this
      | some tb2 =>
        rw [e] at this
        obtain ⟨k2, x2, l2, a1, a2, a3⟩ := this
        exact ⟨k2, x2, l2, by rw [D.2.2.1 12 j (by omega)]; exact a1, a2, a3⟩) (fun C2 D2 => by
      refine w_r rfl rfl rfl (fun _ _ => rfl) rfl ?_
      refine ⟨rfl, ⟨C1, C2, D, D2, ?_⟩, rfl⟩
      with_reducible rfl)
    refine w_p (pc1 := 75) (st1 := .int 0 :: _) rfl rfl ?_
    refine w_p (pc1 := 76) (al1 := [(2, .int 0), (0, .ref 106), (1, .int (nI (b)))]) rfl rfl ?_
    exact hg)
  refine w_p (pc1 := 1) rfl rfl ?_
  refine w_p (pc1 := 2) rfl rfl ?_
  refine w_je (pc1 := 5) (vs := [.ref 106, .int (nI (b))]) (rest := []) (st1 := [.int 1]) (m_33t (d := d) (sl := 0) hb hT) rfl rfl rfl (fun _ _ => rfl) rfl (by exact cl_v my_33 rfl rfl rfl (Nat.le_of_ble_eq_true rfl) rfl (MH_obj rfl rfl) rfl (by decide) rfl rfl) (by rfl) (Nat.le_of_ble_eq_true rfl) (Nat.le_of_ble_eq_true rfl) rfl (by rfl) ?_
  refine w_t (a := 9) (b := 8) rfl rfl rfl ?_
  refine w_p (pc1 := 10) rfl rfl ?_
  refine w_m0 (pc1 := 13) rfl rfl (h_gC rfl rfl rfl rfl) rfl ?_
  refine w_p (pc1 := 14) rfl rfl ?_
  refine w_p (pc1 := 15) (st1 := .long 0 :: _) rfl rfl ?_
  refine w_m0 (pc1 := 16) rfl rfl (n_ls (e := b) rfl rfl rfl (by omega)) rfl ?_
  refine w_p (pc1 := 17) rfl rfl ?_
  refine w_m0 (pc1 := 20) rfl rfl (h_gC rfl rfl rfl rfl) rfl ?_
  refine w_p (pc1 := 21) rfl rfl ?_
  refine w_p (pc1 := 22) (st1 := .int 0 :: _) rfl rfl ?_
  refine w_m0 (pc1 := 23) rfl rfl (n_is (e := b) rfl rfl rfl (by omega)) rfl ?_
  refine w_p (pc1 := 24) rfl rfl ?_
  refine w_m0 (pc1 := 27) rfl rfl (h_gC rfl rfl rfl rfl) rfl ?_
  refine w_p (pc1 := 28) rfl rfl ?_
  refine w_je (pc1 := 31) (vs := [.ref 113, .int (nI (b))]) (rest := []) (st1 := []) (m_99 (d := d) (sl := 0) hb) rfl rfl rfl (fun _ _ => rfl) rfl (by exact cl_v my_99 rfl rfl rfl (Nat.le_of_ble_eq_true rfl) rfl (MH_obj rfl rfl) rfl (by decide) rfl rfl) (by rfl) (Nat.le_of_ble_eq_true rfl) (Nat.le_of_ble_eq_true rfl) rfl (by rfl) ?_
  refine w_p (pc1 := 32) (st1 := .int 0 :: _) rfl rfl ?_
  refine w_p (pc1 := 33) (al1 := [(2, .int 0), (0, .ref 106), (1, .int (nI (b)))]) rfl rfl ?_
  exact hgo
end DR2
