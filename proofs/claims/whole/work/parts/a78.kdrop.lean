
/-! ONE SIDE: a table is dropped, 1: its rules -/
section DRP
variable {L : Nat} {xs : Nat → Int32} {B : Nat → Nat} {n m : Nat} {C C' C0 C1 : co_T} {t t0 t1 : ab_H} {d sl sl0 sl1 i i0 i1 j b e ti k k0 kc ks w c : Nat} {sc : sc_T} {row : Option Nat} {tg : Option (Nat × Nat)} {nl : Option Nat} {kd0 tb0 : Int32} {P : Option Value → ab_H → Nat → Prop} {X : Nat → ab_H → Nat → Prop} {cs : List Nat} {ss : List (Option (List op_T))} {E : fe_T} {tr : Nat → Option tr_T}
/-! whose rules, whose triggers the slots hold -/
def SLt (C : co_T) (t : ab_H) (q p z : Nat) (tbo : Nat → Option Nat) : Prop := ∀ j, p ≤ j → j < z → match tbo j with
  | none => C.2.2 q j = none
  | some tb => ∃ k x l, C.2.2 q j = some (241 + k) ∧ t[k]? = some (.inr (7, .int x :: .int (nI tb) :: l)) ∧ tb < 6
def drS (C C' : co_T) (q p z b : Nat) (tbo : Nat → Option Nat) : Prop := C'.1 = C.1 ∧ C'.2.1 = C.2.1 ∧ (∀ k j, k ≠ q → C'.2.2 k j = C.2.2 k j) ∧ ∀ j, j < z → C'.2.2 q j = if p ≤ j ∧ tbo j = some b then none else C.2.2 q j
set_option maxRecDepth 100000 in
theorem lp_98r {tbo : Nat → Option Nat} (hb : b < 6) : ∀ (f p : Nat) (C : co_T), p + f = 24 → SLt C t 11 p 24 tbo → (∀ C', drS C C' 11 p 24 b tbo → Wd L xs (d + 1) y_98 (74, [(2, .int (nI 24)), (0, .ref 106), (1, .int (nI b))], [], MH C' t, sl) P X) → Wd L xs (d + 1) y_98 (33, [(2, .int (nI p)), (0, .ref 106), (1, .int (nI b))], [], MH C t, sl) P X
  | 0, p, C, hp, hS, H => by
    obtain rfl : p = 24 := by omega
    have h0 := H C ⟨rfl, rfl, fun _ _ _ => rfl, fun j hj => by rw [if_neg (by omega)]⟩
    refine w_p (pc1 := 34) rfl rfl ?_
    refine w_p (pc1 := 36) (st1 := .int 24 :: _) rfl rfl ?_
    refine w_t (a := 74) (b := 39) (bN_ge_t (a := 24) (b := 24) (by omega) (by omega) (by omega)) rfl rfl ?_
    exact h0
  | f + 1, p, C, hp, hS, H => by
    have hq := hS p (Nat.le_refl _) (by omega)
    have same : (tbo p ≠ some b) → ∀ C', drS C C' 11 (p + 1) 24 b tbo → drS C C' 11 p 24 b tbo := fun hne C' D => ⟨D.1, D.2.1, D.2.2.1, fun j hj => by
      rw [D.2.2.2 j hj]
      by_cases e : j = p
      · subst e
        rw [if_neg (by omega), if_neg (fun h => hne h.2)]
      · by_cases e2 : p ≤ j ∧ tbo j = some b
        · rw [if_pos e2, if_pos ⟨by omega, e2.2⟩]
        · rw [if_neg e2, if_neg (fun h => e2 ⟨by omega, h.2⟩)]⟩
    cases e : tbo p with
    | none =>
      rw [e] at hq
      have hq : C.2.2 11 p = none := hq
      have ih := lp_98r hb f (p + 1) C (by omega) (fun j h1 h2 => hS j (by omega) h2) (fun C' D => H C' (same (by rw [e]; intro h; cases h) C' D))
      refine w_p (pc1 := 34) rfl rfl ?_
      refine w_p (pc1 := 36) (st1 := .int 24 :: _) rfl rfl ?_
      refine w_f (a := 74) (b := 39) (bN_ge_f (a := p) (b := 24) (by omega) (by omega) (by omega)) rfl rfl ?_
      refine w_p (pc1 := 40) rfl rfl ?_
      refine w_m0 (pc1 := 43) rfl rfl (h_gC rfl rfl rfl rfl) rfl ?_
      refine w_p (pc1 := 44) rfl rfl ?_
      refine w_m0 (pc1 := 45) (st1 := .null :: _) rfl rfl (n_aln (e := p) rfl rfl (by decide) rfl (by omega) (hq)) rfl ?_
      refine w_t (a := 68) (b := 48) rfl rfl rfl ?_
      refine w_iinc (pc1 := 71) (u := nI (p)) (z := nI (p + 1)) (al1 := [(2, .int (nI (p + 1))), (0, .ref 106), (1, .int (nI (b)))]) rfl rfl rfl nK_1 rfl rfl ?_
      refine w_p (pc1 := 33) rfl rfl ?_
      exact ih
    | some tb =>
      rw [e] at hq
      obtain ⟨kk, x, l, hq, g1, htb⟩ := hq
      by_cases hbb : tb = b
      · have hS2 : SLt (sQ C 11 p none) t 11 (p + 1) 24 tbo := fun j h1 h2 => by
          have := hS j (by omega) h2
          cases e2 : tbo j with
          | none =>
            rw [e2] at this
            show (sQ C 11 p none).2.2 11 j = none
            rw [sQ_3, if_neg (by omega)]
            exact this
          | some tb2 =>
            rw [e2] at this
            obtain ⟨k2, x2, l2, a1, a2, a3⟩ := this
            exact ⟨k2, x2, l2, by rw [sQ_3, if_neg (by omega)]; exact a1, a2, a3⟩
        have ih := lp_98r hb f (p + 1) (sQ C 11 p none) (by omega) hS2 (fun C' D => H C' ⟨D.1, D.2.1, (fun k j hk => by
          rw [D.2.2.1 k j hk, sQ_3, if_neg (by omega)]), fun j hj => by
          rw [D.2.2.2 j hj, sQ_3]
          by_cases e3 : j = p
          · subst e3
            rw [if_neg (by omega), if_pos ⟨rfl, rfl⟩, if_pos ⟨Nat.le_refl _, by rw [e, hbb]⟩]
          · rw [if_neg (fun h : 11 = 11 ∧ j = p => e3 h.2)]
            by_cases e2 : p ≤ j ∧ tbo j = some b
            · rw [if_pos e2, if_pos ⟨by omega, e2.2⟩]
            · rw [if_neg e2, if_neg (fun h => e2 ⟨by omega, h.2⟩)]⟩)
        refine w_p (pc1 := 34) rfl rfl ?_
        refine w_p (pc1 := 36) (st1 := .int 24 :: _) rfl rfl ?_
        refine w_f (a := 74) (b := 39) (bN_ge_f (a := p) (b := 24) (by omega) (by omega) (by omega)) rfl rfl ?_
        refine w_p (pc1 := 40) rfl rfl ?_
        refine w_m0 (pc1 := 43) rfl rfl (h_gC rfl rfl rfl rfl) rfl ?_
        refine w_p (pc1 := 44) rfl rfl ?_
        refine w_m0 (pc1 := 45) (st1 := .ref (241 + kk) :: _) rfl rfl (n_als (e := p) rfl rfl (by decide) rfl (by omega) (hq)) rfl ?_
        refine w_f (a := 68) (b := 48) rfl rfl rfl ?_
        refine w_p (pc1 := 49) rfl rfl ?_
        refine w_m0 (pc1 := 52) rfl rfl (h_gC rfl rfl rfl rfl) rfl ?_
        refine w_p (pc1 := 53) rfl rfl ?_
        refine w_m0 (pc1 := 54) (st1 := .ref (241 + kk) :: _) rfl rfl (n_als (e := p) rfl rfl (by decide) rfl (by omega) (hq)) rfl ?_
        refine w_m0 (pc1 := 57) (st1 := .int (nI (tb)) :: _) rfl rfl (x_gf (k := kk) rfl g1 rfl) rfl ?_
        refine w_p (pc1 := 58) rfl rfl ?_
        refine w_f (a := 68) (b := 61) (bN_ne_f (a := tb) (b := b) (by omega) (by omega) (by omega)) rfl rfl ?_
        refine w_p (pc1 := 62) rfl rfl ?_
        refine w_m0 (pc1 := 65) rfl rfl (h_gC rfl rfl rfl rfl) rfl ?_
        refine w_p (pc1 := 66) rfl rfl ?_
        refine w_p (pc1 := 67) rfl rfl ?_
        refine w_m0 (pc1 := 68) rfl rfl (x_asFn (k := 11) (e := p) rfl rfl (by decide) (by omega) (by omega)) rfl ?_
        refine w_iinc (pc1 := 71) (u := nI (p)) (z := nI (p + 1)) (al1 := [(2, .int (nI (p + 1))), (0, .ref 106), (1, .int (nI (b)))]) rfl rfl rfl nK_1 rfl rfl ?_
        refine w_p (pc1 := 33) rfl rfl ?_
        exact ih
      · have ih := lp_98r hb f (p + 1) C (by omega) (fun j h1 h2 => hS j (by omega) h2) (fun C' D => H C' (same (by rw [e]; intro h; cases h; exact hbb rfl) C' D))
        refine w_p (pc1 := 34) rfl rfl ?_
        refine w_p (pc1 := 36) (st1 := .int 24 :: _) rfl rfl ?_
        refine w_f (a := 74) (b := 39) (bN_ge_f (a := p) (b := 24) (by omega) (by omega) (by omega)) rfl rfl ?_
        refine w_p (pc1 := 40) rfl rfl ?_
        refine w_m0 (pc1 := 43) rfl rfl (h_gC rfl rfl rfl rfl) rfl ?_
        refine w_p (pc1 := 44) rfl rfl ?_
        refine w_m0 (pc1 := 45) (st1 := .ref (241 + kk) :: _) rfl rfl (n_als (e := p) rfl rfl (by decide) rfl (by omega) (hq)) rfl ?_
        refine w_f (a := 68) (b := 48) rfl rfl rfl ?_
        refine w_p (pc1 := 49) rfl rfl ?_
        refine w_m0 (pc1 := 52) rfl rfl (h_gC rfl rfl rfl rfl) rfl ?_
        refine w_p (pc1 := 53) rfl rfl ?_
        refine w_m0 (pc1 := 54) (st1 := .ref (241 + kk) :: _) rfl rfl (n_als (e := p) rfl rfl (by decide) rfl (by omega) (hq)) rfl ?_
        refine w_m0 (pc1 := 57) (st1 := .int (nI (tb)) :: _) rfl rfl (x_gf (k := kk) rfl g1 rfl) rfl ?_
        refine w_p (pc1 := 58) rfl rfl ?_
        refine w_t (a := 68) (b := 61) (bN_ne_t (a := tb) (b := b) (by omega) (by omega) (by omega)) rfl rfl ?_
        refine w_iinc (pc1 := 71) (u := nI (p)) (z := nI (p + 1)) (al1 := [(2, .int (nI (p + 1))), (0, .ref 106), (1, .int (nI (b)))]) rfl rfl rfl nK_1 rfl rfl ?_
        refine w_p (pc1 := 33) rfl rfl ?_
        exact ih
end DRP
