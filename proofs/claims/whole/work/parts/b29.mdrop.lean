
/-! THE OTHER SIDE: how many rows; now; a table goes -/
section DRM
variable {L : Nat} {xs : Nat → Int32} {B : Nat → Nat} {n m : Nat} {C C' C0 C1 : co_T} {t t0 t1 : ab_H} {d sl sl0 sl1 i i0 i1 j b e ti k k0 kc ks w c : Nat} {sc : sc_T} {row : Option Nat} {tg : Option (Nat × Nat)} {nl : Option Nat} {kd0 tb0 : Int32} {P : Option Value → ab_H → Nat → Prop} {X : Nat → ab_H → Nat → Prop} {cs : List Nat} {ss : List (Option (List op_T))} {E : fe_T} {tr : Nat → Option tr_T} {S : st_T} {z : Bool} {rs : rs_T} {wt nm a : Nat → Bool} {tb : Nat → Nat} {g : Nat → Int32}
set_option maxRecDepth 100000 in
theorem flU_v {v : Int32} (h : flU C0 C k i g) (e : g i = v) : flU C0 (sI C k i v) k (i + 1) g := by
  rw [← e]
  exact flU_s h
set_option maxRecDepth 100000 in
theorem lp_192 {T : Nat → Bool} (hT : ∀ b, b < 6 → C.1 78 b = ck (T b)) (h : ∀ b, b < 6 → C.1 117 b = nI (rs b).1.length) (h0 : ∀ b, b < 6 → T b = false → (rs b).1.length = 0) : ∀ (f b a : Nat), b + f = 6 → Wd L xs d y_192 (4, [(2, .int (nI b)), (1, .int (nI a)), (0, .ref 176)], [], MH C t, sl) (Rt (some (.int (nI (totF rs f b a)))) (MH C t) sl) nX
  | 0, b, a, hb => by
    refine w_p (pc1 := 5) rfl rfl ?_
    refine w_p (pc1 := 7) (st1 := .int 6 :: _) rfl rfl ?_
    refine w_t (a := 38) (b := 10) (bN_ge_t (a := b) (b := 6) (by omega) (by omega) (by omega)) rfl rfl ?_
    refine w_p (pc1 := 39) rfl rfl ?_
    refine w_r rfl rfl rfl (fun _ _ => rfl) cr_int ?_
    exact ⟨rfl, rfl, rfl⟩
  | f + 1, b, a, hb => by
    have hz := h b (by omega)
    have hv := hT b (by omega)
    cases e : T b with
    | true =>
      rw [e] at hv
      have ih := lp_192 hT h h0 f (b + 1) (a + (rs b).1.length) (by omega)
      refine w_p (pc1 := 5) rfl rfl ?_
      refine w_p (pc1 := 7) (st1 := .int 6 :: _) rfl rfl ?_
      refine w_f (a := 38) (b := 10) (bN_ge_f (a := b) (b := 6) (by omega) (by omega) (by omega)) rfl rfl ?_
      refine w_p (pc1 := 11) rfl rfl ?_
      refine w_p (pc1 := 12) rfl rfl ?_
      refine w_m0 (pc1 := 15) rfl rfl (h_gC rfl rfl rfl rfl) rfl ?_
      refine w_p (pc1 := 16) rfl rfl ?_
      refine w_m0 (pc1 := 17) (st1 := .int 1 :: _) rfl rfl (n_ble (e := b) rfl rfl (by decide) rfl (by omega) (hv)) rfl ?_
      refine w_f (a := 29) (b := 20) rfl rfl rfl ?_
      refine w_p (pc1 := 21) rfl rfl ?_
      refine w_m0 (pc1 := 24) rfl rfl (h_gC rfl rfl rfl rfl) rfl ?_
      refine w_p (pc1 := 25) rfl rfl ?_
      refine w_m0 (pc1 := 26) (st1 := .int (nI ((rs b).1.length)) :: _) rfl rfl (n_ile (e := b) rfl rfl rfl (by omega) (hz)) rfl ?_
      refine w_p (pc1 := 30) rfl rfl ?_
      refine w_iadd (pc1 := 31) (u := nI (a)) (v := nI ((rs b).1.length)) (z := nI (a + ((rs b).1.length))) rfl (nK_add) rfl ?_
      refine w_p (pc1 := 32) (al1 := [(1, .int (nI (a + ((rs b).1.length)))), (2, .int (nI (b))), (0, .ref 176)]) rfl rfl ?_
      refine w_iinc (pc1 := 35) (u := nI (b)) (z := nI (b + 1)) (al1 := [(2, .int (nI (b + 1))), (1, .int (nI (a + ((rs b).1.length)))), (0, .ref 176)]) rfl rfl rfl nK_1 rfl rfl ?_
      refine w_p (pc1 := 4) rfl rfl ?_
      exact ih
    | false =>
      rw [e] at hv
      have ih := lp_192 hT h h0 f (b + 1) (a + (rs b).1.length) (by omega)
      rw [h0 b (by omega) e] at ih
      have ew : totF rs (f + 1) b a = totF rs f (b + 1) (a + 0) := by rw [totF, h0 b (by omega) e]
      rw [ew]
      refine w_p (pc1 := 5) rfl rfl ?_
      refine w_p (pc1 := 7) (st1 := .int 6 :: _) rfl rfl ?_
      refine w_f (a := 38) (b := 10) (bN_ge_f (a := b) (b := 6) (by omega) (by omega) (by omega)) rfl rfl ?_
      refine w_p (pc1 := 11) rfl rfl ?_
      refine w_p (pc1 := 12) rfl rfl ?_
      refine w_m0 (pc1 := 15) rfl rfl (h_gC rfl rfl rfl rfl) rfl ?_
      refine w_p (pc1 := 16) rfl rfl ?_
      refine w_m0 (pc1 := 17) (st1 := .int 0 :: _) rfl rfl (n_ble (e := b) rfl rfl (by decide) rfl (by omega) (hv)) rfl ?_
      refine w_t (a := 29) (b := 20) rfl rfl rfl ?_
      refine w_p (pc1 := 30) (st1 := .int 0 :: _) rfl rfl ?_
      refine w_iadd (pc1 := 31) (u := nI (a)) (v := nI (0)) (z := nI (a + 0)) rfl (nK_add) rfl ?_
      refine w_p (pc1 := 32) (al1 := [(1, .int (nI (a + 0))), (2, .int (nI (b))), (0, .ref 176)]) rfl rfl ?_
      refine w_iinc (pc1 := 35) (u := nI (b)) (z := nI (b + 1)) (al1 := [(2, .int (nI (b + 1))), (1, .int (nI (a + 0))), (0, .ref 176)]) rfl rfl rfl nK_1 rfl rfl ?_
      refine w_p (pc1 := 4) rfl rfl ?_
      exact ih
set_option maxRecDepth 100000 in
theorem m_192 {T : Nat → Bool} (hT : ∀ b, b < 6 → C.1 78 b = ck (T b)) (h : ∀ b, b < 6 → C.1 117 b = nI (rs b).1.length) (h0 : ∀ b, b < 6 → T b = false → (rs b).1.length = 0) : Wd L xs d y_192 (0, [(0, .ref 176)], [], MH C t, sl) (Rt (some (.int (nI (totF rs 6 0 0)))) (MH C t) sl) nX := by
  refine w_p (pc1 := 1) (st1 := .int 0 :: _) rfl rfl ?_
  refine w_p (pc1 := 2) (al1 := [(1, .int 0), (0, .ref 176)]) rfl rfl ?_
  refine w_p (pc1 := 3) (st1 := .int 0 :: _) rfl rfl ?_
  refine w_p (pc1 := 4) (al1 := [(2, .int 0), (1, .int 0), (0, .ref 176)]) rfl rfl ?_
  exact lp_192 hT h h0 6 0 0 rfl
def NWM (C : co_T) (t : ab_H) (sl : Nat) (x : Option (Nat × Int32)) (wt nm : Nat → Bool) : Option Value → ab_H → Nat → Prop := fun v h q => ((∃ e, x = some e ∧ some (.int (nI 2)) = v ∧ ∃ C', frZ C C' ∧ MH (lkM C' (some e)) t = h) ∨ (x = none ∧ some (.int (nI 0)) = v ∧ ∃ C' C2, frZ C C' ∧ flU C' C2 91 24 (fun j => ck (wt j && !nm j)) ∧ MH C2 t = h)) ∧ sl = q
set_option maxRecDepth 100000 in
theorem m_283 (W : RWM C (sWd S) rs) (K : MSt C S) (ho : okSt S) (hw : ∀ j, j < 24 → C.1 91 j = ck (wt j)) (hn : ∀ j, j < 24 → C.1 139 j = ck (nm j)) (hz : C.1 76 74 = ck z) : Wd L xs (d + 7) y_283 (0, [(0, .ref 176)], [], MH C t, sl) (NWM C t sl (lkR S rs nm (rng 0 24)) wt nm) nX := by
  have hl := m_273_2 (L := L) (xs := xs) (t := t) (d := d) (sl := 0) W K ho hn hz
  cases e : lkR S rs nm (rng 0 24) with
  | some x =>
    rw [e] at hl
    refine w_p (pc1 := 1) rfl rfl ?_
    refine w_p (pc1 := 2) (st1 := .int 2 :: _) rfl rfl ?_
    refine w_ji (pc1 := 5) (vs := [.ref 176, .int 2]) (rest := []) (hl) rfl rfl rfl (fun _ _ => rfl) rfl (by exact cl_v my_273 rfl rfl rfl (Nat.le_of_ble_eq_true rfl) rfl (MH_obj rfl rfl) rfl (by decide) rfl rfl) (by rfl) (Nat.le_of_ble_eq_true rfl) (Nat.le_of_ble_eq_true rfl) rfl (fun v h q hq => ?_) (fun _ _ _ e => e.elim)
    obtain ⟨rfl, ⟨C', F, rfl⟩, rfl⟩ := hq
    refine w_f (a := 10) (b := 8) rfl rfl rfl ?_
    refine w_p (pc1 := 9) (st1 := .int 2 :: _) rfl rfl ?_
    refine w_r rfl rfl rfl (fun _ _ => rfl) cr_int ?_
    exact ⟨Or.inl ⟨x, rfl, rfl, C', F, rfl⟩, rfl⟩
  | none =>
    rw [e] at hl
    refine w_p (pc1 := 1) rfl rfl ?_
    refine w_p (pc1 := 2) (st1 := .int 2 :: _) rfl rfl ?_
    refine w_ji (pc1 := 5) (vs := [.ref 176, .int 2]) (rest := []) (hl) rfl rfl rfl (fun _ _ => rfl) rfl (by exact cl_v my_273 rfl rfl rfl (Nat.le_of_ble_eq_true rfl) rfl (MH_obj rfl rfl) rfl (by decide) rfl rfl) (by rfl) (Nat.le_of_ble_eq_true rfl) (Nat.le_of_ble_eq_true rfl) rfl (fun v h q hq => ?_) (fun _ _ _ e => e.elim)
    obtain ⟨rfl, ⟨C', F, rfl⟩, rfl⟩ := hq
    refine w_t (a := 10) (b := 8) rfl rfl rfl ?_
    refine w_p (pc1 := 11) (st1 := .int 0 :: _) rfl rfl ?_
    refine w_p (pc1 := 12) (al1 := [(1, .int 0), (0, .ref 176)]) rfl rfl ?_
    refine lp_283 (C0 := C') (wt := wt) (nm := nm) (fun j hj => (F.1.1 91 j (by omega)).trans (hw j hj)) (fun j hj => (F.1.1 139 j (by omega)).trans (hn j hj)) (fun C2 F2 => ?_) 24 0 _ rfl flU_0
    refine w_p (pc1 := 54) (st1 := .int 0 :: _) rfl rfl ?_
    refine w_r rfl rfl rfl (fun _ _ => rfl) cr_int ?_
    exact ⟨Or.inr ⟨rfl, rfl, C', C2, F, F2, rfl⟩, rfl⟩
set_option maxRecDepth 100000 in
theorem lp_286a (hb : b < 6) (hw : ∀ j, j < 24 → C0.1 83 j = ck (a j)) (hn : ∀ j, j < 24 → a j = true → C0.1 85 j = nI (tb j) ∧ tb j < 6) (k : ∀ C', flU C0 C' 83 24 (fun j => ck (a j && !decide (tb j = b))) → Wd L xs d y_286 (65, [(2, .int (nI 24)), (0, .ref 176), (1, .int (nI b))], [], MH C' t, sl) P X) : ∀ (f i : Nat) (C : co_T), i + f = 24 → flU C0 C 83 i (fun j => ck (a j && !decide (tb j = b))) → Wd L xs d y_286 (23, [(2, .int (nI i)), (0, .ref 176), (1, .int (nI b))], [], MH C t, sl) P X
  | 0, i, C, hi, F => by
    obtain rfl : i = 24 := by omega
    refine w_p (pc1 := 24) rfl rfl ?_
    refine w_p (pc1 := 26) (st1 := .int 24 :: _) rfl rfl ?_
    refine w_t (a := 65) (b := 29) (bN_ge_t (a := 24) (b := 24) (by omega) (by omega) (by omega)) rfl rfl ?_
    exact k C F
  | f + 1, i, C, hi, F => by
    have a1 : C.1 83 i = ck (a i) := (F.1 83 i (by omega)).trans (hw i (by omega))
    cases e1 : a i with
    | false =>
      rw [e1] at a1
      have ih := lp_286a hb hw hn k f (i + 1) (sI C 83 i 0) (by omega) (flU_v F (by show ck (a i && !decide (tb i = b)) = 0; rw [e1]; rfl))
      refine w_p (pc1 := 24) rfl rfl ?_
      refine w_p (pc1 := 26) (st1 := .int 24 :: _) rfl rfl ?_
      refine w_f (a := 65) (b := 29) (bN_ge_f (a := i) (b := 24) (by omega) (by omega) (by omega)) rfl rfl ?_
      refine w_p (pc1 := 30) rfl rfl ?_
      refine w_m0 (pc1 := 33) rfl rfl (h_gC rfl rfl rfl rfl) rfl ?_
      refine w_p (pc1 := 34) rfl rfl ?_
      refine w_p (pc1 := 35) rfl rfl ?_
      refine w_m0 (pc1 := 38) rfl rfl (h_gC rfl rfl rfl rfl) rfl ?_
      refine w_p (pc1 := 39) rfl rfl ?_
      refine w_m0 (pc1 := 40) (st1 := .int 0 :: _) rfl rfl (n_ble (e := i) rfl rfl (by decide) rfl (by omega) (a1)) rfl ?_
      refine w_t (a := 57) (b := 43) rfl rfl rfl ?_
      refine w_p (pc1 := 58) (st1 := .int 0 :: _) rfl rfl ?_
      refine w_m0 (pc1 := 59) rfl rfl (n_bs (e := i) rfl rfl (by decide) rfl (by omega)) rfl ?_
      refine w_iinc (pc1 := 62) (u := nI (i)) (z := nI (i + 1)) (al1 := [(2, .int (nI (i + 1))), (0, .ref 176), (1, .int (nI (b)))]) rfl rfl rfl nK_1 rfl rfl ?_
      refine w_p (pc1 := 23) rfl rfl ?_
      exact ih
    | true =>
      rw [e1] at a1
      obtain ⟨b1, b2⟩ := hn i (by omega) e1
      have a2 : C.1 85 i = nI (tb i) := (F.1 85 i (by omega)).trans b1
      by_cases h : tb i = b
      · have ih := lp_286a hb hw hn k f (i + 1) (sI C 83 i 0) (by omega) (flU_v F (by show ck (a i && !decide (tb i = b)) = 0; rw [e1, decide_eq_true h]; rfl))
        refine w_p (pc1 := 24) rfl rfl ?_
        refine w_p (pc1 := 26) (st1 := .int 24 :: _) rfl rfl ?_
        refine w_f (a := 65) (b := 29) (bN_ge_f (a := i) (b := 24) (by omega) (by omega) (by omega)) rfl rfl ?_
        refine w_p (pc1 := 30) rfl rfl ?_
        refine w_m0 (pc1 := 33) rfl rfl (h_gC rfl rfl rfl rfl) rfl ?_
        refine w_p (pc1 := 34) rfl rfl ?_
        refine w_p (pc1 := 35) rfl rfl ?_
        refine w_m0 (pc1 := 38) rfl rfl (h_gC rfl rfl rfl rfl) rfl ?_
        refine w_p (pc1 := 39) rfl rfl ?_
        refine w_m0 (pc1 := 40) (st1 := .int 1 :: _) rfl rfl (n_ble (e := i) rfl rfl (by decide) rfl (by omega) (a1)) rfl ?_
        refine w_f (a := 57) (b := 43) rfl rfl rfl ?_
        refine w_p (pc1 := 44) rfl rfl ?_
        refine w_m0 (pc1 := 47) rfl rfl (h_gC rfl rfl rfl rfl) rfl ?_
        refine w_p (pc1 := 48) rfl rfl ?_
        refine w_m0 (pc1 := 49) (st1 := .int (nI (tb i)) :: _) rfl rfl (n_ile (e := i) rfl rfl rfl (by omega) (a2)) rfl ?_
        refine w_p (pc1 := 50) rfl rfl ?_
        refine w_t (a := 57) (b := 53) (bN_eq_t (a := tb i) (b := b) (by omega) (by omega) (by omega)) rfl rfl ?_
        refine w_p (pc1 := 58) (st1 := .int 0 :: _) rfl rfl ?_
        refine w_m0 (pc1 := 59) rfl rfl (n_bs (e := i) rfl rfl (by decide) rfl (by omega)) rfl ?_
        refine w_iinc (pc1 := 62) (u := nI (i)) (z := nI (i + 1)) (al1 := [(2, .int (nI (i + 1))), (0, .ref 176), (1, .int (nI (b)))]) rfl rfl rfl nK_1 rfl rfl ?_
        refine w_p (pc1 := 23) rfl rfl ?_
        exact ih
      · have ih := lp_286a hb hw hn k f (i + 1) (sI C 83 i 1) (by omega) (flU_v F (by show ck (a i && !decide (tb i = b)) = 1; rw [e1, decide_eq_false h]; rfl))
        refine w_p (pc1 := 24) rfl rfl ?_
        refine w_p (pc1 := 26) (st1 := .int 24 :: _) rfl rfl ?_
        refine w_f (a := 65) (b := 29) (bN_ge_f (a := i) (b := 24) (by omega) (by omega) (by omega)) rfl rfl ?_
        refine w_p (pc1 := 30) rfl rfl ?_
        refine w_m0 (pc1 := 33) rfl rfl (h_gC rfl rfl rfl rfl) rfl ?_
        refine w_p (pc1 := 34) rfl rfl ?_
        refine w_p (pc1 := 35) rfl rfl ?_
        refine w_m0 (pc1 := 38) rfl rfl (h_gC rfl rfl rfl rfl) rfl ?_
        refine w_p (pc1 := 39) rfl rfl ?_
        refine w_m0 (pc1 := 40) (st1 := .int 1 :: _) rfl rfl (n_ble (e := i) rfl rfl (by decide) rfl (by omega) (a1)) rfl ?_
        refine w_f (a := 57) (b := 43) rfl rfl rfl ?_
        refine w_p (pc1 := 44) rfl rfl ?_
        refine w_m0 (pc1 := 47) rfl rfl (h_gC rfl rfl rfl rfl) rfl ?_
        refine w_p (pc1 := 48) rfl rfl ?_
        refine w_m0 (pc1 := 49) (st1 := .int (nI (tb i)) :: _) rfl rfl (n_ile (e := i) rfl rfl rfl (by omega) (a2)) rfl ?_
        refine w_p (pc1 := 50) rfl rfl ?_
        refine w_f (a := 57) (b := 53) (bN_eq_f (a := tb i) (b := b) (by omega) (by omega) (by omega)) rfl rfl ?_
        refine w_p (pc1 := 54) (st1 := .int 1 :: _) rfl rfl ?_
        refine w_p (pc1 := 58) rfl rfl ?_
        refine w_m0 (pc1 := 59) rfl rfl (n_bs (e := i) rfl rfl (by decide) rfl (by omega)) rfl ?_
        refine w_iinc (pc1 := 62) (u := nI (i)) (z := nI (i + 1)) (al1 := [(2, .int (nI (i + 1))), (0, .ref 176), (1, .int (nI (b)))]) rfl rfl rfl nK_1 rfl rfl ?_
        refine w_p (pc1 := 23) rfl rfl ?_
        exact ih
set_option maxRecDepth 100000 in
theorem lp_286b (hb : b < 6) (hw : ∀ j, j < 8 → C0.1 95 j = ck (a j)) (hn : ∀ j, j < 8 → a j = true → C0.1 97 j = nI (tb j) ∧ tb j < 6) (k : ∀ C', flU C0 C' 95 8 (fun j => ck (a j && !decide (tb j = b))) → Wd L xs d y_286 (109, [(2, .int (nI 8)), (0, .ref 176), (1, .int (nI b))], [], MH C' t, sl) P X) : ∀ (f i : Nat) (C : co_T), i + f = 8 → flU C0 C 95 i (fun j => ck (a j && !decide (tb j = b))) → Wd L xs d y_286 (67, [(2, .int (nI i)), (0, .ref 176), (1, .int (nI b))], [], MH C t, sl) P X
  | 0, i, C, hi, F => by
    obtain rfl : i = 8 := by omega
    refine w_p (pc1 := 68) rfl rfl ?_
    refine w_p (pc1 := 70) (st1 := .int 8 :: _) rfl rfl ?_
    refine w_t (a := 109) (b := 73) (bN_ge_t (a := 8) (b := 8) (by omega) (by omega) (by omega)) rfl rfl ?_
    exact k C F
  | f + 1, i, C, hi, F => by
    have a1 : C.1 95 i = ck (a i) := (F.1 95 i (by omega)).trans (hw i (by omega))
    cases e1 : a i with
    | false =>
      rw [e1] at a1
      have ih := lp_286b hb hw hn k f (i + 1) (sI C 95 i 0) (by omega) (flU_v F (by show ck (a i && !decide (tb i = b)) = 0; rw [e1]; rfl))
      refine w_p (pc1 := 68) rfl rfl ?_
      refine w_p (pc1 := 70) (st1 := .int 8 :: _) rfl rfl ?_
      refine w_f (a := 109) (b := 73) (bN_ge_f (a := i) (b := 8) (by omega) (by omega) (by omega)) rfl rfl ?_
      refine w_p (pc1 := 74) rfl rfl ?_
      refine w_m0 (pc1 := 77) rfl rfl (h_gC rfl rfl rfl rfl) rfl ?_
      refine w_p (pc1 := 78) rfl rfl ?_
      refine w_p (pc1 := 79) rfl rfl ?_
      refine w_m0 (pc1 := 82) rfl rfl (h_gC rfl rfl rfl rfl) rfl ?_
      refine w_p (pc1 := 83) rfl rfl ?_
      refine w_m0 (pc1 := 84) (st1 := .int 0 :: _) rfl rfl (n_ble (e := i) rfl rfl (by decide) rfl (by omega) (a1)) rfl ?_
      refine w_t (a := 101) (b := 87) rfl rfl rfl ?_
      refine w_p (pc1 := 102) (st1 := .int 0 :: _) rfl rfl ?_
      refine w_m0 (pc1 := 103) rfl rfl (n_bs (e := i) rfl rfl (by decide) rfl (by omega)) rfl ?_
      refine w_iinc (pc1 := 106) (u := nI (i)) (z := nI (i + 1)) (al1 := [(2, .int (nI (i + 1))), (0, .ref 176), (1, .int (nI (b)))]) rfl rfl rfl nK_1 rfl rfl ?_
      refine w_p (pc1 := 67) rfl rfl ?_
      exact ih
    | true =>
      rw [e1] at a1
      obtain ⟨b1, b2⟩ := hn i (by omega) e1
      have a2 : C.1 97 i = nI (tb i) := (F.1 97 i (by omega)).trans b1
      by_cases h : tb i = b
      · have ih := lp_286b hb hw hn k f (i + 1) (sI C 95 i 0) (by omega) (flU_v F (by show ck (a i && !decide (tb i = b)) = 0; rw [e1, decide_eq_true h]; rfl))
        refine w_p (pc1 := 68) rfl rfl ?_
        refine w_p (pc1 := 70) (st1 := .int 8 :: _) rfl rfl ?_
        refine w_f (a := 109) (b := 73) (bN_ge_f (a := i) (b := 8) (by omega) (by omega) (by omega)) rfl rfl ?_
        refine w_p (pc1 := 74) rfl rfl ?_
        refine w_m0 (pc1 := 77) rfl rfl (h_gC rfl rfl rfl rfl) rfl ?_
        refine w_p (pc1 := 78) rfl rfl ?_
        refine w_p (pc1 := 79) rfl rfl ?_
        refine w_m0 (pc1 := 82) rfl rfl (h_gC rfl rfl rfl rfl) rfl ?_
        refine w_p (pc1 := 83) rfl rfl ?_
        refine w_m0 (pc1 := 84) (st1 := .int 1 :: _) rfl rfl (n_ble (e := i) rfl rfl (by decide) rfl (by omega) (a1)) rfl ?_
        refine w_f (a := 101) (b := 87) rfl rfl rfl ?_
        refine w_p (pc1 := 88) rfl rfl ?_
        refine w_m0 (pc1 := 91) rfl rfl (h_gC rfl rfl rfl rfl) rfl ?_
        refine w_p (pc1 := 92) rfl rfl ?_
        refine w_m0 (pc1 := 93) (st1 := .int (nI (tb i)) :: _) rfl rfl (n_ile (e := i) rfl rfl rfl (by omega) (a2)) rfl ?_
        refine w_p (pc1 := 94) rfl rfl ?_
        refine w_t (a := 101) (b := 97) (bN_eq_t (a := tb i) (b := b) (by omega) (by omega) (by omega)) rfl rfl ?_
        refine w_p (pc1 := 102) (st1 := .int 0 :: _) rfl rfl ?_
        refine w_m0 (pc1 := 103) rfl rfl (n_bs (e := i) rfl rfl (by decide) rfl (by omega)) rfl ?_
        refine w_iinc (pc1 := 106) (u := nI (i)) (z := nI (i + 1)) (al1 := [(2, .int (nI (i + 1))), (0, .ref 176), (1, .int (nI (b)))]) rfl rfl rfl nK_1 rfl rfl ?_
        refine w_p (pc1 := 67) rfl rfl ?_
        exact ih
      · have ih := lp_286b hb hw hn k f (i + 1) (sI C 95 i 1) (by omega) (flU_v F (by show ck (a i && !decide (tb i = b)) = 1; rw [e1, decide_eq_false h]; rfl))
        refine w_p (pc1 := 68) rfl rfl ?_
        refine w_p (pc1 := 70) (st1 := .int 8 :: _) rfl rfl ?_
        refine w_f (a := 109) (b := 73) (bN_ge_f (a := i) (b := 8) (by omega) (by omega) (by omega)) rfl rfl ?_
        refine w_p (pc1 := 74) rfl rfl ?_
        refine w_m0 (pc1 := 77) rfl rfl (h_gC rfl rfl rfl rfl) rfl ?_
        refine w_p (pc1 := 78) rfl rfl ?_
        refine w_p (pc1 := 79) rfl rfl ?_
        refine w_m0 (pc1 := 82) rfl rfl (h_gC rfl rfl rfl rfl) rfl ?_
        refine w_p (pc1 := 83) rfl rfl ?_
        refine w_m0 (pc1 := 84) (st1 := .int 1 :: _) rfl rfl (n_ble (e := i) rfl rfl (by decide) rfl (by omega) (a1)) rfl ?_
        refine w_f (a := 101) (b := 87) rfl rfl rfl ?_
        refine w_p (pc1 := 88) rfl rfl ?_
        refine w_m0 (pc1 := 91) rfl rfl (h_gC rfl rfl rfl rfl) rfl ?_
        refine w_p (pc1 := 92) rfl rfl ?_
        refine w_m0 (pc1 := 93) (st1 := .int (nI (tb i)) :: _) rfl rfl (n_ile (e := i) rfl rfl rfl (by omega) (a2)) rfl ?_
        refine w_p (pc1 := 94) rfl rfl ?_
        refine w_f (a := 101) (b := 97) (bN_eq_f (a := tb i) (b := b) (by omega) (by omega) (by omega)) rfl rfl ?_
        refine w_p (pc1 := 98) (st1 := .int 1 :: _) rfl rfl ?_
        refine w_p (pc1 := 102) rfl rfl ?_
        refine w_m0 (pc1 := 103) rfl rfl (n_bs (e := i) rfl rfl (by decide) rfl (by omega)) rfl ?_
        refine w_iinc (pc1 := 106) (u := nI (i)) (z := nI (i + 1)) (al1 := [(2, .int (nI (i + 1))), (0, .ref 176), (1, .int (nI (b)))]) rfl rfl rfl nK_1 rfl rfl ?_
        refine w_p (pc1 := 67) rfl rfl ?_
        exact ih
end DRM
