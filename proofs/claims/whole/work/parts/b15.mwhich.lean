
/-! THE OTHER SIDE READS STATEMENTS, 17: which rules are meant -/
section MSO
variable {L : Nat} {xs : Nat → Int32} {B : Nat → Nat} {n : Nat} {C C' C0 C1 : co_T} {t : ab_H} {d i i0 i1 j b e p k w q : Nat} {U V : Nat → Prop} {c : Int32} {sc : sc_T} {row : Option Nat} {tg : Option (Nat × Nat)} {nl : Option Nat} {E : fe_T} {tr : Nat → Option tr_T}
variable {ru : Nat → Option ru_T} {P : Option Value → ab_H → Nat → Prop} {lt : Bool} {s a : Int32}
def nmB (lt : Bool) (ru : Nat → Option ru_T) (a : Int32) (r : Nat) : Bool := btI a r && (match ru r with
  | none => false
  | some u => !lt || rLt u)
def RGM (C : co_T) (ru : Nat → Option ru_T) : Prop := ∀ r, r < 24 → (ru r = none ∧ C.1 83 r = 0) ∨ (∃ u, ru r = some u ∧ C.1 83 r = 1 ∧ C.1 90 r = ck (rLt u))
def fZ (C C' : co_T) : Prop := (∀ k j, k ≠ 139 → C'.1 k j = C.1 k j) ∧ C'.2 = C.2
set_option maxRecDepth 100000 in
theorem fZ_r : fZ C C := ⟨fun _ _ _ => rfl, rfl⟩
set_option maxRecDepth 100000 in
theorem fZ_t {C1 C2 C3 : co_T} (h : fZ C1 C2) (g : fZ C2 C3) : fZ C1 C3 := ⟨fun k j a => (g.1 k j a).trans (h.1 k j a), g.2.trans h.2⟩
set_option maxRecDepth 100000 in
theorem fZ_I {v : Int32} : fZ C (sI C 139 j v) := ⟨fun k q a => by rw [sI_1, if_neg (by omega)], rfl⟩
set_option maxRecDepth 100000 in
theorem fW_Z (h : fZ C C') : fW C C' := ⟨fun k j a _ => h.1 k j (fun e => a (Or.inr (Or.inl (Or.inr (Or.inr e))))), fun k j _ _ => by rw [h.2], btE_k (by rw [h.2]) (h.1 76 48 (by omega)) (h.1 76 49 (by omega)) (fun j => h.1 91 j (by omega))⟩
set_option maxRecDepth 100000 in
theorem MB_Z (M : MB B n C i nl) (f : fZ C C') : MB B n C' i nl := by
  obtain ⟨T, R, hl, ho, hi, hf⟩ := M
  have e : ∀ q, C'.1 76 q = C.1 76 q := fun q => f.1 76 q (by omega)
  exact ⟨tpM_of T (e 2) (fun j => f.1 77 j (by omega)), ⟨R.1, (e 8).trans R.2.1, (e 4).trans R.2.2.1, by rw [f.2]; exact R.2.2.2.1, (e 5).trans R.2.2.2.2.1, (e 6).trans R.2.2.2.2.2⟩, lfM_of hl (e 44) (e 43) (e 42), ⟨(e 45).trans ho.1, (e 52).trans ho.2⟩, hi, fSy_r⟩
set_option maxRecDepth 100000 in
theorem FB_Z (F : FBy B n C c i) (f : fZ C C') : FBy B n C' c i := by
  obtain ⟨⟨h1, h3, h4⟩, T, ⟨z, a, hz, hzn, hza, ha, haa, han⟩, hf⟩ := F
  have e : ∀ q, C'.1 76 q = C.1 76 q := fun q => f.1 76 q (by omega)
  exact ⟨⟨h1, (e 8).trans h3, (e 9).trans h4⟩, tpM_of T (e 2) (fun j => f.1 77 j (by omega)), ⟨z, a, (e 6).trans hz, hzn, hza, (e 5).trans ha, haa, han⟩, fSy_r, hf.2⟩
set_option maxRecDepth 100000 in
theorem RGM_o (H : RGM C ru) (h : ∀ k j, k = 83 ∨ k = 90 → C'.1 k j = C.1 k j) : RGM C' ru := fun r hr => by
  rw [h 83 r (by omega), h 90 r (by omega)]
  exact H r hr
/-! none is meant, as yet -/
set_option maxRecDepth 100000 in
theorem lp_247c (H : ∀ C', (∀ j, j < 24 → C'.1 139 j = 0) → fZ C0 C' → Wd L xs d y_247 (25, [(0, .ref 176)], [], MH C' t, 0) P nX) : ∀ (m k : Nat) (C : co_T), k + m = 24 → (∀ j, j < k → C.1 139 j = 0) → fZ C0 C → Wd L xs d y_247 (6, [(1, .int (nI k)), (0, .ref 176)], [], MH C t, 0) P nX
  | 0, k, C, hk, hz, hf => by
    obtain rfl : k = 24 := by omega
    refine w_p (pc1 := 7) rfl rfl ?_
    refine w_p (pc1 := 9) (st1 := .int 24 :: _) rfl rfl ?_
    refine w_t (a := 25) (b := 12) rfl rfl rfl ?_
    refine Wd_al (al := [(0, .ref 176)]) (sba_p [1] rfl rfl) ?_
    exact H C hz hf
  | m + 1, k, C, hk, hz, hf => by
    refine w_p (pc1 := 7) rfl rfl ?_
    refine w_p (pc1 := 9) (st1 := .int 24 :: _) rfl rfl ?_
    refine w_f (a := 25) (b := 12) (bN_ge_f (a := k) (b := 24) (by omega) (by omega) (by omega)) rfl rfl ?_
    refine w_p (pc1 := 13) rfl rfl ?_
    refine w_m0 (pc1 := 16) rfl rfl (h_gC rfl rfl rfl rfl) rfl ?_
    refine w_p (pc1 := 17) rfl rfl ?_
    refine w_p (pc1 := 18) (st1 := .int 0 :: _) rfl rfl ?_
    refine w_m0 (pc1 := 19) rfl rfl (n_bs (e := k) rfl rfl (by decide) rfl (by omega)) rfl ?_
    refine w_iinc (pc1 := 22) (u := nI (k)) (z := nI (k + 1)) (al1 := [(1, .int (nI (k + 1))), (0, .ref 176)]) rfl rfl rfl nK_1 rfl rfl ?_
    refine w_p (pc1 := 6) rfl rfl ?_
    refine lp_247c H m (k + 1) _ (by omega) (fun j hj => ?_) (fZ_t hf fZ_I)
    by_cases e : j = k
    · rw [e, sI_1, if_pos ⟨rfl, rfl⟩]
      rfl
    · rw [sI_1, if_neg (by omega)]
      exact hz j (by omega)
/-! all are meant -/
set_option maxRecDepth 100000 in
theorem nm_a (hr : q < 24) : nmB lt ru (-1) q = (match ru q with
  | none => false
  | some u => !lt || rLt u) := by
  unfold nmB
  rw [bbI_m1 q (by omega), Bool.true_and]
set_option maxRecDepth 100000 in
theorem lp_247a (hs : s = if lt = true then 11 else 12) (H : ∀ C', (∀ j, j < 24 → C'.1 139 j = ck (nmB lt ru (-1) j)) → fZ C0 C' → Wd L xs d y_247 (94, [(0, .ref 176)], [], MH C' t, 0) P nX) : ∀ (m k : Nat) (C : co_T), k + m = 24 → (∀ j, j < k → C.1 139 j = ck (nmB lt ru (-1) j)) → fZ C0 C → RGM C ru → C.1 76 97 = s → Wd L xs d y_247 (44, [(1, .int (nI k)), (0, .ref 176)], [], MH C t, 0) P nX
  | 0, k, C, hk, hz, hf, hR, h97 => by
    obtain rfl : k = 24 := by omega
    refine w_p (pc1 := 45) rfl rfl ?_
    refine w_p (pc1 := 47) (st1 := .int 24 :: _) rfl rfl ?_
    refine w_t (a := 94) (b := 50) rfl rfl rfl ?_
    refine Wd_al (al := [(0, .ref 176)]) (sba_p [1] rfl rfl) ?_
    exact H C hz hf
  | m + 1, k, C, hk, hz, hf, hR, h97 => by
    have hk24 : k < 24 := by omega
    have hnm := nm_a (lt := lt) (ru := ru) hk24
    have go : ∀ z : Bool, nmB lt ru (-1) k = z → Wd L xs d y_247 (44, [(1, .int (nI (k + 1))), (0, .ref 176)], [], MH (sI C 139 k (ck z)) t, 0) P nX := by
      intro z hzz
      refine lp_247a hs H m (k + 1) _ (by omega) (fun j hj => ?_) (fZ_t hf fZ_I) (RGM_o hR (fun x y h => by rw [sI_1, if_neg (by omega)])) (by rw [sI_1, if_neg (by omega)]; exact h97)
      by_cases e : j = k
      · rw [e, sI_1, if_pos ⟨rfl, rfl⟩, hzz]
      · rw [sI_1, if_neg (by omega)]
        exact hz j (by omega)
    rcases hR k hk24 with ⟨h1, h2⟩ | ⟨u, h1, h2, h3⟩
    · rw [h1] at hnm
      refine w_p (pc1 := 45) rfl rfl ?_
      refine w_p (pc1 := 47) (st1 := .int 24 :: _) rfl rfl ?_
      refine w_f (a := 94) (b := 50) (bN_ge_f (a := k) (b := 24) (by omega) (by omega) (by omega)) rfl rfl ?_
      refine w_p (pc1 := 51) rfl rfl ?_
      refine w_m0 (pc1 := 54) rfl rfl (h_gC rfl rfl rfl rfl) rfl ?_
      refine w_p (pc1 := 55) rfl rfl ?_
      refine w_p (pc1 := 56) rfl rfl ?_
      refine w_m0 (pc1 := 59) rfl rfl (h_gC rfl rfl rfl rfl) rfl ?_
      refine w_p (pc1 := 60) rfl rfl ?_
      refine w_m0 (pc1 := 61) (st1 := .int 0 :: _) rfl rfl (n_ble (e := k) rfl rfl (by decide) rfl (by omega) (h2)) rfl ?_
      refine w_t (a := 86) (b := 64) rfl rfl rfl ?_
      refine w_p (pc1 := 87) (st1 := .int 0 :: _) rfl rfl ?_
      refine w_m0 (pc1 := 88) rfl rfl (n_bs (e := k) rfl rfl (by decide) rfl (by omega)) rfl ?_
      refine w_iinc (pc1 := 91) (u := nI (k)) (z := nI (k + 1)) (al1 := [(1, .int (nI (k + 1))), (0, .ref 176)]) rfl rfl rfl nK_1 rfl rfl ?_
      refine w_p (pc1 := 44) rfl rfl ?_
      exact go false hnm
    · replace hnm : nmB lt ru (-1) k = (!lt || rLt u) := by rw [hnm, h1]
      cases hlt : lt with
      | false =>
        have h97 : C.1 76 97 = 12 := by rw [h97, hs, hlt]; rfl
        rw [hlt] at hnm go
        refine w_p (pc1 := 45) rfl rfl ?_
        refine w_p (pc1 := 47) (st1 := .int 24 :: _) rfl rfl ?_
        refine w_f (a := 94) (b := 50) (bN_ge_f (a := k) (b := 24) (by omega) (by omega) (by omega)) rfl rfl ?_
        refine w_p (pc1 := 51) rfl rfl ?_
        refine w_m0 (pc1 := 54) rfl rfl (h_gC rfl rfl rfl rfl) rfl ?_
        refine w_p (pc1 := 55) rfl rfl ?_
        refine w_p (pc1 := 56) rfl rfl ?_
        refine w_m0 (pc1 := 59) rfl rfl (h_gC rfl rfl rfl rfl) rfl ?_
        refine w_p (pc1 := 60) rfl rfl ?_
        refine w_m0 (pc1 := 61) (st1 := .int 1 :: _) rfl rfl (n_ble (e := k) rfl rfl (by decide) rfl (by omega) (h2)) rfl ?_
        refine w_f (a := 86) (b := 64) rfl rfl rfl ?_
        refine w_p (pc1 := 65) rfl rfl ?_
        refine w_m0 (pc1 := 68) (st1 := .int 12 :: _) rfl rfl (h_gIe (j := 97) rfl rfl rfl rfl rfl (h97)) rfl ?_
        refine w_p (pc1 := 70) (st1 := .int 12 :: _) rfl rfl ?_
        refine w_t (a := 82) (b := 73) rfl rfl rfl ?_
        refine w_p (pc1 := 83) (st1 := .int 1 :: _) rfl rfl ?_
        refine w_p (pc1 := 87) rfl rfl ?_
        refine w_m0 (pc1 := 88) rfl rfl (n_bs (e := k) rfl rfl (by decide) rfl (by omega)) rfl ?_
        refine w_iinc (pc1 := 91) (u := nI (k)) (z := nI (k + 1)) (al1 := [(1, .int (nI (k + 1))), (0, .ref 176)]) rfl rfl rfl nK_1 rfl rfl ?_
        refine w_p (pc1 := 44) rfl rfl ?_
        exact go true hnm
      | true =>
        have h97 : C.1 76 97 = 11 := by rw [h97, hs, hlt]; rfl
        rw [hlt] at hnm go
        cases hl2 : rLt u with
        | true =>
          rw [hl2] at hnm h3
          refine w_p (pc1 := 45) rfl rfl ?_
          refine w_p (pc1 := 47) (st1 := .int 24 :: _) rfl rfl ?_
          refine w_f (a := 94) (b := 50) (bN_ge_f (a := k) (b := 24) (by omega) (by omega) (by omega)) rfl rfl ?_
          refine w_p (pc1 := 51) rfl rfl ?_
          refine w_m0 (pc1 := 54) rfl rfl (h_gC rfl rfl rfl rfl) rfl ?_
          refine w_p (pc1 := 55) rfl rfl ?_
          refine w_p (pc1 := 56) rfl rfl ?_
          refine w_m0 (pc1 := 59) rfl rfl (h_gC rfl rfl rfl rfl) rfl ?_
          refine w_p (pc1 := 60) rfl rfl ?_
          refine w_m0 (pc1 := 61) (st1 := .int 1 :: _) rfl rfl (n_ble (e := k) rfl rfl (by decide) rfl (by omega) (h2)) rfl ?_
          refine w_f (a := 86) (b := 64) rfl rfl rfl ?_
          refine w_p (pc1 := 65) rfl rfl ?_
          refine w_m0 (pc1 := 68) (st1 := .int 11 :: _) rfl rfl (h_gIe (j := 97) rfl rfl rfl rfl rfl (h97)) rfl ?_
          refine w_p (pc1 := 70) (st1 := .int 12 :: _) rfl rfl ?_
          refine w_f (a := 82) (b := 73) rfl rfl rfl ?_
          refine w_p (pc1 := 74) rfl rfl ?_
          refine w_m0 (pc1 := 77) rfl rfl (h_gC rfl rfl rfl rfl) rfl ?_
          refine w_p (pc1 := 78) rfl rfl ?_
          refine w_m0 (pc1 := 79) (st1 := .int 1 :: _) rfl rfl (n_ble (e := k) rfl rfl (by decide) rfl (by omega) (h3)) rfl ?_
          refine w_f (a := 86) (b := 82) rfl rfl rfl ?_
          refine w_p (pc1 := 83) (st1 := .int 1 :: _) rfl rfl ?_
          refine w_p (pc1 := 87) rfl rfl ?_
          refine w_m0 (pc1 := 88) rfl rfl (n_bs (e := k) rfl rfl (by decide) rfl (by omega)) rfl ?_
          refine w_iinc (pc1 := 91) (u := nI (k)) (z := nI (k + 1)) (al1 := [(1, .int (nI (k + 1))), (0, .ref 176)]) rfl rfl rfl nK_1 rfl rfl ?_
          refine w_p (pc1 := 44) rfl rfl ?_
          exact go true hnm
        | false =>
          rw [hl2] at hnm h3
          refine w_p (pc1 := 45) rfl rfl ?_
          refine w_p (pc1 := 47) (st1 := .int 24 :: _) rfl rfl ?_
          refine w_f (a := 94) (b := 50) (bN_ge_f (a := k) (b := 24) (by omega) (by omega) (by omega)) rfl rfl ?_
          refine w_p (pc1 := 51) rfl rfl ?_
          refine w_m0 (pc1 := 54) rfl rfl (h_gC rfl rfl rfl rfl) rfl ?_
          refine w_p (pc1 := 55) rfl rfl ?_
          refine w_p (pc1 := 56) rfl rfl ?_
          refine w_m0 (pc1 := 59) rfl rfl (h_gC rfl rfl rfl rfl) rfl ?_
          refine w_p (pc1 := 60) rfl rfl ?_
          refine w_m0 (pc1 := 61) (st1 := .int 1 :: _) rfl rfl (n_ble (e := k) rfl rfl (by decide) rfl (by omega) (h2)) rfl ?_
          refine w_f (a := 86) (b := 64) rfl rfl rfl ?_
          refine w_p (pc1 := 65) rfl rfl ?_
          refine w_m0 (pc1 := 68) (st1 := .int 11 :: _) rfl rfl (h_gIe (j := 97) rfl rfl rfl rfl rfl (h97)) rfl ?_
          refine w_p (pc1 := 70) (st1 := .int 12 :: _) rfl rfl ?_
          refine w_f (a := 82) (b := 73) rfl rfl rfl ?_
          refine w_p (pc1 := 74) rfl rfl ?_
          refine w_m0 (pc1 := 77) rfl rfl (h_gC rfl rfl rfl rfl) rfl ?_
          refine w_p (pc1 := 78) rfl rfl ?_
          refine w_m0 (pc1 := 79) (st1 := .int 0 :: _) rfl rfl (n_ble (e := k) rfl rfl (by decide) rfl (by omega) (h3)) rfl ?_
          refine w_t (a := 86) (b := 82) rfl rfl rfl ?_
          refine w_p (pc1 := 87) (st1 := .int 0 :: _) rfl rfl ?_
          refine w_m0 (pc1 := 88) rfl rfl (n_bs (e := k) rfl rfl (by decide) rfl (by omega)) rfl ?_
          refine w_iinc (pc1 := 91) (u := nI (k)) (z := nI (k + 1)) (al1 := [(1, .int (nI (k + 1))), (0, .ref 176)]) rfl rfl rfl nK_1 rfl rfl ?_
          refine w_p (pc1 := 44) rfl rfl ?_
          exact go false hnm
/-! some are meant -/
set_option maxRecDepth 100000 in
theorem nN_32 {v : Int64} {N : Nat} (h : v.toInt = N) (hN : N < 1000000000) : v.toInt32 = nI N := by
  have h1 := fit32 h hN
  have h2 : v.toInt32.toInt = N := by
    have := congrArg Int64.toInt h1
    rw [h] at this
    rw [i64] at this
    exact this.symm
  have h3 : (nI N).toInt = N := nK_int (by omega)
  exact Int32.toInt_inj.mp (h2.trans h3.symm)
set_option maxRecDepth 100000 in
theorem bt_1' : ∀ N q : Nat, N < 24 → q < 24 → btI ((1 : Int32) <<< (nI N &&& 31)) q = decide (q = N) := by
  have h : ∀ N : Fin 24, ∀ q : Fin 24, btI ((1 : Int32) <<< (nI N.1 &&& 31)) q.1 = decide (q.1 = N.1) := by decide +kernel
  exact fun N q hN hq => h ⟨N, hN⟩ ⟨q, hq⟩
set_option maxRecDepth 100000 in
theorem nm_o {N : Nat} (hN : N < 24) (hq : q < 24) (hok : okN lt ru (nI N) = true) : nmB lt ru (orN a (nI N)) q = if q = N then true else nmB lt ru a q := by
  have hb : btI (orN a (nI N)) q = (btI a q || decide (q = N)) := by
    show btI (a ||| (1 <<< (nI N &&& 31))) q = _
    rw [bbI_or, bt_1' N q hN hq]
  unfold nmB
  rw [hb]
  by_cases e : q = N
  · rw [if_pos e, decide_eq_true e, Bool.or_true, Bool.true_and, e]
    unfold okN at hok
    rw [nK_nat (by omega)] at hok
    exact (Bool.and_eq_true _ _ ▸ hok).2
  · rw [if_neg e, decide_eq_false e, Bool.or_false]
set_option maxRecDepth 100000 in
theorem ok_n {N : Nat} (hN : N < 24) : okN lt ru (nI N) = (match ru N with
  | none => false
  | some u => !lt || rLt u) := by
  unfold okN
  rw [nK_nat (by omega), nK_int (by omega), decide_eq_true ⟨by omega, by omega⟩, Bool.true_and]
  cases ru N <;> rfl
set_option maxRecDepth 100000 in
theorem ok_x {N : Nat} (hN : 24 ≤ N) (h9 : N < 1000000000) : okN lt ru (nI N) = false := by
  unfold okN
  rw [nK_int (by omega), decide_eq_false (by omega), Bool.false_and]
set_option maxRecDepth 100000 in
theorem w112f {x : Int32} (F : FBy B n C c i) (H : P none (MH C t) 0) : Wd L xs d y_247 (112, [(1, .int x), (0, .ref 176)], [], MH C t, 0) P nX := by
  have h0 := FS_0 F
  refine w_p (pc1 := 113) rfl rfl ?_
  refine w_b (a := 247) (b := 116) rfl rfl (fun c113 => ?_) (fun c113 => ?_)
  · replace c113 := cc_eq_t c113
    refine w_r rfl rfl rfl (fun _ _ => rfl) rfl ?_
    exact H
  · replace c113 := cc_eq_f c113
    refine w_p (pc1 := 117) rfl rfl ?_
    refine w_m0 (pc1 := 120) rfl rfl (h_gI (j := 8) rfl rfl rfl rfl rfl) rfl ?_
    refine w_t (a := 247) (b := 123) (cb_ne_t (by exact h0)) rfl rfl ?_
    refine w_r rfl rfl rfl (fun _ _ => rfl) rfl ?_
    exact H
def PNn (B : Nat → Nat) (n : Nat) (C : co_T) (t : ab_H) (lt : Bool) (ru : Nat → Option ru_T) (nl : Option Nat) (x : pz_T (Int32 × Nat)) : Option Value → ab_H → Nat → Prop := fun v h m => (none = v ∧ (∃ C', (∃ a i', x = .inr (a, i') ∧ kd B n i' ≠ 1 ∧ MB B n C' i' nl ∧ (∀ j, j < 24 → C'.1 139 j = ck (nmB lt ru a j)) ∧ fW C C' ∧ C'.1 76 97 = C.1 76 97) ∧ MH C' t = h) ∧ 0 = m) ∨ (none = v ∧ (∃ C', (∃ c j, flS B n Prod.snd x c j ∧ FBy B n C' c j ∧ fW C C') ∧ MH C' t = h) ∧ 0 = m)
set_option maxRecDepth 100000 in
theorem PNn_f {x : pz_T (Int32 × Nat)} (f : fW C C1) (e : C1.1 76 97 = C.1 76 97) : ∀ v h m, PNn B n C1 t lt ru nl x v h m → PNn B n C t lt ru nl x v h m := by
  intro v h m hq
  rcases hq with ⟨hv, ⟨C', ⟨a, i', h1, h2, h3, h4, h5, h6⟩, hh⟩, hn⟩ | ⟨hv, ⟨C', ⟨c, j, h1, h2, h3⟩, hh⟩, hn⟩
  · exact Or.inl ⟨hv, ⟨C', ⟨a, i', h1, h2, h3, h4, fW_t f h5, h6.trans e⟩, hh⟩, hn⟩
  · exact Or.inr ⟨hv, ⟨C', ⟨c, j, h1, h2, fW_t f h3⟩, hh⟩, hn⟩
set_option maxRecDepth 100000 in
theorem bd_nms {f : Nat} {m : Nat} (hm : lst B n m) (him : i ≤ m) (hmf : m < i + f) (h : kd B n i = 1) : bdS (rNms (tkP B n) lt ru f a i) i := by
  cases f with
  | zero => exact absurd hmf (by omega)
  | succ f =>
    rw [rNms]
    exact bdS_b ⟨2, if_neg (by show ¬ kd B n i = 4; rw [h]; decide)⟩
set_option maxRecDepth 100000 in
theorem lp_247 (hs : s = if lt = true then 11 else 12) {m : Nat} (hm : lst B n m) : ∀ (f i : Nat) (a : Int32) (C : co_T), MB B n C i nl → RGM C ru → C.1 76 97 = s → (∀ j, j < 24 → C.1 139 j = ck (nmB lt ru a j)) → i ≤ m → m < i + f → Wd L xs (d + 4) y_247 (112, [(1, .int 1), (0, .ref 176)], [], MH C t, 0) (PNn B n C t lt ru nl (rNms (tkP B n) lt ru f a i)) nX
  | 0, i, a, C, M, R, h97, hz, h1, h2 => absurd h2 (by omega)
  | f + 1, i, a, C, M, R, h97, hz, him, hmf => by
    have hk1 : kd B n i ≠ 1 := M.2.1.1
    rw [rNms]
    by_cases hk : kd B n i = 4
    · obtain ⟨N, hN, hN9⟩ := num_nat hk
      have h32 := nN_32 hN hN9
      have hv : C.2.1 76 7 = vl B n i := by rw [M.2.1.2.2.2.1, hk]; rfl
      have h4 : C.1 76 4 = 2 := (nm_k M.2.1).2.1.mpr hk
      have bad : okN lt ru (nI N) = false → rNum (tkP B n) lt ru i = .inl (5, i) := fun h => by
        unfold rNum
        rw [if_pos (show (tkP B n).1 i = 4 from hk)]
        show (if okN lt ru (vl B n i).toInt32 = true then _ else _) = _
        rw [h32, h]
        rfl
      have F := FS_new (c := 5) M (by decide)
      by_cases h24 : N < 24
      · have hokn := ok_n (lt := lt) (ru := ru) h24
        have yes : okN lt ru (nI N) = true → Wd L xs (d + 4) y_247 (199, [(0, .ref 176)], [], MH C t, 0) (PNn B n C t lt ru nl (pb (rNum (tkP B n) lt ru i) (fun x => if (tkP B n).1 x.2 = 48 then rNms (tkP B n) lt ru f (orN a x.1) (x.2 + 1) else .inr (orN a x.1, x.2)))) nX := by
          intro hb
          have hx : rNum (tkP B n) lt ru i = .inr (nI N, i + 1) := by
            unfold rNum
            rw [if_pos (show (tkP B n).1 i = 4 from hk)]
            show (if okN lt ru (vl B n i).toInt32 = true then Sum.inr ((vl B n i).toInt32, i + 1) else _) = _
            rw [h32, if_pos hb]
          rw [pb_r hx]
          have M1 : MB B n (sI C 139 N 1) i nl := MB_Z M fZ_I
          have z1 : ∀ j, j < 24 → (sI C 139 N 1).1 139 j = ck (nmB lt ru (orN a (nI N)) j) := fun j hj => by
            rw [nm_o h24 hj hb]
            by_cases e : j = N
            · rw [e, sI_1, if_pos ⟨rfl, rfl⟩, if_pos rfl]
              rfl
            · rw [sI_1, if_neg (by omega), if_neg e]
              exact hz j hj
          by_cases h48 : kd B n (i + 1) = 48
          · skip
            refine w_p (pc1 := 200) rfl rfl ?_
            refine w_m0 (pc1 := 203) rfl rfl (h_gC rfl rfl rfl rfl) rfl ?_
            refine w_p (pc1 := 204) rfl rfl ?_
            refine w_m0 (pc1 := 207) (st1 := .long (vl B n i) :: _) rfl rfl (h_gJe (j := 7) rfl rfl rfl rfl rfl (hv)) rfl ?_
            refine w_l2i (pc1 := 208) (z := nI (N)) rfl (h32) rfl ?_
            refine w_p (pc1 := 209) (st1 := .int 1 :: _) rfl rfl ?_
            refine w_m0 (pc1 := 210) rfl rfl (n_bs (e := N) rfl rfl (by decide) rfl (by omega)) rfl ?_
            refine w_p (pc1 := 211) rfl rfl ?_
            refine w_ji (pc1 := 214) (vs := [.ref 176]) (rest := []) (nS (d := _) M1 (by rw [hk]; decide)) rfl rfl rfl (fun _ _ => rfl) rfl (by exact cl_v my_195 rfl rfl rfl (Nat.le_of_ble_eq_true rfl) rfl (MH_obj rfl rfl) rfl (by decide) rfl rfl) (by rfl) (Nat.le_of_ble_eq_true rfl) (Nat.le_of_ble_eq_true rfl) rfl (fun v h1 d1 hq => ?_) (fun _ _ _ e => e.elim)
            rcases hq with ⟨hv, ⟨C2, ⟨g2, M2, f2⟩, hh⟩, hn⟩ | ⟨hv, ⟨C2, ⟨g2, F2, f2⟩, hh⟩, hn⟩
            · subst hv; subst hh; subst hn
              refine w_p (pc1 := 215) rfl rfl ?_
              refine w_m0 (pc1 := 218) (st1 := .int 0 :: _) rfl rfl (h_gIe (j := 8) rfl rfl rfl rfl rfl (M2.2.1.2.1)) rfl ?_
              refine w_f (a := 234) (b := 221) rfl rfl rfl ?_
              refine w_p (pc1 := 222) rfl rfl ?_
              refine w_p (pc1 := 224) (st1 := .int 44 :: _) rfl rfl ?_
              refine w_je (pc1 := 227) (vs := [.ref 176, .int 44]) (rest := []) (st1 := [.int 1]) (m_210t (d := _) (sl := 0) (c := 44) ((sg_k (k := 48) M2.2.1 (by decide) (by decide)).trans (decide_eq_true h48))) rfl rfl rfl (fun _ _ => rfl) rfl (by exact cl_v my_210 rfl rfl rfl (Nat.le_of_ble_eq_true rfl) rfl (MH_obj rfl rfl) rfl (by decide) rfl rfl) (by rfl) (Nat.le_of_ble_eq_true rfl) (Nat.le_of_ble_eq_true rfl) rfl (by rfl) ?_
              refine w_f (a := 234) (b := 230) rfl rfl rfl ?_
              refine w_p (pc1 := 231) (st1 := .int 1 :: _) rfl rfl ?_
              refine w_p (pc1 := 235) rfl rfl ?_
              refine w_p (pc1 := 236) (al1 := [(1, .int 1), (0, .ref 176)]) rfl rfl ?_
              refine w_p (pc1 := 237) rfl rfl ?_
              refine w_f (a := 244) (b := 240) rfl rfl rfl ?_
              refine w_p (pc1 := 241) rfl rfl ?_
              refine w_ji (pc1 := 244) (vs := [.ref 176]) (rest := []) (nS (d := _) M2 (by rw [h48]; decide)) rfl rfl rfl (fun _ _ => rfl) rfl (by exact cl_v my_195 rfl rfl rfl (Nat.le_of_ble_eq_true rfl) rfl (MH_obj rfl rfl) rfl (by decide) rfl rfl) (by rfl) (Nat.le_of_ble_eq_true rfl) (Nat.le_of_ble_eq_true rfl) rfl (fun v h1 d1 hq => ?_) (fun _ _ _ e => e.elim)
              rcases hq with ⟨hv, ⟨C3, ⟨g3, M3, f3⟩, hh⟩, hn⟩ | ⟨hv, ⟨C3, ⟨g3, F3, f3⟩, hh⟩, hn⟩
              · subst hv; subst hh; subst hn
                refine w_p (pc1 := 112) rfl rfl ?_
                show Wd L xs _ _ _ (PNn B n C t lt ru nl (if kd B n (i + 1) = 48 then _ else _)) _
                rw [if_pos h48]
                exact Wd_q (lp_247 hs hm f (i + 1 + 1) (orN a (nI N)) C3 (MS_rb M3) (RGM_o R (fun x y h => by rw [f3.1 x y (by omega), f2.1 x y (by omega), sI_1, if_neg (by omega)])) (by rw [f3.1 76 97 (by omega), f2.1 76 97 (by omega), sI_1, if_neg (by omega)]; exact h97) (fun j hj => by rw [f3.1 139 j (by omega), f2.1 139 j (by omega)]; exact z1 j hj) (st1 hm (st1 hm him hk (by decide) (by decide)) h48 (by decide) (by decide)) (by omega)) (PNn_f (fW_t (fW_Z fZ_I) (fW_t (fW_T f2) (fW_T f3))) (by rw [f3.1 76 97 (by omega), f2.1 76 97 (by omega), sI_1, if_neg (by omega)])) (fun _ _ _ e => e)
              · subst hv; subst hh; subst hn
                refine w_p (pc1 := 112) rfl rfl ?_
                refine w112f (FS_rb F3) (Or.inr ⟨rfl, ⟨_, ⟨1, i + 1 + 1, ?_, FS_rb F3, fW_t (fW_Z fZ_I) (fW_t (fW_T f2) (fW_T f3))⟩, rfl⟩, rfl⟩)
                show flS B n _ (if kd B n (i + 1) = 48 then _ else _) 1 (i + 1 + 1)
                rw [if_pos h48]
                exact flS_1 (bd_nms hm (st1 hm (st1 hm him hk (by decide) (by decide)) h48 (by decide) (by decide)) (by omega) g3) g3
            · subst hv; subst hh; subst hn
              refine w_p (pc1 := 215) rfl rfl ?_
              refine w_m0 (pc1 := 218) rfl rfl (h_gI (j := 8) rfl rfl rfl rfl rfl) rfl ?_
              refine w_t (a := 234) (b := 221) (cb_ne_t (by exact FS_0 F2)) rfl rfl ?_
              refine w_p (pc1 := 235) (st1 := .int 0 :: _) rfl rfl ?_
              refine w_p (pc1 := 236) (al1 := [(1, .int 0), (0, .ref 176)]) rfl rfl ?_
              refine w_p (pc1 := 237) rfl rfl ?_
              refine w_t (a := 244) (b := 240) rfl rfl rfl ?_
              refine w_p (pc1 := 112) rfl rfl ?_
              refine w112f (FS_rb F2) (Or.inr ⟨rfl, ⟨_, ⟨1, i + 1, ?_, FS_rb F2, fW_t (fW_Z fZ_I) (fW_T f2)⟩, rfl⟩, rfl⟩)
              show flS B n _ (if kd B n (i + 1) = 48 then _ else _) 1 (i + 1)
              rw [if_neg (by rw [g2]; decide)]
              exact flS_e rfl rfl g2
          · skip
            refine w_p (pc1 := 200) rfl rfl ?_
            refine w_m0 (pc1 := 203) rfl rfl (h_gC rfl rfl rfl rfl) rfl ?_
            refine w_p (pc1 := 204) rfl rfl ?_
            refine w_m0 (pc1 := 207) (st1 := .long (vl B n i) :: _) rfl rfl (h_gJe (j := 7) rfl rfl rfl rfl rfl (hv)) rfl ?_
            refine w_l2i (pc1 := 208) (z := nI (N)) rfl (h32) rfl ?_
            refine w_p (pc1 := 209) (st1 := .int 1 :: _) rfl rfl ?_
            refine w_m0 (pc1 := 210) rfl rfl (n_bs (e := N) rfl rfl (by decide) rfl (by omega)) rfl ?_
            refine w_p (pc1 := 211) rfl rfl ?_
            refine w_ji (pc1 := 214) (vs := [.ref 176]) (rest := []) (nS (d := _) M1 (by rw [hk]; decide)) rfl rfl rfl (fun _ _ => rfl) rfl (by exact cl_v my_195 rfl rfl rfl (Nat.le_of_ble_eq_true rfl) rfl (MH_obj rfl rfl) rfl (by decide) rfl rfl) (by rfl) (Nat.le_of_ble_eq_true rfl) (Nat.le_of_ble_eq_true rfl) rfl (fun v h1 d1 hq => ?_) (fun _ _ _ e => e.elim)
            rcases hq with ⟨hv, ⟨C2, ⟨g2, M2, f2⟩, hh⟩, hn⟩ | ⟨hv, ⟨C2, ⟨g2, F2, f2⟩, hh⟩, hn⟩
            · subst hv; subst hh; subst hn
              refine w_p (pc1 := 215) rfl rfl ?_
              refine w_m0 (pc1 := 218) (st1 := .int 0 :: _) rfl rfl (h_gIe (j := 8) rfl rfl rfl rfl rfl (M2.2.1.2.1)) rfl ?_
              refine w_f (a := 234) (b := 221) rfl rfl rfl ?_
              refine w_p (pc1 := 222) rfl rfl ?_
              refine w_p (pc1 := 224) (st1 := .int 44 :: _) rfl rfl ?_
              refine w_je (pc1 := 227) (vs := [.ref 176, .int 44]) (rest := []) (st1 := [.int 0]) (m_210f (d := _) (sl := 0) (c := 44) ((sg_k (k := 48) M2.2.1 (by decide) (by decide)).trans (decide_eq_false h48))) rfl rfl rfl (fun _ _ => rfl) rfl (by exact cl_v my_210 rfl rfl rfl (Nat.le_of_ble_eq_true rfl) rfl (MH_obj rfl rfl) rfl (by decide) rfl rfl) (by rfl) (Nat.le_of_ble_eq_true rfl) (Nat.le_of_ble_eq_true rfl) rfl (by rfl) ?_
              refine w_t (a := 234) (b := 230) rfl rfl rfl ?_
              refine w_p (pc1 := 235) (st1 := .int 0 :: _) rfl rfl ?_
              refine w_p (pc1 := 236) (al1 := [(1, .int 0), (0, .ref 176)]) rfl rfl ?_
              refine w_p (pc1 := 237) rfl rfl ?_
              refine w_t (a := 244) (b := 240) rfl rfl rfl ?_
              refine w_p (pc1 := 112) rfl rfl ?_
              refine w_p (pc1 := 113) rfl rfl ?_
              refine w_t (a := 247) (b := 116) rfl rfl rfl ?_
              refine w_r rfl rfl rfl (fun _ _ => rfl) rfl ?_
              refine Or.inl ⟨rfl, ⟨_, ⟨_, _, ?_, g2, MS_rb M2, (fun j hj => by rw [f2.1 139 j (by omega)]; exact z1 j hj), fW_t (fW_Z fZ_I) (fW_T f2), by rw [f2.1 76 97 (by omega), sI_1, if_neg (by omega)]⟩, rfl⟩, rfl⟩
              show (if kd B n (i + 1) = 48 then _ else _) = _
              rw [if_neg h48]
            · subst hv; subst hh; subst hn
              refine w_p (pc1 := 215) rfl rfl ?_
              refine w_m0 (pc1 := 218) rfl rfl (h_gI (j := 8) rfl rfl rfl rfl rfl) rfl ?_
              refine w_t (a := 234) (b := 221) (cb_ne_t (by exact FS_0 F2)) rfl rfl ?_
              refine w_p (pc1 := 235) (st1 := .int 0 :: _) rfl rfl ?_
              refine w_p (pc1 := 236) (al1 := [(1, .int 0), (0, .ref 176)]) rfl rfl ?_
              refine w_p (pc1 := 237) rfl rfl ?_
              refine w_t (a := 244) (b := 240) rfl rfl rfl ?_
              refine w_p (pc1 := 112) rfl rfl ?_
              refine w112f (FS_rb F2) (Or.inr ⟨rfl, ⟨_, ⟨1, i + 1, ?_, FS_rb F2, fW_t (fW_Z fZ_I) (fW_T f2)⟩, rfl⟩, rfl⟩)
              show flS B n _ (if kd B n (i + 1) = 48 then _ else _) 1 (i + 1)
              rw [if_neg (by rw [g2]; decide)]
              exact flS_e rfl rfl g2
        rcases R N h24 with ⟨r1, r2⟩ | ⟨u, r1, r2, r3⟩
        · have hb : okN lt ru (nI N) = false := by rw [hokn, r1]
          refine w_p (pc1 := 113) rfl rfl ?_
          refine w_f (a := 247) (b := 116) rfl rfl rfl ?_
          refine w_p (pc1 := 117) rfl rfl ?_
          refine w_m0 (pc1 := 120) (st1 := .int 0 :: _) rfl rfl (h_gIe (j := 8) rfl rfl rfl rfl rfl (M.2.1.2.1)) rfl ?_
          refine w_f (a := 247) (b := 123) rfl rfl rfl ?_
          refine w_p (pc1 := 124) rfl rfl ?_
          refine w_m0 (pc1 := 127) (st1 := .int 2 :: _) rfl rfl (h_gIe (j := 4) rfl rfl rfl rfl rfl (h4)) rfl ?_
          refine w_p (pc1 := 128) (st1 := .int 2 :: _) rfl rfl ?_
          refine w_t (a := 137) (b := 131) rfl rfl rfl ?_
          refine w_p (pc1 := 138) rfl rfl ?_
          refine w_m0 (pc1 := 141) (st1 := .long (vl B n i) :: _) rfl rfl (h_gJe (j := 7) rfl rfl rfl rfl rfl (hv)) rfl ?_
          refine w_m0 (pc1 := 144) (st1 := .long 24 :: _) rfl rfl rfl rfl ?_
          refine w_p (pc1 := 145) rfl rfl ?_
          refine w_b (a := 187) (b := 148) rfl rfl (fun c145 => ?_) (fun c145 => ?_)
          · replace c145 := lc_ge_t c145
            exact absurd c145 (by rw [hN]; show ¬ (24 : Int) ≤ N; omega)
          · replace c145 := lc_ge_f c145
            refine w_p (pc1 := 149) rfl rfl ?_
            refine w_m0 (pc1 := 152) rfl rfl (h_gC rfl rfl rfl rfl) rfl ?_
            refine w_p (pc1 := 153) rfl rfl ?_
            refine w_m0 (pc1 := 156) (st1 := .long (vl B n i) :: _) rfl rfl (h_gJe (j := 7) rfl rfl rfl rfl rfl (hv)) rfl ?_
            refine w_l2i (pc1 := 157) (z := nI (N)) rfl (h32) rfl ?_
            refine w_m0 (pc1 := 158) (st1 := .int 0 :: _) rfl rfl (n_ble (e := N) rfl rfl (by decide) rfl (by omega) (r2)) rfl ?_
            refine w_t (a := 187) (b := 161) rfl rfl rfl ?_
            refine w_p (pc1 := 188) (st1 := .int 0 :: _) rfl rfl ?_
            refine w_p (pc1 := 189) (al1 := [(2, .int 0), (1, .int 1), (0, .ref 176)]) rfl rfl ?_
            refine w_p (pc1 := 190) rfl rfl ?_
            refine w_f (a := 199) (b := 193) rfl rfl rfl ?_
            refine w_p (pc1 := 194) rfl rfl ?_
            refine w_p (pc1 := 195) (st1 := .int 5 :: _) rfl rfl ?_
            refine w_je (pc1 := 198) (vs := [.ref 176, .int 5]) (rest := []) (st1 := []) (m_200 (d := _) (sl := 0) (fun z => absurd M.2.1.2.1 z)) rfl rfl rfl (fun _ _ => rfl) rfl (by exact cl_v my_200 rfl rfl rfl (Nat.le_of_ble_eq_true rfl) rfl (MH_obj rfl rfl) rfl (by decide) rfl rfl) (by rfl) (Nat.le_of_ble_eq_true rfl) (Nat.le_of_ble_eq_true rfl) rfl (by rfl) ?_
            refine w_r rfl rfl rfl (fun _ _ => rfl) rfl ?_
            exact Or.inr ⟨rfl, ⟨_, ⟨5, i, flS_n (pb_l (bad hb)) hk1, FS_rb F, fW_T frT_f⟩, rfl⟩, rfl⟩
        · replace hokn : okN lt ru (nI N) = (!lt || rLt u) := by rw [hokn, r1]
          cases hlt : lt with
          | false =>
            have h97 : C.1 76 97 = 12 := by rw [h97, hs, hlt]; rfl
            rw [hlt] at hokn yes
            refine w_p (pc1 := 113) rfl rfl ?_
            refine w_f (a := 247) (b := 116) rfl rfl rfl ?_
            refine w_p (pc1 := 117) rfl rfl ?_
            refine w_m0 (pc1 := 120) (st1 := .int 0 :: _) rfl rfl (h_gIe (j := 8) rfl rfl rfl rfl rfl (M.2.1.2.1)) rfl ?_
            refine w_f (a := 247) (b := 123) rfl rfl rfl ?_
            refine w_p (pc1 := 124) rfl rfl ?_
            refine w_m0 (pc1 := 127) (st1 := .int 2 :: _) rfl rfl (h_gIe (j := 4) rfl rfl rfl rfl rfl (h4)) rfl ?_
            refine w_p (pc1 := 128) (st1 := .int 2 :: _) rfl rfl ?_
            refine w_t (a := 137) (b := 131) rfl rfl rfl ?_
            refine w_p (pc1 := 138) rfl rfl ?_
            refine w_m0 (pc1 := 141) (st1 := .long (vl B n i) :: _) rfl rfl (h_gJe (j := 7) rfl rfl rfl rfl rfl (hv)) rfl ?_
            refine w_m0 (pc1 := 144) (st1 := .long 24 :: _) rfl rfl rfl rfl ?_
            refine w_p (pc1 := 145) rfl rfl ?_
            refine w_b (a := 187) (b := 148) rfl rfl (fun c145 => ?_) (fun c145 => ?_)
            · replace c145 := lc_ge_t c145
              exact absurd c145 (by rw [hN]; show ¬ (24 : Int) ≤ N; omega)
            · replace c145 := lc_ge_f c145
              refine w_p (pc1 := 149) rfl rfl ?_
              refine w_m0 (pc1 := 152) rfl rfl (h_gC rfl rfl rfl rfl) rfl ?_
              refine w_p (pc1 := 153) rfl rfl ?_
              refine w_m0 (pc1 := 156) (st1 := .long (vl B n i) :: _) rfl rfl (h_gJe (j := 7) rfl rfl rfl rfl rfl (hv)) rfl ?_
              refine w_l2i (pc1 := 157) (z := nI (N)) rfl (h32) rfl ?_
              refine w_m0 (pc1 := 158) (st1 := .int 1 :: _) rfl rfl (n_ble (e := N) rfl rfl (by decide) rfl (by omega) (r2)) rfl ?_
              refine w_f (a := 187) (b := 161) rfl rfl rfl ?_
              refine w_p (pc1 := 162) rfl rfl ?_
              refine w_m0 (pc1 := 165) (st1 := .int 12 :: _) rfl rfl (h_gIe (j := 97) rfl rfl rfl rfl rfl (h97)) rfl ?_
              refine w_p (pc1 := 167) (st1 := .int 12 :: _) rfl rfl ?_
              refine w_t (a := 183) (b := 170) rfl rfl rfl ?_
              refine w_p (pc1 := 184) (st1 := .int 1 :: _) rfl rfl ?_
              refine w_p (pc1 := 188) rfl rfl ?_
              refine w_p (pc1 := 189) (al1 := [(2, .int 1), (1, .int 1), (0, .ref 176)]) rfl rfl ?_
              refine w_p (pc1 := 190) rfl rfl ?_
              refine w_t (a := 199) (b := 193) rfl rfl rfl ?_
              refine Wd_al (al := [(0, .ref 176)]) (sba_p [2] rfl rfl) ?_
              exact yes hokn
          | true =>
            have h97 : C.1 76 97 = 11 := by rw [h97, hs, hlt]; rfl
            rw [hlt] at hokn yes bad
            cases hl2 : rLt u with
            | true =>
              rw [hl2] at hokn r3
              refine w_p (pc1 := 113) rfl rfl ?_
              refine w_f (a := 247) (b := 116) rfl rfl rfl ?_
              refine w_p (pc1 := 117) rfl rfl ?_
              refine w_m0 (pc1 := 120) (st1 := .int 0 :: _) rfl rfl (h_gIe (j := 8) rfl rfl rfl rfl rfl (M.2.1.2.1)) rfl ?_
              refine w_f (a := 247) (b := 123) rfl rfl rfl ?_
              refine w_p (pc1 := 124) rfl rfl ?_
              refine w_m0 (pc1 := 127) (st1 := .int 2 :: _) rfl rfl (h_gIe (j := 4) rfl rfl rfl rfl rfl (h4)) rfl ?_
              refine w_p (pc1 := 128) (st1 := .int 2 :: _) rfl rfl ?_
              refine w_t (a := 137) (b := 131) rfl rfl rfl ?_
              refine w_p (pc1 := 138) rfl rfl ?_
              refine w_m0 (pc1 := 141) (st1 := .long (vl B n i) :: _) rfl rfl (h_gJe (j := 7) rfl rfl rfl rfl rfl (hv)) rfl ?_
              refine w_m0 (pc1 := 144) (st1 := .long 24 :: _) rfl rfl rfl rfl ?_
              refine w_p (pc1 := 145) rfl rfl ?_
              refine w_b (a := 187) (b := 148) rfl rfl (fun c145 => ?_) (fun c145 => ?_)
              · replace c145 := lc_ge_t c145
                exact absurd c145 (by rw [hN]; show ¬ (24 : Int) ≤ N; omega)
              · replace c145 := lc_ge_f c145
                refine w_p (pc1 := 149) rfl rfl ?_
                refine w_m0 (pc1 := 152) rfl rfl (h_gC rfl rfl rfl rfl) rfl ?_
                refine w_p (pc1 := 153) rfl rfl ?_
                refine w_m0 (pc1 := 156) (st1 := .long (vl B n i) :: _) rfl rfl (h_gJe (j := 7) rfl rfl rfl rfl rfl (hv)) rfl ?_
                refine w_l2i (pc1 := 157) (z := nI (N)) rfl (h32) rfl ?_
                refine w_m0 (pc1 := 158) (st1 := .int 1 :: _) rfl rfl (n_ble (e := N) rfl rfl (by decide) rfl (by omega) (r2)) rfl ?_
                refine w_f (a := 187) (b := 161) rfl rfl rfl ?_
                refine w_p (pc1 := 162) rfl rfl ?_
                refine w_m0 (pc1 := 165) (st1 := .int 11 :: _) rfl rfl (h_gIe (j := 97) rfl rfl rfl rfl rfl (h97)) rfl ?_
                refine w_p (pc1 := 167) (st1 := .int 12 :: _) rfl rfl ?_
                refine w_f (a := 183) (b := 170) rfl rfl rfl ?_
                refine w_p (pc1 := 171) rfl rfl ?_
                refine w_m0 (pc1 := 174) rfl rfl (h_gC rfl rfl rfl rfl) rfl ?_
                refine w_p (pc1 := 175) rfl rfl ?_
                refine w_m0 (pc1 := 178) (st1 := .long (vl B n i) :: _) rfl rfl (h_gJe (j := 7) rfl rfl rfl rfl rfl (hv)) rfl ?_
                refine w_l2i (pc1 := 179) (z := nI (N)) rfl (h32) rfl ?_
                refine w_m0 (pc1 := 180) (st1 := .int 1 :: _) rfl rfl (n_ble (e := N) rfl rfl (by decide) rfl (by omega) (r3)) rfl ?_
                refine w_f (a := 187) (b := 183) rfl rfl rfl ?_
                refine w_p (pc1 := 184) (st1 := .int 1 :: _) rfl rfl ?_
                refine w_p (pc1 := 188) rfl rfl ?_
                refine w_p (pc1 := 189) (al1 := [(2, .int 1), (1, .int 1), (0, .ref 176)]) rfl rfl ?_
                refine w_p (pc1 := 190) rfl rfl ?_
                refine w_t (a := 199) (b := 193) rfl rfl rfl ?_
                refine Wd_al (al := [(0, .ref 176)]) (sba_p [2] rfl rfl) ?_
                exact yes hokn
            | false =>
              rw [hl2] at hokn r3
              have hb : okN true ru (nI N) = false := hokn
              refine w_p (pc1 := 113) rfl rfl ?_
              refine w_f (a := 247) (b := 116) rfl rfl rfl ?_
              refine w_p (pc1 := 117) rfl rfl ?_
              refine w_m0 (pc1 := 120) (st1 := .int 0 :: _) rfl rfl (h_gIe (j := 8) rfl rfl rfl rfl rfl (M.2.1.2.1)) rfl ?_
              refine w_f (a := 247) (b := 123) rfl rfl rfl ?_
              refine w_p (pc1 := 124) rfl rfl ?_
              refine w_m0 (pc1 := 127) (st1 := .int 2 :: _) rfl rfl (h_gIe (j := 4) rfl rfl rfl rfl rfl (h4)) rfl ?_
              refine w_p (pc1 := 128) (st1 := .int 2 :: _) rfl rfl ?_
              refine w_t (a := 137) (b := 131) rfl rfl rfl ?_
              refine w_p (pc1 := 138) rfl rfl ?_
              refine w_m0 (pc1 := 141) (st1 := .long (vl B n i) :: _) rfl rfl (h_gJe (j := 7) rfl rfl rfl rfl rfl (hv)) rfl ?_
              refine w_m0 (pc1 := 144) (st1 := .long 24 :: _) rfl rfl rfl rfl ?_
              refine w_p (pc1 := 145) rfl rfl ?_
              refine w_b (a := 187) (b := 148) rfl rfl (fun c145 => ?_) (fun c145 => ?_)
              · replace c145 := lc_ge_t c145
                exact absurd c145 (by rw [hN]; show ¬ (24 : Int) ≤ N; omega)
              · replace c145 := lc_ge_f c145
                refine w_p (pc1 := 149) rfl rfl ?_
                refine w_m0 (pc1 := 152) rfl rfl (h_gC rfl rfl rfl rfl) rfl ?_
                refine w_p (pc1 := 153) rfl rfl ?_
                refine w_m0 (pc1 := 156) (st1 := .long (vl B n i) :: _) rfl rfl (h_gJe (j := 7) rfl rfl rfl rfl rfl (hv)) rfl ?_
                refine w_l2i (pc1 := 157) (z := nI (N)) rfl (h32) rfl ?_
                refine w_m0 (pc1 := 158) (st1 := .int 1 :: _) rfl rfl (n_ble (e := N) rfl rfl (by decide) rfl (by omega) (r2)) rfl ?_
                refine w_f (a := 187) (b := 161) rfl rfl rfl ?_
                refine w_p (pc1 := 162) rfl rfl ?_
                refine w_m0 (pc1 := 165) (st1 := .int 11 :: _) rfl rfl (h_gIe (j := 97) rfl rfl rfl rfl rfl (h97)) rfl ?_
                refine w_p (pc1 := 167) (st1 := .int 12 :: _) rfl rfl ?_
                refine w_f (a := 183) (b := 170) rfl rfl rfl ?_
                refine w_p (pc1 := 171) rfl rfl ?_
                refine w_m0 (pc1 := 174) rfl rfl (h_gC rfl rfl rfl rfl) rfl ?_
                refine w_p (pc1 := 175) rfl rfl ?_
                refine w_m0 (pc1 := 178) (st1 := .long (vl B n i) :: _) rfl rfl (h_gJe (j := 7) rfl rfl rfl rfl rfl (hv)) rfl ?_
                refine w_l2i (pc1 := 179) (z := nI (N)) rfl (h32) rfl ?_
                refine w_m0 (pc1 := 180) (st1 := .int 0 :: _) rfl rfl (n_ble (e := N) rfl rfl (by decide) rfl (by omega) (r3)) rfl ?_
                refine w_t (a := 187) (b := 183) rfl rfl rfl ?_
                refine w_p (pc1 := 188) (st1 := .int 0 :: _) rfl rfl ?_
                refine w_p (pc1 := 189) (al1 := [(2, .int 0), (1, .int 1), (0, .ref 176)]) rfl rfl ?_
                refine w_p (pc1 := 190) rfl rfl ?_
                refine w_f (a := 199) (b := 193) rfl rfl rfl ?_
                refine w_p (pc1 := 194) rfl rfl ?_
                refine w_p (pc1 := 195) (st1 := .int 5 :: _) rfl rfl ?_
                refine w_je (pc1 := 198) (vs := [.ref 176, .int 5]) (rest := []) (st1 := []) (m_200 (d := _) (sl := 0) (fun z => absurd M.2.1.2.1 z)) rfl rfl rfl (fun _ _ => rfl) rfl (by exact cl_v my_200 rfl rfl rfl (Nat.le_of_ble_eq_true rfl) rfl (MH_obj rfl rfl) rfl (by decide) rfl rfl) (by rfl) (Nat.le_of_ble_eq_true rfl) (Nat.le_of_ble_eq_true rfl) rfl (by rfl) ?_
                refine w_r rfl rfl rfl (fun _ _ => rfl) rfl ?_
                exact Or.inr ⟨rfl, ⟨_, ⟨5, i, flS_n (pb_l (bad hb)) hk1, FS_rb F, fW_T frT_f⟩, rfl⟩, rfl⟩
      · have hb := ok_x (lt := lt) (ru := ru) (show 24 ≤ N by omega) hN9
        refine w_p (pc1 := 113) rfl rfl ?_
        refine w_f (a := 247) (b := 116) rfl rfl rfl ?_
        refine w_p (pc1 := 117) rfl rfl ?_
        refine w_m0 (pc1 := 120) (st1 := .int 0 :: _) rfl rfl (h_gIe (j := 8) rfl rfl rfl rfl rfl (M.2.1.2.1)) rfl ?_
        refine w_f (a := 247) (b := 123) rfl rfl rfl ?_
        refine w_p (pc1 := 124) rfl rfl ?_
        refine w_m0 (pc1 := 127) (st1 := .int 2 :: _) rfl rfl (h_gIe (j := 4) rfl rfl rfl rfl rfl (h4)) rfl ?_
        refine w_p (pc1 := 128) (st1 := .int 2 :: _) rfl rfl ?_
        refine w_t (a := 137) (b := 131) rfl rfl rfl ?_
        refine w_p (pc1 := 138) rfl rfl ?_
        refine w_m0 (pc1 := 141) (st1 := .long (vl B n i) :: _) rfl rfl (h_gJe (j := 7) rfl rfl rfl rfl rfl (hv)) rfl ?_
        refine w_m0 (pc1 := 144) (st1 := .long 24 :: _) rfl rfl rfl rfl ?_
        refine w_p (pc1 := 145) rfl rfl ?_
        refine w_b (a := 187) (b := 148) rfl rfl (fun c145 => ?_) (fun c145 => ?_)
        · replace c145 := lc_ge_t c145
          refine w_p (pc1 := 188) (st1 := .int 0 :: _) rfl rfl ?_
          refine w_p (pc1 := 189) (al1 := [(2, .int 0), (1, .int 1), (0, .ref 176)]) rfl rfl ?_
          refine w_p (pc1 := 190) rfl rfl ?_
          refine w_f (a := 199) (b := 193) rfl rfl rfl ?_
          refine w_p (pc1 := 194) rfl rfl ?_
          refine w_p (pc1 := 195) (st1 := .int 5 :: _) rfl rfl ?_
          refine w_je (pc1 := 198) (vs := [.ref 176, .int 5]) (rest := []) (st1 := []) (m_200 (d := _) (sl := 0) (fun z => absurd M.2.1.2.1 z)) rfl rfl rfl (fun _ _ => rfl) rfl (by exact cl_v my_200 rfl rfl rfl (Nat.le_of_ble_eq_true rfl) rfl (MH_obj rfl rfl) rfl (by decide) rfl rfl) (by rfl) (Nat.le_of_ble_eq_true rfl) (Nat.le_of_ble_eq_true rfl) rfl (by rfl) ?_
          refine w_r rfl rfl rfl (fun _ _ => rfl) rfl ?_
          exact Or.inr ⟨rfl, ⟨_, ⟨5, i, flS_n (pb_l (bad hb)) hk1, FS_rb F, fW_T frT_f⟩, rfl⟩, rfl⟩
        · replace c145 := lc_ge_f c145
          exact absurd c145 (by rw [hN]; show ¬ (N : Int) < 24; omega)
    · have hx : rNum (tkP B n) lt ru i = .inl (2, i) := if_neg hk
      have F := FS_new (c := 2) M (by decide)
      refine w_p (pc1 := 113) rfl rfl ?_
      refine w_f (a := 247) (b := 116) rfl rfl rfl ?_
      refine w_p (pc1 := 117) rfl rfl ?_
      refine w_m0 (pc1 := 120) (st1 := .int 0 :: _) rfl rfl (h_gIe (j := 8) rfl rfl rfl rfl rfl (M.2.1.2.1)) rfl ?_
      refine w_f (a := 247) (b := 123) rfl rfl rfl ?_
      refine w_p (pc1 := 124) rfl rfl ?_
      refine w_m0 (pc1 := 127) rfl rfl (h_gI (j := 4) rfl rfl rfl rfl rfl) rfl ?_
      refine w_p (pc1 := 128) (st1 := .int 2 :: _) rfl rfl ?_
      refine w_f (a := 137) (b := 131) (cb_eq_f (by exact fun e => hk ((nm_k M.2.1).2.1.mp e))) rfl rfl ?_
      refine w_p (pc1 := 132) rfl rfl ?_
      refine w_p (pc1 := 133) (st1 := .int 2 :: _) rfl rfl ?_
      refine w_je (pc1 := 136) (vs := [.ref 176, .int 2]) (rest := []) (st1 := []) (m_200 (d := _) (sl := 0) (fun z => absurd M.2.1.2.1 z)) rfl rfl rfl (fun _ _ => rfl) rfl (by exact cl_v my_200 rfl rfl rfl (Nat.le_of_ble_eq_true rfl) rfl (MH_obj rfl rfl) rfl (by decide) rfl rfl) (by rfl) (Nat.le_of_ble_eq_true rfl) (Nat.le_of_ble_eq_true rfl) rfl (by rfl) ?_
      refine w_r rfl rfl rfl (fun _ _ => rfl) rfl ?_
      exact Or.inr ⟨rfl, ⟨_, ⟨2, i, flS_n (pb_l hx) hk1, FS_rb F, fW_T frT_f⟩, rfl⟩, rfl⟩
end MSO
