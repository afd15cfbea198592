
/-! ONE SIDE'S ENGINE: rows found, one by one -/
def frI (kr : Nat) (C C' : co_T) : Prop := (∀ k j, k ≠ kr → C'.1 k j = C.1 k j) ∧ C'.2 = C.2
set_option maxRecDepth 100000 in
theorem frI_r {kr : Nat} {C : co_T} : frI kr C C := ⟨fun _ _ _ => rfl, rfl⟩
set_option maxRecDepth 100000 in
theorem frI_t {kr : Nat} {C1 C2 C3 : co_T} (h : frI kr C1 C2) (g : frI kr C2 C3) : frI kr C1 C3 := ⟨fun k j a => (g.1 k j a).trans (h.1 k j a), g.2.trans h.2⟩
set_option maxRecDepth 100000 in
theorem frI_I {kr c : Nat} {C : co_T} {x : Int32} : frI kr C (sI C kr c x) := ⟨fun k j a => by rw [sI_1, if_neg (by omega)], rfl⟩
set_option maxRecDepth 100000 in
theorem frI_E {kr D F : Nat} {C C' : co_T} (h : frI kr C C') (hk : 61 + D ≤ kr ∧ kr < 75) : frE D F C C' := ⟨fun k j _ _ _ => h.1 k j (by omega), fun k j _ _ _ => by rw [h.2], by rw [h.2]⟩
set_option maxRecDepth 100000 in
theorem KE_I {kr : Nat} {C C' : co_T} {wd : Nat → Nat} {σ : es_T} (h : frI kr C C') (hk : 61 ≤ kr) (E : KE C wd σ) : KE C' wd σ := by
  obtain ⟨W, h1, h2, h3, h4, h5⟩ := E
  refine ⟨fun b hb => ?_, fun b hb => (h.1 17 b (by omega)).trans (h1 b hb), (h.1 24 7 (by omega)).trans h2, h3, (h.1 24 8 (by omega)).trans h4, h5⟩
  obtain ⟨g1, g2, g3, g4⟩ := W b hb
  exact ⟨g1, (h.1 16 b (by omega)).trans g2, g3, fun k r hr => ⟨(h.1 15 _ (by omega)).trans (g4 k r hr).1, fun c hc => by rw [h.2]; exact (g4 k r hr).2 c hc⟩⟩
/-! all that is kept at a depth -/
def KB (C : co_T) (t : ab_H) (S : st_T) (σ : es_T) (D w2 w3 : Nat) (N O : rw_F) : Prop := KS C t S ∧ KE C (sWd S) σ ∧ (w2 ≤ 6 ∧ w3 ≤ 6) ∧ bfK C (46 + D) w2 N ∧ bfK C (31 + D) w3 O
set_option maxRecDepth 100000 in
theorem KB_n {C C' : co_T} {t t' : ab_H} {S : st_T} {σ σ' : es_T} {D w2 w3 : Nat} {N O : rw_F} (h : KB C t S σ D w2 w3 N O) (hD : D < 14) (f : frE D (D + 1) C C') (s : stk t t') (E : KE C' (sWd S) σ') : KB C' t' S σ' D w2 w3 N O := ⟨KS_k h.1 f s, E, h.2.2.1, bfK_E f (by omega) h.2.2.2.1, bfK_E f (by omega) h.2.2.2.2⟩
set_option maxRecDepth 100000 in
theorem KB_env {C : co_T} {t : ab_H} {S : st_T} {σ : es_T} {D w2 w3 b k : Nat} {N O : rw_F} {r : ro_T} (h : KB C t S σ D w2 w3 N O) (hb : b < 6) (hr : (σ.1 b).1[k]? = some r) : envE C ((b * 40 + k) * 6) D (sWd S b) w2 w3 r.2 N O := by
  obtain ⟨g1, g2, g3, g4⟩ := h.2.1.1 b hb
  have hk := get_lt hr
  exact ⟨⟨by omega, (g4 k r hr).2⟩, h.2.2.1, h.2.2.2.1, h.2.2.2.2⟩
set_option maxRecDepth 100000 in
theorem KB_env0 {C : co_T} {t : ab_H} {S : st_T} {σ : es_T} {D w2 w3 : Nat} {N O : rw_F} (h : KB C t S σ D w2 w3 N O) : envE C 0 D 0 w2 w3 noF N O := ⟨⟨by decide, fun c hc => absurd hc (by omega)⟩, h.2.2.1, h.2.2.2.1, h.2.2.2.2⟩
set_option maxRecDepth 100000 in
theorem frE_s {D F : Nat} {C : co_T} {z : Int32} : frE D F C (sI C 24 6 z) := ⟨fun k j _ h _ => by rw [sI_1, if_neg (by omega)], fun _ _ _ _ _ => rfl, rfl⟩
set_option maxRecDepth 100000 in
theorem KX_s {C : co_T} {σ : es_T} {z : Int32} (h : KX C σ) : KX (sI C 24 6 z) σ := h
set_option maxRecDepth 100000 in
theorem spK_z {C : co_T} : spK (sI C 24 6 4) byZ := ⟨rfl, fun h => absurd h (by decide), fun h => absurd h (by decide)⟩
/-! steps at a depth, n more below -/
def STP0 (L : Nat) (xs : Nat → Int32) (S : st_T) (n E : Nat) : Prop := ∀ (tb : Nat) (O N : rw_F) (σ : es_T) (C : co_T) (t : ab_H), tb < 6 → KS C t S → KE C (sWd S) σ → bfK C (46 + E) (sWd S tb) N → Wd L xs (4 * n + 12) y_120 (0, [(0, .ref 124), (1, .int (nI tb)), (2, .int (nI E))], [], MH C t, 0) (PR C t (sWd S) E E 0 (stp S n 0 tb 0 O N σ)) (XR C t E E 0 (stp S n 0 tb 0 O N σ))
def STP1 (L : Nat) (xs : Nat → Int32) (S : st_T) (n E : Nat) : Prop := ∀ (tb : Nat) (i : Int32) (O N : rw_F) (σ : es_T) (C : co_T) (t : ab_H), tb < 6 → KS C t S → KE C (sWd S) σ → bfK C (31 + E) (sWd S tb) O → bfK C (46 + E) (sWd S tb) N → Wd L xs (4 * n + 12) y_143 (0, [(0, .ref 124), (1, .int (nI tb)), (2, .int i), (3, .int (nI E))], [], MH C t, 0) (PR C t (sWd S) E E 0 (stp S n 1 tb i O N σ)) (XR C t E E 0 (stp S n 1 tb i O N σ))
def STP2 (L : Nat) (xs : Nat → Int32) (S : st_T) (n E : Nat) : Prop := ∀ (tb : Nat) (i : Int32) (O N : rw_F) (σ : es_T) (C : co_T) (t : ab_H), tb < 6 → KS C t S → KE C (sWd S) σ → bfK C (31 + E) (sWd S tb) O → Wd L xs (4 * n + 12) y_134 (0, [(0, .ref 124), (1, .int (nI tb)), (2, .int i), (3, .int (nI E))], [], MH C t, 0) (PR C t (sWd S) E E 0 (stp S n 2 tb i O N σ)) (XR C t E E 0 (stp S n 2 tb i O N σ))
def STP (L : Nat) (xs : Nat → Int32) (S : st_T) (n E : Nat) : Prop := STP0 L xs S n E ∧ STP1 L xs S n E ∧ STP2 L xs S n E
section KE4
variable {L : Nat} {xs : Nat → Int32} {C : co_T} {t : ab_H} {d sl D w2 w3 k k0 kc ks b c i n : Nat} {S : st_T} {R N O : rw_F} {a : ac_T} {fc : Nat → Int32} {fs : Nat → Option Nat} {vw : Value} {r : ro_T} {wd : Nat → Nat} {rs : rs_T} {σ : es_T}
set_option maxRecDepth 100000 in
theorem foK_v {q : Option (List op_T)} {cc : Int32} (h : foK t cc vw q) : vw = .null ∨ ∃ k, vw = .ref (241 + k) := by
  cases q with
  | none => exact Or.inl h
  | some l =>
    obtain ⟨k, _, _, _, _, e, _⟩ := h
    exact Or.inr ⟨k, e⟩
set_option maxRecDepth 100000 in
theorem rowK {i : Int32} (W : RWK C wd rs) (hb : b < 6) : Wd L xs (d + 2) y_132 (0, [(0, .ref 113), (1, .int (nI b)), (2, .int i)], [], MH C t, sl) (Rt (some (.int (fdI (fdr i (rs b).1 0)))) (MH C t) sl) nX := by
  obtain ⟨g1, g2, g3, g4⟩ := W b hb
  have h := m_132 (L := L) (xs := xs) (t := t) (d := d) (sl := sl) (i := i) hb g2 g3
  rw [fdr_f (id := C.1 15) (B0 := b * 40) (rs b).1 0 (fun j r hj => by rw [Nat.zero_add]; exact (g4 j r hj).1)] at h
  exact h
set_option maxRecDepth 100000 in
theorem lp_130a {P : Option Value → ab_H → Nat → Prop} {X : Nat → ab_H → Nat → Prop} {C0 : co_T} {t0 : ab_H} (hD : D < 13) (hb : aTb a = some b) (hb6 : b < 6) (hok : okT2 (sWd S b) w2 w3 (aWh a)) : ∀ (suf pre : List ro_T) (is : List Int32) (C : co_T) (t : ab_H), pre ++ suf = (σ.1 b).1 → KB C t S σ D w2 w3 N O → ACK t k0 a → is.length ≤ pre.length → (∀ j x, is[j]? = some x → C.1 (61 + D) j = x) → frI (61 + D) C0 C → stk t0 t →
    (∀ is1 C1 t1, fnR (fun r => tst r.2 N O (aWh a)) suf = some is1 → (∀ j x, (is ++ is1)[j]? = some x → C1.1 (61 + D) j = x) → frI (61 + D) C0 C1 → stk t0 t1 → (is ++ is1).length ≤ 40 → Wd L xs (d + 10) y_130 (78, [(3, .int (nI ((is ++ is1).length))), (0, .ref 124), (1, .ref (241 + k0)), (2, .int (nI (D)))], [], MH C1 t1, sl) P X) →
    (∀ C1 t1, fnR (fun r => tst r.2 N O (aWh a)) suf = none → frI (61 + D) C0 C1 → stk t0 t1 → X (241 + t1.length) (MH (sI C1 24 6 4) (t1 ++ [.inr (12, [])])) (sl + 6)) →
    Wd L xs (d + 10) y_130 (5, [(4, .int (nI (pre.length))), (3, .int (nI (is.length))), (0, .ref 124), (1, .ref (241 + k0)), (2, .int (nI (D)))], [], MH C t, sl) P X
  | [], pre, is, C, t, hp, B, A0, hil, hid, hf, hst, H1, H2 => by
    rw [List.append_nil] at hp
    have hl2 := congrArg List.length hp
    obtain ⟨kc, ks, fc, fs, vw, A⟩ := id A0
    have hA := A.1
    rw [hb] at hA
    have h40 := (B.2.1.1 b hb6).2.2.1
    have hsz := sizeK (L := L) (xs := xs) (t := t) (d := d + 9) (sl := 0) B.2.1.1 hb6
    have H := H1 [] C t rfl (by rw [List.append_nil]; exact hid) hf hst (by rw [List.append_nil]; omega)
    rw [List.append_nil] at H
    refine w_p (pc1 := 7) rfl rfl ?_
    refine w_p (pc1 := 8) rfl rfl ?_
    refine w_m0 (pc1 := 11) rfl rfl (h_gC rfl rfl rfl rfl) rfl ?_
    refine w_p (pc1 := 12) rfl rfl ?_
    refine w_m0 (pc1 := 15) (st1 := .int (nI (b)) :: _) rfl rfl (x_gf (k := k0) rfl hA rfl) rfl ?_
    refine w_je (pc1 := 18) (vs := [.ref 113, .int (nI (b))]) (rest := [.int (nI (pre.length))]) (st1 := [.int (nI ((σ.1 b).1.length)), .int (nI (pre.length))]) (hsz) rfl rfl rfl (fun _ _ => rfl) rfl (by exact cl_v my_107 rfl rfl rfl (Nat.le_of_ble_eq_true rfl) rfl (MH_obj rfl rfl) rfl (by decide) rfl rfl) (by rfl) (Nat.le_of_ble_eq_true rfl) (Nat.le_of_ble_eq_true rfl) rfl (by rfl) ?_
    refine w_t (a := 78) (b := 21) (bN_ge_t (a := pre.length) (b := (σ.1 b).1.length) (by omega) (by omega) (by omega)) rfl rfl ?_
    refine Wd_al (al := [(3, .int (nI (is.length))), (0, .ref 124), (1, .ref (241 + k0)), (2, .int (nI (D)))]) (sba_p [1, 2, 3, 4] rfl rfl) ?_
    exact H
  | r :: suf, pre, is, C, t, hp, B, A0, hil, hid, hf, hst, H1, H2 => by
    obtain ⟨h1, h2, h3⟩ := get_ap hp
    obtain ⟨kc, ks, fc, fs, vw, A⟩ := id A0
    have hA := A.1
    rw [hb] at hA
    have h40 := (B.2.1.1 b hb6).2.2.1
    have hsz := sizeK (L := L) (xs := xs) (t := t) (d := d + 9) (sl := 0) B.2.1.1 hb6
    have hpl := m_108 (L := L) (xs := xs) (C := C) (t := t) (d := d + 9) (sl := 0) (b := b) (k := pre.length)
    have hts := tsK (L := L) (xs := xs) (d := d + 1) (sl := 0) (envE_K (KB_env B hb6 h1) (by omega)) B.1 (by omega) A.2.2.2.2.2 hok
    have e0 : fnR (fun r => tst r.2 N O (aWh a)) (r :: suf) = match tst r.2 N O (aWh a) with | none => none | some y => (fnR (fun r => tst r.2 N O (aWh a)) suf).map (fun x => bif y then r.1 :: x else x) := rfl
    have hvw := foK_v A.2.2.2.2.2
    clear A
    rcases hvw with rfl | ⟨kk, rfl⟩
    · cases hx : tst r.2 N O (aWh a) with
      | none =>
        rw [hx] at hts
        rw [e0, hx] at H2
        refine w_p (pc1 := 7) rfl rfl ?_
        refine w_p (pc1 := 8) rfl rfl ?_
        refine w_m0 (pc1 := 11) rfl rfl (h_gC rfl rfl rfl rfl) rfl ?_
        refine w_p (pc1 := 12) rfl rfl ?_
        refine w_m0 (pc1 := 15) (st1 := .int (nI (b)) :: _) rfl rfl (x_gf (k := k0) rfl hA rfl) rfl ?_
        refine w_je (pc1 := 18) (vs := [.ref 113, .int (nI (b))]) (rest := [.int (nI (pre.length))]) (st1 := [.int (nI ((σ.1 b).1.length)), .int (nI (pre.length))]) (hsz) rfl rfl rfl (fun _ _ => rfl) rfl (by exact cl_v my_107 rfl rfl rfl (Nat.le_of_ble_eq_true rfl) rfl (MH_obj rfl rfl) rfl (by decide) rfl rfl) (by rfl) (Nat.le_of_ble_eq_true rfl) (Nat.le_of_ble_eq_true rfl) rfl (by rfl) ?_
        refine w_f (a := 78) (b := 21) (bN_ge_f (a := pre.length) (b := (σ.1 b).1.length) (by omega) (by omega) (by omega)) rfl rfl ?_
        refine w_p (pc1 := 22) rfl rfl ?_
        refine w_p (pc1 := 24) (st1 := .int 40 :: _) rfl rfl ?_
        refine w_f (a := 78) (b := 27) (bN_ge_f (a := is.length) (b := 40) (by omega) (by omega) (by omega)) rfl rfl ?_
        refine w_p (pc1 := 28) rfl rfl ?_
        refine w_p (pc1 := 29) rfl rfl ?_
        refine w_m0 (pc1 := 32) (st1 := .null :: _) rfl rfl (x_gf (k := k0) rfl hA rfl) rfl ?_
        refine w_p (pc1 := 33) rfl rfl ?_
        refine w_m0 (pc1 := 36) (st1 := .int (nI (b)) :: _) rfl rfl (x_gf (k := k0) rfl hA rfl) rfl ?_
        refine w_p (pc1 := 38) rfl rfl ?_
        refine w_je (pc1 := 41) (vs := [.int (nI (b)), .int (nI (pre.length))]) (rest := [.null, .ref 124]) (st1 := [.int (nI ((b * 40 + pre.length) * 6)), .null, .ref 124]) (hpl) rfl rfl rfl (fun _ _ => cn_s rfl rfl rfl rfl) rfl (by exact cl_s my_108 rfl rfl rfl (Nat.le_of_ble_eq_true rfl) rfl rfl) (by rfl) (Nat.le_of_ble_eq_true rfl) (Nat.le_of_ble_eq_true rfl) rfl (by rfl) ?_
        refine w_p (pc1 := 42) rfl rfl ?_
        refine w_ji (pc1 := 45) (vs := [.ref 124, .null, .int (nI ((b * 40 + pre.length) * 6)), .int (nI (D))]) (rest := []) (hts) rfl rfl rfl (fun _ _ => rfl) rfl (by exact cl_v my_125 rfl rfl rfl (Nat.le_of_ble_eq_true rfl) rfl (MH_obj rfl rfl) rfl (by decide) rfl rfl) (by rfl) (Nat.le_of_ble_eq_true rfl) (Nat.le_of_ble_eq_true rfl) rfl (fun v h1 d1 hq => ?_) (fun a h1 d1 hq => ?_)
        · obtain ⟨y, hy, _⟩ := hq
          cases hy
        · rcases hq with ⟨_, t1, hs1, ha, hh, hn⟩
          · subst ha; subst hh; subst hn
            refine Or.inl ⟨ch_new (by decide) rfl, ?_⟩
            exact H2 C t1 rfl hf (stk_t hst hs1)
      | some y =>
        rw [hx] at hts
        cases y with
        | false =>
          have e1 : fnR (fun r => tst r.2 N O (aWh a)) (r :: suf) = fnR (fun r => tst r.2 N O (aWh a)) suf := by
            rw [e0, hx]
            show (fnR _ suf).map (fun x => x) = _
            cases fnR (fun r => tst r.2 N O (aWh a)) suf <;> rfl
          rw [e1] at H1 H2
          refine w_p (pc1 := 7) rfl rfl ?_
          refine w_p (pc1 := 8) rfl rfl ?_
          refine w_m0 (pc1 := 11) rfl rfl (h_gC rfl rfl rfl rfl) rfl ?_
          refine w_p (pc1 := 12) rfl rfl ?_
          refine w_m0 (pc1 := 15) (st1 := .int (nI (b)) :: _) rfl rfl (x_gf (k := k0) rfl hA rfl) rfl ?_
          refine w_je (pc1 := 18) (vs := [.ref 113, .int (nI (b))]) (rest := [.int (nI (pre.length))]) (st1 := [.int (nI ((σ.1 b).1.length)), .int (nI (pre.length))]) (hsz) rfl rfl rfl (fun _ _ => rfl) rfl (by exact cl_v my_107 rfl rfl rfl (Nat.le_of_ble_eq_true rfl) rfl (MH_obj rfl rfl) rfl (by decide) rfl rfl) (by rfl) (Nat.le_of_ble_eq_true rfl) (Nat.le_of_ble_eq_true rfl) rfl (by rfl) ?_
          refine w_f (a := 78) (b := 21) (bN_ge_f (a := pre.length) (b := (σ.1 b).1.length) (by omega) (by omega) (by omega)) rfl rfl ?_
          refine w_p (pc1 := 22) rfl rfl ?_
          refine w_p (pc1 := 24) (st1 := .int 40 :: _) rfl rfl ?_
          refine w_f (a := 78) (b := 27) (bN_ge_f (a := is.length) (b := 40) (by omega) (by omega) (by omega)) rfl rfl ?_
          refine w_p (pc1 := 28) rfl rfl ?_
          refine w_p (pc1 := 29) rfl rfl ?_
          refine w_m0 (pc1 := 32) (st1 := .null :: _) rfl rfl (x_gf (k := k0) rfl hA rfl) rfl ?_
          refine w_p (pc1 := 33) rfl rfl ?_
          refine w_m0 (pc1 := 36) (st1 := .int (nI (b)) :: _) rfl rfl (x_gf (k := k0) rfl hA rfl) rfl ?_
          refine w_p (pc1 := 38) rfl rfl ?_
          refine w_je (pc1 := 41) (vs := [.int (nI (b)), .int (nI (pre.length))]) (rest := [.null, .ref 124]) (st1 := [.int (nI ((b * 40 + pre.length) * 6)), .null, .ref 124]) (hpl) rfl rfl rfl (fun _ _ => cn_s rfl rfl rfl rfl) rfl (by exact cl_s my_108 rfl rfl rfl (Nat.le_of_ble_eq_true rfl) rfl rfl) (by rfl) (Nat.le_of_ble_eq_true rfl) (Nat.le_of_ble_eq_true rfl) rfl (by rfl) ?_
          refine w_p (pc1 := 42) rfl rfl ?_
          refine w_ji (pc1 := 45) (vs := [.ref 124, .null, .int (nI ((b * 40 + pre.length) * 6)), .int (nI (D))]) (rest := []) (hts) rfl rfl rfl (fun _ _ => rfl) rfl (by exact cl_v my_125 rfl rfl rfl (Nat.le_of_ble_eq_true rfl) rfl (MH_obj rfl rfl) rfl (by decide) rfl rfl) (by rfl) (Nat.le_of_ble_eq_true rfl) (Nat.le_of_ble_eq_true rfl) rfl (fun v h1 d1 hq => ?_) (fun a h1 d1 hq => ?_)
          · obtain ⟨y, hy, hv, ⟨t1, hs1, hh⟩, hn⟩ := hq
            cases hy
            subst hv; subst hh; subst hn
            refine w_t (a := 72) (b := 48) rfl rfl rfl ?_
            refine w_iinc (pc1 := 75) (u := nI (pre.length)) (z := nI (pre.length + 1)) (al1 := [(4, .int (nI (pre.length + 1))), (3, .int (nI (is.length))), (0, .ref 124), (1, .ref (241 + k0)), (2, .int (nI (D)))]) rfl rfl rfl nK_1 rfl rfl ?_
            refine w_p (pc1 := 5) rfl rfl ?_
            have ih := lp_130a (P := P) (X := X) hD hb hb6 hok suf (pre ++ [r]) is C t1 h3 (KB_n B (by omega) frE_r hs1 B.2.1) (ACK_k hs1 A0) (by rw [len_s]; omega) hid hf (stk_t hst hs1) H1 H2
            rw [len_s] at ih
            exact ih
          · rcases hq with ⟨hy, _⟩
            · cases hy
        | true =>
          have e1 : fnR (fun r => tst r.2 N O (aWh a)) (r :: suf) = (fnR (fun r => tst r.2 N O (aWh a)) suf).map (fun x => r.1 :: x) := by
            rw [e0, hx]
            rfl
          rw [e1] at H1 H2
          have fI : frI (61 + D) C (sI C (61 + D) is.length r.1) := frI_I
          refine w_p (pc1 := 7) rfl rfl ?_
          refine w_p (pc1 := 8) rfl rfl ?_
          refine w_m0 (pc1 := 11) rfl rfl (h_gC rfl rfl rfl rfl) rfl ?_
          refine w_p (pc1 := 12) rfl rfl ?_
          refine w_m0 (pc1 := 15) (st1 := .int (nI (b)) :: _) rfl rfl (x_gf (k := k0) rfl hA rfl) rfl ?_
          refine w_je (pc1 := 18) (vs := [.ref 113, .int (nI (b))]) (rest := [.int (nI (pre.length))]) (st1 := [.int (nI ((σ.1 b).1.length)), .int (nI (pre.length))]) (hsz) rfl rfl rfl (fun _ _ => rfl) rfl (by exact cl_v my_107 rfl rfl rfl (Nat.le_of_ble_eq_true rfl) rfl (MH_obj rfl rfl) rfl (by decide) rfl rfl) (by rfl) (Nat.le_of_ble_eq_true rfl) (Nat.le_of_ble_eq_true rfl) rfl (by rfl) ?_
          refine w_f (a := 78) (b := 21) (bN_ge_f (a := pre.length) (b := (σ.1 b).1.length) (by omega) (by omega) (by omega)) rfl rfl ?_
          refine w_p (pc1 := 22) rfl rfl ?_
          refine w_p (pc1 := 24) (st1 := .int 40 :: _) rfl rfl ?_
          refine w_f (a := 78) (b := 27) (bN_ge_f (a := is.length) (b := 40) (by omega) (by omega) (by omega)) rfl rfl ?_
          refine w_p (pc1 := 28) rfl rfl ?_
          refine w_p (pc1 := 29) rfl rfl ?_
          refine w_m0 (pc1 := 32) (st1 := .null :: _) rfl rfl (x_gf (k := k0) rfl hA rfl) rfl ?_
          refine w_p (pc1 := 33) rfl rfl ?_
          refine w_m0 (pc1 := 36) (st1 := .int (nI (b)) :: _) rfl rfl (x_gf (k := k0) rfl hA rfl) rfl ?_
          refine w_p (pc1 := 38) rfl rfl ?_
          refine w_je (pc1 := 41) (vs := [.int (nI (b)), .int (nI (pre.length))]) (rest := [.null, .ref 124]) (st1 := [.int (nI ((b * 40 + pre.length) * 6)), .null, .ref 124]) (hpl) rfl rfl rfl (fun _ _ => cn_s rfl rfl rfl rfl) rfl (by exact cl_s my_108 rfl rfl rfl (Nat.le_of_ble_eq_true rfl) rfl rfl) (by rfl) (Nat.le_of_ble_eq_true rfl) (Nat.le_of_ble_eq_true rfl) rfl (by rfl) ?_
          refine w_p (pc1 := 42) rfl rfl ?_
          refine w_ji (pc1 := 45) (vs := [.ref 124, .null, .int (nI ((b * 40 + pre.length) * 6)), .int (nI (D))]) (rest := []) (hts) rfl rfl rfl (fun _ _ => rfl) rfl (by exact cl_v my_125 rfl rfl rfl (Nat.le_of_ble_eq_true rfl) rfl (MH_obj rfl rfl) rfl (by decide) rfl rfl) (by rfl) (Nat.le_of_ble_eq_true rfl) (Nat.le_of_ble_eq_true rfl) rfl (fun v h1 d1 hq => ?_) (fun a h1 d1 hq => ?_)
          · obtain ⟨y, hy, hv, ⟨t1, hs1, hh⟩, hn⟩ := hq
            cases hy
            subst hv; subst hh; subst hn
            have hA := stk_o hs1 hA
            refine w_f (a := 72) (b := 48) rfl rfl rfl ?_
            refine w_p (pc1 := 49) rfl rfl ?_
            refine w_m0 (pc1 := 52) rfl rfl (h_gC rfl rfl rfl rfl) rfl ?_
            refine w_p (pc1 := 53) rfl rfl ?_
            refine w_m0 (pc1 := 54) (st1 := .ref (61 + D + 100) :: _) rfl rfl (n_als (e := D) rfl rfl (by decide) rfl (by omega) (KS_fo B.1 (by omega))) rfl ?_
            refine w_p (pc1 := 55) rfl rfl ?_
            refine w_p (pc1 := 56) rfl rfl ?_
            refine w_m0 (pc1 := 59) rfl rfl (h_gC rfl rfl rfl rfl) rfl ?_
            refine w_p (pc1 := 60) rfl rfl ?_
            refine w_m0 (pc1 := 63) (st1 := .int (nI (b)) :: _) rfl rfl (x_gf (k := k0) rfl hA rfl) rfl ?_
            refine w_p (pc1 := 65) rfl rfl ?_
            refine w_je (pc1 := 68) (vs := [.ref 113, .int (nI (b)), .int (nI (pre.length))]) (rest := [.int (nI (is.length)), .ref (61 + D + 100)]) (st1 := [.int (r.1), .int (nI (is.length)), .ref (61 + D + 100)]) (idK (d := d + 8) (sl := 0) B.2.1.1 hb6 h1) rfl rfl rfl (fun _ _ => rfl) rfl (by exact cl_v my_131 rfl rfl rfl (Nat.le_of_ble_eq_true rfl) rfl (MH_obj rfl rfl) rfl (by decide) rfl rfl) (by rfl) (Nat.le_of_ble_eq_true rfl) (Nat.le_of_ble_eq_true rfl) rfl (by rfl) ?_
            refine w_m0 (pc1 := 69) rfl rfl (n_is (k := 61 + D) (e := is.length) rfl (skI (by omega)) rfl (by omega)) rfl ?_
            refine w_iinc (pc1 := 72) (u := nI (is.length)) (z := nI (is.length + 1)) (al1 := [(3, .int (nI (is.length + 1))), (4, .int (nI (pre.length))), (0, .ref 124), (1, .ref (241 + k0)), (2, .int (nI (D)))]) rfl rfl rfl nK_1 rfl rfl ?_
            refine w_iinc (pc1 := 75) (u := nI (pre.length)) (z := nI (pre.length + 1)) (al1 := [(4, .int (nI (pre.length + 1))), (3, .int (nI (is.length + 1))), (0, .ref 124), (1, .ref (241 + k0)), (2, .int (nI (D)))]) rfl rfl rfl nK_1 rfl rfl ?_
            refine w_p (pc1 := 5) rfl rfl ?_
            have ih := lp_130a (P := P) (X := X) hD hb hb6 hok suf (pre ++ [r]) (is ++ [r.1]) (sI C (61 + D) is.length r.1) t1 h3 (KB_n B (by omega) (frI_E fI (by omega)) hs1 (KE_I fI (by omega) B.2.1)) (ACK_k hs1 A0) (by rw [len_s, len_s]; omega) (fun j x hj => ?_) (frI_t hf fI) (stk_t hst hs1) (fun is1 C1 t2 q1 q2 q3 q4 q5 => ?_) (fun C1 t2 q1 q2 q3 => H2 C1 t2 (by rw [q1]; rfl) q2 q3)
            · rw [len_s, len_s] at ih
              exact ih
            · rw [sI_1]
              by_cases e : j < is.length
              · rw [List.getElem?_append_left e] at hj
                rw [if_neg (by omega)]
                exact hid j x hj
              · have hjl := get_lt hj
                rw [len_s] at hjl
                obtain rfl : j = is.length := by omega
                rw [List.getElem?_append_right (Nat.le_refl _), Nat.sub_self] at hj
                cases hj
                rw [if_pos ⟨rfl, rfl⟩]
            · have := H1 (r.1 :: is1) C1 t2 (by rw [q1]; rfl) (by rw [List.append_cons]; exact q2) q3 q4 (by rw [List.append_cons]; exact q5)
              rw [List.append_cons] at this
              exact this
          · rcases hq with ⟨hy, _⟩
            · cases hy
    · cases hx : tst r.2 N O (aWh a) with
      | none =>
        rw [hx] at hts
        rw [e0, hx] at H2
        refine w_p (pc1 := 7) rfl rfl ?_
        refine w_p (pc1 := 8) rfl rfl ?_
        refine w_m0 (pc1 := 11) rfl rfl (h_gC rfl rfl rfl rfl) rfl ?_
        refine w_p (pc1 := 12) rfl rfl ?_
        refine w_m0 (pc1 := 15) (st1 := .int (nI (b)) :: _) rfl rfl (x_gf (k := k0) rfl hA rfl) rfl ?_
        refine w_je (pc1 := 18) (vs := [.ref 113, .int (nI (b))]) (rest := [.int (nI (pre.length))]) (st1 := [.int (nI ((σ.1 b).1.length)), .int (nI (pre.length))]) (hsz) rfl rfl rfl (fun _ _ => rfl) rfl (by exact cl_v my_107 rfl rfl rfl (Nat.le_of_ble_eq_true rfl) rfl (MH_obj rfl rfl) rfl (by decide) rfl rfl) (by rfl) (Nat.le_of_ble_eq_true rfl) (Nat.le_of_ble_eq_true rfl) rfl (by rfl) ?_
        refine w_f (a := 78) (b := 21) (bN_ge_f (a := pre.length) (b := (σ.1 b).1.length) (by omega) (by omega) (by omega)) rfl rfl ?_
        refine w_p (pc1 := 22) rfl rfl ?_
        refine w_p (pc1 := 24) (st1 := .int 40 :: _) rfl rfl ?_
        refine w_f (a := 78) (b := 27) (bN_ge_f (a := is.length) (b := 40) (by omega) (by omega) (by omega)) rfl rfl ?_
        refine w_p (pc1 := 28) rfl rfl ?_
        refine w_p (pc1 := 29) rfl rfl ?_
        refine w_m0 (pc1 := 32) (st1 := .ref (241 + kk) :: _) rfl rfl (x_gf (k := k0) rfl hA rfl) rfl ?_
        refine w_p (pc1 := 33) rfl rfl ?_
        refine w_m0 (pc1 := 36) (st1 := .int (nI (b)) :: _) rfl rfl (x_gf (k := k0) rfl hA rfl) rfl ?_
        refine w_p (pc1 := 38) rfl rfl ?_
        refine w_je (pc1 := 41) (vs := [.int (nI (b)), .int (nI (pre.length))]) (rest := [.ref (241 + kk), .ref 124]) (st1 := [.int (nI ((b * 40 + pre.length) * 6)), .ref (241 + kk), .ref 124]) (hpl) rfl rfl rfl (fun _ _ => cn_s rfl rfl rfl rfl) rfl (by exact cl_s my_108 rfl rfl rfl (Nat.le_of_ble_eq_true rfl) rfl rfl) (by rfl) (Nat.le_of_ble_eq_true rfl) (Nat.le_of_ble_eq_true rfl) rfl (by rfl) ?_
        refine w_p (pc1 := 42) rfl rfl ?_
        refine w_ji (pc1 := 45) (vs := [.ref 124, .ref (241 + kk), .int (nI ((b * 40 + pre.length) * 6)), .int (nI (D))]) (rest := []) (hts) rfl rfl rfl (fun _ _ => rfl) rfl (by exact cl_v my_125 rfl rfl rfl (Nat.le_of_ble_eq_true rfl) rfl (MH_obj rfl rfl) rfl (by decide) rfl rfl) (by rfl) (Nat.le_of_ble_eq_true rfl) (Nat.le_of_ble_eq_true rfl) rfl (fun v h1 d1 hq => ?_) (fun a h1 d1 hq => ?_)
        · obtain ⟨y, hy, _⟩ := hq
          cases hy
        · rcases hq with ⟨_, t1, hs1, ha, hh, hn⟩
          · subst ha; subst hh; subst hn
            refine Or.inl ⟨ch_new (by decide) rfl, ?_⟩
            exact H2 C t1 rfl hf (stk_t hst hs1)
      | some y =>
        rw [hx] at hts
        cases y with
        | false =>
          have e1 : fnR (fun r => tst r.2 N O (aWh a)) (r :: suf) = fnR (fun r => tst r.2 N O (aWh a)) suf := by
            rw [e0, hx]
            show (fnR _ suf).map (fun x => x) = _
            cases fnR (fun r => tst r.2 N O (aWh a)) suf <;> rfl
          rw [e1] at H1 H2
          refine w_p (pc1 := 7) rfl rfl ?_
          refine w_p (pc1 := 8) rfl rfl ?_
          refine w_m0 (pc1 := 11) rfl rfl (h_gC rfl rfl rfl rfl) rfl ?_
          refine w_p (pc1 := 12) rfl rfl ?_
          refine w_m0 (pc1 := 15) (st1 := .int (nI (b)) :: _) rfl rfl (x_gf (k := k0) rfl hA rfl) rfl ?_
          refine w_je (pc1 := 18) (vs := [.ref 113, .int (nI (b))]) (rest := [.int (nI (pre.length))]) (st1 := [.int (nI ((σ.1 b).1.length)), .int (nI (pre.length))]) (hsz) rfl rfl rfl (fun _ _ => rfl) rfl (by exact cl_v my_107 rfl rfl rfl (Nat.le_of_ble_eq_true rfl) rfl (MH_obj rfl rfl) rfl (by decide) rfl rfl) (by rfl) (Nat.le_of_ble_eq_true rfl) (Nat.le_of_ble_eq_true rfl) rfl (by rfl) ?_
          refine w_f (a := 78) (b := 21) (bN_ge_f (a := pre.length) (b := (σ.1 b).1.length) (by omega) (by omega) (by omega)) rfl rfl ?_
          refine w_p (pc1 := 22) rfl rfl ?_
          refine w_p (pc1 := 24) (st1 := .int 40 :: _) rfl rfl ?_
          refine w_f (a := 78) (b := 27) (bN_ge_f (a := is.length) (b := 40) (by omega) (by omega) (by omega)) rfl rfl ?_
          refine w_p (pc1 := 28) rfl rfl ?_
          refine w_p (pc1 := 29) rfl rfl ?_
          refine w_m0 (pc1 := 32) (st1 := .ref (241 + kk) :: _) rfl rfl (x_gf (k := k0) rfl hA rfl) rfl ?_
          refine w_p (pc1 := 33) rfl rfl ?_
          refine w_m0 (pc1 := 36) (st1 := .int (nI (b)) :: _) rfl rfl (x_gf (k := k0) rfl hA rfl) rfl ?_
          refine w_p (pc1 := 38) rfl rfl ?_
          refine w_je (pc1 := 41) (vs := [.int (nI (b)), .int (nI (pre.length))]) (rest := [.ref (241 + kk), .ref 124]) (st1 := [.int (nI ((b * 40 + pre.length) * 6)), .ref (241 + kk), .ref 124]) (hpl) rfl rfl rfl (fun _ _ => cn_s rfl rfl rfl rfl) rfl (by exact cl_s my_108 rfl rfl rfl (Nat.le_of_ble_eq_true rfl) rfl rfl) (by rfl) (Nat.le_of_ble_eq_true rfl) (Nat.le_of_ble_eq_true rfl) rfl (by rfl) ?_
          refine w_p (pc1 := 42) rfl rfl ?_
          refine w_ji (pc1 := 45) (vs := [.ref 124, .ref (241 + kk), .int (nI ((b * 40 + pre.length) * 6)), .int (nI (D))]) (rest := []) (hts) rfl rfl rfl (fun _ _ => rfl) rfl (by exact cl_v my_125 rfl rfl rfl (Nat.le_of_ble_eq_true rfl) rfl (MH_obj rfl rfl) rfl (by decide) rfl rfl) (by rfl) (Nat.le_of_ble_eq_true rfl) (Nat.le_of_ble_eq_true rfl) rfl (fun v h1 d1 hq => ?_) (fun a h1 d1 hq => ?_)
          · obtain ⟨y, hy, hv, ⟨t1, hs1, hh⟩, hn⟩ := hq
            cases hy
            subst hv; subst hh; subst hn
            refine w_t (a := 72) (b := 48) rfl rfl rfl ?_
            refine w_iinc (pc1 := 75) (u := nI (pre.length)) (z := nI (pre.length + 1)) (al1 := [(4, .int (nI (pre.length + 1))), (3, .int (nI (is.length))), (0, .ref 124), (1, .ref (241 + k0)), (2, .int (nI (D)))]) rfl rfl rfl nK_1 rfl rfl ?_
            refine w_p (pc1 := 5) rfl rfl ?_
            have ih := lp_130a (P := P) (X := X) hD hb hb6 hok suf (pre ++ [r]) is C t1 h3 (KB_n B (by omega) frE_r hs1 B.2.1) (ACK_k hs1 A0) (by rw [len_s]; omega) hid hf (stk_t hst hs1) H1 H2
            rw [len_s] at ih
            exact ih
          · rcases hq with ⟨hy, _⟩
            · cases hy
        | true =>
          have e1 : fnR (fun r => tst r.2 N O (aWh a)) (r :: suf) = (fnR (fun r => tst r.2 N O (aWh a)) suf).map (fun x => r.1 :: x) := by
            rw [e0, hx]
            rfl
          rw [e1] at H1 H2
          have fI : frI (61 + D) C (sI C (61 + D) is.length r.1) := frI_I
          refine w_p (pc1 := 7) rfl rfl ?_
          refine w_p (pc1 := 8) rfl rfl ?_
          refine w_m0 (pc1 := 11) rfl rfl (h_gC rfl rfl rfl rfl) rfl ?_
          refine w_p (pc1 := 12) rfl rfl ?_
          refine w_m0 (pc1 := 15) (st1 := .int (nI (b)) :: _) rfl rfl (x_gf (k := k0) rfl hA rfl) rfl ?_
          refine w_je (pc1 := 18) (vs := [.ref 113, .int (nI (b))]) (rest := [.int (nI (pre.length))]) (st1 := [.int (nI ((σ.1 b).1.length)), .int (nI (pre.length))]) (hsz) rfl rfl rfl (fun _ _ => rfl) rfl (by exact cl_v my_107 rfl rfl rfl (Nat.le_of_ble_eq_true rfl) rfl (MH_obj rfl rfl) rfl (by decide) rfl rfl) (by rfl) (Nat.le_of_ble_eq_true rfl) (Nat.le_of_ble_eq_true rfl) rfl (by rfl) ?_
          refine w_f (a := 78) (b := 21) (bN_ge_f (a := pre.length) (b := (σ.1 b).1.length) (by omega) (by omega) (by omega)) rfl rfl ?_
          refine w_p (pc1 := 22) rfl rfl ?_
          refine w_p (pc1 := 24) (st1 := .int 40 :: _) rfl rfl ?_
          refine w_f (a := 78) (b := 27) (bN_ge_f (a := is.length) (b := 40) (by omega) (by omega) (by omega)) rfl rfl ?_
          refine w_p (pc1 := 28) rfl rfl ?_
          refine w_p (pc1 := 29) rfl rfl ?_
          refine w_m0 (pc1 := 32) (st1 := .ref (241 + kk) :: _) rfl rfl (x_gf (k := k0) rfl hA rfl) rfl ?_
          refine w_p (pc1 := 33) rfl rfl ?_
          refine w_m0 (pc1 := 36) (st1 := .int (nI (b)) :: _) rfl rfl (x_gf (k := k0) rfl hA rfl) rfl ?_
          refine w_p (pc1 := 38) rfl rfl ?_
          refine w_je (pc1 := 41) (vs := [.int (nI (b)), .int (nI (pre.length))]) (rest := [.ref (241 + kk), .ref 124]) (st1 := [.int (nI ((b * 40 + pre.length) * 6)), .ref (241 + kk), .ref 124]) (hpl) rfl rfl rfl (fun _ _ => cn_s rfl rfl rfl rfl) rfl (by exact cl_s my_108 rfl rfl rfl (Nat.le_of_ble_eq_true rfl) rfl rfl) (by rfl) (Nat.le_of_ble_eq_true rfl) (Nat.le_of_ble_eq_true rfl) rfl (by rfl) ?_
          refine w_p (pc1 := 42) rfl rfl ?_
          refine w_ji (pc1 := 45) (vs := [.ref 124, .ref (241 + kk), .int (nI ((b * 40 + pre.length) * 6)), .int (nI (D))]) (rest := []) (hts) rfl rfl rfl (fun _ _ => rfl) rfl (by exact cl_v my_125 rfl rfl rfl (Nat.le_of_ble_eq_true rfl) rfl (MH_obj rfl rfl) rfl (by decide) rfl rfl) (by rfl) (Nat.le_of_ble_eq_true rfl) (Nat.le_of_ble_eq_true rfl) rfl (fun v h1 d1 hq => ?_) (fun a h1 d1 hq => ?_)
          · obtain ⟨y, hy, hv, ⟨t1, hs1, hh⟩, hn⟩ := hq
            cases hy
            subst hv; subst hh; subst hn
            have hA := stk_o hs1 hA
            refine w_f (a := 72) (b := 48) rfl rfl rfl ?_
            refine w_p (pc1 := 49) rfl rfl ?_
            refine w_m0 (pc1 := 52) rfl rfl (h_gC rfl rfl rfl rfl) rfl ?_
            refine w_p (pc1 := 53) rfl rfl ?_
            refine w_m0 (pc1 := 54) (st1 := .ref (61 + D + 100) :: _) rfl rfl (n_als (e := D) rfl rfl (by decide) rfl (by omega) (KS_fo B.1 (by omega))) rfl ?_
            refine w_p (pc1 := 55) rfl rfl ?_
            refine w_p (pc1 := 56) rfl rfl ?_
            refine w_m0 (pc1 := 59) rfl rfl (h_gC rfl rfl rfl rfl) rfl ?_
            refine w_p (pc1 := 60) rfl rfl ?_
            refine w_m0 (pc1 := 63) (st1 := .int (nI (b)) :: _) rfl rfl (x_gf (k := k0) rfl hA rfl) rfl ?_
            refine w_p (pc1 := 65) rfl rfl ?_
            refine w_je (pc1 := 68) (vs := [.ref 113, .int (nI (b)), .int (nI (pre.length))]) (rest := [.int (nI (is.length)), .ref (61 + D + 100)]) (st1 := [.int (r.1), .int (nI (is.length)), .ref (61 + D + 100)]) (idK (d := d + 8) (sl := 0) B.2.1.1 hb6 h1) rfl rfl rfl (fun _ _ => rfl) rfl (by exact cl_v my_131 rfl rfl rfl (Nat.le_of_ble_eq_true rfl) rfl (MH_obj rfl rfl) rfl (by decide) rfl rfl) (by rfl) (Nat.le_of_ble_eq_true rfl) (Nat.le_of_ble_eq_true rfl) rfl (by rfl) ?_
            refine w_m0 (pc1 := 69) rfl rfl (n_is (k := 61 + D) (e := is.length) rfl (skI (by omega)) rfl (by omega)) rfl ?_
            refine w_iinc (pc1 := 72) (u := nI (is.length)) (z := nI (is.length + 1)) (al1 := [(3, .int (nI (is.length + 1))), (4, .int (nI (pre.length))), (0, .ref 124), (1, .ref (241 + k0)), (2, .int (nI (D)))]) rfl rfl rfl nK_1 rfl rfl ?_
            refine w_iinc (pc1 := 75) (u := nI (pre.length)) (z := nI (pre.length + 1)) (al1 := [(4, .int (nI (pre.length + 1))), (3, .int (nI (is.length + 1))), (0, .ref 124), (1, .ref (241 + k0)), (2, .int (nI (D)))]) rfl rfl rfl nK_1 rfl rfl ?_
            refine w_p (pc1 := 5) rfl rfl ?_
            have ih := lp_130a (P := P) (X := X) hD hb hb6 hok suf (pre ++ [r]) (is ++ [r.1]) (sI C (61 + D) is.length r.1) t1 h3 (KB_n B (by omega) (frI_E fI (by omega)) hs1 (KE_I fI (by omega) B.2.1)) (ACK_k hs1 A0) (by rw [len_s, len_s]; omega) (fun j x hj => ?_) (frI_t hf fI) (stk_t hst hs1) (fun is1 C1 t2 q1 q2 q3 q4 q5 => ?_) (fun C1 t2 q1 q2 q3 => H2 C1 t2 (by rw [q1]; rfl) q2 q3)
            · rw [len_s, len_s] at ih
              exact ih
            · rw [sI_1]
              by_cases e : j < is.length
              · rw [List.getElem?_append_left e] at hj
                rw [if_neg (by omega)]
                exact hid j x hj
              · have hjl := get_lt hj
                rw [len_s] at hjl
                obtain rfl : j = is.length := by omega
                rw [List.getElem?_append_right (Nat.le_refl _), Nat.sub_self] at hj
                cases hj
                rw [if_pos ⟨rfl, rfl⟩]
            · have := H1 (r.1 :: is1) C1 t2 (by rw [q1]; rfl) (by rw [List.append_cons]; exact q2) q3 q4 (by rw [List.append_cons]; exact q5)
              rw [List.append_cons] at this
              exact this
          · rcases hq with ⟨hy, _⟩
            · cases hy
set_option maxRecDepth 100000 in
theorem lp_130b2 {C0 : co_T} {t0 : ab_H} {is : List Int32} (ho : okSt S) (hS : STP L xs S n (D + 1)) (hD : D < 13) (hk1 : aKd a = 2) (hb : aTb a = some b) (hb6 : b < 6) (hi4 : is.length ≤ 40) : ∀ (suf pre : List Int32) (C : co_T) (t : ab_H) (σ : es_T), pre ++ suf = is → KB C t S σ D w2 w3 N O → ACK t k0 a → (∀ j x, is[j]? = some x → C.1 (61 + D) j = x) → frE D (D + 1) C0 C → stk t0 t → Wd L xs (4 * n + 12 + 1) y_130 (81, [(4, .int (nI (pre.length))), (3, .int (nI (is.length))), (0, .ref 124), (1, .ref (241 + k0)), (2, .int (nI (D)))], [], MH C t, sl) (PR C0 t0 (sWd S) D (D + 1) sl (lop (chg1 (stp S n) a N O) suf σ)) (XR C0 t0 D (D + 1) sl (lop (chg1 (stp S n) a N O) suf σ))
  | [], pre, C, t, σ, hp, B, A0, hid, hf, hst => by
    rw [List.append_nil] at hp
    have hl2 := congrArg List.length hp
    obtain ⟨kc, ks, fc, fs, vw, A⟩ := id A0
    have hA := A.1
    rw [hb, hk1] at hA
    have h40 := (B.2.1.1 b hb6).2.2.1
    have hw6 := ho.1 b hb6
    refine w_p (pc1 := 83) rfl rfl ?_
    refine w_p (pc1 := 84) rfl rfl ?_
    refine w_t (a := 212) (b := 87) (bN_ge_t (a := pre.length) (b := is.length) (by omega) (by omega) (by omega)) rfl rfl ?_
    refine w_r rfl rfl rfl (fun _ _ => rfl) rfl ?_
    exact ⟨rfl, rfl, ⟨C, t, ⟨B.2.1, hf, hst⟩, rfl⟩, rfl⟩
  | x :: suf, pre, C, t, σ, hp, B, A0, hid, hf, hst => by
    obtain ⟨h1, h2, h3⟩ := get_ap hp
    obtain ⟨kc, ks, fc, fs, vw, A⟩ := id A0
    have hA := A.1
    rw [hb, hk1] at hA
    have h40 := (B.2.1.1 b hb6).2.2.1
    have hw6 := ho.1 b hb6
    have hx := hid _ _ h1
    have hrw := rowK (L := L) (xs := xs) (t := t) (d := 4 * n + 10) (sl := 0) (i := x) B.2.1.1 hb6
    have ih := lp_130b2 (C0 := C0) (t0 := t0) ho hS hD hk1 hb hb6 hi4 suf (pre ++ [x])
    rw [len_s] at ih
    have e0 : chg1 (stp S n) a N O x σ = match fdr x (σ.1 b).1 0 with | none => (σ, none) | some (_, r) => (if aKd a = 2 then stp S n 2 b x r.2 r.2 σ else (match setS r.2 N O r.2 (aCs a) (aSs a) with | none => (σ, some byZ) | some f => stp S n 1 b x r.2 f σ)) := by unfold chg1; rw [hb]; rfl
    cases hfd : fdr x (σ.1 b).1 0 with
    | none =>
      rw [hfd] at hrw
      have e1 : chg1 (stp S n) a N O x σ = (σ, none) := by rw [e0, hfd]
      rw [lop_n e1]
      refine w_p (pc1 := 83) rfl rfl ?_
      refine w_p (pc1 := 84) rfl rfl ?_
      refine w_f (a := 212) (b := 87) (bN_ge_f (a := pre.length) (b := is.length) (by omega) (by omega) (by omega)) rfl rfl ?_
      refine w_p (pc1 := 88) rfl rfl ?_
      refine w_m0 (pc1 := 91) rfl rfl (h_gC rfl rfl rfl rfl) rfl ?_
      refine w_p (pc1 := 92) rfl rfl ?_
      refine w_m0 (pc1 := 93) (st1 := .ref (61 + D + 100) :: _) rfl rfl (n_als (e := D) rfl rfl (by decide) rfl (by omega) (KS_fo B.1 (by omega))) rfl ?_
      refine w_p (pc1 := 95) rfl rfl ?_
      refine w_m0 (pc1 := 96) (st1 := .int (x) :: _) rfl rfl (n_ile (k := 61 + D) (e := pre.length) rfl (skI (by omega)) rfl (by omega) (hx)) rfl ?_
      refine w_p (pc1 := 98) (al1 := [(5, .int (x)), (4, .int (nI (pre.length))), (3, .int (nI (is.length))), (0, .ref 124), (1, .ref (241 + k0)), (2, .int (nI (D)))]) rfl rfl ?_
      refine w_p (pc1 := 99) rfl rfl ?_
      refine w_m0 (pc1 := 102) rfl rfl (h_gC rfl rfl rfl rfl) rfl ?_
      refine w_p (pc1 := 103) rfl rfl ?_
      refine w_m0 (pc1 := 106) (st1 := .int (nI (b)) :: _) rfl rfl (x_gf (k := k0) rfl hA rfl) rfl ?_
      refine w_p (pc1 := 108) rfl rfl ?_
      refine w_je (pc1 := 111) (vs := [.ref 113, .int (nI (b)), .int (x)]) (rest := []) (st1 := [.int (-1)]) (hrw) rfl rfl rfl (fun _ _ => rfl) rfl (by exact cl_v my_132 rfl rfl rfl (Nat.le_of_ble_eq_true rfl) rfl (MH_obj rfl rfl) rfl (by decide) rfl rfl) (by rfl) (Nat.le_of_ble_eq_true rfl) (Nat.le_of_ble_eq_true rfl) rfl (by rfl) ?_
      refine w_p (pc1 := 113) (al1 := [(6, .int (-1)), (5, .int (x)), (4, .int (nI (pre.length))), (3, .int (nI (is.length))), (0, .ref 124), (1, .ref (241 + k0)), (2, .int (nI (D)))]) rfl rfl ?_
      refine w_p (pc1 := 115) rfl rfl ?_
      refine w_p (pc1 := 116) (st1 := .int (-1) :: _) rfl rfl ?_
      refine w_t (a := 206) (b := 119) rfl rfl rfl ?_
      refine w_iinc (pc1 := 209) (u := nI (pre.length)) (z := nI (pre.length + 1)) (al1 := [(4, .int (nI (pre.length + 1))), (6, .int (-1)), (5, .int (x)), (3, .int (nI (is.length))), (0, .ref 124), (1, .ref (241 + k0)), (2, .int (nI (D)))]) rfl rfl rfl nK_1 rfl rfl ?_
      refine w_p (pc1 := 81) rfl rfl ?_
      refine Wd_al (al := [(4, .int (nI (pre.length + 1))), (3, .int (nI (is.length))), (0, .ref 124), (1, .ref (241 + k0)), (2, .int (nI (D)))]) (sba_p [0, 3, 4, 5, 6] rfl rfl) ?_
      exact ih C t σ h3 B A0 hid hf hst
    | some q =>
      obtain ⟨k, r⟩ := q
      rw [hfd] at hrw
      obtain ⟨-, hr, hr1⟩ := fdr_s hfd
      rw [Nat.sub_zero] at hr
      have hkl := get_lt hr
      have fO : frB (31 + (D + 1)) C (ldC C (31 + (D + 1)) ((b * 40 + k) * 6)) := ⟨fun _ _ => rfl, fun _ _ a => ld_o a, rfl⟩
      have hOb : bfK (ldC C (31 + (D + 1)) ((b * 40 + k) * 6)) (31 + (D + 1)) (sWd S b) r.2 := ld_v (by omega) B.2.1.1 hb6 hr
      have hld := m_133 (L := L) (xs := xs) (t := t) (d := 4 * n + 11) (sl := 0) (kr := 31 + (D + 1)) (skO (by omega)) B.2.1.1 hb6 hkl
      have e1 : chg1 (stp S n) a N O x σ = stp S n 2 b x r.2 r.2 σ := by rw [e0, hfd]; exact if_pos hk1
      have hcall := hS.2.2 b x r.2 r.2 σ _ t hb6 (KS_B B.1 fO (by omega)) (KE_B fO (by omega) B.2.1) hOb
      refine w_p (pc1 := 83) rfl rfl ?_
      refine w_p (pc1 := 84) rfl rfl ?_
      refine w_f (a := 212) (b := 87) (bN_ge_f (a := pre.length) (b := is.length) (by omega) (by omega) (by omega)) rfl rfl ?_
      refine w_p (pc1 := 88) rfl rfl ?_
      refine w_m0 (pc1 := 91) rfl rfl (h_gC rfl rfl rfl rfl) rfl ?_
      refine w_p (pc1 := 92) rfl rfl ?_
      refine w_m0 (pc1 := 93) (st1 := .ref (61 + D + 100) :: _) rfl rfl (n_als (e := D) rfl rfl (by decide) rfl (by omega) (KS_fo B.1 (by omega))) rfl ?_
      refine w_p (pc1 := 95) rfl rfl ?_
      refine w_m0 (pc1 := 96) (st1 := .int (x) :: _) rfl rfl (n_ile (k := 61 + D) (e := pre.length) rfl (skI (by omega)) rfl (by omega) (hx)) rfl ?_
      refine w_p (pc1 := 98) (al1 := [(5, .int (x)), (4, .int (nI (pre.length))), (3, .int (nI (is.length))), (0, .ref 124), (1, .ref (241 + k0)), (2, .int (nI (D)))]) rfl rfl ?_
      refine w_p (pc1 := 99) rfl rfl ?_
      refine w_m0 (pc1 := 102) rfl rfl (h_gC rfl rfl rfl rfl) rfl ?_
      refine w_p (pc1 := 103) rfl rfl ?_
      refine w_m0 (pc1 := 106) (st1 := .int (nI (b)) :: _) rfl rfl (x_gf (k := k0) rfl hA rfl) rfl ?_
      refine w_p (pc1 := 108) rfl rfl ?_
      refine w_je (pc1 := 111) (vs := [.ref 113, .int (nI (b)), .int (x)]) (rest := []) (st1 := [.int (nI (k))]) (hrw) rfl rfl rfl (fun _ _ => rfl) rfl (by exact cl_v my_132 rfl rfl rfl (Nat.le_of_ble_eq_true rfl) rfl (MH_obj rfl rfl) rfl (by decide) rfl rfl) (by rfl) (Nat.le_of_ble_eq_true rfl) (Nat.le_of_ble_eq_true rfl) rfl (by rfl) ?_
      refine w_p (pc1 := 113) (al1 := [(6, .int (nI (k))), (5, .int (x)), (4, .int (nI (pre.length))), (3, .int (nI (is.length))), (0, .ref 124), (1, .ref (241 + k0)), (2, .int (nI (D)))]) rfl rfl ?_
      refine w_p (pc1 := 115) rfl rfl ?_
      refine w_p (pc1 := 116) (st1 := .int (-1) :: _) rfl rfl ?_
      refine w_f (a := 206) (b := 119) (cb_eq_f (by exact nK_m1 (by omega))) rfl rfl ?_
      refine w_p (pc1 := 120) rfl rfl ?_
      refine w_m0 (pc1 := 123) rfl rfl (h_gC rfl rfl rfl rfl) rfl ?_
      refine w_p (pc1 := 124) rfl rfl ?_
      refine w_m0 (pc1 := 127) (st1 := .int (nI (b)) :: _) rfl rfl (x_gf (k := k0) rfl hA rfl) rfl ?_
      refine w_p (pc1 := 129) rfl rfl ?_
      refine w_p (pc1 := 130) rfl rfl ?_
      refine w_m0 (pc1 := 133) rfl rfl (h_gC rfl rfl rfl rfl) rfl ?_
      refine w_p (pc1 := 134) rfl rfl ?_
      refine w_p (pc1 := 135) (st1 := .int 1 :: _) rfl rfl ?_
      refine w_iadd (pc1 := 136) (u := nI (D)) (v := nI (1)) (z := nI (D + 1)) rfl (nK_add) rfl ?_
      refine w_m0 (pc1 := 137) (st1 := .ref (31 + (D + 1) + 100) :: _) rfl rfl (n_als (e := D + 1) rfl rfl (by decide) rfl (by omega) (KS_ol B.1 (by omega))) rfl ?_
      refine w_je (pc1 := 140) (vs := [.ref 113, .int (nI (b)), .int (nI (k)), .ref (31 + (D + 1) + 100)]) (rest := []) (st1 := []) (hld) rfl rfl rfl (fun _ _ => rfl) rfl (by exact cl_v my_133 rfl rfl rfl (Nat.le_of_ble_eq_true rfl) rfl (MH_obj rfl rfl) rfl (by decide) rfl rfl) (by rfl) (Nat.le_of_ble_eq_true rfl) (Nat.le_of_ble_eq_true rfl) rfl (by rfl) ?_
      refine w_p (pc1 := 141) rfl rfl ?_
      refine w_m0 (pc1 := 144) (st1 := .int 2 :: _) rfl rfl (x_gf (k := k0) rfl hA rfl) rfl ?_
      refine w_p (pc1 := 145) (st1 := .int 2 :: _) rfl rfl ?_
      refine w_f (a := 164) (b := 148) rfl rfl rfl ?_
      refine w_p (pc1 := 149) rfl rfl ?_
      refine w_p (pc1 := 150) rfl rfl ?_
      refine w_m0 (pc1 := 153) (st1 := .int (nI (b)) :: _) rfl rfl (x_gf (k := k0) rfl hA rfl) rfl ?_
      refine w_p (pc1 := 155) rfl rfl ?_
      refine w_p (pc1 := 156) rfl rfl ?_
      refine w_p (pc1 := 157) (st1 := .int 1 :: _) rfl rfl ?_
      refine w_iadd (pc1 := 158) (u := nI (D)) (v := nI (1)) (z := nI (D + 1)) rfl (nK_add) rfl ?_
      refine w_ji (pc1 := 161) (vs := [.ref 124, .int (nI (b)), .int (x), .int (nI (D + 1))]) (rest := []) (hcall) rfl rfl rfl (fun _ _ => rfl) rfl (by exact cl_v my_134 rfl rfl rfl (Nat.le_of_ble_eq_true rfl) rfl (MH_obj rfl rfl) rfl (by decide) rfl rfl) (by rfl) (Nat.le_of_ble_eq_true rfl) (Nat.le_of_ble_eq_true rfl) rfl (fun v h1 d1 hq => ?_) (fun a h1 d1 hq => ?_)
      · obtain ⟨z1, hv, ⟨C9, t9, ⟨z2, z3, z4⟩, hh⟩, hn⟩ := hq
        subst hv; subst hh; subst hn
        have f9 : frE D (D + 1) C C9 := frE_t (frB_E fO (by omega)) (frE_u z3 (by omega) (by omega))
        refine w_p (pc1 := 206) rfl rfl ?_
        refine w_iinc (pc1 := 209) (u := nI (pre.length)) (z := nI (pre.length + 1)) (al1 := [(4, .int (nI (pre.length + 1))), (6, .int (nI (k))), (5, .int (x)), (3, .int (nI (is.length))), (0, .ref 124), (1, .ref (241 + k0)), (2, .int (nI (D)))]) rfl rfl rfl nK_1 rfl rfl ?_
        refine w_p (pc1 := 81) rfl rfl ?_
        have f9i : ∀ j, C9.1 (61 + D) j = C.1 (61 + D) j := fun j => (z3.1 (61 + D) j (by omega) (by omega) (by omega)).trans (fO.1 (61 + D) j)
        refine Wd_al (al := [(4, .int (nI (pre.length + 1))), (3, .int (nI (is.length))), (0, .ref 124), (1, .ref (241 + k0)), (2, .int (nI (D)))]) (sba_p [0, 3, 4, 5, 6] rfl rfl) ?_
        rw [lop_n (show chg1 (stp S n) a N O x σ = ((stp S n 2 b x r.2 r.2 σ).1, none) by rw [e1, ← z1])]
        exact ih C9 t9 _ h3 (KB_n B (by omega) f9 z4 z2) (ACK_k z4 A0) (fun j y hj => (f9i j).trans (hid j y hj)) (frE_t hf f9) (stk_t hst z4)
      · rcases hq with ⟨e9, C9, t9, ⟨z1, z2, z3, z4, z5⟩, ha, hh, hn⟩
        · subst ha; subst hh; subst hn
          refine Or.inl ⟨ch_new (by decide) rfl, ?_⟩
          rw [lop_s (show chg1 (stp S n) a N O x σ = ((stp S n 2 b x r.2 r.2 σ).1, some e9) by rw [e1, ← z1])]
          exact ⟨e9, C9, t9, ⟨rfl, z2, z3, frE_t hf (frE_t (frB_E fO (by omega)) (frE_u z4 (by omega) (by omega))), stk_t hst z5⟩, rfl, rfl, rfl⟩
set_option maxRecDepth 100000 in
theorem lp_130b1 {C0 : co_T} {t0 : ab_H} {is : List Int32} (ho : okSt S) (hS : STP L xs S n (D + 1)) (hD : D < 13) (hk1 : aKd a = 1) (hb : aTb a = some b) (hb6 : b < 6) (hi4 : is.length ≤ 40) (h6 : (aSs a).length ≤ 6) (hl : (aCs a).length = (aSs a).length) (hcw : ∀ c, c ∈ aCs a → c < sWd S b) (hsok : ∀ s, s ∈ aSs a → s ≠ none ∧ okS (sWd S b) w2 w3 s) : ∀ (suf pre : List Int32) (C : co_T) (t : ab_H) (σ : es_T), pre ++ suf = is → KB C t S σ D w2 w3 N O → ACK t k0 a → (∀ j x, is[j]? = some x → C.1 (61 + D) j = x) → frE D (D + 1) C0 C → stk t0 t → Wd L xs (4 * n + 12 + 1) y_130 (81, [(4, .int (nI (pre.length))), (3, .int (nI (is.length))), (0, .ref 124), (1, .ref (241 + k0)), (2, .int (nI (D)))], [], MH C t, sl) (PR C0 t0 (sWd S) D (D + 1) sl (lop (chg1 (stp S n) a N O) suf σ)) (XR C0 t0 D (D + 1) sl (lop (chg1 (stp S n) a N O) suf σ))
  | [], pre, C, t, σ, hp, B, A0, hid, hf, hst => by
    rw [List.append_nil] at hp
    have hl2 := congrArg List.length hp
    obtain ⟨kc, ks, fc, fs, vw, A⟩ := id A0
    have hA := A.1
    rw [hb, hk1] at hA
    have h40 := (B.2.1.1 b hb6).2.2.1
    have hw6 := ho.1 b hb6
    refine w_p (pc1 := 83) rfl rfl ?_
    refine w_p (pc1 := 84) rfl rfl ?_
    refine w_t (a := 212) (b := 87) (bN_ge_t (a := pre.length) (b := is.length) (by omega) (by omega) (by omega)) rfl rfl ?_
    refine w_r rfl rfl rfl (fun _ _ => rfl) rfl ?_
    exact ⟨rfl, rfl, ⟨C, t, ⟨B.2.1, hf, hst⟩, rfl⟩, rfl⟩
  | x :: suf, pre, C, t, σ, hp, B, A0, hid, hf, hst => by
    obtain ⟨h1, h2, h3⟩ := get_ap hp
    obtain ⟨kc, ks, fc, fs, vw, A⟩ := id A0
    have hA := A.1
    rw [hb, hk1] at hA
    have h40 := (B.2.1.1 b hb6).2.2.1
    have hw6 := ho.1 b hb6
    have hx := hid _ _ h1
    have hrw := rowK (L := L) (xs := xs) (t := t) (d := 4 * n + 10) (sl := 0) (i := x) B.2.1.1 hb6
    have ih := lp_130b1 (C0 := C0) (t0 := t0) ho hS hD hk1 hb hb6 hi4 h6 hl hcw hsok suf (pre ++ [x])
    rw [len_s] at ih
    have e0 : chg1 (stp S n) a N O x σ = match fdr x (σ.1 b).1 0 with | none => (σ, none) | some (_, r) => (if aKd a = 2 then stp S n 2 b x r.2 r.2 σ else (match setS r.2 N O r.2 (aCs a) (aSs a) with | none => (σ, some byZ) | some f => stp S n 1 b x r.2 f σ)) := by unfold chg1; rw [hb]; rfl
    cases hfd : fdr x (σ.1 b).1 0 with
    | none =>
      rw [hfd] at hrw
      have e1 : chg1 (stp S n) a N O x σ = (σ, none) := by rw [e0, hfd]
      rw [lop_n e1]
      refine w_p (pc1 := 83) rfl rfl ?_
      refine w_p (pc1 := 84) rfl rfl ?_
      refine w_f (a := 212) (b := 87) (bN_ge_f (a := pre.length) (b := is.length) (by omega) (by omega) (by omega)) rfl rfl ?_
      refine w_p (pc1 := 88) rfl rfl ?_
      refine w_m0 (pc1 := 91) rfl rfl (h_gC rfl rfl rfl rfl) rfl ?_
      refine w_p (pc1 := 92) rfl rfl ?_
      refine w_m0 (pc1 := 93) (st1 := .ref (61 + D + 100) :: _) rfl rfl (n_als (e := D) rfl rfl (by decide) rfl (by omega) (KS_fo B.1 (by omega))) rfl ?_
      refine w_p (pc1 := 95) rfl rfl ?_
      refine w_m0 (pc1 := 96) (st1 := .int (x) :: _) rfl rfl (n_ile (k := 61 + D) (e := pre.length) rfl (skI (by omega)) rfl (by omega) (hx)) rfl ?_
      refine w_p (pc1 := 98) (al1 := [(5, .int (x)), (4, .int (nI (pre.length))), (3, .int (nI (is.length))), (0, .ref 124), (1, .ref (241 + k0)), (2, .int (nI (D)))]) rfl rfl ?_
      refine w_p (pc1 := 99) rfl rfl ?_
      refine w_m0 (pc1 := 102) rfl rfl (h_gC rfl rfl rfl rfl) rfl ?_
      refine w_p (pc1 := 103) rfl rfl ?_
      refine w_m0 (pc1 := 106) (st1 := .int (nI (b)) :: _) rfl rfl (x_gf (k := k0) rfl hA rfl) rfl ?_
      refine w_p (pc1 := 108) rfl rfl ?_
      refine w_je (pc1 := 111) (vs := [.ref 113, .int (nI (b)), .int (x)]) (rest := []) (st1 := [.int (-1)]) (hrw) rfl rfl rfl (fun _ _ => rfl) rfl (by exact cl_v my_132 rfl rfl rfl (Nat.le_of_ble_eq_true rfl) rfl (MH_obj rfl rfl) rfl (by decide) rfl rfl) (by rfl) (Nat.le_of_ble_eq_true rfl) (Nat.le_of_ble_eq_true rfl) rfl (by rfl) ?_
      refine w_p (pc1 := 113) (al1 := [(6, .int (-1)), (5, .int (x)), (4, .int (nI (pre.length))), (3, .int (nI (is.length))), (0, .ref 124), (1, .ref (241 + k0)), (2, .int (nI (D)))]) rfl rfl ?_
      refine w_p (pc1 := 115) rfl rfl ?_
      refine w_p (pc1 := 116) (st1 := .int (-1) :: _) rfl rfl ?_
      refine w_t (a := 206) (b := 119) rfl rfl rfl ?_
      refine w_iinc (pc1 := 209) (u := nI (pre.length)) (z := nI (pre.length + 1)) (al1 := [(4, .int (nI (pre.length + 1))), (6, .int (-1)), (5, .int (x)), (3, .int (nI (is.length))), (0, .ref 124), (1, .ref (241 + k0)), (2, .int (nI (D)))]) rfl rfl rfl nK_1 rfl rfl ?_
      refine w_p (pc1 := 81) rfl rfl ?_
      refine Wd_al (al := [(4, .int (nI (pre.length + 1))), (3, .int (nI (is.length))), (0, .ref 124), (1, .ref (241 + k0)), (2, .int (nI (D)))]) (sba_p [0, 3, 4, 5, 6] rfl rfl) ?_
      exact ih C t σ h3 B A0 hid hf hst
    | some q =>
      obtain ⟨k, r⟩ := q
      rw [hfd] at hrw
      obtain ⟨-, hr, hr1⟩ := fdr_s hfd
      rw [Nat.sub_zero] at hr
      have hkl := get_lt hr
      have fO : frB (31 + (D + 1)) C (ldC C (31 + (D + 1)) ((b * 40 + k) * 6)) := ⟨fun _ _ => rfl, fun _ _ a => ld_o a, rfl⟩
      have hOb : bfK (ldC C (31 + (D + 1)) ((b * 40 + k) * 6)) (31 + (D + 1)) (sWd S b) r.2 := ld_v (by omega) B.2.1.1 hb6 hr
      have hld := m_133 (L := L) (xs := xs) (t := t) (d := 4 * n + 11) (sl := 0) (kr := 31 + (D + 1)) (skO (by omega)) B.2.1.1 hb6 hkl
      have fF : frB (46 + (D + 1)) (ldC C (31 + (D + 1)) ((b * 40 + k) * 6)) (ldC (ldC C (31 + (D + 1)) ((b * 40 + k) * 6)) (46 + (D + 1)) ((b * 40 + k) * 6)) := ⟨fun _ _ => rfl, fun _ _ a => ld_o a, rfl⟩
      have hW1 := KE_B fO (by omega) B.2.1
      have hFb : bfK (ldC (ldC C (31 + (D + 1)) ((b * 40 + k) * 6)) (46 + (D + 1)) ((b * 40 + k) * 6)) (46 + (D + 1)) (sWd S b) r.2 := ld_v (by omega) hW1.1 hb6 hr
      have hld2 := m_133 (L := L) (xs := xs) (t := t) (d := 4 * n + 11) (sl := 0) (kr := 46 + (D + 1)) (skF (by omega)) hW1.1 hb6 hkl
      have fOE : frE D (D + 1) C (ldC (ldC C (31 + (D + 1)) ((b * 40 + k) * 6)) (46 + (D + 1)) ((b * 40 + k) * 6)) := frE_t (frB_E fO (by omega)) (frB_E fF (by omega))
      have B2 : KB (ldC (ldC C (31 + (D + 1)) ((b * 40 + k) * 6)) (46 + (D + 1)) ((b * 40 + k) * 6)) t S σ D w2 w3 N O := KB_n B (by omega) fOE stk_r (KE_B fF (by omega) hW1)
      have hset := m_144 (L := L) (xs := xs) (d := 4 * n + 4) (sl := 0) hD hk1 hb hb6 (by omega) h6 hl hcw hw6 hsok B2.1 A0 (KB_env B2 hb6 hr) hFb
      have e1 : chg1 (stp S n) a N O x σ = match setS r.2 N O r.2 (aCs a) (aSs a) with | none => (σ, some byZ) | some f => stp S n 1 b x r.2 f σ := by rw [e0, hfd]; exact if_neg (by rw [hk1]; decide)
      cases hss : setS r.2 N O r.2 (aCs a) (aSs a) with
      | none =>
        rw [hss] at hset
        have e2 : chg1 (stp S n) a N O x σ = (σ, some byZ) := by rw [e1, hss]
        rw [lop_s e2]
        refine w_p (pc1 := 83) rfl rfl ?_
        refine w_p (pc1 := 84) rfl rfl ?_
        refine w_f (a := 212) (b := 87) (bN_ge_f (a := pre.length) (b := is.length) (by omega) (by omega) (by omega)) rfl rfl ?_
        refine w_p (pc1 := 88) rfl rfl ?_
        refine w_m0 (pc1 := 91) rfl rfl (h_gC rfl rfl rfl rfl) rfl ?_
        refine w_p (pc1 := 92) rfl rfl ?_
        refine w_m0 (pc1 := 93) (st1 := .ref (61 + D + 100) :: _) rfl rfl (n_als (e := D) rfl rfl (by decide) rfl (by omega) (KS_fo B.1 (by omega))) rfl ?_
        refine w_p (pc1 := 95) rfl rfl ?_
        refine w_m0 (pc1 := 96) (st1 := .int (x) :: _) rfl rfl (n_ile (k := 61 + D) (e := pre.length) rfl (skI (by omega)) rfl (by omega) (hx)) rfl ?_
        refine w_p (pc1 := 98) (al1 := [(5, .int (x)), (4, .int (nI (pre.length))), (3, .int (nI (is.length))), (0, .ref 124), (1, .ref (241 + k0)), (2, .int (nI (D)))]) rfl rfl ?_
        refine w_p (pc1 := 99) rfl rfl ?_
        refine w_m0 (pc1 := 102) rfl rfl (h_gC rfl rfl rfl rfl) rfl ?_
        refine w_p (pc1 := 103) rfl rfl ?_
        refine w_m0 (pc1 := 106) (st1 := .int (nI (b)) :: _) rfl rfl (x_gf (k := k0) rfl hA rfl) rfl ?_
        refine w_p (pc1 := 108) rfl rfl ?_
        refine w_je (pc1 := 111) (vs := [.ref 113, .int (nI (b)), .int (x)]) (rest := []) (st1 := [.int (nI (k))]) (hrw) rfl rfl rfl (fun _ _ => rfl) rfl (by exact cl_v my_132 rfl rfl rfl (Nat.le_of_ble_eq_true rfl) rfl (MH_obj rfl rfl) rfl (by decide) rfl rfl) (by rfl) (Nat.le_of_ble_eq_true rfl) (Nat.le_of_ble_eq_true rfl) rfl (by rfl) ?_
        refine w_p (pc1 := 113) (al1 := [(6, .int (nI (k))), (5, .int (x)), (4, .int (nI (pre.length))), (3, .int (nI (is.length))), (0, .ref 124), (1, .ref (241 + k0)), (2, .int (nI (D)))]) rfl rfl ?_
        refine w_p (pc1 := 115) rfl rfl ?_
        refine w_p (pc1 := 116) (st1 := .int (-1) :: _) rfl rfl ?_
        refine w_f (a := 206) (b := 119) (cb_eq_f (by exact nK_m1 (by omega))) rfl rfl ?_
        refine w_p (pc1 := 120) rfl rfl ?_
        refine w_m0 (pc1 := 123) rfl rfl (h_gC rfl rfl rfl rfl) rfl ?_
        refine w_p (pc1 := 124) rfl rfl ?_
        refine w_m0 (pc1 := 127) (st1 := .int (nI (b)) :: _) rfl rfl (x_gf (k := k0) rfl hA rfl) rfl ?_
        refine w_p (pc1 := 129) rfl rfl ?_
        refine w_p (pc1 := 130) rfl rfl ?_
        refine w_m0 (pc1 := 133) rfl rfl (h_gC rfl rfl rfl rfl) rfl ?_
        refine w_p (pc1 := 134) rfl rfl ?_
        refine w_p (pc1 := 135) (st1 := .int 1 :: _) rfl rfl ?_
        refine w_iadd (pc1 := 136) (u := nI (D)) (v := nI (1)) (z := nI (D + 1)) rfl (nK_add) rfl ?_
        refine w_m0 (pc1 := 137) (st1 := .ref (31 + (D + 1) + 100) :: _) rfl rfl (n_als (e := D + 1) rfl rfl (by decide) rfl (by omega) (KS_ol B.1 (by omega))) rfl ?_
        refine w_je (pc1 := 140) (vs := [.ref 113, .int (nI (b)), .int (nI (k)), .ref (31 + (D + 1) + 100)]) (rest := []) (st1 := []) (hld) rfl rfl rfl (fun _ _ => rfl) rfl (by exact cl_v my_133 rfl rfl rfl (Nat.le_of_ble_eq_true rfl) rfl (MH_obj rfl rfl) rfl (by decide) rfl rfl) (by rfl) (Nat.le_of_ble_eq_true rfl) (Nat.le_of_ble_eq_true rfl) rfl (by rfl) ?_
        refine w_p (pc1 := 141) rfl rfl ?_
        refine w_m0 (pc1 := 144) (st1 := .int 1 :: _) rfl rfl (x_gf (k := k0) rfl hA rfl) rfl ?_
        refine w_p (pc1 := 145) (st1 := .int 2 :: _) rfl rfl ?_
        refine w_t (a := 164) (b := 148) rfl rfl rfl ?_
        refine w_p (pc1 := 165) rfl rfl ?_
        refine w_m0 (pc1 := 168) rfl rfl (h_gC rfl rfl rfl rfl) rfl ?_
        refine w_p (pc1 := 169) rfl rfl ?_
        refine w_m0 (pc1 := 172) (st1 := .int (nI (b)) :: _) rfl rfl (x_gf (k := k0) rfl hA rfl) rfl ?_
        refine w_p (pc1 := 174) rfl rfl ?_
        refine w_p (pc1 := 175) rfl rfl ?_
        refine w_m0 (pc1 := 178) rfl rfl (h_gC rfl rfl rfl rfl) rfl ?_
        refine w_p (pc1 := 179) rfl rfl ?_
        refine w_p (pc1 := 180) (st1 := .int 1 :: _) rfl rfl ?_
        refine w_iadd (pc1 := 181) (u := nI (D)) (v := nI (1)) (z := nI (D + 1)) rfl (nK_add) rfl ?_
        refine w_m0 (pc1 := 182) (st1 := .ref (46 + (D + 1) + 100) :: _) rfl rfl (n_als (e := D + 1) rfl rfl (by decide) rfl (by omega) (KS_fr (KS_B B.1 fO (by omega)) (by omega))) rfl ?_
        refine w_je (pc1 := 185) (vs := [.ref 113, .int (nI (b)), .int (nI (k)), .ref (46 + (D + 1) + 100)]) (rest := []) (st1 := []) (hld2) rfl rfl rfl (fun _ _ => rfl) rfl (by exact cl_v my_133 rfl rfl rfl (Nat.le_of_ble_eq_true rfl) rfl (MH_obj rfl rfl) rfl (by decide) rfl rfl) (by rfl) (Nat.le_of_ble_eq_true rfl) (Nat.le_of_ble_eq_true rfl) rfl (by rfl) ?_
        refine w_p (pc1 := 186) rfl rfl ?_
        refine w_p (pc1 := 187) rfl rfl ?_
        refine w_p (pc1 := 189) rfl rfl ?_
        refine w_p (pc1 := 190) rfl rfl ?_
        refine w_ji (pc1 := 193) (vs := [.ref 124, .ref (241 + k0), .int (nI (k)), .int (nI (D))]) (rest := []) (hset) rfl rfl rfl (fun _ _ => rfl) rfl (by exact cl_v my_144 rfl rfl rfl (Nat.le_of_ble_eq_true rfl) rfl (MH_obj rfl rfl) rfl (by decide) rfl rfl) (by rfl) (Nat.le_of_ble_eq_true rfl) (Nat.le_of_ble_eq_true rfl) rfl (fun v h1 d1 hq => ?_) (fun a h1 d1 hq => ?_)
        · obtain ⟨_, ⟨f9, C9, t9, ⟨z1, _⟩, _⟩, _⟩ := hq
          cases z1
        · rcases hq with ⟨C9, t9, ⟨_, z2, z3⟩, ha, hh, hn⟩
          · subst ha; subst hh; subst hn
            refine Or.inl ⟨ch_new (by decide) rfl, ?_⟩
            have hE9 := KE_B z2 (by omega) B2.2.1
            exact ⟨byZ, sI C9 24 6 4, t9, ⟨rfl, KX_s hE9.2.2, spK_z, frE_t hf (frE_t fOE (frE_t (frB_E z2 (by omega)) frE_s)), stk_t hst z3⟩, rfl, rfl, rfl⟩
      | some f =>
        rw [hss] at hset
        have e2 : chg1 (stp S n) a N O x σ = stp S n 1 b x r.2 f σ := by rw [e1, hss]
        refine w_p (pc1 := 83) rfl rfl ?_
        refine w_p (pc1 := 84) rfl rfl ?_
        refine w_f (a := 212) (b := 87) (bN_ge_f (a := pre.length) (b := is.length) (by omega) (by omega) (by omega)) rfl rfl ?_
        refine w_p (pc1 := 88) rfl rfl ?_
        refine w_m0 (pc1 := 91) rfl rfl (h_gC rfl rfl rfl rfl) rfl ?_
        refine w_p (pc1 := 92) rfl rfl ?_
        refine w_m0 (pc1 := 93) (st1 := .ref (61 + D + 100) :: _) rfl rfl (n_als (e := D) rfl rfl (by decide) rfl (by omega) (KS_fo B.1 (by omega))) rfl ?_
        refine w_p (pc1 := 95) rfl rfl ?_
        refine w_m0 (pc1 := 96) (st1 := .int (x) :: _) rfl rfl (n_ile (k := 61 + D) (e := pre.length) rfl (skI (by omega)) rfl (by omega) (hx)) rfl ?_
        refine w_p (pc1 := 98) (al1 := [(5, .int (x)), (4, .int (nI (pre.length))), (3, .int (nI (is.length))), (0, .ref 124), (1, .ref (241 + k0)), (2, .int (nI (D)))]) rfl rfl ?_
        refine w_p (pc1 := 99) rfl rfl ?_
        refine w_m0 (pc1 := 102) rfl rfl (h_gC rfl rfl rfl rfl) rfl ?_
        refine w_p (pc1 := 103) rfl rfl ?_
        refine w_m0 (pc1 := 106) (st1 := .int (nI (b)) :: _) rfl rfl (x_gf (k := k0) rfl hA rfl) rfl ?_
        refine w_p (pc1 := 108) rfl rfl ?_
        refine w_je (pc1 := 111) (vs := [.ref 113, .int (nI (b)), .int (x)]) (rest := []) (st1 := [.int (nI (k))]) (hrw) rfl rfl rfl (fun _ _ => rfl) rfl (by exact cl_v my_132 rfl rfl rfl (Nat.le_of_ble_eq_true rfl) rfl (MH_obj rfl rfl) rfl (by decide) rfl rfl) (by rfl) (Nat.le_of_ble_eq_true rfl) (Nat.le_of_ble_eq_true rfl) rfl (by rfl) ?_
        refine w_p (pc1 := 113) (al1 := [(6, .int (nI (k))), (5, .int (x)), (4, .int (nI (pre.length))), (3, .int (nI (is.length))), (0, .ref 124), (1, .ref (241 + k0)), (2, .int (nI (D)))]) rfl rfl ?_
        refine w_p (pc1 := 115) rfl rfl ?_
        refine w_p (pc1 := 116) (st1 := .int (-1) :: _) rfl rfl ?_
        refine w_f (a := 206) (b := 119) (cb_eq_f (by exact nK_m1 (by omega))) rfl rfl ?_
        refine w_p (pc1 := 120) rfl rfl ?_
        refine w_m0 (pc1 := 123) rfl rfl (h_gC rfl rfl rfl rfl) rfl ?_
        refine w_p (pc1 := 124) rfl rfl ?_
        refine w_m0 (pc1 := 127) (st1 := .int (nI (b)) :: _) rfl rfl (x_gf (k := k0) rfl hA rfl) rfl ?_
        refine w_p (pc1 := 129) rfl rfl ?_
        refine w_p (pc1 := 130) rfl rfl ?_
        refine w_m0 (pc1 := 133) rfl rfl (h_gC rfl rfl rfl rfl) rfl ?_
        refine w_p (pc1 := 134) rfl rfl ?_
        refine w_p (pc1 := 135) (st1 := .int 1 :: _) rfl rfl ?_
        refine w_iadd (pc1 := 136) (u := nI (D)) (v := nI (1)) (z := nI (D + 1)) rfl (nK_add) rfl ?_
        refine w_m0 (pc1 := 137) (st1 := .ref (31 + (D + 1) + 100) :: _) rfl rfl (n_als (e := D + 1) rfl rfl (by decide) rfl (by omega) (KS_ol B.1 (by omega))) rfl ?_
        refine w_je (pc1 := 140) (vs := [.ref 113, .int (nI (b)), .int (nI (k)), .ref (31 + (D + 1) + 100)]) (rest := []) (st1 := []) (hld) rfl rfl rfl (fun _ _ => rfl) rfl (by exact cl_v my_133 rfl rfl rfl (Nat.le_of_ble_eq_true rfl) rfl (MH_obj rfl rfl) rfl (by decide) rfl rfl) (by rfl) (Nat.le_of_ble_eq_true rfl) (Nat.le_of_ble_eq_true rfl) rfl (by rfl) ?_
        refine w_p (pc1 := 141) rfl rfl ?_
        refine w_m0 (pc1 := 144) (st1 := .int 1 :: _) rfl rfl (x_gf (k := k0) rfl hA rfl) rfl ?_
        refine w_p (pc1 := 145) (st1 := .int 2 :: _) rfl rfl ?_
        refine w_t (a := 164) (b := 148) rfl rfl rfl ?_
        refine w_p (pc1 := 165) rfl rfl ?_
        refine w_m0 (pc1 := 168) rfl rfl (h_gC rfl rfl rfl rfl) rfl ?_
        refine w_p (pc1 := 169) rfl rfl ?_
        refine w_m0 (pc1 := 172) (st1 := .int (nI (b)) :: _) rfl rfl (x_gf (k := k0) rfl hA rfl) rfl ?_
        refine w_p (pc1 := 174) rfl rfl ?_
        refine w_p (pc1 := 175) rfl rfl ?_
        refine w_m0 (pc1 := 178) rfl rfl (h_gC rfl rfl rfl rfl) rfl ?_
        refine w_p (pc1 := 179) rfl rfl ?_
        refine w_p (pc1 := 180) (st1 := .int 1 :: _) rfl rfl ?_
        refine w_iadd (pc1 := 181) (u := nI (D)) (v := nI (1)) (z := nI (D + 1)) rfl (nK_add) rfl ?_
        refine w_m0 (pc1 := 182) (st1 := .ref (46 + (D + 1) + 100) :: _) rfl rfl (n_als (e := D + 1) rfl rfl (by decide) rfl (by omega) (KS_fr (KS_B B.1 fO (by omega)) (by omega))) rfl ?_
        refine w_je (pc1 := 185) (vs := [.ref 113, .int (nI (b)), .int (nI (k)), .ref (46 + (D + 1) + 100)]) (rest := []) (st1 := []) (hld2) rfl rfl rfl (fun _ _ => rfl) rfl (by exact cl_v my_133 rfl rfl rfl (Nat.le_of_ble_eq_true rfl) rfl (MH_obj rfl rfl) rfl (by decide) rfl rfl) (by rfl) (Nat.le_of_ble_eq_true rfl) (Nat.le_of_ble_eq_true rfl) rfl (by rfl) ?_
        refine w_p (pc1 := 186) rfl rfl ?_
        refine w_p (pc1 := 187) rfl rfl ?_
        refine w_p (pc1 := 189) rfl rfl ?_
        refine w_p (pc1 := 190) rfl rfl ?_
        refine w_ji (pc1 := 193) (vs := [.ref 124, .ref (241 + k0), .int (nI (k)), .int (nI (D))]) (rest := []) (hset) rfl rfl rfl (fun _ _ => rfl) rfl (by exact cl_v my_144 rfl rfl rfl (Nat.le_of_ble_eq_true rfl) rfl (MH_obj rfl rfl) rfl (by decide) rfl rfl) (by rfl) (Nat.le_of_ble_eq_true rfl) (Nat.le_of_ble_eq_true rfl) rfl (fun v h1 d1 hq => ?_) (fun a h1 d1 hq => ?_)
        · obtain ⟨hv, ⟨f9, C8, t8, ⟨y1, y2, y3, y4⟩, hh⟩, hn⟩ := hq
          subst hv; subst hh; subst hn
          cases y1
          have hcall := hS.2.1 b x r.2 f σ C8 t8 hb6 (KS_s (KS_B B2.1 y3 (by omega)) y4) (KE_B y3 (by omega) B2.2.1) (bfK_B y3 (by omega) (bfK_B fF (by omega) hOb)) y2
          have hA := stk_o y4 hA
          have f8 : frE D (D + 1) C C8 := frE_t fOE (frB_E y3 (by omega))
          refine w_p (pc1 := 194) rfl rfl ?_
          refine w_p (pc1 := 195) rfl rfl ?_
          refine w_m0 (pc1 := 198) (st1 := .int (nI (b)) :: _) rfl rfl (x_gf (k := k0) rfl hA rfl) rfl ?_
          refine w_p (pc1 := 200) rfl rfl ?_
          refine w_p (pc1 := 201) rfl rfl ?_
          refine w_p (pc1 := 202) (st1 := .int 1 :: _) rfl rfl ?_
          refine w_iadd (pc1 := 203) (u := nI (D)) (v := nI (1)) (z := nI (D + 1)) rfl (nK_add) rfl ?_
          refine w_ji (pc1 := 206) (vs := [.ref 124, .int (nI (b)), .int (x), .int (nI (D + 1))]) (rest := []) (hcall) rfl rfl rfl (fun _ _ => rfl) rfl (by exact cl_v my_143 rfl rfl rfl (Nat.le_of_ble_eq_true rfl) rfl (MH_obj rfl rfl) rfl (by decide) rfl rfl) (by rfl) (Nat.le_of_ble_eq_true rfl) (Nat.le_of_ble_eq_true rfl) rfl (fun v h1 d1 hq => ?_) (fun a h1 d1 hq => ?_)
          · obtain ⟨z1, hv, ⟨C9, t9, ⟨z2, z3, z4⟩, hh⟩, hn⟩ := hq
            subst hv; subst hh; subst hn
            have f9 : frE D (D + 1) C C9 := frE_t f8 (frE_u z3 (by omega) (by omega))
            refine w_iinc (pc1 := 209) (u := nI (pre.length)) (z := nI (pre.length + 1)) (al1 := [(4, .int (nI (pre.length + 1))), (6, .int (nI (k))), (5, .int (x)), (3, .int (nI (is.length))), (0, .ref 124), (1, .ref (241 + k0)), (2, .int (nI (D)))]) rfl rfl rfl nK_1 rfl rfl ?_
            refine w_p (pc1 := 81) rfl rfl ?_
            have f9i : ∀ j, C9.1 (61 + D) j = C.1 (61 + D) j := fun j => (z3.1 (61 + D) j (by omega) (by omega) (by omega)).trans (((y3.1 (61 + D) j).trans (fF.1 (61 + D) j)).trans (fO.1 (61 + D) j))
            refine Wd_al (al := [(4, .int (nI (pre.length + 1))), (3, .int (nI (is.length))), (0, .ref 124), (1, .ref (241 + k0)), (2, .int (nI (D)))]) (sba_p [0, 3, 4, 5, 6] rfl rfl) ?_
            rw [lop_n (show chg1 (stp S n) a N O x σ = ((stp S n 1 b x r.2 f σ).1, none) by rw [e2, ← z1])]
            exact ih C9 t9 _ h3 (KB_n B (by omega) f9 (stk_t y4 z4) z2) (ACK_k (stk_t y4 z4) A0) (fun j y hj => (f9i j).trans (hid j y hj)) (frE_t hf f9) (stk_t hst (stk_t y4 z4))
          · rcases hq with ⟨e9, C9, t9, ⟨z1, z2, z3, z4, z5⟩, ha, hh, hn⟩
            · subst ha; subst hh; subst hn
              refine Or.inl ⟨ch_new (by decide) rfl, ?_⟩
              rw [lop_s (show chg1 (stp S n) a N O x σ = ((stp S n 1 b x r.2 f σ).1, some e9) by rw [e2, ← z1])]
              exact ⟨e9, C9, t9, ⟨rfl, z2, z3, frE_t hf (frE_t f8 (frE_u z4 (by omega) (by omega))), stk_t hst (stk_t y4 z5)⟩, rfl, rfl, rfl⟩
        · rcases hq with ⟨C9, t9, ⟨z1, _⟩, _⟩
          · cases z1
set_option maxRecDepth 100000 in
theorem m_130_2 (ho : okSt S) (hS : STP L xs S n (D + 1)) (hD : D < 13) (hk1 : aKd a = 2) (hb : aTb a = some b) (hb6 : b < 6) (hok : okT2 (sWd S b) w2 w3 (aWh a)) (B : KB C t S σ D w2 w3 N O) (A0 : ACK t k0 a) : Wd L xs (4 * n + 12 + 1) y_130 (0, [(0, .ref 124), (1, .ref (241 + k0)), (2, .int (nI (D)))], [], MH C t, sl) (PR C t (sWd S) D (D + 1) sl (chg S (stp S n) a N O σ)) (XR C t D (D + 1) sl (chg S (stp S n) a N O σ)) := by
  have e0 : chg S (stp S n) a N O σ = match fnR (fun r => tst r.2 N O (aWh a)) (σ.1 b).1 with | none => (σ, some byZ) | some is => lop (chg1 (stp S n) a N O) is σ := by unfold chg; rw [if_neg (by rw [hk1]; decide), hb]; rfl
  rw [e0]
  refine w_p (pc1 := 1) (st1 := .int 0 :: _) rfl rfl ?_
  refine w_p (pc1 := 2) (al1 := [(3, .int 0), (0, .ref 124), (1, .ref (241 + k0)), (2, .int (nI (D)))]) rfl rfl ?_
  refine w_p (pc1 := 3) (st1 := .int 0 :: _) rfl rfl ?_
  refine w_p (pc1 := 5) (al1 := [(4, .int 0), (3, .int 0), (0, .ref 124), (1, .ref (241 + k0)), (2, .int (nI (D)))]) rfl rfl ?_
  refine lp_130a (d := 4 * n + 3) (σ := σ) (w2 := w2) (w3 := w3) (N := N) (O := O) (C0 := C) (t0 := t) hD hb hb6 hok (σ.1 b).1 [] [] C t rfl B A0 (Nat.le_refl _) (fun j x hj => by cases hj) frI_r stk_r (fun is C1 t1 q1 q2 q3 q4 q5 => ?_) (fun C1 t1 q1 q2 q3 => ?_)
  · rw [List.nil_append] at q2 q5 ⊢
    rw [q1]
    have fE : frE D (D + 1) C C1 := frI_E q3 (by omega)
    have B1 := KB_n B (by omega) fE q4 (KE_I q3 (by omega) B.2.1)
    refine w_p (pc1 := 79) (st1 := .int 0 :: _) rfl rfl ?_
    refine w_p (pc1 := 81) (al1 := [(4, .int 0), (3, .int (nI (is.length))), (0, .ref 124), (1, .ref (241 + k0)), (2, .int (nI (D)))]) rfl rfl ?_
    exact lp_130b2 ho hS hD hk1 hb hb6 q5 is [] C1 t1 σ rfl B1 (ACK_k q4 A0) q2 fE q4
  · rw [q1]
    have hE := KE_I q2 (by omega) B.2.1
    exact ⟨byZ, sI C1 24 6 4, t1, ⟨rfl, KX_s hE.2.2, spK_z, frE_t (frI_E q2 (by omega)) frE_s, q3⟩, rfl, rfl, rfl⟩
set_option maxRecDepth 100000 in
theorem m_130_1 (ho : okSt S) (hS : STP L xs S n (D + 1)) (hD : D < 13) (hk1 : aKd a = 1) (hb : aTb a = some b) (hb6 : b < 6) (hok : okT2 (sWd S b) w2 w3 (aWh a)) (h6 : (aSs a).length ≤ 6) (hl : (aCs a).length = (aSs a).length) (hcw : ∀ c, c ∈ aCs a → c < sWd S b) (hsok : ∀ s, s ∈ aSs a → s ≠ none ∧ okS (sWd S b) w2 w3 s) (B : KB C t S σ D w2 w3 N O) (A0 : ACK t k0 a) : Wd L xs (4 * n + 12 + 1) y_130 (0, [(0, .ref 124), (1, .ref (241 + k0)), (2, .int (nI (D)))], [], MH C t, sl) (PR C t (sWd S) D (D + 1) sl (chg S (stp S n) a N O σ)) (XR C t D (D + 1) sl (chg S (stp S n) a N O σ)) := by
  have e0 : chg S (stp S n) a N O σ = match fnR (fun r => tst r.2 N O (aWh a)) (σ.1 b).1 with | none => (σ, some byZ) | some is => lop (chg1 (stp S n) a N O) is σ := by unfold chg; rw [if_neg (by rw [hk1]; decide), hb]; rfl
  rw [e0]
  refine w_p (pc1 := 1) (st1 := .int 0 :: _) rfl rfl ?_
  refine w_p (pc1 := 2) (al1 := [(3, .int 0), (0, .ref 124), (1, .ref (241 + k0)), (2, .int (nI (D)))]) rfl rfl ?_
  refine w_p (pc1 := 3) (st1 := .int 0 :: _) rfl rfl ?_
  refine w_p (pc1 := 5) (al1 := [(4, .int 0), (3, .int 0), (0, .ref 124), (1, .ref (241 + k0)), (2, .int (nI (D)))]) rfl rfl ?_
  refine lp_130a (d := 4 * n + 3) (σ := σ) (w2 := w2) (w3 := w3) (N := N) (O := O) (C0 := C) (t0 := t) hD hb hb6 hok (σ.1 b).1 [] [] C t rfl B A0 (Nat.le_refl _) (fun j x hj => by cases hj) frI_r stk_r (fun is C1 t1 q1 q2 q3 q4 q5 => ?_) (fun C1 t1 q1 q2 q3 => ?_)
  · rw [List.nil_append] at q2 q5 ⊢
    rw [q1]
    have fE : frE D (D + 1) C C1 := frI_E q3 (by omega)
    have B1 := KB_n B (by omega) fE q4 (KE_I q3 (by omega) B.2.1)
    refine w_p (pc1 := 79) (st1 := .int 0 :: _) rfl rfl ?_
    refine w_p (pc1 := 81) (al1 := [(4, .int 0), (3, .int (nI (is.length))), (0, .ref 124), (1, .ref (241 + k0)), (2, .int (nI (D)))]) rfl rfl ?_
    exact lp_130b1 ho hS hD hk1 hb hb6 q5 h6 hl hcw hsok is [] C1 t1 σ rfl B1 (ACK_k q4 A0) q2 fE q4
  · rw [q1]
    have hE := KE_I q2 (by omega) B.2.1
    exact ⟨byZ, sI C1 24 6 4, t1, ⟨rfl, KX_s hE.2.2, spK_z, frE_t (frI_E q2 (by omega)) frE_s, q3⟩, rfl, rfl, rfl⟩
end KE4
