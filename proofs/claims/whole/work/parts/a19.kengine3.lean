
/-! ONE SIDE'S ENGINE: a new row is worked out -/
def frB (kr : Nat) (C C' : co_T) : Prop := (∀ k j, C'.1 k j = C.1 k j) ∧ (∀ k j, k ≠ kr → C'.2.1 k j = C.2.1 k j) ∧ C'.2.2 = C.2.2
set_option maxRecDepth 100000 in
theorem frB_r {kr : Nat} {C : co_T} : frB kr C C := ⟨fun _ _ => rfl, fun _ _ _ => rfl, rfl⟩
set_option maxRecDepth 100000 in
theorem frB_t {kr : Nat} {C1 C2 C3 : co_T} (h : frB kr C1 C2) (g : frB kr C2 C3) : frB kr C1 C3 := ⟨fun k j => (g.1 k j).trans (h.1 k j), fun k j a => (g.2.1 k j a).trans (h.2.1 k j a), g.2.2.trans h.2.2⟩
set_option maxRecDepth 100000 in
theorem frB_J {kr c : Nat} {C : co_T} {x : Int64} : frB kr C (sJ C kr c x) := ⟨fun _ _ => by rw [sJ_1], fun k j a => by rw [sJ_2, if_neg (by omega)], rfl⟩
set_option maxRecDepth 100000 in
theorem frB_E {kr D F : Nat} {C C' : co_T} (h : frB kr C C') (hk : (32 + D ≤ kr ∧ kr < 45) ∨ (46 + F ≤ kr ∧ kr < 60)) : frE D F C C' := ⟨fun k j _ _ _ => h.1 k j, fun k j a b c => h.2.1 k j (by omega), h.2.2⟩
set_option maxRecDepth 100000 in
theorem KE_B {kr : Nat} {C C' : co_T} {wd : Nat → Nat} {σ : es_T} (h : frB kr C C') (hk : kr ≠ 14) (E : KE C wd σ) : KE C' wd σ := by
  obtain ⟨W, h1, h2, h3, h4, h5⟩ := E
  refine ⟨fun b hb => ?_, fun b hb => (h.1 17 b).trans (h1 b hb), (h.1 24 7).trans h2, h3, (h.1 24 8).trans h4, h5⟩
  obtain ⟨g1, g2, g3, g4⟩ := W b hb
  exact ⟨g1, (h.1 16 b).trans g2, g3, fun k r hr => ⟨(h.1 15 _).trans (g4 k r hr).1, fun c hc => (h.2.1 14 _ (by omega)).trans ((g4 k r hr).2 c hc)⟩⟩
set_option maxRecDepth 100000 in
theorem bfK_B {kr k w : Nat} {C C' : co_T} {f : rw_F} (h : frB kr C C') (hk : k ≠ kr) (B : bfK C k w f) : bfK C' k w f := fun c hc => (h.2.1 k c hk).trans (B c hc)
set_option maxRecDepth 100000 in
theorem bfK_E {D F k w : Nat} {C C' : co_T} {f : rw_F} (h : frE D F C C') (hk : k ≠ 14 ∧ ¬ (32 + D ≤ k ∧ k < 45) ∧ ¬ (46 + F ≤ k ∧ k < 60)) (B : bfK C k w f) : bfK C' k w f := fun c hc => (h.2.1 k c hk.1 hk.2.1 hk.2.2).trans (B c hc)
set_option maxRecDepth 100000 in
theorem bfK_u {kr w c : Nat} {C : co_T} {f : rw_F} {v : Option Int32} (B : bfK C kr w f) : bfK (sJ C kr c (e_V v)) kr w (upF f c v) := by
  intro j hj
  rw [sJ_2]
  unfold upF
  by_cases e : j = c
  · rw [if_pos ⟨rfl, e⟩, if_pos e]
  · rw [if_neg (by omega), if_neg e]
    exact B j hj
set_option maxRecDepth 100000 in
theorem bfK_n {kr i : Nat} {C : co_T} {f : rw_F} {v : Option Int32} (B : bfK C kr i f) : bfK (sJ C kr i (e_V v)) kr (i + 1) (upF f i v) := by
  intro j hj
  rw [sJ_2]
  unfold upF
  by_cases e : j = i
  · rw [if_pos ⟨rfl, e⟩, if_pos e]
  · rw [if_neg (by omega), if_neg e]
    exact B j (by omega)
/-! what names stand for, at a depth -/
def envE (C : co_T) (p D w1 w2 w3 : Nat) (R N O : rw_F) : Prop := (p + w1 ≤ 1440 ∧ ∀ c, c < w1 → C.2.1 14 (p + c) = e_V (R c)) ∧ (w2 ≤ 6 ∧ w3 ≤ 6) ∧ bfK C (46 + D) w2 N ∧ bfK C (31 + D) w3 O
set_option maxRecDepth 100000 in
theorem envE_K {C : co_T} {p D w1 w2 w3 : Nat} {R N O : rw_F} (h : envE C p D w1 w2 w3 R N O) (hD : D < 14) : envK C p (.ref (46 + D + 100)) (.ref (31 + D + 100)) w1 w2 w3 R N O := ⟨h.1, fun _ => ⟨46 + D, [], rfl, skF hD, h.2.1.1, h.2.2.1⟩, fun _ => ⟨31 + D, [], rfl, skO hD, h.2.1.2, h.2.2.2⟩⟩
set_option maxRecDepth 100000 in
theorem envE_B {C C' : co_T} {p D w1 w2 w3 kr : Nat} {R N O : rw_F} (f : frB kr C C') (hk : kr ≠ 14 ∧ kr ≠ 46 + D ∧ kr ≠ 31 + D) (h : envE C p D w1 w2 w3 R N O) : envE C' p D w1 w2 w3 R N O := ⟨⟨h.1.1, fun c hc => (f.2.1 14 _ (by omega)).trans (h.1.2 c hc)⟩, h.2.1, bfK_B f (by omega) h.2.2.1, bfK_B f (by omega) h.2.2.2⟩
set_option maxRecDepth 100000 in
theorem KS_B {C C' : co_T} {t : ab_H} {S : st_T} {kr : Nat} (K : KS C t S) (f : frB kr C C') (hk : kr ≠ 10) : KS C' t S := by
  obtain ⟨h1, h2, h3, h4⟩ := K
  refine ⟨fun b hb => ⟨(f.1 8 b).trans (h1 b hb).1, fun c hc => (f.2.1 10 _ (by omega)).trans ((h1 b hb).2 c hc)⟩, fun i hi => ?_, fun i hi => ?_, fun j hj => ?_⟩
  · rw [f.2.2]
    exact h2 i hi
  · rw [f.2.2]
    exact h3 i hi
  · rw [f.2.2]
    exact h4 j hj
set_option maxRecDepth 100000 in
theorem KS_s {C : co_T} {t t' : ab_H} {S : st_T} (K : KS C t S) (h : stk t t') : KS C t' S := KS_k (D := 0) (F := 0) K frE_r h
/-! a row that was worked out, or not -/
def BR (C : co_T) (t : ab_H) (kr w sl : Nat) (x : Option rw_F) : Option Value → ab_H → Nat → Prop := fun v h m => none = v ∧ (∃ f C' t', (x = some f ∧ bfK C' kr w f ∧ frB kr C C' ∧ stk t t') ∧ MH C' t' = h) ∧ sl = m
def BX (C : co_T) (t : ab_H) (kr sl : Nat) {α : Type} (x : Option α) : Nat → ab_H → Nat → Prop := fun a h m => ∃ C' t', (x = none ∧ frB kr C C' ∧ stk t t') ∧ Xk 12 (sI C' 24 6 4) t' sl a h m
section KE3
variable {L : Nat} {xs : Nat → Int32} {C : co_T} {t : ab_H} {d sl D p w2 w3 k k0 kc ks b c i kr : Nat} {S : st_T} {R N O : rw_F} {a : ac_T} {fc : Nat → Int32} {fs : Nat → Option Nat} {vw : Value} {r : ro_T}
set_option maxRecDepth 100000 in
theorem KS_fr (K : KS C t S) (hD : D < 14) : C.2.2 45 D = some (46 + D + 100) := (K.2.2.2 D hD).2.1
set_option maxRecDepth 100000 in
theorem KS_ol (K : KS C t S) (hD : D < 14) : C.2.2 30 D = some (31 + D + 100) := (K.2.2.2 D hD).1
set_option maxRecDepth 100000 in
theorem KS_fo (K : KS C t S) (hD : D < 14) : C.2.2 60 D = some (61 + D + 100) := (K.2.2.2 D hD).2.2
set_option maxRecDepth 100000 in
theorem lp_144 (hD : D < 13) (hk1 : aKd a = 1) (hb : aTb a = some b) (hb6 : b < 6) (hk : k < 40) (h6 : (aSs a).length ≤ 6) (hl : (aCs a).length = (aSs a).length) (hcw : ∀ c, c ∈ aCs a → c < sWd S b) (hw6 : sWd S b ≤ 6) (hsok : ∀ s, s ∈ aSs a → s ≠ none ∧ okS (sWd S b) w2 w3 s) : ∀ (suf pre : List Nat) (sufs pres : List (Option (List op_T))) (C : co_T) (t : ab_H) (f : rw_F), pre ++ suf = aCs a → pres ++ sufs = aSs a → pres.length = pre.length → KS C t S → ACK t k0 a → envE C ((b * 40 + k) * 6) D (sWd S b) w2 w3 R N O → bfK C (46 + (D + 1)) (sWd S b) f → Wd L xs (d + 8) y_144 (3, [(4, .int (nI (pre.length))), (0, .ref 124), (1, .ref (241 + k0)), (2, .int (nI (k))), (3, .int (nI (D)))], [], MH C t, sl) (BR C t (46 + (D + 1)) (sWd S b) sl (setS R N O f suf sufs)) (BX C t (46 + (D + 1)) sl (setS R N O f suf sufs))
  | [], pre, sufs, pres, C, t, f, hp, hps, hpl, K, A0, hE, hB => by
    rw [List.append_nil] at hp
    have hl2 := congrArg List.length hp
    obtain ⟨kc, ks, fc, fs, vw, A⟩ := id A0
    have hA := A.1
    have hsz : asz a = (aSs a).length := by unfold asz; rw [hk1]; rfl
    rw [hk1, hb, hsz] at hA
    have e0 : setS R N O f [] sufs = some f := by unfold setS; rfl
    rw [e0]
    refine w_p (pc1 := 5) rfl rfl ?_
    refine w_p (pc1 := 6) rfl rfl ?_
    refine w_m0 (pc1 := 9) (st1 := .int (nI ((aSs a).length)) :: _) rfl rfl (x_gf (k := k0) rfl hA rfl) rfl ?_
    refine w_t (a := 63) (b := 12) (bN_ge_t (a := pre.length) (b := (aSs a).length) (by omega) (by omega) (by omega)) rfl rfl ?_
    refine w_r rfl rfl rfl (fun _ _ => rfl) rfl ?_
    exact ⟨rfl, ⟨f, C, t, ⟨rfl, hB, frB_r, stk_r⟩, rfl⟩, rfl⟩
  | c :: suf, pre, [], pres, C, t, f, hp, hps, hpl, K, A0, hE, hB => by
    obtain ⟨h1, h2, h3⟩ := get_ap hp
    rw [List.append_nil] at hps
    subst hps
    omega
  | c :: suf, pre, s :: sufs, pres, C, t, f, hp, hps, hpl, K, A0, hE, hB => by
    obtain ⟨h1, h2, h3⟩ := get_ap hp
    obtain ⟨g1, g2, g3⟩ := get_ap hps
    obtain ⟨kc, ks, fc, fs, vw, A⟩ := id A0
    have hA := A.1
    have hsz : asz a = (aSs a).length := by unfold asz; rw [hk1]; rfl
    rw [hk1, hb, hsz] at hA
    have hf := A.2.2.1 _ _ h1
    rw [Nat.zero_add] at hf
    have hcc := hcw c (List.mem_of_getElem? h1)
    have hfo := A.2.2.2.2.1 _ _ g1
    rw [hpl] at hfo
    have hsk := hsok s (List.mem_of_getElem? g1)
    cases s with
    | none => exact absurd rfl hsk.1
    | some lf =>
    obtain ⟨kk, k1, k2, k3, s0, hvf, F, h6f⟩ := id hfo
    have hfn : fs pre.length = some (241 + kk) := by cases h : fs pre.length with | none => rw [h] at hvf; cases hvf | some q => rw [h] at hvf; cases hvf; rfl
    have hm := smK (L := L) (xs := xs) (d := d) (sl := 0) (envE_K hE (by omega)) K (by omega) (show foK t 0 (.ref (241 + kk)) (some lf) from ⟨kk, k1, k2, k3, s0, rfl, F, h6f⟩) hsk.2
    have e0 : setS R N O f (c :: suf) (some lf :: sufs) = match smv R N O (some lf) with | none => none | some v => setS R N O (upF f c v) suf sufs := rfl
    have hpl2 := m_108 (L := L) (xs := xs) (C := C) (t := t) (d := d + 7) (sl := 0) (b := b) (k := k)
    cases hs : smv R N O (some lf) with
    | none =>
      rw [hs] at hm
      have e1 : setS R N O f (c :: suf) (some lf :: sufs) = none := by rw [e0, hs]
      rw [e1]
      refine w_p (pc1 := 5) rfl rfl ?_
      refine w_p (pc1 := 6) rfl rfl ?_
      refine w_m0 (pc1 := 9) (st1 := .int (nI ((aSs a).length)) :: _) rfl rfl (x_gf (k := k0) rfl hA rfl) rfl ?_
      refine w_f (a := 63) (b := 12) (bN_ge_f (a := pre.length) (b := (aSs a).length) (by omega) (by omega) (by omega)) rfl rfl ?_
      refine w_p (pc1 := 14) rfl rfl ?_
      refine w_p (pc1 := 16) (st1 := .int 6 :: _) rfl rfl ?_
      refine w_f (a := 63) (b := 19) (bN_ge_f (a := pre.length) (b := 6) (by omega) (by omega) (by omega)) rfl rfl ?_
      refine w_p (pc1 := 20) rfl rfl ?_
      refine w_m0 (pc1 := 23) rfl rfl (h_gC rfl rfl rfl rfl) rfl ?_
      refine w_p (pc1 := 24) rfl rfl ?_
      refine w_p (pc1 := 25) (st1 := .int 1 :: _) rfl rfl ?_
      refine w_iadd (pc1 := 26) (u := nI (D)) (v := nI (1)) (z := nI (D + 1)) rfl (nK_add) rfl ?_
      refine w_m0 (pc1 := 27) (st1 := .ref (46 + (D + 1) + 100) :: _) rfl rfl (n_als (e := D + 1) rfl rfl (by decide) rfl (by omega) (KS_fr K (by omega))) rfl ?_
      refine w_p (pc1 := 28) rfl rfl ?_
      refine w_m0 (pc1 := 31) (st1 := .ref (241 + kc) :: _) rfl rfl (x_gf (k := k0) rfl hA rfl) rfl ?_
      refine w_p (pc1 := 33) rfl rfl ?_
      refine w_m0 (pc1 := 34) (st1 := .int (nI (c)) :: _) rfl rfl (x_ile (k := kc) (e := pre.length) A.2.1 (by omega) (by omega) (hf)) rfl ?_
      refine w_p (pc1 := 35) rfl rfl ?_
      refine w_p (pc1 := 36) rfl rfl ?_
      refine w_m0 (pc1 := 39) (st1 := .ref (241 + ks) :: _) rfl rfl (x_gf (k := k0) rfl hA rfl) rfl ?_
      refine w_p (pc1 := 41) rfl rfl ?_
      refine w_m0 (pc1 := 42) (st1 := .ref (241 + kk) :: _) rfl rfl (x_als (k := ks) (e := pre.length) A.2.2.2.1 (by decide) (by omega) (by omega) (hfn)) rfl ?_
      refine w_p (pc1 := 43) rfl rfl ?_
      refine w_m0 (pc1 := 46) (st1 := .int (nI (b)) :: _) rfl rfl (x_gf (k := k0) rfl hA rfl) rfl ?_
      refine w_p (pc1 := 47) rfl rfl ?_
      refine w_je (pc1 := 50) (vs := [.int (nI (b)), .int (nI (k))]) (rest := [.ref (241 + kk), .ref 124, .int (nI (c)), .ref (46 + (D + 1) + 100)]) (st1 := [.int (nI ((b * 40 + k) * 6)), .ref (241 + kk), .ref 124, .int (nI (c)), .ref (46 + (D + 1) + 100)]) (hpl2) rfl rfl rfl (fun _ _ => cn_s rfl rfl rfl rfl) rfl (by exact cl_s my_108 rfl rfl rfl (Nat.le_of_ble_eq_true rfl) rfl rfl) (by rfl) (Nat.le_of_ble_eq_true rfl) (Nat.le_of_ble_eq_true rfl) rfl (by rfl) ?_
      refine w_p (pc1 := 51) rfl rfl ?_
      refine w_ji (pc1 := 54) (vs := [.ref 124, .ref (241 + kk), .int (nI ((b * 40 + k) * 6)), .int (nI (D))]) (rest := [.int (nI (c)), .ref (46 + (D + 1) + 100)]) (hm) rfl rfl rfl (fun _ _ => rfl) rfl (by exact cl_v my_111 rfl rfl rfl (Nat.le_of_ble_eq_true rfl) rfl (MH_obj rfl rfl) rfl (by decide) rfl rfl) (by rfl) (Nat.le_of_ble_eq_true rfl) (Nat.le_of_ble_eq_true rfl) rfl (fun v h1 d1 hq => ?_) (fun a h1 d1 hq => ?_)
      · obtain ⟨y, hy, _⟩ := hq
        cases hy
      · rcases hq with ⟨_, t1, hst, ha, hh, hn⟩
        · subst ha; subst hh; subst hn
          refine Or.inl ⟨ch_new (by decide) rfl, ?_⟩
          exact ⟨C, t1, ⟨rfl, frB_r, hst⟩, rfl, rfl, rfl⟩
    | some v =>
      rw [hs] at hm
      have e1 : setS R N O f (c :: suf) (some lf :: sufs) = setS R N O (upF f c v) suf sufs := by rw [e0, hs]
      rw [e1]
      refine w_p (pc1 := 5) rfl rfl ?_
      refine w_p (pc1 := 6) rfl rfl ?_
      refine w_m0 (pc1 := 9) (st1 := .int (nI ((aSs a).length)) :: _) rfl rfl (x_gf (k := k0) rfl hA rfl) rfl ?_
      refine w_f (a := 63) (b := 12) (bN_ge_f (a := pre.length) (b := (aSs a).length) (by omega) (by omega) (by omega)) rfl rfl ?_
      refine w_p (pc1 := 14) rfl rfl ?_
      refine w_p (pc1 := 16) (st1 := .int 6 :: _) rfl rfl ?_
      refine w_f (a := 63) (b := 19) (bN_ge_f (a := pre.length) (b := 6) (by omega) (by omega) (by omega)) rfl rfl ?_
      refine w_p (pc1 := 20) rfl rfl ?_
      refine w_m0 (pc1 := 23) rfl rfl (h_gC rfl rfl rfl rfl) rfl ?_
      refine w_p (pc1 := 24) rfl rfl ?_
      refine w_p (pc1 := 25) (st1 := .int 1 :: _) rfl rfl ?_
      refine w_iadd (pc1 := 26) (u := nI (D)) (v := nI (1)) (z := nI (D + 1)) rfl (nK_add) rfl ?_
      refine w_m0 (pc1 := 27) (st1 := .ref (46 + (D + 1) + 100) :: _) rfl rfl (n_als (e := D + 1) rfl rfl (by decide) rfl (by omega) (KS_fr K (by omega))) rfl ?_
      refine w_p (pc1 := 28) rfl rfl ?_
      refine w_m0 (pc1 := 31) (st1 := .ref (241 + kc) :: _) rfl rfl (x_gf (k := k0) rfl hA rfl) rfl ?_
      refine w_p (pc1 := 33) rfl rfl ?_
      refine w_m0 (pc1 := 34) (st1 := .int (nI (c)) :: _) rfl rfl (x_ile (k := kc) (e := pre.length) A.2.1 (by omega) (by omega) (hf)) rfl ?_
      refine w_p (pc1 := 35) rfl rfl ?_
      refine w_p (pc1 := 36) rfl rfl ?_
      refine w_m0 (pc1 := 39) (st1 := .ref (241 + ks) :: _) rfl rfl (x_gf (k := k0) rfl hA rfl) rfl ?_
      refine w_p (pc1 := 41) rfl rfl ?_
      refine w_m0 (pc1 := 42) (st1 := .ref (241 + kk) :: _) rfl rfl (x_als (k := ks) (e := pre.length) A.2.2.2.1 (by decide) (by omega) (by omega) (hfn)) rfl ?_
      refine w_p (pc1 := 43) rfl rfl ?_
      refine w_m0 (pc1 := 46) (st1 := .int (nI (b)) :: _) rfl rfl (x_gf (k := k0) rfl hA rfl) rfl ?_
      refine w_p (pc1 := 47) rfl rfl ?_
      refine w_je (pc1 := 50) (vs := [.int (nI (b)), .int (nI (k))]) (rest := [.ref (241 + kk), .ref 124, .int (nI (c)), .ref (46 + (D + 1) + 100)]) (st1 := [.int (nI ((b * 40 + k) * 6)), .ref (241 + kk), .ref 124, .int (nI (c)), .ref (46 + (D + 1) + 100)]) (hpl2) rfl rfl rfl (fun _ _ => cn_s rfl rfl rfl rfl) rfl (by exact cl_s my_108 rfl rfl rfl (Nat.le_of_ble_eq_true rfl) rfl rfl) (by rfl) (Nat.le_of_ble_eq_true rfl) (Nat.le_of_ble_eq_true rfl) rfl (by rfl) ?_
      refine w_p (pc1 := 51) rfl rfl ?_
      refine w_ji (pc1 := 54) (vs := [.ref 124, .ref (241 + kk), .int (nI ((b * 40 + k) * 6)), .int (nI (D))]) (rest := [.int (nI (c)), .ref (46 + (D + 1) + 100)]) (hm) rfl rfl rfl (fun _ _ => rfl) rfl (by exact cl_v my_111 rfl rfl rfl (Nat.le_of_ble_eq_true rfl) rfl (MH_obj rfl rfl) rfl (by decide) rfl rfl) (by rfl) (Nat.le_of_ble_eq_true rfl) (Nat.le_of_ble_eq_true rfl) rfl (fun v h1 d1 hq => ?_) (fun a h1 d1 hq => ?_)
      · obtain ⟨y, hy, hv, ⟨t1, hst, hh⟩, hn⟩ := hq
        cases hy
        subst hv; subst hh; subst hn
        refine w_je (pc1 := 57) (vs := [.ref (46 + (D + 1) + 100), .int (nI (c)), .long (e_V v)]) (rest := []) (st1 := []) (m_142 (d := d + 7) (sl := 0) (kr := 46 + (D + 1)) (c := c) (skF (by omega)) (by omega)) rfl rfl rfl (fun _ _ => rfl) rfl (by exact cl_s my_142 rfl rfl rfl (Nat.le_of_ble_eq_true rfl) rfl rfl) (by rfl) (Nat.le_of_ble_eq_true rfl) (Nat.le_of_ble_eq_true rfl) rfl (by rfl) ?_
        refine w_iinc (pc1 := 60) (u := nI (pre.length)) (z := nI (pre.length + 1)) (al1 := [(4, .int (nI (pre.length + 1))), (0, .ref 124), (1, .ref (241 + k0)), (2, .int (nI (k))), (3, .int (nI (D)))]) rfl rfl rfl nK_1 rfl rfl ?_
        refine w_p (pc1 := 3) rfl rfl ?_
        have fB : frB (46 + (D + 1)) C (sJ C (46 + (D + 1)) c (e_V v)) := frB_J
        have ih := lp_144 hD hk1 hb hb6 hk h6 hl hcw hw6 hsok suf (pre ++ [c]) sufs (pres ++ [some lf]) (sJ C (46 + (D + 1)) c (e_V v)) t1 (upF f c v) h3 g3 (by rw [len_s, len_s, hpl]) (KS_B (KS_s K hst) fB (by omega)) (ACK_k hst A0) (envE_B fB (by omega) hE) (bfK_u hB)
        rw [len_s] at ih
        exact Wd_q ih (fun v h m ⟨z1, ⟨f1, C1, t2, ⟨z2, z3, z4, z5⟩, z6⟩, z7⟩ => ⟨z1, ⟨f1, C1, t2, ⟨z2, z3, frB_t fB z4, stk_t hst z5⟩, z6⟩, z7⟩) (fun a h m ⟨C1, t2, ⟨z2, z4, z5⟩, z6⟩ => ⟨C1, t2, ⟨z2, frB_t fB z4, stk_t hst z5⟩, z6⟩)
      · rcases hq with ⟨hy, _⟩
        · cases hy
set_option maxRecDepth 100000 in
theorem m_144 (hD : D < 13) (hk1 : aKd a = 1) (hb : aTb a = some b) (hb6 : b < 6) (hk : k < 40) (h6 : (aSs a).length ≤ 6) (hl : (aCs a).length = (aSs a).length) (hcw : ∀ c, c ∈ aCs a → c < sWd S b) (hw6 : sWd S b ≤ 6) (hsok : ∀ s, s ∈ aSs a → s ≠ none ∧ okS (sWd S b) w2 w3 s) (K : KS C t S) (A0 : ACK t k0 a) (hE : envE C ((b * 40 + k) * 6) D (sWd S b) w2 w3 R N O) {f : rw_F} (hB : bfK C (46 + (D + 1)) (sWd S b) f) : Wd L xs (d + 8) y_144 (0, [(0, .ref 124), (1, .ref (241 + k0)), (2, .int (nI (k))), (3, .int (nI (D)))], [], MH C t, sl) (BR C t (46 + (D + 1)) (sWd S b) sl (setS R N O f (aCs a) (aSs a))) (BX C t (46 + (D + 1)) sl (setS R N O f (aCs a) (aSs a))) := by
  refine w_p (pc1 := 1) (st1 := .int 0 :: _) rfl rfl ?_
  refine w_p (pc1 := 3) (al1 := [(4, .int 0), (0, .ref 124), (1, .ref (241 + k0)), (2, .int (nI (k))), (3, .int (nI (D)))]) rfl rfl ?_
  exact lp_144 hD hk1 hb hb6 hk h6 hl hcw hw6 hsok (aCs a) [] (aSs a) [] C t f rfl rfl rfl K A0 hE hB
variable {u : ru_T} {kt : Nat} {ft : Nat → Int32}
set_option maxRecDepth 100000 in
theorem lp_141_2 {C0 : co_T} (hD : D < 13) (ho : okSt S) (U : RUo t k0 kc kt u fc ft vw) (hR : okR (sWd S) u) (hK : rKd u = 4) (hb1 : rTg u = some b) (hN : bfK C0 (46 + D) (sWd S b) N) : ∀ (suf pre sufe pree : List Nat) (C : co_T) (f : rw_F), pre ++ suf = rCs u → pree ++ sufe = rOs u → pree.length = pre.length → frB (46 + (D + 1)) C0 C → KS C t S → bfK C (46 + (D + 1)) (sWd S (rTb u)) f → Wd L xs (d + 2) y_141 (3, [(4, .int (nI (pre.length))), (0, .ref 124), (1, .ref (241 + k0)), (2, .int 2), (3, .int (nI (D)))], [], MH C t, sl) (fun v h m => none = v ∧ (∃ C', (bfK C' (46 + (D + 1)) (sWd S (rTb u)) (setR 2 N (sDf S (rTb u)) f suf sufe) ∧ frB (46 + (D + 1)) C0 C') ∧ MH C' t = h) ∧ sl = m) nX
  | [], pre, sufe, pree, C, f, hp, hpe, hpl, hf0, K, hB => by
    rw [List.append_nil] at hp
    have hl2 := congrArg List.length hp
    obtain ⟨⟨b9, hb9, hb2, hb3⟩, hll⟩ := hR.2.1 hK
    rw [hb1] at hb9
    cases hb9
    have h6 := hR.1.2.2.1
    have hw6 := ho.1 _ hR.1.2.1
    have hw7 := ho.1 _ hb2
    have e0 : setR 2 N (sDf S (rTb u)) f [] sufe = f := by unfold setR; rfl
    rw [e0]
    refine w_p (pc1 := 5) rfl rfl ?_
    refine w_p (pc1 := 6) rfl rfl ?_
    refine w_m0 (pc1 := 9) (st1 := .int (nI ((rCs u).length)) :: _) rfl rfl (x_gf (k := k0) rfl U.1 rfl) rfl ?_
    refine w_t (a := 101) (b := 12) (bN_ge_t (a := pre.length) (b := (rCs u).length) (by omega) (by omega) (by omega)) rfl rfl ?_
    refine w_r rfl rfl rfl (fun _ _ => rfl) rfl ?_
    exact ⟨rfl, ⟨C, ⟨hB, hf0⟩, rfl⟩, rfl⟩
  | c :: suf, pre, [], pree, C, f, hp, hpe, hpl, hf0, K, hB => by
    obtain ⟨h1, h2, h3⟩ := get_ap hp
    obtain ⟨_, hll⟩ := hR.2.1 hK
    rw [List.append_nil] at hpe
    subst hpe
    omega
  | c :: suf, pre, e :: sufe, pree, C, f, hp, hpe, hpl, hf0, K, hB => by
    obtain ⟨h1, h2, h3⟩ := get_ap hp
    obtain ⟨g1, g2, g3⟩ := get_ap hpe
    obtain ⟨⟨b9, hb9, hb2, hb3⟩, hll⟩ := hR.2.1 hK
    rw [hb1] at hb9
    cases hb9
    have h6 := hR.1.2.2.1
    have hw6 := ho.1 _ hR.1.2.1
    have hw7 := ho.1 _ hb2
    have hf := U.2.2.2.1 _ _ h1
    have hf2 := U.2.2.2.2 _ _ g1
    rw [hpl] at hf2
    rw [Nat.zero_add] at hf hf2
    have hcw := hR.1.2.2.2 c (List.mem_of_getElem? h1)
    have hew := hb3 e (List.mem_of_getElem? g1)
    have hel := m_114b (L := L) (xs := xs) (C := C) (t := t) (d := d + 1) (sl := 0) (k := 46 + D) (e := e) (skF (by omega)) (by omega)
    rw [hf0.2.1 (46 + D) e (by omega), hN e hew] at hel
    have e0 : setR 2 N (sDf S (rTb u)) f (c :: suf) (e :: sufe) = setR 2 N (sDf S (rTb u)) (upF f c (N e)) suf sufe := by
      show setR 2 N (sDf S (rTb u)) (upF f c (if 2 = 2 then N e else if 2 = 4 then sDf S (rTb u) c else none)) suf sufe = _
      rfl
    rw [e0]
    refine w_p (pc1 := 5) rfl rfl ?_
    refine w_p (pc1 := 6) rfl rfl ?_
    refine w_m0 (pc1 := 9) (st1 := .int (nI ((rCs u).length)) :: _) rfl rfl (x_gf (k := k0) rfl U.1 rfl) rfl ?_
    refine w_f (a := 101) (b := 12) (bN_ge_f (a := pre.length) (b := (rCs u).length) (by omega) (by omega) (by omega)) rfl rfl ?_
    refine w_p (pc1 := 14) rfl rfl ?_
    refine w_p (pc1 := 16) (st1 := .int 6 :: _) rfl rfl ?_
    refine w_f (a := 101) (b := 19) (bN_ge_f (a := pre.length) (b := 6) (by omega) (by omega) (by omega)) rfl rfl ?_
    refine w_m0 (pc1 := 22) (st1 := .long (-9223372036854775808) :: _) rfl rfl rfl rfl ?_
    refine w_p (pc1 := 24) (al1 := [(5, .long (-9223372036854775808)), (4, .int (nI (pre.length))), (0, .ref 124), (1, .ref (241 + k0)), (2, .int 2), (3, .int (nI (D)))]) rfl rfl ?_
    refine w_p (pc1 := 25) rfl rfl ?_
    refine w_p (pc1 := 26) (st1 := .int 2 :: _) rfl rfl ?_
    refine w_f (a := 50) (b := 29) rfl rfl rfl ?_
    refine w_p (pc1 := 30) rfl rfl ?_
    refine w_m0 (pc1 := 33) rfl rfl (h_gC rfl rfl rfl rfl) rfl ?_
    refine w_p (pc1 := 34) rfl rfl ?_
    refine w_m0 (pc1 := 35) (st1 := .ref (46 + D + 100) :: _) rfl rfl (n_als (e := D) rfl rfl (by decide) rfl (by omega) (KS_fr K (by omega))) rfl ?_
    refine w_p (pc1 := 36) rfl rfl ?_
    refine w_m0 (pc1 := 39) (st1 := .ref (241 + kt) :: _) rfl rfl (x_gf (k := k0) rfl U.1 rfl) rfl ?_
    refine w_p (pc1 := 41) rfl rfl ?_
    refine w_m0 (pc1 := 42) (st1 := .int (nI (e)) :: _) rfl rfl (x_ile (k := kt) (e := pre.length) U.2.2.1 (by omega) (by omega) (hf2)) rfl ?_
    refine w_je (pc1 := 45) (vs := [.ref (46 + D + 100), .int (nI (e))]) (rest := []) (st1 := [.long (e_V (N e))]) (hel) rfl rfl rfl (fun _ _ => rfl) rfl (by exact cl_s my_114 rfl rfl rfl (Nat.le_of_ble_eq_true rfl) rfl rfl) (by rfl) (Nat.le_of_ble_eq_true rfl) (Nat.le_of_ble_eq_true rfl) rfl (by rfl) ?_
    refine w_p (pc1 := 47) (al1 := [(5, .long (e_V (N e))), (4, .int (nI (pre.length))), (0, .ref 124), (1, .ref (241 + k0)), (2, .int 2), (3, .int (nI (D)))]) rfl rfl ?_
    refine w_p (pc1 := 75) rfl rfl ?_
    refine w_p (pc1 := 76) rfl rfl ?_
    refine w_m0 (pc1 := 79) rfl rfl (h_gC rfl rfl rfl rfl) rfl ?_
    refine w_p (pc1 := 80) rfl rfl ?_
    refine w_p (pc1 := 81) (st1 := .int 1 :: _) rfl rfl ?_
    refine w_iadd (pc1 := 82) (u := nI (D)) (v := nI (1)) (z := nI (D + 1)) rfl (nK_add) rfl ?_
    refine w_m0 (pc1 := 83) (st1 := .ref (46 + (D + 1) + 100) :: _) rfl rfl (n_als (e := D + 1) rfl rfl (by decide) rfl (by omega) (KS_fr K (by omega))) rfl ?_
    refine w_p (pc1 := 84) rfl rfl ?_
    refine w_m0 (pc1 := 87) (st1 := .ref (241 + kc) :: _) rfl rfl (x_gf (k := k0) rfl U.1 rfl) rfl ?_
    refine w_p (pc1 := 89) rfl rfl ?_
    refine w_m0 (pc1 := 90) (st1 := .int (nI (c)) :: _) rfl rfl (x_ile (k := kc) (e := pre.length) U.2.1 (by omega) (by omega) (hf)) rfl ?_
    refine w_p (pc1 := 92) rfl rfl ?_
    refine w_je (pc1 := 95) (vs := [.ref (46 + (D + 1) + 100), .int (nI (c)), .long (e_V (N e))]) (rest := []) (st1 := []) (m_142 (d := d + 1) (sl := 0) (kr := 46 + (D + 1)) (c := c) (skF (by omega)) (by omega)) rfl rfl rfl (fun _ _ => rfl) rfl (by exact cl_s my_142 rfl rfl rfl (Nat.le_of_ble_eq_true rfl) rfl rfl) (by rfl) (Nat.le_of_ble_eq_true rfl) (Nat.le_of_ble_eq_true rfl) rfl (by rfl) ?_
    refine w_iinc (pc1 := 98) (u := nI (pre.length)) (z := nI (pre.length + 1)) (al1 := [(4, .int (nI (pre.length + 1))), (5, .long (e_V (N e))), (0, .ref 124), (1, .ref (241 + k0)), (2, .int 2), (3, .int (nI (D)))]) rfl rfl rfl nK_1 rfl rfl ?_
    refine w_p (pc1 := 3) rfl rfl ?_
    refine Wd_al (al := [(4, .int (nI (pre.length + 1))), (0, .ref 124), (1, .ref (241 + k0)), (2, .int 2), (3, .int (nI (D)))]) (sba_p [0, 2, 3, 4, 5] rfl rfl) ?_
    have fB : frB (46 + (D + 1)) C (sJ C (46 + (D + 1)) c (e_V (N e))) := frB_J
    have ih := lp_141_2 hD ho U hR hK hb1 hN suf (pre ++ [c]) sufe (pree ++ [e]) (sJ C (46 + (D + 1)) c (e_V (N e))) (upF f c (N e)) h3 g3 (by rw [len_s, len_s, hpl]) (frB_t hf0 fB) (KS_B K fB (by omega)) (bfK_u hB)
    rw [len_s] at ih
    exact ih
set_option maxRecDepth 100000 in
theorem m_141_2 (hD : D < 13) (ho : okSt S) (U : RUo t k0 kc kt u fc ft vw) (hR : okR (sWd S) u) (hK : rKd u = 4) (hb1 : rTg u = some b) (hN : bfK C (46 + D) (sWd S b) N) (K : KS C t S) {f : rw_F} (hB : bfK C (46 + (D + 1)) (sWd S (rTb u)) f) : Wd L xs (d + 2) y_141 (0, [(0, .ref 124), (1, .ref (241 + k0)), (2, .int 2), (3, .int (nI (D)))], [], MH C t, sl) (fun v h m => none = v ∧ (∃ C', (bfK C' (46 + (D + 1)) (sWd S (rTb u)) (setR 2 N (sDf S (rTb u)) f (rCs u) (rOs u)) ∧ frB (46 + (D + 1)) C C') ∧ MH C' t = h) ∧ sl = m) nX := by
  refine w_p (pc1 := 1) (st1 := .int 0 :: _) rfl rfl ?_
  refine w_p (pc1 := 3) (al1 := [(4, .int 0), (0, .ref 124), (1, .ref (241 + k0)), (2, .int 2), (3, .int (nI (D)))]) rfl rfl ?_
  exact lp_141_2 hD ho U hR hK hb1 hN (rCs u) [] (rOs u) [] C f rfl rfl rfl frB_r K hB
set_option maxRecDepth 100000 in
theorem lp_141_3 {C0 : co_T} (hD : D < 13) (ho : okSt S) (U : RUo t k0 kc kt u fc ft vw) (hR : okR (sWd S) u) (hK : rKd u = 4) (hb1 : rTg u = some b) : ∀ (suf pre sufe pree : List Nat) (C : co_T) (f : rw_F), pre ++ suf = rCs u → pree ++ sufe = rOs u → pree.length = pre.length → frB (46 + (D + 1)) C0 C → KS C t S → bfK C (46 + (D + 1)) (sWd S (rTb u)) f → Wd L xs (d + 2) y_141 (3, [(4, .int (nI (pre.length))), (0, .ref 124), (1, .ref (241 + k0)), (2, .int 3), (3, .int (nI (D)))], [], MH C t, sl) (fun v h m => none = v ∧ (∃ C', (bfK C' (46 + (D + 1)) (sWd S (rTb u)) (setR 3 N (sDf S (rTb u)) f suf sufe) ∧ frB (46 + (D + 1)) C0 C') ∧ MH C' t = h) ∧ sl = m) nX
  | [], pre, sufe, pree, C, f, hp, hpe, hpl, hf0, K, hB => by
    rw [List.append_nil] at hp
    have hl2 := congrArg List.length hp
    obtain ⟨⟨b9, hb9, hb2, hb3⟩, hll⟩ := hR.2.1 hK
    rw [hb1] at hb9
    cases hb9
    have h6 := hR.1.2.2.1
    have hw6 := ho.1 _ hR.1.2.1
    have hw7 := ho.1 _ hb2
    have e0 : setR 3 N (sDf S (rTb u)) f [] sufe = f := by unfold setR; rfl
    rw [e0]
    refine w_p (pc1 := 5) rfl rfl ?_
    refine w_p (pc1 := 6) rfl rfl ?_
    refine w_m0 (pc1 := 9) (st1 := .int (nI ((rCs u).length)) :: _) rfl rfl (x_gf (k := k0) rfl U.1 rfl) rfl ?_
    refine w_t (a := 101) (b := 12) (bN_ge_t (a := pre.length) (b := (rCs u).length) (by omega) (by omega) (by omega)) rfl rfl ?_
    refine w_r rfl rfl rfl (fun _ _ => rfl) rfl ?_
    exact ⟨rfl, ⟨C, ⟨hB, hf0⟩, rfl⟩, rfl⟩
  | c :: suf, pre, [], pree, C, f, hp, hpe, hpl, hf0, K, hB => by
    obtain ⟨h1, h2, h3⟩ := get_ap hp
    obtain ⟨_, hll⟩ := hR.2.1 hK
    rw [List.append_nil] at hpe
    subst hpe
    omega
  | c :: suf, pre, e :: sufe, pree, C, f, hp, hpe, hpl, hf0, K, hB => by
    obtain ⟨h1, h2, h3⟩ := get_ap hp
    obtain ⟨g1, g2, g3⟩ := get_ap hpe
    obtain ⟨⟨b9, hb9, hb2, hb3⟩, hll⟩ := hR.2.1 hK
    rw [hb1] at hb9
    cases hb9
    have h6 := hR.1.2.2.1
    have hw6 := ho.1 _ hR.1.2.1
    have hw7 := ho.1 _ hb2
    have hf := U.2.2.2.1 _ _ h1
    have hf2 := U.2.2.2.2 _ _ g1
    rw [hpl] at hf2
    rw [Nat.zero_add] at hf hf2
    have hcw := hR.1.2.2.2 c (List.mem_of_getElem? h1)
    have hew := hb3 e (List.mem_of_getElem? g1)
    have e0 : setR 3 N (sDf S (rTb u)) f (c :: suf) (e :: sufe) = setR 3 N (sDf S (rTb u)) (upF f c (none)) suf sufe := by
      show setR 3 N (sDf S (rTb u)) (upF f c (if 3 = 2 then N e else if 3 = 4 then sDf S (rTb u) c else none)) suf sufe = _
      rfl
    rw [e0]
    refine w_p (pc1 := 5) rfl rfl ?_
    refine w_p (pc1 := 6) rfl rfl ?_
    refine w_m0 (pc1 := 9) (st1 := .int (nI ((rCs u).length)) :: _) rfl rfl (x_gf (k := k0) rfl U.1 rfl) rfl ?_
    refine w_f (a := 101) (b := 12) (bN_ge_f (a := pre.length) (b := (rCs u).length) (by omega) (by omega) (by omega)) rfl rfl ?_
    refine w_p (pc1 := 14) rfl rfl ?_
    refine w_p (pc1 := 16) (st1 := .int 6 :: _) rfl rfl ?_
    refine w_f (a := 101) (b := 19) (bN_ge_f (a := pre.length) (b := 6) (by omega) (by omega) (by omega)) rfl rfl ?_
    refine w_m0 (pc1 := 22) (st1 := .long (-9223372036854775808) :: _) rfl rfl rfl rfl ?_
    refine w_p (pc1 := 24) (al1 := [(5, .long (-9223372036854775808)), (4, .int (nI (pre.length))), (0, .ref 124), (1, .ref (241 + k0)), (2, .int 3), (3, .int (nI (D)))]) rfl rfl ?_
    refine w_p (pc1 := 25) rfl rfl ?_
    refine w_p (pc1 := 26) (st1 := .int 2 :: _) rfl rfl ?_
    refine w_t (a := 50) (b := 29) rfl rfl rfl ?_
    refine w_p (pc1 := 51) rfl rfl ?_
    refine w_p (pc1 := 52) (st1 := .int 4 :: _) rfl rfl ?_
    refine w_t (a := 75) (b := 55) rfl rfl rfl ?_
    refine w_p (pc1 := 76) rfl rfl ?_
    refine w_m0 (pc1 := 79) rfl rfl (h_gC rfl rfl rfl rfl) rfl ?_
    refine w_p (pc1 := 80) rfl rfl ?_
    refine w_p (pc1 := 81) (st1 := .int 1 :: _) rfl rfl ?_
    refine w_iadd (pc1 := 82) (u := nI (D)) (v := nI (1)) (z := nI (D + 1)) rfl (nK_add) rfl ?_
    refine w_m0 (pc1 := 83) (st1 := .ref (46 + (D + 1) + 100) :: _) rfl rfl (n_als (e := D + 1) rfl rfl (by decide) rfl (by omega) (KS_fr K (by omega))) rfl ?_
    refine w_p (pc1 := 84) rfl rfl ?_
    refine w_m0 (pc1 := 87) (st1 := .ref (241 + kc) :: _) rfl rfl (x_gf (k := k0) rfl U.1 rfl) rfl ?_
    refine w_p (pc1 := 89) rfl rfl ?_
    refine w_m0 (pc1 := 90) (st1 := .int (nI (c)) :: _) rfl rfl (x_ile (k := kc) (e := pre.length) U.2.1 (by omega) (by omega) (hf)) rfl ?_
    refine w_p (pc1 := 92) rfl rfl ?_
    refine w_je (pc1 := 95) (vs := [.ref (46 + (D + 1) + 100), .int (nI (c)), .long (-9223372036854775808)]) (rest := []) (st1 := []) (m_142 (d := d + 1) (sl := 0) (kr := 46 + (D + 1)) (c := c) (skF (by omega)) (by omega)) rfl rfl rfl (fun _ _ => rfl) rfl (by exact cl_s my_142 rfl rfl rfl (Nat.le_of_ble_eq_true rfl) rfl rfl) (by rfl) (Nat.le_of_ble_eq_true rfl) (Nat.le_of_ble_eq_true rfl) rfl (by rfl) ?_
    refine w_iinc (pc1 := 98) (u := nI (pre.length)) (z := nI (pre.length + 1)) (al1 := [(4, .int (nI (pre.length + 1))), (5, .long (-9223372036854775808)), (0, .ref 124), (1, .ref (241 + k0)), (2, .int 3), (3, .int (nI (D)))]) rfl rfl rfl nK_1 rfl rfl ?_
    refine w_p (pc1 := 3) rfl rfl ?_
    refine Wd_al (al := [(4, .int (nI (pre.length + 1))), (0, .ref 124), (1, .ref (241 + k0)), (2, .int 3), (3, .int (nI (D)))]) (sba_p [0, 2, 3, 4, 5] rfl rfl) ?_
    have fB : frB (46 + (D + 1)) C (sJ C (46 + (D + 1)) c (e_V (none))) := frB_J
    have ih := lp_141_3 hD ho U hR hK hb1 suf (pre ++ [c]) sufe (pree ++ [e]) (sJ C (46 + (D + 1)) c (e_V (none))) (upF f c (none)) h3 g3 (by rw [len_s, len_s, hpl]) (frB_t hf0 fB) (KS_B K fB (by omega)) (bfK_u hB)
    rw [len_s] at ih
    exact ih
set_option maxRecDepth 100000 in
theorem m_141_3 (hD : D < 13) (ho : okSt S) (U : RUo t k0 kc kt u fc ft vw) (hR : okR (sWd S) u) (hK : rKd u = 4) (hb1 : rTg u = some b) (K : KS C t S) {f : rw_F} (hB : bfK C (46 + (D + 1)) (sWd S (rTb u)) f) : Wd L xs (d + 2) y_141 (0, [(0, .ref 124), (1, .ref (241 + k0)), (2, .int 3), (3, .int (nI (D)))], [], MH C t, sl) (fun v h m => none = v ∧ (∃ C', (bfK C' (46 + (D + 1)) (sWd S (rTb u)) (setR 3 N (sDf S (rTb u)) f (rCs u) (rOs u)) ∧ frB (46 + (D + 1)) C C') ∧ MH C' t = h) ∧ sl = m) nX := by
  refine w_p (pc1 := 1) (st1 := .int 0 :: _) rfl rfl ?_
  refine w_p (pc1 := 3) (al1 := [(4, .int 0), (0, .ref 124), (1, .ref (241 + k0)), (2, .int 3), (3, .int (nI (D)))]) rfl rfl ?_
  exact lp_141_3 hD ho U hR hK hb1 (rCs u) [] (rOs u) [] C f rfl rfl rfl frB_r K hB
set_option maxRecDepth 100000 in
theorem lp_141_4 {C0 : co_T} (hD : D < 13) (ho : okSt S) (U : RUo t k0 kc kt u fc ft vw) (hR : okR (sWd S) u) (hK : rKd u = 4) (hb1 : rTg u = some b) : ∀ (suf pre sufe pree : List Nat) (C : co_T) (f : rw_F), pre ++ suf = rCs u → pree ++ sufe = rOs u → pree.length = pre.length → frB (46 + (D + 1)) C0 C → KS C t S → bfK C (46 + (D + 1)) (sWd S (rTb u)) f → Wd L xs (d + 2) y_141 (3, [(4, .int (nI (pre.length))), (0, .ref 124), (1, .ref (241 + k0)), (2, .int 4), (3, .int (nI (D)))], [], MH C t, sl) (fun v h m => none = v ∧ (∃ C', (bfK C' (46 + (D + 1)) (sWd S (rTb u)) (setR 4 N (sDf S (rTb u)) f suf sufe) ∧ frB (46 + (D + 1)) C0 C') ∧ MH C' t = h) ∧ sl = m) nX
  | [], pre, sufe, pree, C, f, hp, hpe, hpl, hf0, K, hB => by
    rw [List.append_nil] at hp
    have hl2 := congrArg List.length hp
    obtain ⟨⟨b9, hb9, hb2, hb3⟩, hll⟩ := hR.2.1 hK
    rw [hb1] at hb9
    cases hb9
    have h6 := hR.1.2.2.1
    have hw6 := ho.1 _ hR.1.2.1
    have hw7 := ho.1 _ hb2
    have e0 : setR 4 N (sDf S (rTb u)) f [] sufe = f := by unfold setR; rfl
    rw [e0]
    refine w_p (pc1 := 5) rfl rfl ?_
    refine w_p (pc1 := 6) rfl rfl ?_
    refine w_m0 (pc1 := 9) (st1 := .int (nI ((rCs u).length)) :: _) rfl rfl (x_gf (k := k0) rfl U.1 rfl) rfl ?_
    refine w_t (a := 101) (b := 12) (bN_ge_t (a := pre.length) (b := (rCs u).length) (by omega) (by omega) (by omega)) rfl rfl ?_
    refine w_r rfl rfl rfl (fun _ _ => rfl) rfl ?_
    exact ⟨rfl, ⟨C, ⟨hB, hf0⟩, rfl⟩, rfl⟩
  | c :: suf, pre, [], pree, C, f, hp, hpe, hpl, hf0, K, hB => by
    obtain ⟨h1, h2, h3⟩ := get_ap hp
    obtain ⟨_, hll⟩ := hR.2.1 hK
    rw [List.append_nil] at hpe
    subst hpe
    omega
  | c :: suf, pre, e :: sufe, pree, C, f, hp, hpe, hpl, hf0, K, hB => by
    obtain ⟨h1, h2, h3⟩ := get_ap hp
    obtain ⟨g1, g2, g3⟩ := get_ap hpe
    obtain ⟨⟨b9, hb9, hb2, hb3⟩, hll⟩ := hR.2.1 hK
    rw [hb1] at hb9
    cases hb9
    have h6 := hR.1.2.2.1
    have hw6 := ho.1 _ hR.1.2.1
    have hw7 := ho.1 _ hb2
    have hf := U.2.2.2.1 _ _ h1
    have hf2 := U.2.2.2.2 _ _ g1
    rw [hpl] at hf2
    rw [Nat.zero_add] at hf hf2
    have hcw := hR.1.2.2.2 c (List.mem_of_getElem? h1)
    have hew := hb3 e (List.mem_of_getElem? g1)
    have e0 : setR 4 N (sDf S (rTb u)) f (c :: suf) (e :: sufe) = setR 4 N (sDf S (rTb u)) (upF f c (sDf S (rTb u) c)) suf sufe := by
      show setR 4 N (sDf S (rTb u)) (upF f c (if 4 = 2 then N e else if 4 = 4 then sDf S (rTb u) c else none)) suf sufe = _
      rfl
    rw [e0]
    refine w_p (pc1 := 5) rfl rfl ?_
    refine w_p (pc1 := 6) rfl rfl ?_
    refine w_m0 (pc1 := 9) (st1 := .int (nI ((rCs u).length)) :: _) rfl rfl (x_gf (k := k0) rfl U.1 rfl) rfl ?_
    refine w_f (a := 101) (b := 12) (bN_ge_f (a := pre.length) (b := (rCs u).length) (by omega) (by omega) (by omega)) rfl rfl ?_
    refine w_p (pc1 := 14) rfl rfl ?_
    refine w_p (pc1 := 16) (st1 := .int 6 :: _) rfl rfl ?_
    refine w_f (a := 101) (b := 19) (bN_ge_f (a := pre.length) (b := 6) (by omega) (by omega) (by omega)) rfl rfl ?_
    refine w_m0 (pc1 := 22) (st1 := .long (-9223372036854775808) :: _) rfl rfl rfl rfl ?_
    refine w_p (pc1 := 24) (al1 := [(5, .long (-9223372036854775808)), (4, .int (nI (pre.length))), (0, .ref 124), (1, .ref (241 + k0)), (2, .int 4), (3, .int (nI (D)))]) rfl rfl ?_
    refine w_p (pc1 := 25) rfl rfl ?_
    refine w_p (pc1 := 26) (st1 := .int 2 :: _) rfl rfl ?_
    refine w_t (a := 50) (b := 29) rfl rfl rfl ?_
    refine w_p (pc1 := 51) rfl rfl ?_
    refine w_p (pc1 := 52) (st1 := .int 4 :: _) rfl rfl ?_
    refine w_f (a := 75) (b := 55) rfl rfl rfl ?_
    refine w_p (pc1 := 56) rfl rfl ?_
    refine w_m0 (pc1 := 59) rfl rfl (h_gC rfl rfl rfl rfl) rfl ?_
    refine w_p (pc1 := 60) rfl rfl ?_
    refine w_m0 (pc1 := 63) (st1 := .int (nI (rTb u)) :: _) rfl rfl (x_gf (k := k0) rfl U.1 rfl) rfl ?_
    refine w_p (pc1 := 64) rfl rfl ?_
    refine w_m0 (pc1 := 67) (st1 := .ref (241 + kc) :: _) rfl rfl (x_gf (k := k0) rfl U.1 rfl) rfl ?_
    refine w_p (pc1 := 69) rfl rfl ?_
    refine w_m0 (pc1 := 70) (st1 := .int (nI (c)) :: _) rfl rfl (x_ile (k := kc) (e := pre.length) U.2.1 (by omega) (by omega) (hf)) rfl ?_
    refine w_je (pc1 := 73) (vs := [.ref 106, .int (nI (rTb u)), .int (nI (c))]) (rest := []) (st1 := [.long (e_V (sDf S (rTb u) c))]) (m_110 (d := d) (sl := 0) K ho hR.1.2.1 hcw) rfl rfl rfl (fun _ _ => rfl) rfl (by exact cl_v my_110 rfl rfl rfl (Nat.le_of_ble_eq_true rfl) rfl (MH_obj rfl rfl) rfl (by decide) rfl rfl) (by rfl) (Nat.le_of_ble_eq_true rfl) (Nat.le_of_ble_eq_true rfl) rfl (by rfl) ?_
    refine w_p (pc1 := 75) (al1 := [(5, .long (e_V (sDf S (rTb u) c))), (4, .int (nI (pre.length))), (0, .ref 124), (1, .ref (241 + k0)), (2, .int 4), (3, .int (nI (D)))]) rfl rfl ?_
    refine w_p (pc1 := 76) rfl rfl ?_
    refine w_m0 (pc1 := 79) rfl rfl (h_gC rfl rfl rfl rfl) rfl ?_
    refine w_p (pc1 := 80) rfl rfl ?_
    refine w_p (pc1 := 81) (st1 := .int 1 :: _) rfl rfl ?_
    refine w_iadd (pc1 := 82) (u := nI (D)) (v := nI (1)) (z := nI (D + 1)) rfl (nK_add) rfl ?_
    refine w_m0 (pc1 := 83) (st1 := .ref (46 + (D + 1) + 100) :: _) rfl rfl (n_als (e := D + 1) rfl rfl (by decide) rfl (by omega) (KS_fr K (by omega))) rfl ?_
    refine w_p (pc1 := 84) rfl rfl ?_
    refine w_m0 (pc1 := 87) (st1 := .ref (241 + kc) :: _) rfl rfl (x_gf (k := k0) rfl U.1 rfl) rfl ?_
    refine w_p (pc1 := 89) rfl rfl ?_
    refine w_m0 (pc1 := 90) (st1 := .int (nI (c)) :: _) rfl rfl (x_ile (k := kc) (e := pre.length) U.2.1 (by omega) (by omega) (hf)) rfl ?_
    refine w_p (pc1 := 92) rfl rfl ?_
    refine w_je (pc1 := 95) (vs := [.ref (46 + (D + 1) + 100), .int (nI (c)), .long (e_V (sDf S (rTb u) c))]) (rest := []) (st1 := []) (m_142 (d := d + 1) (sl := 0) (kr := 46 + (D + 1)) (c := c) (skF (by omega)) (by omega)) rfl rfl rfl (fun _ _ => rfl) rfl (by exact cl_s my_142 rfl rfl rfl (Nat.le_of_ble_eq_true rfl) rfl rfl) (by rfl) (Nat.le_of_ble_eq_true rfl) (Nat.le_of_ble_eq_true rfl) rfl (by rfl) ?_
    refine w_iinc (pc1 := 98) (u := nI (pre.length)) (z := nI (pre.length + 1)) (al1 := [(4, .int (nI (pre.length + 1))), (5, .long (e_V (sDf S (rTb u) c))), (0, .ref 124), (1, .ref (241 + k0)), (2, .int 4), (3, .int (nI (D)))]) rfl rfl rfl nK_1 rfl rfl ?_
    refine w_p (pc1 := 3) rfl rfl ?_
    refine Wd_al (al := [(4, .int (nI (pre.length + 1))), (0, .ref 124), (1, .ref (241 + k0)), (2, .int 4), (3, .int (nI (D)))]) (sba_p [0, 2, 3, 4, 5] rfl rfl) ?_
    have fB : frB (46 + (D + 1)) C (sJ C (46 + (D + 1)) c (e_V (sDf S (rTb u) c))) := frB_J
    have ih := lp_141_4 hD ho U hR hK hb1 suf (pre ++ [c]) sufe (pree ++ [e]) (sJ C (46 + (D + 1)) c (e_V (sDf S (rTb u) c))) (upF f c (sDf S (rTb u) c)) h3 g3 (by rw [len_s, len_s, hpl]) (frB_t hf0 fB) (KS_B K fB (by omega)) (bfK_u hB)
    rw [len_s] at ih
    exact ih
set_option maxRecDepth 100000 in
theorem m_141_4 (hD : D < 13) (ho : okSt S) (U : RUo t k0 kc kt u fc ft vw) (hR : okR (sWd S) u) (hK : rKd u = 4) (hb1 : rTg u = some b) (K : KS C t S) {f : rw_F} (hB : bfK C (46 + (D + 1)) (sWd S (rTb u)) f) : Wd L xs (d + 2) y_141 (0, [(0, .ref 124), (1, .ref (241 + k0)), (2, .int 4), (3, .int (nI (D)))], [], MH C t, sl) (fun v h m => none = v ∧ (∃ C', (bfK C' (46 + (D + 1)) (sWd S (rTb u)) (setR 4 N (sDf S (rTb u)) f (rCs u) (rOs u)) ∧ frB (46 + (D + 1)) C C') ∧ MH C' t = h) ∧ sl = m) nX := by
  refine w_p (pc1 := 1) (st1 := .int 0 :: _) rfl rfl ?_
  refine w_p (pc1 := 3) (al1 := [(4, .int 0), (0, .ref 124), (1, .ref (241 + k0)), (2, .int 4), (3, .int (nI (D)))]) rfl rfl ?_
  exact lp_141_4 hD ho U hR hK hb1 (rCs u) [] (rOs u) [] C f rfl rfl rfl frB_r K hB
set_option maxRecDepth 100000 in
theorem lp_109 {P : Option Value → ab_H → Nat → Prop} {X : Nat → ab_H → Nat → Prop} {C0 : co_T} {t0 : ab_H} (ho : okSt S) (hD : D < 13) (hk1 : aKd a = 0) (hb : aTb a = some b) (hb6 : b < 6) (hl : (aSs a).length = sWd S b) (hsok : ∀ s, s ∈ aSs a → okS 0 w2 w3 s) : ∀ (suf pre : List (Option (List op_T))) (i : Nat) (C : co_T) (t : ab_H) (f : rw_F), i = pre.length → pre ++ suf = aSs a → KS C t S → ACK t k0 a → envE C 0 D 0 w2 w3 noF N O → bfK C (46 + (D + 1)) i f → frB (46 + (D + 1)) C0 C → stk t0 t →
    (∀ f C1 t1, insV (sDf S b) N O noF 0 (aSs a) = some f → bfK C1 (46 + (D + 1)) (sWd S b) f → frB (46 + (D + 1)) C0 C1 → stk t0 t1 → Wd L xs (d + 8) y_109 (116, [(0, .ref 124), (1, .ref (241 + k0)), (2, .int (nI (D)))], [], MH C1 t1, sl) P X) →
    (∀ C1 t1, insV (sDf S b) N O noF 0 (aSs a) = none → frB (46 + (D + 1)) C0 C1 → stk t0 t1 → X (241 + t1.length) (MH (sI C1 24 6 4) (t1 ++ [.inr (12, [])])) (sl + 6)) →
    insV (sDf S b) N O f i suf = insV (sDf S b) N O noF 0 (aSs a) → Wd L xs (d + 8) y_109 (50, [(3, .int (nI (i))), (0, .ref 124), (1, .ref (241 + k0)), (2, .int (nI (D)))], [], MH C t, sl) P X
  | [], pre, i, C, t, f, hi, hp, K, A0, hE, hB, hfB, hst, H1, H2, he => by
    rw [List.append_nil] at hp
    have hl2 := congrArg List.length hp
    obtain ⟨kc, ks, fc, fs, vw, A⟩ := id A0
    have hA := A.1
    have hsz : asz a = (aSs a).length := by unfold asz; rw [hk1]; rfl
    rw [hk1, hb, hsz] at hA
    have hw6 := ho.1 b hb6
    have e0 : insV (sDf S b) N O f i [] = some f := by unfold insV; rfl
    rw [e0] at he
    have hi2 : i = sWd S b := by omega
    rw [hi2] at hB
    refine w_p (pc1 := 51) rfl rfl ?_
    refine w_p (pc1 := 52) rfl rfl ?_
    refine w_m0 (pc1 := 55) (st1 := .int (nI ((aSs a).length)) :: _) rfl rfl (x_gf (k := k0) rfl hA rfl) rfl ?_
    refine w_t (a := 116) (b := 58) (bN_ge_t (a := i) (b := (aSs a).length) (by omega) (by omega) (by omega)) rfl rfl ?_
    refine Wd_al (al := [(0, .ref 124), (1, .ref (241 + k0)), (2, .int (nI (D)))]) (sba_p [1, 2, 3] rfl rfl) ?_
    exact H1 f C t he.symm hB hfB hst
  | s :: suf, pre, i, C, t, f, hi, hp, K, A0, hE, hB, hfB, hst, H1, H2, he => by
    obtain ⟨h1, h2, h3⟩ := get_ap hp
    obtain ⟨kc, ks, fc, fs, vw, A⟩ := id A0
    have hA := A.1
    have hsz : asz a = (aSs a).length := by unfold asz; rw [hk1]; rfl
    rw [hk1, hb, hsz] at hA
    have hw6 := ho.1 b hb6
    have hfo := A.2.2.2.2.1 _ _ h1
    rw [← hi] at hfo
    cases s with
    | none =>
      have hfo : va_rf (fs i) = .null := hfo
      have hfn : fs i = none := by cases h : fs i with | none => rfl | some q => rw [h] at hfo; cases hfo
      have he2 : insV (sDf S b) N O (upF f i (sDf S b i)) (i + 1) suf = insV (sDf S b) N O noF 0 (aSs a) := he
      have fB : frB (46 + (D + 1)) C (sJ C (46 + (D + 1)) i (e_V (sDf S b i))) := frB_J
      refine w_p (pc1 := 51) rfl rfl ?_
      refine w_p (pc1 := 52) rfl rfl ?_
      refine w_m0 (pc1 := 55) (st1 := .int (nI ((aSs a).length)) :: _) rfl rfl (x_gf (k := k0) rfl hA rfl) rfl ?_
      refine w_f (a := 116) (b := 58) (bN_ge_f (a := i) (b := (aSs a).length) (by omega) (by omega) (by omega)) rfl rfl ?_
      refine w_p (pc1 := 59) rfl rfl ?_
      refine w_p (pc1 := 61) (st1 := .int 6 :: _) rfl rfl ?_
      refine w_f (a := 116) (b := 64) (bN_ge_f (a := i) (b := 6) (by omega) (by omega) (by omega)) rfl rfl ?_
      refine w_p (pc1 := 65) rfl rfl ?_
      refine w_m0 (pc1 := 68) rfl rfl (h_gC rfl rfl rfl rfl) rfl ?_
      refine w_p (pc1 := 69) rfl rfl ?_
      refine w_p (pc1 := 70) (st1 := .int 1 :: _) rfl rfl ?_
      refine w_iadd (pc1 := 71) (u := nI (D)) (v := nI (1)) (z := nI (D + 1)) rfl (nK_add) rfl ?_
      refine w_m0 (pc1 := 72) (st1 := .ref (46 + (D + 1) + 100) :: _) rfl rfl (n_als (e := D + 1) rfl rfl (by decide) rfl (by omega) (KS_fr K (by omega))) rfl ?_
      refine w_p (pc1 := 73) rfl rfl ?_
      refine w_p (pc1 := 74) rfl rfl ?_
      refine w_m0 (pc1 := 77) (st1 := .ref (241 + ks) :: _) rfl rfl (x_gf (k := k0) rfl hA rfl) rfl ?_
      refine w_p (pc1 := 78) rfl rfl ?_
      refine w_m0 (pc1 := 79) (st1 := .null :: _) rfl rfl (x_aln (k := ks) (e := i) A.2.2.2.1 (by decide) (by omega) (by omega) (hfn)) rfl ?_
      refine w_f (a := 97) (b := 82) rfl rfl rfl ?_
      refine w_p (pc1 := 83) rfl rfl ?_
      refine w_m0 (pc1 := 86) rfl rfl (h_gC rfl rfl rfl rfl) rfl ?_
      refine w_p (pc1 := 87) rfl rfl ?_
      refine w_m0 (pc1 := 90) (st1 := .int (nI (b)) :: _) rfl rfl (x_gf (k := k0) rfl hA rfl) rfl ?_
      refine w_p (pc1 := 91) rfl rfl ?_
      refine w_je (pc1 := 94) (vs := [.ref 106, .int (nI (b)), .int (nI (i))]) (rest := [.int (nI (i)), .ref (46 + (D + 1) + 100)]) (st1 := [.long (e_V (sDf S b i)), .int (nI (i)), .ref (46 + (D + 1) + 100)]) (m_110 (d := d + 6) (sl := 0) (c := i) K ho hb6 (by omega)) rfl rfl rfl (fun _ _ => rfl) rfl (by exact cl_v my_110 rfl rfl rfl (Nat.le_of_ble_eq_true rfl) rfl (MH_obj rfl rfl) rfl (by decide) rfl rfl) (by rfl) (Nat.le_of_ble_eq_true rfl) (Nat.le_of_ble_eq_true rfl) rfl (by rfl) ?_
      refine w_p (pc1 := 109) rfl rfl ?_
      refine w_m0 (pc1 := 110) rfl rfl (n_ls (k := 46 + (D + 1)) (e := i) rfl (skF (by omega)) rfl (by omega)) rfl ?_
      refine w_iinc (pc1 := 113) (u := nI (i)) (z := nI (i + 1)) (al1 := [(3, .int (nI (i + 1))), (0, .ref 124), (1, .ref (241 + k0)), (2, .int (nI (D)))]) rfl rfl rfl nK_1 rfl rfl ?_
      refine w_p (pc1 := 50) rfl rfl ?_
      exact lp_109 (P := P) (X := X) ho hD hk1 hb hb6 hl hsok suf (pre ++ [none]) (i + 1) (sJ C (46 + (D + 1)) i (e_V (sDf S b i))) t (upF f i (sDf S b i)) (by rw [len_s, hi]) h3 (KS_B K fB (by omega)) A0 (envE_B fB (by omega) hE) (bfK_n hB) (frB_t hfB fB) hst H1 H2 he2
    | some l =>
      obtain ⟨kk, k1, k2, k3, s0, hvf, F, h6⟩ := id hfo
      have hfn : fs i = some (241 + kk) := by cases h : fs i with | none => rw [h] at hvf; cases hvf | some q => rw [h] at hvf; cases hvf; rfl
      have hm := smK (L := L) (xs := xs) (d := d) (sl := 0) (envE_K hE (by omega)) K (by omega) (show foK t 0 (.ref (241 + kk)) (some l) from ⟨kk, k1, k2, k3, s0, rfl, F, h6⟩) (hsok _ (List.mem_of_getElem? h1))
      have e0 : insV (sDf S b) N O f i (some l :: suf) = match smv noF N O (some l) with | none => none | some v => insV (sDf S b) N O (upF f i v) (i + 1) suf := rfl
      cases hs : smv noF N O (some l) with
      | none =>
        rw [hs] at hm
        rw [e0, hs] at he
        refine w_p (pc1 := 51) rfl rfl ?_
        refine w_p (pc1 := 52) rfl rfl ?_
        refine w_m0 (pc1 := 55) (st1 := .int (nI ((aSs a).length)) :: _) rfl rfl (x_gf (k := k0) rfl hA rfl) rfl ?_
        refine w_f (a := 116) (b := 58) (bN_ge_f (a := i) (b := (aSs a).length) (by omega) (by omega) (by omega)) rfl rfl ?_
        refine w_p (pc1 := 59) rfl rfl ?_
        refine w_p (pc1 := 61) (st1 := .int 6 :: _) rfl rfl ?_
        refine w_f (a := 116) (b := 64) (bN_ge_f (a := i) (b := 6) (by omega) (by omega) (by omega)) rfl rfl ?_
        refine w_p (pc1 := 65) rfl rfl ?_
        refine w_m0 (pc1 := 68) rfl rfl (h_gC rfl rfl rfl rfl) rfl ?_
        refine w_p (pc1 := 69) rfl rfl ?_
        refine w_p (pc1 := 70) (st1 := .int 1 :: _) rfl rfl ?_
        refine w_iadd (pc1 := 71) (u := nI (D)) (v := nI (1)) (z := nI (D + 1)) rfl (nK_add) rfl ?_
        refine w_m0 (pc1 := 72) (st1 := .ref (46 + (D + 1) + 100) :: _) rfl rfl (n_als (e := D + 1) rfl rfl (by decide) rfl (by omega) (KS_fr K (by omega))) rfl ?_
        refine w_p (pc1 := 73) rfl rfl ?_
        refine w_p (pc1 := 74) rfl rfl ?_
        refine w_m0 (pc1 := 77) (st1 := .ref (241 + ks) :: _) rfl rfl (x_gf (k := k0) rfl hA rfl) rfl ?_
        refine w_p (pc1 := 78) rfl rfl ?_
        refine w_m0 (pc1 := 79) (st1 := .ref (241 + kk) :: _) rfl rfl (x_als (k := ks) (e := i) A.2.2.2.1 (by decide) (by omega) (by omega) (hfn)) rfl ?_
        refine w_t (a := 97) (b := 82) rfl rfl rfl ?_
        refine w_p (pc1 := 98) rfl rfl ?_
        refine w_p (pc1 := 99) rfl rfl ?_
        refine w_m0 (pc1 := 102) (st1 := .ref (241 + ks) :: _) rfl rfl (x_gf (k := k0) rfl hA rfl) rfl ?_
        refine w_p (pc1 := 103) rfl rfl ?_
        refine w_m0 (pc1 := 104) (st1 := .ref (241 + kk) :: _) rfl rfl (x_als (k := ks) (e := i) A.2.2.2.1 (by decide) (by omega) (by omega) (hfn)) rfl ?_
        refine w_p (pc1 := 105) (st1 := .int 0 :: _) rfl rfl ?_
        refine w_p (pc1 := 106) rfl rfl ?_
        refine w_ji (pc1 := 109) (vs := [.ref 124, .ref (241 + kk), .int 0, .int (nI (D))]) (rest := [.int (nI (i)), .ref (46 + (D + 1) + 100)]) (hm) rfl rfl rfl (fun _ _ => rfl) rfl (by exact cl_v my_111 rfl rfl rfl (Nat.le_of_ble_eq_true rfl) rfl (MH_obj rfl rfl) rfl (by decide) rfl rfl) (by rfl) (Nat.le_of_ble_eq_true rfl) (Nat.le_of_ble_eq_true rfl) rfl (fun v h1 d1 hq => ?_) (fun a h1 d1 hq => ?_)
        · obtain ⟨y, hy, _⟩ := hq
          cases hy
        · rcases hq with ⟨_, t1, hs1, ha, hh, hn⟩
          · subst ha; subst hh; subst hn
            refine Or.inl ⟨ch_new (by decide) rfl, ?_⟩
            exact H2 C t1 he.symm hfB (stk_t hst hs1)
      | some v =>
        rw [hs] at hm
        rw [e0, hs] at he
        have fB : frB (46 + (D + 1)) C (sJ C (46 + (D + 1)) i (e_V v)) := frB_J
        refine w_p (pc1 := 51) rfl rfl ?_
        refine w_p (pc1 := 52) rfl rfl ?_
        refine w_m0 (pc1 := 55) (st1 := .int (nI ((aSs a).length)) :: _) rfl rfl (x_gf (k := k0) rfl hA rfl) rfl ?_
        refine w_f (a := 116) (b := 58) (bN_ge_f (a := i) (b := (aSs a).length) (by omega) (by omega) (by omega)) rfl rfl ?_
        refine w_p (pc1 := 59) rfl rfl ?_
        refine w_p (pc1 := 61) (st1 := .int 6 :: _) rfl rfl ?_
        refine w_f (a := 116) (b := 64) (bN_ge_f (a := i) (b := 6) (by omega) (by omega) (by omega)) rfl rfl ?_
        refine w_p (pc1 := 65) rfl rfl ?_
        refine w_m0 (pc1 := 68) rfl rfl (h_gC rfl rfl rfl rfl) rfl ?_
        refine w_p (pc1 := 69) rfl rfl ?_
        refine w_p (pc1 := 70) (st1 := .int 1 :: _) rfl rfl ?_
        refine w_iadd (pc1 := 71) (u := nI (D)) (v := nI (1)) (z := nI (D + 1)) rfl (nK_add) rfl ?_
        refine w_m0 (pc1 := 72) (st1 := .ref (46 + (D + 1) + 100) :: _) rfl rfl (n_als (e := D + 1) rfl rfl (by decide) rfl (by omega) (KS_fr K (by omega))) rfl ?_
        refine w_p (pc1 := 73) rfl rfl ?_
        refine w_p (pc1 := 74) rfl rfl ?_
        refine w_m0 (pc1 := 77) (st1 := .ref (241 + ks) :: _) rfl rfl (x_gf (k := k0) rfl hA rfl) rfl ?_
        refine w_p (pc1 := 78) rfl rfl ?_
        refine w_m0 (pc1 := 79) (st1 := .ref (241 + kk) :: _) rfl rfl (x_als (k := ks) (e := i) A.2.2.2.1 (by decide) (by omega) (by omega) (hfn)) rfl ?_
        refine w_t (a := 97) (b := 82) rfl rfl rfl ?_
        refine w_p (pc1 := 98) rfl rfl ?_
        refine w_p (pc1 := 99) rfl rfl ?_
        refine w_m0 (pc1 := 102) (st1 := .ref (241 + ks) :: _) rfl rfl (x_gf (k := k0) rfl hA rfl) rfl ?_
        refine w_p (pc1 := 103) rfl rfl ?_
        refine w_m0 (pc1 := 104) (st1 := .ref (241 + kk) :: _) rfl rfl (x_als (k := ks) (e := i) A.2.2.2.1 (by decide) (by omega) (by omega) (hfn)) rfl ?_
        refine w_p (pc1 := 105) (st1 := .int 0 :: _) rfl rfl ?_
        refine w_p (pc1 := 106) rfl rfl ?_
        refine w_ji (pc1 := 109) (vs := [.ref 124, .ref (241 + kk), .int 0, .int (nI (D))]) (rest := [.int (nI (i)), .ref (46 + (D + 1) + 100)]) (hm) rfl rfl rfl (fun _ _ => rfl) rfl (by exact cl_v my_111 rfl rfl rfl (Nat.le_of_ble_eq_true rfl) rfl (MH_obj rfl rfl) rfl (by decide) rfl rfl) (by rfl) (Nat.le_of_ble_eq_true rfl) (Nat.le_of_ble_eq_true rfl) rfl (fun v h1 d1 hq => ?_) (fun a h1 d1 hq => ?_)
        · obtain ⟨y, hy, hv, ⟨t1, hs1, hh⟩, hn⟩ := hq
          cases hy
          subst hv; subst hh; subst hn
          refine w_m0 (pc1 := 110) rfl rfl (n_ls (k := 46 + (D + 1)) (e := i) rfl (skF (by omega)) rfl (by omega)) rfl ?_
          refine w_iinc (pc1 := 113) (u := nI (i)) (z := nI (i + 1)) (al1 := [(3, .int (nI (i + 1))), (0, .ref 124), (1, .ref (241 + k0)), (2, .int (nI (D)))]) rfl rfl rfl nK_1 rfl rfl ?_
          refine w_p (pc1 := 50) rfl rfl ?_
          exact lp_109 (P := P) (X := X) ho hD hk1 hb hb6 hl hsok suf (pre ++ [some l]) (i + 1) (sJ C (46 + (D + 1)) i (e_V (v))) t1 (upF f i (v)) (by rw [len_s, hi]) h3 (KS_B (KS_s K hs1) fB (by omega)) (ACK_k hs1 A0) (envE_B fB (by omega) hE) (bfK_n hB) (frB_t hfB fB) (stk_t hst hs1) H1 H2 he
        · rcases hq with ⟨hy, _⟩
          · cases hy
end KE3
