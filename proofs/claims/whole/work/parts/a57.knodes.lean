
/-! ONE SIDE: nodes are counted; a statement begins -/
def ndF : Option (List op_T) → Nat
  | none => 0
  | some O => O.length
def ndL (l : List (Option (List op_T))) : Nat := (l.map ndF).sum
def ndA (a : ac_T) : Nat := ndF (aWh a) + ndL (aSs a)
def ndG : Option tr_T → Nat
  | none => 0
  | some g => ndF (gWh g) + ndA (gAc g)
def ndU : Option ru_T → Nat
  | none => 0
  | some u => ndF (rCk u)
def smN (f : Nat → Nat) : Nat → Nat → Nat
  | 0, _ => 0
  | n + 1, k => f k + smN f n (k + 1)
def ndS (ru : Nat → Option ru_T) (tr : Nat → Option tr_T) : Nat := smN (fun i => ndU (ru i)) 24 0 + smN (fun i => ndG (tr i)) 8 0
section NDS
variable {L : Nat} {xs : Nat → Int32} {B : Nat → Nat} {n m : Nat} {C C' C0 C1 : co_T} {t t0 t1 : ab_H} {d sl sl0 sl1 i i0 i1 j b e ti k k0 kc ks w c : Nat} {sc : sc_T} {row : Option Nat} {tg : Option (Nat × Nat)} {nl : Option Nat} {kd0 tb0 : Int32} {P : Option Value → ab_H → Nat → Prop} {X : Nat → ab_H → Nat → Prop} {cs : List Nat} {ss : List (Option (List op_T))} {E : fe_T} {tr : Nat → Option tr_T} {ru : Nat → Option ru_T}
def TGN (C : co_T) (t : ab_H) (tr : Nat → Option tr_T) : Prop := ∀ i, i < 8 → opK (TRn t) (C.2.2 12 i) (tr i)
set_option maxRecDepth 100000 in
theorem TRn_K {g : tr_T} (h : TRn t k g) : TRK t k g := by
  obtain ⟨ka, vw, h1, h2, kc, ks, fc, fs, vw', h3, _⟩ := h
  exact ⟨ka, vw, h1, h2, kc, ks, fc, fs, vw', h3⟩
set_option maxRecDepth 100000 in
theorem TGN_K (h : TGN C t tr) : TGK C t tr := fun i hi => opK_m (fun k u => TRn_K) (h i hi)
set_option maxRecDepth 100000 in
theorem m_25 {k1 k2 k3 : Nat} {O : List op_T} {c : Int32} {s : Nat → Int64} (F : FO t k k1 k2 k3 O c s) : Wd L xs d y_25 (0, [(0, .ref (241 + k))], [], MH C t, sl) (Rt (some (.int (nI O.length))) (MH C t) sl) nX := by
  obtain ⟨h1, ⟨f, h2, h3⟩, _, _⟩ := F
  refine w_p (pc1 := 1) rfl rfl ?_
  refine w_m0 (pc1 := 4) (st1 := .ref (241 + k1) :: _) rfl rfl (x_gf (k := k) rfl h1 rfl) rfl ?_
  refine w_m0 (pc1 := 5) (st1 := .int (nI (O.length)) :: _) rfl rfl (x_ln (k := k1) h2 (by decide)) rfl ?_
  refine w_r rfl rfl rfl (fun _ _ => rfl) cr_int ?_
  exact ⟨rfl, rfl, rfl⟩
set_option maxRecDepth 100000 in
theorem m_24 {u : ru_T} (U : RUK t k u) : Wd L xs (d + 1) y_24 (0, [(0, .ref (241 + k))], [], MH C t, sl) (Rt (some (.int (nI (ndU (some u))))) (MH C t) sl) nX := by
  obtain ⟨kc, kt, fc, ft, vc, ⟨g1, g2, g3, g4, g5⟩, g6⟩ := U
  cases e : rCk u with
  | none =>
    rw [e] at g6
    obtain rfl : vc = .null := g6
    have e2 : ndU (some u) = 0 := by show ndF (rCk u) = 0; rw [e]; rfl
    rw [e2]
    refine w_p (pc1 := 1) rfl rfl ?_
    refine w_m0 (pc1 := 4) (st1 := .null :: _) rfl rfl (x_gf (k := k) rfl g1 rfl) rfl ?_
    refine w_f (a := 11) (b := 7) rfl rfl rfl ?_
    refine w_p (pc1 := 8) (st1 := .int 0 :: _) rfl rfl ?_
    refine w_p (pc1 := 18) rfl rfl ?_
    refine w_r rfl rfl rfl (fun _ _ => rfl) cr_int ?_
    exact ⟨rfl, rfl, rfl⟩
  | some O =>
    rw [e] at g6
    obtain ⟨kk, k1, k2, k3, s, rfl, F, _⟩ := g6
    have e2 : ndU (some u) = O.length := by show ndF (rCk u) = _; rw [e]; rfl
    rw [e2]
    refine w_p (pc1 := 1) rfl rfl ?_
    refine w_m0 (pc1 := 4) (st1 := .ref (241 + kk) :: _) rfl rfl (x_gf (k := k) rfl g1 rfl) rfl ?_
    refine w_t (a := 11) (b := 7) rfl rfl rfl ?_
    refine w_p (pc1 := 12) rfl rfl ?_
    refine w_m0 (pc1 := 15) (st1 := .ref (241 + kk) :: _) rfl rfl (x_gf (k := k) rfl g1 rfl) rfl ?_
    refine w_je (pc1 := 18) (vs := [.ref (241 + kk)]) (rest := []) (st1 := [.int (nI (O.length))]) (m_25 (d := d) (sl := 0) F) rfl rfl rfl (fun _ _ => rfl) rfl (by exact cl_v my_25 rfl rfl rfl (Nat.le_of_ble_eq_true rfl) rfl (x_obj F.1) rfl (by decide) rfl rfl) (by rfl) (Nat.le_of_ble_eq_true rfl) (Nat.le_of_ble_eq_true rfl) rfl (by rfl) ?_
    refine w_r rfl rfl rfl (fun _ _ => rfl) cr_int ?_
    exact ⟨rfl, rfl, rfl⟩
set_option maxRecDepth 100000 in
theorem lp_27 {a : ac_T} {kc ks : Nat} {fc : Nat → Int32} {fs : Nat → Option Nat} {vw : Value} (A : ACo t k kc ks a fc fs vw) (hz : ∀ j, (aSs a).length ≤ j → fs j = none) : ∀ (f p x : Nat) (l : List (Option (List op_T))), p + f = 6 → (aSs a).drop p = l → Wd L xs (d + 1) y_27 (21, [(2, .int (nI p)), (1, .int (nI x)), (0, .ref (241 + k))], [], MH C t, sl) (Rt (some (.int (nI (x + ndL (l.take f))))) (MH C t) sl) nX
  | 0, p, x, l, hp, hl => by
    refine w_p (pc1 := 22) rfl rfl ?_
    refine w_p (pc1 := 23) rfl rfl ?_
    refine w_m0 (pc1 := 26) (st1 := .ref (241 + ks) :: _) rfl rfl (x_gf (k := k) rfl A.1 rfl) rfl ?_
    refine w_m0 (pc1 := 27) (st1 := .int (nI (6)) :: _) rfl rfl (x_ln (k := ks) A.2.2.2.1 (by decide)) rfl ?_
    refine w_t (a := 61) (b := 30) (bN_ge_t (a := p) (b := 6) (by omega) (by omega) (by omega)) rfl rfl ?_
    refine w_p (pc1 := 62) rfl rfl ?_
    refine w_r rfl rfl rfl (fun _ _ => rfl) cr_int ?_
    exact ⟨rfl, rfl, rfl⟩
  | f + 1, p, x, l, hp, hl => by
    cases l with
    | nil =>
      have hlen : (aSs a).length ≤ p := List.drop_eq_nil_iff.mp hl
      have hn : fs p = none := hz p hlen
      have ih := lp_27 A hz f (p + 1) (x + 0) [] (by omega) (List.drop_eq_nil_iff.mpr (by omega))
      rw [List.take_nil] at ih ⊢
      refine w_p (pc1 := 22) rfl rfl ?_
      refine w_p (pc1 := 23) rfl rfl ?_
      refine w_m0 (pc1 := 26) (st1 := .ref (241 + ks) :: _) rfl rfl (x_gf (k := k) rfl A.1 rfl) rfl ?_
      refine w_m0 (pc1 := 27) (st1 := .int (nI (6)) :: _) rfl rfl (x_ln (k := ks) A.2.2.2.1 (by decide)) rfl ?_
      refine w_f (a := 61) (b := 30) (bN_ge_f (a := p) (b := 6) (by omega) (by omega) (by omega)) rfl rfl ?_
      refine w_p (pc1 := 31) rfl rfl ?_
      refine w_p (pc1 := 32) rfl rfl ?_
      refine w_m0 (pc1 := 35) (st1 := .ref (241 + ks) :: _) rfl rfl (x_gf (k := k) rfl A.1 rfl) rfl ?_
      refine w_p (pc1 := 36) rfl rfl ?_
      refine w_m0 (pc1 := 37) (st1 := .null :: _) rfl rfl (x_aln (k := ks) (e := p) A.2.2.2.1 (by decide) (by omega) (by omega) (hn)) rfl ?_
      refine w_f (a := 44) (b := 40) rfl rfl rfl ?_
      refine w_p (pc1 := 41) (st1 := .int 0 :: _) rfl rfl ?_
      refine w_p (pc1 := 53) rfl rfl ?_
      refine w_iadd (pc1 := 54) (u := nI (x)) (v := nI (0)) (z := nI (x + 0)) rfl (nK_add) rfl ?_
      refine w_p (pc1 := 55) (al1 := [(1, .int (nI (x + 0))), (2, .int (nI (p))), (0, .ref (241 + k))]) rfl rfl ?_
      refine w_iinc (pc1 := 58) (u := nI (p)) (z := nI (p + 1)) (al1 := [(2, .int (nI (p + 1))), (1, .int (nI (x + 0))), (0, .ref (241 + k))]) rfl rfl rfl nK_1 rfl rfl ?_
      refine w_p (pc1 := 21) rfl rfl ?_
      exact ih
    | cons s l =>
      have hs : (aSs a)[p]? = some s := by
        have := congrArg (fun q => q[0]?) hl
        rw [List.getElem?_drop] at this
        exact this
      have hl2 : (aSs a).drop (p + 1) = l := by
        rw [← List.drop_drop, hl]
        rfl
      have hf := A.2.2.2.2.1 p s hs
      cases s with
      | none =>
        have hn : fs p = none := by
          cases e : fs p with
          | none => rfl
          | some q => rw [e] at hf; cases hf
        have ih := lp_27 A hz f (p + 1) (x + 0) l (by omega) hl2
        have e2 : x + ndL ((none :: l).take (f + 1)) = x + 0 + ndL (l.take f) := by
          show x + (0 + ndL (l.take f)) = _
          omega
        rw [e2]
        refine w_p (pc1 := 22) rfl rfl ?_
        refine w_p (pc1 := 23) rfl rfl ?_
        refine w_m0 (pc1 := 26) (st1 := .ref (241 + ks) :: _) rfl rfl (x_gf (k := k) rfl A.1 rfl) rfl ?_
        refine w_m0 (pc1 := 27) (st1 := .int (nI (6)) :: _) rfl rfl (x_ln (k := ks) A.2.2.2.1 (by decide)) rfl ?_
        refine w_f (a := 61) (b := 30) (bN_ge_f (a := p) (b := 6) (by omega) (by omega) (by omega)) rfl rfl ?_
        refine w_p (pc1 := 31) rfl rfl ?_
        refine w_p (pc1 := 32) rfl rfl ?_
        refine w_m0 (pc1 := 35) (st1 := .ref (241 + ks) :: _) rfl rfl (x_gf (k := k) rfl A.1 rfl) rfl ?_
        refine w_p (pc1 := 36) rfl rfl ?_
        refine w_m0 (pc1 := 37) (st1 := .null :: _) rfl rfl (x_aln (k := ks) (e := p) A.2.2.2.1 (by decide) (by omega) (by omega) (hn)) rfl ?_
        refine w_f (a := 44) (b := 40) rfl rfl rfl ?_
        refine w_p (pc1 := 41) (st1 := .int 0 :: _) rfl rfl ?_
        refine w_p (pc1 := 53) rfl rfl ?_
        refine w_iadd (pc1 := 54) (u := nI (x)) (v := nI (0)) (z := nI (x + 0)) rfl (nK_add) rfl ?_
        refine w_p (pc1 := 55) (al1 := [(1, .int (nI (x + 0))), (2, .int (nI (p))), (0, .ref (241 + k))]) rfl rfl ?_
        refine w_iinc (pc1 := 58) (u := nI (p)) (z := nI (p + 1)) (al1 := [(2, .int (nI (p + 1))), (1, .int (nI (x + 0))), (0, .ref (241 + k))]) rfl rfl rfl nK_1 rfl rfl ?_
        refine w_p (pc1 := 21) rfl rfl ?_
        exact ih
      | some O =>
        obtain ⟨kk, k1, k2, k3, s0, hv, F, _⟩ := hf
        have hn : fs p = some (241 + kk) := by
          cases e : fs p with
          | none => rw [e] at hv; cases hv
          | some q => rw [e] at hv; cases hv; rfl
        have ih := lp_27 A hz f (p + 1) (x + O.length) l (by omega) hl2
        have e2 : x + ndL ((some O :: l).take (f + 1)) = x + O.length + ndL (l.take f) := by
          show x + (O.length + ndL (l.take f)) = _
          omega
        rw [e2]
        refine w_p (pc1 := 22) rfl rfl ?_
        refine w_p (pc1 := 23) rfl rfl ?_
        refine w_m0 (pc1 := 26) (st1 := .ref (241 + ks) :: _) rfl rfl (x_gf (k := k) rfl A.1 rfl) rfl ?_
        refine w_m0 (pc1 := 27) (st1 := .int (nI (6)) :: _) rfl rfl (x_ln (k := ks) A.2.2.2.1 (by decide)) rfl ?_
        refine w_f (a := 61) (b := 30) (bN_ge_f (a := p) (b := 6) (by omega) (by omega) (by omega)) rfl rfl ?_
        refine w_p (pc1 := 31) rfl rfl ?_
        refine w_p (pc1 := 32) rfl rfl ?_
        refine w_m0 (pc1 := 35) (st1 := .ref (241 + ks) :: _) rfl rfl (x_gf (k := k) rfl A.1 rfl) rfl ?_
        refine w_p (pc1 := 36) rfl rfl ?_
        refine w_m0 (pc1 := 37) (st1 := .ref (241 + kk) :: _) rfl rfl (x_als (k := ks) (e := p) A.2.2.2.1 (by decide) (by omega) (by omega) (hn)) rfl ?_
        refine w_t (a := 44) (b := 40) rfl rfl rfl ?_
        refine w_p (pc1 := 45) rfl rfl ?_
        refine w_m0 (pc1 := 48) (st1 := .ref (241 + ks) :: _) rfl rfl (x_gf (k := k) rfl A.1 rfl) rfl ?_
        refine w_p (pc1 := 49) rfl rfl ?_
        refine w_m0 (pc1 := 50) (st1 := .ref (241 + kk) :: _) rfl rfl (x_als (k := ks) (e := p) A.2.2.2.1 (by decide) (by omega) (by omega) (hn)) rfl ?_
        refine w_je (pc1 := 53) (vs := [.ref (241 + kk)]) (rest := [.int (nI (x))]) (st1 := [.int (nI (O.length)), .int (nI (x))]) (m_25 (d := d) (sl := 0) F) rfl rfl rfl (fun _ _ => rfl) rfl (by exact cl_v my_25 rfl rfl rfl (Nat.le_of_ble_eq_true rfl) rfl (x_obj F.1) rfl (by decide) rfl rfl) (by rfl) (Nat.le_of_ble_eq_true rfl) (Nat.le_of_ble_eq_true rfl) rfl (by rfl) ?_
        refine w_iadd (pc1 := 54) (u := nI (x)) (v := nI (O.length)) (z := nI (x + (O.length))) rfl (nK_add) rfl ?_
        refine w_p (pc1 := 55) (al1 := [(1, .int (nI (x + (O.length)))), (2, .int (nI (p))), (0, .ref (241 + k))]) rfl rfl ?_
        refine w_iinc (pc1 := 58) (u := nI (p)) (z := nI (p + 1)) (al1 := [(2, .int (nI (p + 1))), (1, .int (nI (x + (O.length)))), (0, .ref (241 + k))]) rfl rfl rfl nK_1 rfl rfl ?_
        refine w_p (pc1 := 21) rfl rfl ?_
        exact ih
set_option maxRecDepth 100000 in
theorem m_27 {a : ac_T} (A : ACn t k a) (h6 : (aSs a).length ≤ 6) : Wd L xs (d + 1) y_27 (0, [(0, .ref (241 + k))], [], MH C t, sl) (Rt (some (.int (nI (ndA a)))) (MH C t) sl) nX := by
  obtain ⟨kc, ks, fc, fs, vw, A, hz⟩ := A
  have hf := A.2.2.2.2.2
  have hg : ∀ x, x = ndF (aWh a) → Wd L xs (d + 1) y_27 (21, [(2, .int (nI 0)), (1, .int (nI x)), (0, .ref (241 + k))], [], MH C t, sl) (Rt (some (.int (nI (ndA a)))) (MH C t) sl) nX := fun x hx => by
    have := lp_27 (L := L) (xs := xs) (d := d) (C := C) (sl := sl) A hz 6 0 x (aSs a) rfl rfl
    rw [List.take_of_length_le h6, hx] at this
    rw [hx]
    exact this
  cases e : aWh a with
  | none =>
    rw [e] at hf hg
    obtain rfl : vw = .null := hf
    refine w_p (pc1 := 1) rfl rfl ?_
    refine w_m0 (pc1 := 4) (st1 := .null :: _) rfl rfl (x_gf (k := k) rfl A.1 rfl) rfl ?_
    refine w_f (a := 11) (b := 7) rfl rfl rfl ?_
    refine w_p (pc1 := 8) (st1 := .int 0 :: _) rfl rfl ?_
    refine w_p (pc1 := 18) rfl rfl ?_
    refine w_p (pc1 := 19) (al1 := [(1, .int 0), (0, .ref (241 + k))]) rfl rfl ?_
    refine w_p (pc1 := 20) (st1 := .int 0 :: _) rfl rfl ?_
    refine w_p (pc1 := 21) (al1 := [(2, .int 0), (1, .int 0), (0, .ref (241 + k))]) rfl rfl ?_
    exact hg 0 rfl
  | some O =>
    rw [e] at hf hg
    obtain ⟨kk, k1, k2, k3, s, rfl, F, _⟩ := hf
    refine w_p (pc1 := 1) rfl rfl ?_
    refine w_m0 (pc1 := 4) (st1 := .ref (241 + kk) :: _) rfl rfl (x_gf (k := k) rfl A.1 rfl) rfl ?_
    refine w_t (a := 11) (b := 7) rfl rfl rfl ?_
    refine w_p (pc1 := 12) rfl rfl ?_
    refine w_m0 (pc1 := 15) (st1 := .ref (241 + kk) :: _) rfl rfl (x_gf (k := k) rfl A.1 rfl) rfl ?_
    refine w_je (pc1 := 18) (vs := [.ref (241 + kk)]) (rest := []) (st1 := [.int (nI (O.length))]) (m_25 (d := d) (sl := 0) F) rfl rfl rfl (fun _ _ => rfl) rfl (by exact cl_v my_25 rfl rfl rfl (Nat.le_of_ble_eq_true rfl) rfl (x_obj F.1) rfl (by decide) rfl rfl) (by rfl) (Nat.le_of_ble_eq_true rfl) (Nat.le_of_ble_eq_true rfl) rfl (by rfl) ?_
    refine w_p (pc1 := 19) (al1 := [(1, .int (nI (O.length))), (0, .ref (241 + k))]) rfl rfl ?_
    refine w_p (pc1 := 20) (st1 := .int 0 :: _) rfl rfl ?_
    refine w_p (pc1 := 21) (al1 := [(2, .int 0), (1, .int (nI (O.length))), (0, .ref (241 + k))]) rfl rfl ?_
    exact hg O.length rfl
set_option maxRecDepth 100000 in
theorem m_26 {g : tr_T} (G : TRn t k g) (h6 : (aSs (gAc g)).length ≤ 6) : Wd L xs (d + 2) y_26 (0, [(0, .ref (241 + k))], [], MH C t, sl) (Rt (some (.int (nI (ndG (some g))))) (MH C t) sl) nX := by
  obtain ⟨ka, vw, h1, h2, h3⟩ := G
  obtain ⟨kc, ks, fc, fs, vw', A, hz⟩ := id h3
  have h27 := m_27 (L := L) (xs := xs) (C := C) (d := d) (sl := 0) h3 h6
  cases e : gWh g with
  | none =>
    rw [e] at h2
    obtain rfl : vw = .null := h2
    have e2 : ndG (some g) = 0 + ndA (gAc g) := by show ndF (gWh g) + _ = _; rw [e]; rfl
    rw [e2]
    refine w_p (pc1 := 1) rfl rfl ?_
    refine w_m0 (pc1 := 4) (st1 := .null :: _) rfl rfl (x_gf (k := k) rfl h1 rfl) rfl ?_
    refine w_f (a := 11) (b := 7) rfl rfl rfl ?_
    refine w_p (pc1 := 8) (st1 := .int 0 :: _) rfl rfl ?_
    refine w_p (pc1 := 18) rfl rfl ?_
    refine w_p (pc1 := 19) rfl rfl ?_
    refine w_m0 (pc1 := 22) (st1 := .ref (241 + ka) :: _) rfl rfl (x_gf (k := k) rfl h1 rfl) rfl ?_
    refine w_je (pc1 := 25) (vs := [.ref (241 + ka)]) (rest := [.int 0]) (st1 := [.int (nI (ndA (gAc g))), .int 0]) (h27) rfl rfl rfl (fun _ _ => rfl) rfl (by exact cl_v my_27 rfl rfl rfl (Nat.le_of_ble_eq_true rfl) rfl (x_obj A.1) rfl (by decide) rfl rfl) (by rfl) (Nat.le_of_ble_eq_true rfl) (Nat.le_of_ble_eq_true rfl) rfl (by rfl) ?_
    refine w_iadd (pc1 := 26) (u := nI (0)) (v := nI (ndA (gAc g))) (z := nI (0 + (ndA (gAc g)))) rfl (nK_add) rfl ?_
    refine w_r rfl rfl rfl (fun _ _ => rfl) cr_int ?_
    exact ⟨rfl, rfl, rfl⟩
  | some O =>
    rw [e] at h2
    obtain ⟨kk, k1, k2, k3, s, rfl, F, _⟩ := h2
    have e2 : ndG (some g) = O.length + ndA (gAc g) := by show ndF (gWh g) + _ = _; rw [e]; rfl
    rw [e2]
    refine w_p (pc1 := 1) rfl rfl ?_
    refine w_m0 (pc1 := 4) (st1 := .ref (241 + kk) :: _) rfl rfl (x_gf (k := k) rfl h1 rfl) rfl ?_
    refine w_t (a := 11) (b := 7) rfl rfl rfl ?_
    refine w_p (pc1 := 12) rfl rfl ?_
    refine w_m0 (pc1 := 15) (st1 := .ref (241 + kk) :: _) rfl rfl (x_gf (k := k) rfl h1 rfl) rfl ?_
    refine w_je (pc1 := 18) (vs := [.ref (241 + kk)]) (rest := []) (st1 := [.int (nI (O.length))]) (m_25 (d := d + 1) (sl := 0) F) rfl rfl rfl (fun _ _ => rfl) rfl (by exact cl_v my_25 rfl rfl rfl (Nat.le_of_ble_eq_true rfl) rfl (x_obj F.1) rfl (by decide) rfl rfl) (by rfl) (Nat.le_of_ble_eq_true rfl) (Nat.le_of_ble_eq_true rfl) rfl (by rfl) ?_
    refine w_p (pc1 := 19) rfl rfl ?_
    refine w_m0 (pc1 := 22) (st1 := .ref (241 + ka) :: _) rfl rfl (x_gf (k := k) rfl h1 rfl) rfl ?_
    refine w_je (pc1 := 25) (vs := [.ref (241 + ka)]) (rest := [.int (nI (O.length))]) (st1 := [.int (nI (ndA (gAc g))), .int (nI (O.length))]) (h27) rfl rfl rfl (fun _ _ => rfl) rfl (by exact cl_v my_27 rfl rfl rfl (Nat.le_of_ble_eq_true rfl) rfl (x_obj A.1) rfl (by decide) rfl rfl) (by rfl) (Nat.le_of_ble_eq_true rfl) (Nat.le_of_ble_eq_true rfl) rfl (by rfl) ?_
    refine w_iadd (pc1 := 26) (u := nI (O.length)) (v := nI (ndA (gAc g))) (z := nI (O.length + (ndA (gAc g)))) rfl (nK_add) rfl ?_
    refine w_r rfl rfl rfl (fun _ _ => rfl) cr_int ?_
    exact ⟨rfl, rfl, rfl⟩
set_option maxRecDepth 100000 in
theorem lp_23g (hG : TGN C t tr) (h6 : ∀ i g, tr i = some g → (aSs (gAc g)).length ≤ 6) : ∀ (f p x : Nat), p + f = 8 → Wd L xs (d + 3) y_23 (43, [(2, .int (nI p)), (1, .int (nI x)), (0, .ref 106)], [], MH C t, sl) (Rt (some (.int (nI (x + smN (fun i => ndG (tr i)) f p)))) (MH C t) sl) nX
  | 0, p, x, hp => by
    refine w_p (pc1 := 44) rfl rfl ?_
    refine w_p (pc1 := 46) (st1 := .int 8 :: _) rfl rfl ?_
    refine w_t (a := 80) (b := 49) (bN_ge_t (a := p) (b := 8) (by omega) (by omega) (by omega)) rfl rfl ?_
    refine w_p (pc1 := 81) rfl rfl ?_
    refine w_r rfl rfl rfl (fun _ _ => rfl) cr_int ?_
    exact ⟨rfl, rfl, rfl⟩
  | f + 1, p, x, hp => by
    have hq := hG p (by omega)
    have ih := lp_23g hG h6 f (p + 1) (x + ndG (tr p)) (by omega)
    rw [smN, ← Nat.add_assoc]
    cases e : tr p with
    | none =>
      rw [e] at hq ih
      have hq : C.2.2 12 p = none := hq
      refine w_p (pc1 := 44) rfl rfl ?_
      refine w_p (pc1 := 46) (st1 := .int 8 :: _) rfl rfl ?_
      refine w_f (a := 80) (b := 49) (bN_ge_f (a := p) (b := 8) (by omega) (by omega) (by omega)) rfl rfl ?_
      refine w_p (pc1 := 50) rfl rfl ?_
      refine w_p (pc1 := 51) rfl rfl ?_
      refine w_m0 (pc1 := 54) rfl rfl (h_gC rfl rfl rfl rfl) rfl ?_
      refine w_p (pc1 := 55) rfl rfl ?_
      refine w_m0 (pc1 := 56) (st1 := .null :: _) rfl rfl (n_aln (e := p) rfl rfl (by decide) rfl (by omega) (hq)) rfl ?_
      refine w_t (a := 71) (b := 59) rfl rfl rfl ?_
      refine w_p (pc1 := 72) (st1 := .int 0 :: _) rfl rfl ?_
      refine w_iadd (pc1 := 73) (u := nI (x)) (v := nI (0)) (z := nI (x + 0)) rfl (nK_add) rfl ?_
      refine w_p (pc1 := 74) (al1 := [(1, .int (nI (x + 0))), (2, .int (nI (p))), (0, .ref 106)]) rfl rfl ?_
      refine w_iinc (pc1 := 77) (u := nI (p)) (z := nI (p + 1)) (al1 := [(2, .int (nI (p + 1))), (1, .int (nI (x + 0))), (0, .ref 106)]) rfl rfl rfl nK_1 rfl rfl ?_
      refine w_p (pc1 := 43) rfl rfl ?_
      exact ih
    | some g =>
      rw [e] at hq ih
      obtain ⟨kk, hq, hg⟩ := hq
      obtain ⟨ka, vw, g1, g2, g3⟩ := id hg
      refine w_p (pc1 := 44) rfl rfl ?_
      refine w_p (pc1 := 46) (st1 := .int 8 :: _) rfl rfl ?_
      refine w_f (a := 80) (b := 49) (bN_ge_f (a := p) (b := 8) (by omega) (by omega) (by omega)) rfl rfl ?_
      refine w_p (pc1 := 50) rfl rfl ?_
      refine w_p (pc1 := 51) rfl rfl ?_
      refine w_m0 (pc1 := 54) rfl rfl (h_gC rfl rfl rfl rfl) rfl ?_
      refine w_p (pc1 := 55) rfl rfl ?_
      refine w_m0 (pc1 := 56) (st1 := .ref (241 + kk) :: _) rfl rfl (n_als (e := p) rfl rfl (by decide) rfl (by omega) (hq)) rfl ?_
      refine w_f (a := 71) (b := 59) rfl rfl rfl ?_
      refine w_p (pc1 := 60) rfl rfl ?_
      refine w_m0 (pc1 := 63) rfl rfl (h_gC rfl rfl rfl rfl) rfl ?_
      refine w_p (pc1 := 64) rfl rfl ?_
      refine w_m0 (pc1 := 65) (st1 := .ref (241 + kk) :: _) rfl rfl (n_als (e := p) rfl rfl (by decide) rfl (by omega) (hq)) rfl ?_
      refine w_je (pc1 := 68) (vs := [.ref (241 + kk)]) (rest := [.int (nI (x))]) (st1 := [.int (nI (ndG (some g))), .int (nI (x))]) (m_26 (d := d) (sl := 0) hg (h6 p g e)) rfl rfl rfl (fun _ _ => rfl) rfl (by exact cl_v my_26 rfl rfl rfl (Nat.le_of_ble_eq_true rfl) rfl (x_obj g1) rfl (by decide) rfl rfl) (by rfl) (Nat.le_of_ble_eq_true rfl) (Nat.le_of_ble_eq_true rfl) rfl (by rfl) ?_
      refine w_p (pc1 := 72) rfl rfl ?_
      refine w_iadd (pc1 := 73) (u := nI (x)) (v := nI (ndG (some g))) (z := nI (x + (ndG (some g)))) rfl (nK_add) rfl ?_
      refine w_p (pc1 := 74) (al1 := [(1, .int (nI (x + (ndG (some g))))), (2, .int (nI (p))), (0, .ref 106)]) rfl rfl ?_
      refine w_iinc (pc1 := 77) (u := nI (p)) (z := nI (p + 1)) (al1 := [(2, .int (nI (p + 1))), (1, .int (nI (x + (ndG (some g))))), (0, .ref 106)]) rfl rfl rfl nK_1 rfl rfl ?_
      refine w_p (pc1 := 43) rfl rfl ?_
      exact ih
set_option maxRecDepth 100000 in
theorem lp_23u (hR : RLK C t ru) (H : ∀ x, x = smN (fun i => ndU (ru i)) 24 0 → Wd L xs (d + 3) y_23 (41, [(2, .int (nI 24)), (1, .int (nI x)), (0, .ref 106)], [], MH C t, sl) P X) : ∀ (f p x : Nat), p + f = 24 → x + smN (fun i => ndU (ru i)) f p = smN (fun i => ndU (ru i)) 24 0 → Wd L xs (d + 3) y_23 (4, [(2, .int (nI p)), (1, .int (nI x)), (0, .ref 106)], [], MH C t, sl) P X
  | 0, p, x, hp, hx => by
    obtain rfl : p = 24 := by omega
    refine w_p (pc1 := 5) rfl rfl ?_
    refine w_p (pc1 := 7) (st1 := .int 24 :: _) rfl rfl ?_
    refine w_t (a := 41) (b := 10) (bN_ge_t (a := 24) (b := 24) (by omega) (by omega) (by omega)) rfl rfl ?_
    exact H x hx
  | f + 1, p, x, hp, hx => by
    have hq := hR p (by omega)
    have ih := lp_23u hR H f (p + 1) (x + ndU (ru p)) (by omega) (by rw [Nat.add_assoc]; exact hx)
    cases e : ru p with
    | none =>
      rw [e] at hq ih
      have hq : C.2.2 11 p = none := hq
      refine w_p (pc1 := 5) rfl rfl ?_
      refine w_p (pc1 := 7) (st1 := .int 24 :: _) rfl rfl ?_
      refine w_f (a := 41) (b := 10) (bN_ge_f (a := p) (b := 24) (by omega) (by omega) (by omega)) rfl rfl ?_
      refine w_p (pc1 := 11) rfl rfl ?_
      refine w_p (pc1 := 12) rfl rfl ?_
      refine w_m0 (pc1 := 15) rfl rfl (h_gC rfl rfl rfl rfl) rfl ?_
      refine w_p (pc1 := 16) rfl rfl ?_
      refine w_m0 (pc1 := 17) (st1 := .null :: _) rfl rfl (n_aln (e := p) rfl rfl (by decide) rfl (by omega) (hq)) rfl ?_
      refine w_t (a := 32) (b := 20) rfl rfl rfl ?_
      refine w_p (pc1 := 33) (st1 := .int 0 :: _) rfl rfl ?_
      refine w_iadd (pc1 := 34) (u := nI (x)) (v := nI (0)) (z := nI (x + 0)) rfl (nK_add) rfl ?_
      refine w_p (pc1 := 35) (al1 := [(1, .int (nI (x + 0))), (2, .int (nI (p))), (0, .ref 106)]) rfl rfl ?_
      refine w_iinc (pc1 := 38) (u := nI (p)) (z := nI (p + 1)) (al1 := [(2, .int (nI (p + 1))), (1, .int (nI (x + 0))), (0, .ref 106)]) rfl rfl rfl nK_1 rfl rfl ?_
      refine w_p (pc1 := 4) rfl rfl ?_
      exact ih
    | some u =>
      rw [e] at hq ih
      obtain ⟨kk, hq, hu⟩ := hq
      obtain ⟨kc, kt, fc, ft, vc, ⟨g1, _⟩, _⟩ := id hu
      refine w_p (pc1 := 5) rfl rfl ?_
      refine w_p (pc1 := 7) (st1 := .int 24 :: _) rfl rfl ?_
      refine w_f (a := 41) (b := 10) (bN_ge_f (a := p) (b := 24) (by omega) (by omega) (by omega)) rfl rfl ?_
      refine w_p (pc1 := 11) rfl rfl ?_
      refine w_p (pc1 := 12) rfl rfl ?_
      refine w_m0 (pc1 := 15) rfl rfl (h_gC rfl rfl rfl rfl) rfl ?_
      refine w_p (pc1 := 16) rfl rfl ?_
      refine w_m0 (pc1 := 17) (st1 := .ref (241 + kk) :: _) rfl rfl (n_als (e := p) rfl rfl (by decide) rfl (by omega) (hq)) rfl ?_
      refine w_f (a := 32) (b := 20) rfl rfl rfl ?_
      refine w_p (pc1 := 21) rfl rfl ?_
      refine w_m0 (pc1 := 24) rfl rfl (h_gC rfl rfl rfl rfl) rfl ?_
      refine w_p (pc1 := 25) rfl rfl ?_
      refine w_m0 (pc1 := 26) (st1 := .ref (241 + kk) :: _) rfl rfl (n_als (e := p) rfl rfl (by decide) rfl (by omega) (hq)) rfl ?_
      refine w_je (pc1 := 29) (vs := [.ref (241 + kk)]) (rest := [.int (nI (x))]) (st1 := [.int (nI (ndU (some u))), .int (nI (x))]) (m_24 (d := d + 1) (sl := 0) hu) rfl rfl rfl (fun _ _ => rfl) rfl (by exact cl_v my_24 rfl rfl rfl (Nat.le_of_ble_eq_true rfl) rfl (x_obj g1) rfl (by decide) rfl rfl) (by rfl) (Nat.le_of_ble_eq_true rfl) (Nat.le_of_ble_eq_true rfl) rfl (by rfl) ?_
      refine w_p (pc1 := 33) rfl rfl ?_
      refine w_iadd (pc1 := 34) (u := nI (x)) (v := nI (ndU (some u))) (z := nI (x + (ndU (some u)))) rfl (nK_add) rfl ?_
      refine w_p (pc1 := 35) (al1 := [(1, .int (nI (x + (ndU (some u))))), (2, .int (nI (p))), (0, .ref 106)]) rfl rfl ?_
      refine w_iinc (pc1 := 38) (u := nI (p)) (z := nI (p + 1)) (al1 := [(2, .int (nI (p + 1))), (1, .int (nI (x + (ndU (some u))))), (0, .ref 106)]) rfl rfl rfl nK_1 rfl rfl ?_
      refine w_p (pc1 := 4) rfl rfl ?_
      exact ih
set_option maxRecDepth 100000 in
theorem m_23 (hR : RLK C t ru) (hG : TGN C t tr) (h6 : ∀ i g, tr i = some g → (aSs (gAc g)).length ≤ 6) : Wd L xs (d + 3) y_23 (0, [(0, .ref 106)], [], MH C t, sl) (Rt (some (.int (nI (ndS ru tr)))) (MH C t) sl) nX := by
  have hu := lp_23u (L := L) (xs := xs) (d := d) (C := C) (t := t) (sl := sl) (P := Rt (some (.int (nI (ndS ru tr)))) (MH C t) sl) (X := nX) hR (fun x hx => by
    have hg := lp_23g (L := L) (xs := xs) (d := d) (C := C) (t := t) (sl := sl) hG h6 8 0 x rfl
    rw [hx] at hg ⊢
    refine w_p (pc1 := 42) (st1 := .int 0 :: _) rfl rfl ?_
    refine w_p (pc1 := 43) (al1 := [(2, .int 0), (1, .int (nI (smN (fun i => ndU (ru i)) 24 0))), (0, .ref 106)]) rfl rfl ?_
    exact hg) 24 0 0 rfl (Nat.zero_add _)
  refine w_p (pc1 := 1) (st1 := .int 0 :: _) rfl rfl ?_
  refine w_p (pc1 := 2) (al1 := [(1, .int 0), (0, .ref 106)]) rfl rfl ?_
  refine w_p (pc1 := 3) (st1 := .int 0 :: _) rfl rfl ?_
  refine w_p (pc1 := 4) (al1 := [(2, .int 0), (1, .int 0), (0, .ref 106)]) rfl rfl ?_
  exact hu
def bgC (C : co_T) (x : Int32) : co_T := sI (sI (sI (sI C 21 6 x) 21 7 (-1)) 21 8 (-1)) 21 10 0
set_option maxRecDepth 100000 in
theorem m_22y (hR : RLK C t ru) (hG : TGN C t tr) (h6 : ∀ i g, tr i = some g → (aSs (gAc g)).length ≤ 6) (h4 : ndS ru tr ≤ 400) : Wd L xs (d + 4) y_22 (0, [(0, .ref 121), (1, .int 1)], [], MH C t, sl) (Rt none (MH (bgC C (nI (400 - ndS ru tr))) t) sl) nX := by
  refine w_p (pc1 := 1) rfl rfl ?_
  refine w_p (pc1 := 2) rfl rfl ?_
  refine w_f (a := 19) (b := 5) rfl rfl rfl ?_
  refine w_p (pc1 := 8) (st1 := .int 400 :: _) rfl rfl ?_
  refine w_p (pc1 := 9) rfl rfl ?_
  refine w_m0 (pc1 := 12) rfl rfl (h_gC rfl rfl rfl rfl) rfl ?_
  refine w_je (pc1 := 15) (vs := [.ref 106]) (rest := [.int 400, .ref 121]) (st1 := [.int (nI (ndS ru tr)), .int 400, .ref 121]) (m_23 (d := d) (sl := 0) hR hG h6) rfl rfl rfl (fun _ _ => rfl) rfl (by exact cl_v my_23 rfl rfl rfl (Nat.le_of_ble_eq_true rfl) rfl (MH_obj rfl rfl) rfl (by decide) rfl rfl) (by rfl) (Nat.le_of_ble_eq_true rfl) (Nat.le_of_ble_eq_true rfl) rfl (by rfl) ?_
  refine w_isub (pc1 := 16) (u := nI (400)) (v := nI (ndS ru tr)) (z := nI (400 - (ndS ru tr))) rfl (nK_sub (by omega)) rfl ?_
  refine w_p (pc1 := 20) rfl rfl ?_
  refine w_m0 (pc1 := 23) rfl rfl (h_pI (j := 6) rfl rfl rfl rfl rfl rfl rfl ⟨rfl, rfl⟩ rfl) rfl ?_
  refine w_p (pc1 := 24) rfl rfl ?_
  refine w_p (pc1 := 25) (st1 := .int (-1) :: _) rfl rfl ?_
  refine w_m0 (pc1 := 28) rfl rfl (h_pI (j := 7) rfl rfl rfl rfl rfl rfl rfl ⟨rfl, rfl⟩ rfl) rfl ?_
  refine w_p (pc1 := 29) rfl rfl ?_
  refine w_p (pc1 := 30) (st1 := .int (-1) :: _) rfl rfl ?_
  refine w_m0 (pc1 := 33) rfl rfl (h_pI (j := 8) rfl rfl rfl rfl rfl rfl rfl ⟨rfl, rfl⟩ rfl) rfl ?_
  refine w_p (pc1 := 34) rfl rfl ?_
  refine w_p (pc1 := 35) (st1 := .int 0 :: _) rfl rfl ?_
  refine w_m0 (pc1 := 38) rfl rfl (h_pI (j := 10) rfl rfl rfl rfl rfl rfl rfl ⟨rfl, rfl⟩ rfl) rfl ?_
  refine w_r rfl rfl rfl (fun _ _ => rfl) rfl ?_
  exact ⟨rfl, rfl, rfl⟩
set_option maxRecDepth 100000 in
theorem m_22n : Wd L xs (d + 4) y_22 (0, [(0, .ref 121), (1, .int 0)], [], MH C t, sl) (Rt none (MH (bgC C (-1)) t) sl) nX := by
  refine w_p (pc1 := 1) rfl rfl ?_
  refine w_p (pc1 := 2) rfl rfl ?_
  refine w_t (a := 19) (b := 5) rfl rfl rfl ?_
  refine w_p (pc1 := 20) (st1 := .int (-1) :: _) rfl rfl ?_
  refine w_m0 (pc1 := 23) rfl rfl (h_pI (j := 6) rfl rfl rfl rfl rfl rfl rfl ⟨rfl, rfl⟩ rfl) rfl ?_
  refine w_p (pc1 := 24) rfl rfl ?_
  refine w_p (pc1 := 25) (st1 := .int (-1) :: _) rfl rfl ?_
  refine w_m0 (pc1 := 28) rfl rfl (h_pI (j := 7) rfl rfl rfl rfl rfl rfl rfl ⟨rfl, rfl⟩ rfl) rfl ?_
  refine w_p (pc1 := 29) rfl rfl ?_
  refine w_p (pc1 := 30) (st1 := .int (-1) :: _) rfl rfl ?_
  refine w_m0 (pc1 := 33) rfl rfl (h_pI (j := 8) rfl rfl rfl rfl rfl rfl rfl ⟨rfl, rfl⟩ rfl) rfl ?_
  refine w_p (pc1 := 34) rfl rfl ?_
  refine w_p (pc1 := 35) (st1 := .int 0 :: _) rfl rfl ?_
  refine w_m0 (pc1 := 38) rfl rfl (h_pI (j := 10) rfl rfl rfl rfl rfl rfl rfl ⟨rfl, rfl⟩ rfl) rfl ?_
  refine w_r rfl rfl rfl (fun _ _ => rfl) rfl ?_
  exact ⟨rfl, rfl, rfl⟩
end NDS
