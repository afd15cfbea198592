
/-! THE OTHER SIDE READS A TABLE, 1: what it keeps meanwhile -/
section MTA
variable {L : Nat} {xs : Nat → Int32} {B : Nat → Nat} {n : Nat} {C C' C0 C1 : co_T} {t : ab_H} {d i i0 i1 j b e p k w q : Nat} {U V : Nat → Prop} {c : Int32} {sc : sc_T} {row : Option Nat} {tg : Option (Nat × Nat)} {nl : Option Nat} {E : fe_T} {tr : Nat → Option tr_T}
variable {r : Nat} {l : List Nat} {o : Option Nat} {Tb : tb_S} {u : ru_T}
/-! what the reading of a rule r may change -/
def fPo (r : Nat) (C C' : co_T) : Prop := (∀ k j, ¬ (k = 76 ∧ (3 ≤ j ∧ j ≤ 9 ∨ 40 ≤ j ∧ j ≤ 47 ∨ j = 52)) → ¬ ((84 ≤ k ∧ k ≤ 94 ∧ k ≠ 88 ∧ k ≠ 89) ∧ j = r) → ¬ ((k = 88 ∨ k = 89) ∧ 6 * r ≤ j ∧ j < 6 * r + 6) → ¬ (k = 106 ∧ 620 * r ≤ j ∧ j < 620 * r + 620) → k ≠ 108 → ¬ (k = 113 ∧ j = r) → C'.1 k j = C.1 k j) ∧ (∀ k j, ¬ (k = 76 ∧ j = 7) → ¬ (k = 107 ∧ 620 * r ≤ j ∧ j < 620 * r + 620) → k ≠ 109 → C'.2.1 k j = C.2.1 k j) ∧ C'.2.2 = C.2.2
def fP (r : Nat) (C C' : co_T) : Prop := (∀ k j, ¬ (k = 76 ∧ (3 ≤ j ∧ j ≤ 9 ∨ 40 ≤ j ∧ j ≤ 47 ∨ j = 52)) → ¬ ((84 ≤ k ∧ k ≤ 94 ∧ k ≠ 88 ∧ k ≠ 89 ∧ k ≠ 91) ∧ j = r) → ¬ ((k = 88 ∨ k = 89) ∧ 6 * r ≤ j ∧ j < 6 * r + 6) → ¬ (k = 106 ∧ 620 * r ≤ j ∧ j < 620 * r + 620) → k ≠ 108 → ¬ (k = 113 ∧ j = r) → C'.1 k j = C.1 k j) ∧ (∀ k j, ¬ (k = 76 ∧ j = 7) → ¬ (k = 107 ∧ 620 * r ≤ j ∧ j < 620 * r + 620) → k ≠ 109 → C'.2.1 k j = C.2.1 k j) ∧ C'.2.2 = C.2.2
set_option maxRecDepth 100000 in
theorem fPo_P (h : fP r C C') : fPo r C C' := ⟨fun k j a b c d e g => h.1 k j a (fun z => b ⟨⟨z.1.1, z.1.2.1, z.1.2.2.1, z.1.2.2.2.1⟩, z.2⟩) c d e g, h.2⟩
set_option maxRecDepth 100000 in
theorem fP_r : fP r C C := ⟨fun _ _ _ _ _ _ _ _ => rfl, fun _ _ _ _ _ => rfl, rfl⟩
set_option maxRecDepth 100000 in
theorem fP_t {C1 C2 C3 : co_T} (h : fP r C1 C2) (f : fP r C2 C3) : fP r C1 C3 := ⟨fun k j a b c d e g => (f.1 k j a b c d e g).trans (h.1 k j a b c d e g), fun k j a b c => (f.2.1 k j a b c).trans (h.2.1 k j a b c), f.2.2.trans h.2.2⟩
set_option maxRecDepth 100000 in
theorem fP_T (h : frT C C') : fP r C C' := ⟨fun k j a _ _ _ _ _ => h.1 k j (by omega), fun k j a _ _ => h.2.1 k j a, h.2.2⟩
set_option maxRecDepth 100000 in
theorem fP_G {wb : Nat} (h : frG r b wb C C') : fP r C C' := ⟨fun k j a b c d e g => h.1 k j (by omega) (by omega) (by omega), fun k j a b c => h.2.1 k j a (by omega) (by omega), h.2.2⟩
set_option maxRecDepth 100000 in
theorem fP_I {v : Int32} (h : (84 ≤ k ∧ k ≤ 94 ∧ k ≠ 88 ∧ k ≠ 89 ∧ k ≠ 91) ∨ k = 113) : fP r C (sI C k r v) := ⟨fun q i a b c d e g => by rw [sI_1, if_neg (by omega)], fun _ _ _ _ _ => rfl, rfl⟩
set_option maxRecDepth 100000 in
theorem fP_F {v : Int32} (h : 40 ≤ j ∧ j ≤ 47) : fP r C (sI C 76 j v) := ⟨fun q i a b c d e g => by rw [sI_1, if_neg (by omega)], fun _ _ _ _ _ => rfl, rfl⟩
set_option maxRecDepth 100000 in
theorem fP_C {v : Int32} (h : (k = 88 ∨ k = 89) ∧ 6 * r ≤ j ∧ j < 6 * r + 6) : fP r C (sI C k j v) := ⟨fun q i a b c d e g => by rw [sI_1, if_neg (by omega)], fun _ _ _ _ _ => rfl, rfl⟩
/-! how long what a rule says may be -/
def okq (u : ru_T) : Prop := (rCs u).length ≤ 6 ∧ (rOs u).length ≤ 6 ∧ ∀ O, rCk u = some O → O.length ≤ 619
set_option maxRecDepth 100000 in
theorem RUM_o (hq : q ≠ r) (ok : okq u) (H : RUM C q u) (f : fPo r C C') : RUM C' q u := by
  obtain ⟨⟨a1, a2, a3, a4, a5, a6⟩, ⟨b1, b2, b3⟩, c1, c2⟩ := H
  have e : ∀ k, (84 ≤ k ∧ k ≤ 94 ∧ k ≠ 88 ∧ k ≠ 89) → C'.1 k q = C.1 k q := fun k hk => f.1 k q (by omega) (by omega) (by omega) (by omega) (by omega) (by omega)
  refine ⟨⟨(e 84 (by omega)).trans a1, (e 85 (by omega)).trans a2, (e 86 (by omega)).trans a3, (e 87 (by omega)).trans a4, fun j x hx => ?_, fun j x hx => ?_⟩, ⟨(e 90 (by omega)).trans b1, (e 92 (by omega)).trans b2, (e 93 (by omega)).trans b3⟩, fun O hO => ?_, fun h => (e 94 (by omega)).trans (c2 h)⟩
  · have hj : j < (rCs u).length := (List.getElem?_eq_some_iff.mp hx).1
    have h6 := ok.1
    exact (f.1 88 _ (by omega) (by omega) (by omega) (by omega) (by omega) (by omega)).trans (a5 j x hx)
  · have hj : j < (rOs u).length := (List.getElem?_eq_some_iff.mp hx).1
    have h6 := ok.2.1
    exact (f.1 89 _ (by omega) (by omega) (by omega) (by omega) (by omega) (by omega)).trans (a6 j x hx)
  · obtain ⟨d1, d2, d3⟩ := c1 O hO
    refine ⟨(f.1 113 q (by omega) (by omega) (by omega) (by omega) (by omega) (by omega)).trans d1, fun j x hx => ?_, (e 94 (by omega)).trans d3⟩
    have hj : j < O.length := (List.getElem?_eq_some_iff.mp hx).1
    have h6 := ok.2.2 O hO
    rw [f.1 106 (620 * q + (0 + j)) (by omega) (by omega) (by omega) (by omega) (by omega) (by omega), f.2.1 107 (620 * q + (0 + j)) (by omega) (by omega) (by omega)]
    exact d2 j x hx
/-! names, defaults, rules; l: the new rules; o: a rule that is being read -/
def TMo (C : co_T) (b : Nat) (Tb : tb_S) (l : List Nat) (o : Option Nat) : Prop := (C.1 76 57 = nI b ∧ b < 6 ∧ C.1 78 b = 0 ∧ Tb.1.1 b ≠ 0) ∧ (∀ q, q < 6 → Tb.1.1 q ≠ 0 → (q ≠ b → C.1 78 q = 1) ∧ C.2.1 79 q = Tb.1.1 q ∧ TBM C Tb.1 q ∧ ∀ c, c < Tb.1.2.1 q → C.2.1 82 (6 * q + c) = e_V (Tb.2.1 q c)) ∧ (∀ q, q < 6 → Tb.1.1 q = 0 → C.1 78 q = 0) ∧ (C.1 76 58 = nI l.length ∧ (∀ x, x ∈ l → x < 24 ∧ C.1 91 x = 0) ∧ l.Nodup ∧ ∀ k x, l[k]? = some x → C.1 114 k = nI x) ∧ (∀ q, q < 24 → o ≠ some q → (Tb.2.2 q = none ∧ C.1 83 q = 0 ∧ q ∉ l) ∨ (∃ u, Tb.2.2 q = some u ∧ RUM C q u ∧ okq u ∧ (C.1 83 q = 1 ∨ (C.1 83 q = 0 ∧ q ∈ l)))) ∧ (∀ x, o = some x → x < 24 ∧ Tb.2.2 x = none ∧ C.1 83 x = 0 ∧ x ∈ l) ∧ ((C.1 76 48 = 0 ∨ C.1 76 48 = 1) ∧ (C.1 76 49 = 0 ∨ C.1 76 49 = 1))
set_option maxRecDepth 100000 in
theorem TMo_l (H : TMo C b Tb l o) : l.length ≤ 24 := php 24 l (fun x hx => (H.2.2.2.1.2.1 x hx).1) H.2.2.2.1.2.2.1
set_option maxRecDepth 100000 in
theorem TMo_P (H : TMo C b Tb l o) (ho : o = some r ∨ 24 ≤ r) (f : fP r C C') : TMo C' b Tb l o := by
  obtain ⟨⟨a1, a2, a3, a4⟩, b1, c1, ⟨d1, d2, d3, d4⟩, e1, g1, bo⟩ := H
  have s : ∀ k j, k = 78 ∨ k = 80 ∨ k = 83 ∨ k = 114 → C'.1 k j = C.1 k j := fun k j hk => f.1 k j (by omega) (by omega) (by omega) (by omega) (by omega) (by omega)
  have s7 : ∀ j, j = 57 ∨ j = 58 ∨ j = 48 ∨ j = 49 → C'.1 76 j = C.1 76 j := fun j hj => f.1 76 j (by omega) (by omega) (by omega) (by omega) (by omega) (by omega)
  have s2 : ∀ k j, k = 79 ∨ k = 81 ∨ k = 82 → C'.2.1 k j = C.2.1 k j := fun k j hk => f.2.1 k j (by omega) (by omega) (by omega)
  refine ⟨⟨(s7 57 (by omega)).trans a1, a2, (s 78 b (by omega)).trans a3, a4⟩, fun q hq hz => ?_, fun q hq hz => (s 78 q (by omega)).trans (c1 q hq hz), ⟨(s7 58 (by omega)).trans d1, fun x hx => ⟨(d2 x hx).1, (f.1 91 x (by omega) (by omega) (by omega) (by omega) (by omega) (by omega)).trans (d2 x hx).2⟩, d3, fun k x hx => (s 114 k (by omega)).trans (d4 k x hx)⟩, fun q hq hn => ?_, fun x hx => ?_, by rw [s7 48 (by omega), s7 49 (by omega)]; exact bo⟩
  · obtain ⟨h1, h2, h3, h4⟩ := b1 q hq hz
    exact ⟨fun h => (s 78 q (by omega)).trans (h1 h), (s2 79 q (by omega)).trans h2, TBM_o h3 (fun j => s 80 j (by omega)) (fun j => s2 81 j (by omega)), fun c hc => (s2 82 _ (by omega)).trans (h4 c hc)⟩
  · rcases e1 q hq hn with ⟨h1, h2, h3⟩ | ⟨u, h1, h2, h3, h4⟩
    · exact Or.inl ⟨h1, (s 83 q (by omega)).trans h2, h3⟩
    · have hqr : q ≠ r := by
        rcases ho with rfl | h
        · exact fun e => hn (by rw [e])
        · omega
      refine Or.inr ⟨u, h1, RUM_o hqr h3 h2 (fPo_P f), h3, ?_⟩
      rw [s 83 q (by omega)]
      exact h4
  · obtain ⟨h1, h2, h3, h4⟩ := g1 x hx
    exact ⟨h1, h2, (s 83 x (by omega)).trans h3, h4⟩
set_option maxRecDepth 100000 in
theorem TMo_T (H : TMo C b Tb l o) (f : frT C C') : TMo C' b Tb l o := TMo_P (r := 24) H (Or.inr (Nat.le_refl _)) (fP_T f)
/-! the open rule is told -/
set_option maxRecDepth 100000 in
theorem TMo_c (H : TMo C b Tb l (some r)) (hr : ruN Tb.2.2 = nI r) (R : RUM C r u) (ok : okq u) : TMo C b (addR Tb u) l none := by
  obtain ⟨a1, b1, c1, d1, e1, g1, bo⟩ := H
  obtain ⟨h1, h2, h3, h4⟩ := g1 r rfl
  have hn : (ruN Tb.2.2).toNatClampNeg = r := by rw [hr]; exact nK_nat (by omega)
  refine ⟨a1, b1, c1, d1, fun q hq _ => ?_, fun x e => (by cases e), bo⟩
  by_cases e : q = r
  · subst e
    refine Or.inr ⟨u, ?_, R, ok, Or.inr ⟨h3, h4⟩⟩
    show (if q = (ruN Tb.2.2).toNatClampNeg then some u else Tb.2.2 q) = some u
    rw [if_pos hn.symm]
  · have e2 : (addR Tb u).2.2 q = Tb.2.2 q := by
      show (if q = (ruN Tb.2.2).toNatClampNeg then some u else Tb.2.2 q) = Tb.2.2 q
      rw [if_neg (by rw [hn]; exact e)]
    rw [e2]
    exact e1 q hq (fun h => e (by cases h; rfl))
/-! where a rule's cells lie -/
set_option maxRecDepth 100000 in
theorem sx_r (hU : U r) (h : 84 ≤ k ∧ k ≤ 94 ∧ k ≠ 88 ∧ k ≠ 89) : sxI U V k r := Or.inr (Or.inr (Or.inr (Or.inr (Or.inl ⟨h, hU⟩))))
set_option maxRecDepth 100000 in
theorem sx_c (hU : U r) (h : k = 88 ∨ k = 89) (hj : 6 * r ≤ j ∧ j < 6 * r + 6) : sxI U V k j := Or.inr (Or.inr (Or.inr (Or.inr (Or.inr (Or.inl ⟨h, by rw [show j / 6 = r by omega]; exact hU⟩)))))
/-! LATE -/
def PLa (B : Nat → Nat) (n : Nat) (U V : Nat → Prop) (C0 C : co_T) (t : ab_H) (r i : Nat) (nl : Option Nat) : Option Value → ab_H → Nat → Prop := fun v h m => (none = v ∧ (∃ C', (kd B n (rDef (tkP B n) i).2 ≠ 1 ∧ MS B n U V C0 C' (rDef (tkP B n) i).2 nl ∧ C'.1 90 r = ck (rDef (tkP B n) i).1 ∧ (∀ k j, ¬ (k = 76 ∧ (j = 3 ∨ j = 4 ∨ j = 5 ∨ j = 6 ∨ j = 8 ∨ j = 9)) → ¬ (k = 90 ∧ j = r) → C'.1 k j = C.1 k j) ∧ (∀ k j, ¬ (k = 76 ∧ j = 7) → C'.2.1 k j = C.2.1 k j) ∧ C'.2.2 = C.2.2) ∧ MH C' t = h) ∧ 0 = m) ∨ (none = v ∧ (∃ C', (kd B n (rDef (tkP B n) i).2 = 1 ∧ FS B n U V C0 C' 1 (rDef (tkP B n) i).2) ∧ MH C' t = h) ∧ 0 = m)
set_option maxRecDepth 100000 in
theorem m_217 (hU : U r) (hr : r < 24) (M : MS B n U V C0 C i nl) (h90 : C.1 90 r = 0) : Wd L xs (d + 4) y_217 (0, [(0, .ref 176), (1, .int (nI r))], [], MH C t, 0) (PLa B n U V C0 C t r i nl) nX := by
  unfold PLa
  by_cases hk : kd B n i = 20
  · have hd : rDef (tkP B n) i = (true, i + 1) := if_pos hk
    rw [hd]
    have M1 := MS_I (v := 1) M (sx_r (V := V) (k := 90) hU (by omega)) (by omega)
    refine w_p (pc1 := 1) rfl rfl ?_
    refine w_m0 (pc1 := 4) (st1 := .int 0 :: _) rfl rfl (h_gIe (j := 8) rfl rfl rfl rfl rfl (M.2.1.2.1)) rfl ?_
    refine w_f (a := 28) (b := 7) rfl rfl rfl ?_
    refine w_p (pc1 := 8) rfl rfl ?_
    refine w_m0 (pc1 := 11) (st1 := .long 1818326117 :: _) rfl rfl rfl rfl ?_
    refine w_je (pc1 := 14) (vs := [.ref 176, .long 1818326117]) (rest := []) (st1 := [.int 1]) (m_205t (d := _) (sl := 0) ((wd_k (k := 20) M.2.1 (by decide) (by decide)).trans (decide_eq_true hk))) rfl rfl rfl (fun _ _ => rfl) rfl (by exact cl_v my_205 rfl rfl rfl (Nat.le_of_ble_eq_true rfl) rfl (MH_obj rfl rfl) rfl (by decide) rfl rfl) (by rfl) (Nat.le_of_ble_eq_true rfl) (Nat.le_of_ble_eq_true rfl) rfl (by rfl) ?_
    refine w_f (a := 28) (b := 17) rfl rfl rfl ?_
    refine w_p (pc1 := 18) rfl rfl ?_
    refine w_m0 (pc1 := 21) rfl rfl (h_gC rfl rfl rfl rfl) rfl ?_
    refine w_p (pc1 := 22) rfl rfl ?_
    refine w_p (pc1 := 23) (st1 := .int 1 :: _) rfl rfl ?_
    refine w_m0 (pc1 := 24) rfl rfl (n_bs (e := r) rfl rfl (by decide) rfl (by omega)) rfl ?_
    refine w_p (pc1 := 25) rfl rfl ?_
    refine w_ji (pc1 := 28) (vs := [.ref 176]) (rest := []) (nS (d := _) M1 (by rw [hk]; decide)) rfl rfl rfl (fun _ _ => rfl) rfl (by exact cl_v my_195 rfl rfl rfl (Nat.le_of_ble_eq_true rfl) rfl (MH_obj rfl rfl) rfl (by decide) rfl rfl) (by rfl) (Nat.le_of_ble_eq_true rfl) (Nat.le_of_ble_eq_true rfl) rfl (fun v h1 d1 hq => ?_) (fun _ _ _ e => e.elim)
    rcases hq with ⟨hv, ⟨C2, ⟨g2, M2, f2⟩, hh⟩, hn⟩ | ⟨hv, ⟨C2, ⟨g2, F2, f2⟩, hh⟩, hn⟩
    · subst hv; subst hh; subst hn
      refine w_r rfl rfl rfl (fun _ _ => rfl) rfl ?_
      first
      | exact Or.inl ⟨rfl, ⟨_, ⟨g2, M2, by rw [f2.1 90 r (by omega), sI_1, if_pos ⟨rfl, rfl⟩]; rfl, fun k j h1 h2 => by rw [f2.1 k j h1, sI_1, if_neg (by omega)], fun k j h => f2.2.1 k j h, f2.2.2⟩, rfl⟩, rfl⟩
      | exact Or.inr ⟨rfl, ⟨_, ⟨g2, F2⟩, rfl⟩, rfl⟩
    · subst hv; subst hh; subst hn
      refine w_r rfl rfl rfl (fun _ _ => rfl) rfl ?_
      first
      | exact Or.inl ⟨rfl, ⟨_, ⟨g2, M2, by rw [f2.1 90 r (by omega), sI_1, if_pos ⟨rfl, rfl⟩]; rfl, fun k j h1 h2 => by rw [f2.1 k j h1, sI_1, if_neg (by omega)], fun k j h => f2.2.1 k j h, f2.2.2⟩, rfl⟩, rfl⟩
      | exact Or.inr ⟨rfl, ⟨_, ⟨g2, F2⟩, rfl⟩, rfl⟩
  · have hd : rDef (tkP B n) i = (false, i) := if_neg hk
    rw [hd]
    refine w_p (pc1 := 1) rfl rfl ?_
    refine w_m0 (pc1 := 4) (st1 := .int 0 :: _) rfl rfl (h_gIe (j := 8) rfl rfl rfl rfl rfl (M.2.1.2.1)) rfl ?_
    refine w_f (a := 28) (b := 7) rfl rfl rfl ?_
    refine w_p (pc1 := 8) rfl rfl ?_
    refine w_m0 (pc1 := 11) (st1 := .long 1818326117 :: _) rfl rfl rfl rfl ?_
    refine w_je (pc1 := 14) (vs := [.ref 176, .long 1818326117]) (rest := []) (st1 := [.int 0]) (m_205f (d := _) (sl := 0) ((wd_k (k := 20) M.2.1 (by decide) (by decide)).trans (decide_eq_false hk))) rfl rfl rfl (fun _ _ => rfl) rfl (by exact cl_v my_205 rfl rfl rfl (Nat.le_of_ble_eq_true rfl) rfl (MH_obj rfl rfl) rfl (by decide) rfl rfl) (by rfl) (Nat.le_of_ble_eq_true rfl) (Nat.le_of_ble_eq_true rfl) rfl (by rfl) ?_
    refine w_t (a := 28) (b := 17) rfl rfl rfl ?_
    refine w_r rfl rfl rfl (fun _ _ => rfl) rfl ?_
    exact Or.inl ⟨rfl, ⟨_, ⟨M.2.1.1, M, h90, fun _ _ _ _ => rfl, fun _ _ _ => rfl, rfl⟩, rfl⟩, rfl⟩
set_option maxRecDepth 100000 in
theorem m_217f (F : FS B n U V C0 C c i) : Wd L xs d y_217 (0, [(0, .ref 176), (1, .int (nI r))], [], MH C t, 0) (Rt none (MH C t) 0) nX := by
  have h0 := FS_0 F
  refine w_p (pc1 := 1) rfl rfl ?_
  refine w_m0 (pc1 := 4) rfl rfl (h_gI (j := 8) rfl rfl rfl rfl rfl) rfl ?_
  refine w_t (a := 28) (b := 7) (cb_ne_t (by exact h0)) rfl rfl ?_
  refine w_r rfl rfl rfl (fun _ _ => rfl) rfl ?_
  exact ⟨rfl, rfl, rfl⟩
/-! what follows: an action -/
def PAn (B : Nat → Nat) (n : Nat) (U V : Nat → Prop) (C0 C : co_T) (t : ab_H) (i : Nat) (nl : Option Nat) : Option Value → ab_H → Nat → Prop := fun v h m => (∃ a, some (.int (nI a)) = v ∧ (∃ C', (rAcn (tkP B n) (i + 1) = .inr (a, i + 1 + 1) ∧ (1 ≤ a ∧ a ≤ 4) ∧ kd B n (i + 1 + 1) ≠ 1 ∧ MS B n U V C0 C' (i + 1 + 1) nl ∧ frT C C') ∧ MH C' t = h) ∧ 0 = m) ∨ (∃ a, some (.int (nI a)) = v ∧ (∃ C', (∃ c j, flS B n Prod.snd (rAcn (tkP B n) (i + 1)) c j ∧ FS B n U V C0 C' c j) ∧ MH C' t = h) ∧ 0 = m)
set_option maxRecDepth 100000 in
theorem rAcn_y {k a : Nat} (hk : kd B n i = k) (ha : acN k = some a) : rAcn (tkP B n) i = .inr (a, i + 1) := by
  unfold rAcn
  show (match acN (kd B n i) with
    | none => _
    | some a => _) = _
  rw [hk, ha]
set_option maxRecDepth 100000 in
theorem rAcn_x (h1 : kd B n i ≠ 36) (h2 : kd B n i ≠ 11) (h3 : kd B n i ≠ 27) (h4 : kd B n i ≠ 14) : rAcn (tkP B n) i = .inl (2, i) := by
  unfold rAcn
  have : acN ((tkP B n).1 i) = none := by
    show acN (kd B n i) = none
    unfold acN
    rw [if_neg h1, if_neg h2, if_neg h3, if_neg h4]
  rw [this]
set_option maxRecDepth 100000 in
theorem m_222 (M : MS B n U V C0 C i nl) (h2 : kd B n i ≠ 2) : Wd L xs (d + 4) y_222 (0, [(0, .ref 176)], [], MH C t, 0) (PAn B n U V C0 C t i nl) nX := by
  by_cases h36 : kd B n (i + 1) = 36
  · have hx : rAcn (tkP B n) (i + 1) = .inr (1, i + 1 + 1) := rAcn_y (k := 36) h36 rfl
    refine w_p (pc1 := 1) rfl rfl ?_
    refine w_ji (pc1 := 4) (vs := [.ref 176]) (rest := []) (nS (d := _) M h2) rfl rfl rfl (fun _ _ => rfl) rfl (by exact cl_v my_195 rfl rfl rfl (Nat.le_of_ble_eq_true rfl) rfl (MH_obj rfl rfl) rfl (by decide) rfl rfl) (by rfl) (Nat.le_of_ble_eq_true rfl) (Nat.le_of_ble_eq_true rfl) rfl (fun v h1 d1 hq => ?_) (fun _ _ _ e => e.elim)
    rcases hq with ⟨hv, ⟨C1, ⟨g1, M1, f1⟩, hh⟩, hn⟩ | ⟨hv, ⟨C1, ⟨g1, F1, f1⟩, hh⟩, hn⟩
    · subst hv; subst hh; subst hn
      refine w_p (pc1 := 5) rfl rfl ?_
      refine w_m0 (pc1 := 8) (st1 := .int 0 :: _) rfl rfl (h_gIe (j := 8) rfl rfl rfl rfl rfl (M1.2.1.2.1)) rfl ?_
      refine w_t (a := 15) (b := 11) rfl rfl rfl ?_
      refine w_p (pc1 := 16) rfl rfl ?_
      refine w_m0 (pc1 := 19) (st1 := .long 1937010544 :: _) rfl rfl rfl rfl ?_
      refine w_je (pc1 := 22) (vs := [.ref 176, .long 1937010544]) (rest := []) (st1 := [.int 1]) (m_205t (d := _) (sl := 0) ((wd_k (k := 36) M1.2.1 (by decide) (by decide)).trans (decide_eq_true h36))) rfl rfl rfl (fun _ _ => rfl) rfl (by exact cl_v my_205 rfl rfl rfl (Nat.le_of_ble_eq_true rfl) rfl (MH_obj rfl rfl) rfl (by decide) rfl rfl) (by rfl) (Nat.le_of_ble_eq_true rfl) (Nat.le_of_ble_eq_true rfl) rfl (by rfl) ?_
      refine w_f (a := 29) (b := 25) rfl rfl rfl ?_
      refine w_p (pc1 := 26) (st1 := .int 1 :: _) rfl rfl ?_
      refine w_p (pc1 := 72) rfl rfl ?_
      refine w_p (pc1 := 73) (al1 := [(1, .int 1), (0, .ref 176)]) rfl rfl ?_
      refine w_p (pc1 := 74) rfl rfl ?_
      refine w_t (a := 82) (b := 77) rfl rfl rfl ?_
      refine w_p (pc1 := 83) rfl rfl ?_
      refine w_m0 (pc1 := 86) (st1 := .int 0 :: _) rfl rfl (h_gIe (j := 8) rfl rfl rfl rfl rfl (M1.2.1.2.1)) rfl ?_
      refine w_f (a := 93) (b := 89) rfl rfl rfl ?_
      refine w_p (pc1 := 90) rfl rfl ?_
      refine w_ji (pc1 := 93) (vs := [.ref 176]) (rest := []) (nS (d := _) M1 (by rw [h36]; decide)) rfl rfl rfl (fun _ _ => rfl) rfl (by exact cl_v my_195 rfl rfl rfl (Nat.le_of_ble_eq_true rfl) rfl (MH_obj rfl rfl) rfl (by decide) rfl rfl) (by rfl) (Nat.le_of_ble_eq_true rfl) (Nat.le_of_ble_eq_true rfl) rfl (fun v h1 d1 hq => ?_) (fun _ _ _ e => e.elim)
      rcases hq with ⟨hv, ⟨C2, ⟨g2, M2, f2⟩, hh⟩, hn⟩ | ⟨hv, ⟨C2, ⟨g2, F2, f2⟩, hh⟩, hn⟩
      · subst hv; subst hh; subst hn
        refine w_p (pc1 := 94) rfl rfl ?_
        refine w_r rfl rfl rfl (fun _ _ => rfl) cr_int ?_
        exact Or.inl ⟨1, rfl, ⟨_, ⟨hx, by omega, g2, M2, frT_t f1 f2⟩, rfl⟩, rfl⟩
      · subst hv; subst hh; subst hn
        refine w_p (pc1 := 94) rfl rfl ?_
        refine w_r rfl rfl rfl (fun _ _ => rfl) cr_int ?_
        exact Or.inr ⟨1, rfl, ⟨_, ⟨1, i + 1 + 1, flS_e hx rfl g2, F2⟩, rfl⟩, rfl⟩
    · subst hv; subst hh; subst hn
      refine w_p (pc1 := 5) rfl rfl ?_
      refine w_m0 (pc1 := 8) (st1 := .int 1 :: _) rfl rfl (h_gIe (j := 8) rfl rfl rfl rfl rfl (F1.1.2.1)) rfl ?_
      refine w_f (a := 15) (b := 11) rfl rfl rfl ?_
      refine w_p (pc1 := 12) (st1 := .int 0 :: _) rfl rfl ?_
      refine w_p (pc1 := 72) rfl rfl ?_
      refine w_p (pc1 := 73) (al1 := [(1, .int 0), (0, .ref 176)]) rfl rfl ?_
      refine w_p (pc1 := 74) rfl rfl ?_
      refine w_f (a := 82) (b := 77) rfl rfl rfl ?_
      refine w_p (pc1 := 78) rfl rfl ?_
      refine w_p (pc1 := 79) (st1 := .int 2 :: _) rfl rfl ?_
      refine w_je (pc1 := 82) (vs := [.ref 176, .int 2]) (rest := []) (st1 := []) (hF (d := _) (c' := 2) F1 (by decide)) rfl rfl rfl (fun _ _ => rfl) rfl (by exact cl_v my_200 rfl rfl rfl (Nat.le_of_ble_eq_true rfl) rfl (MH_obj rfl rfl) rfl (by decide) rfl rfl) (by rfl) (Nat.le_of_ble_eq_true rfl) (Nat.le_of_ble_eq_true rfl) rfl (by rfl) ?_
      refine w_p (pc1 := 83) rfl rfl ?_
      refine w_m0 (pc1 := 86) rfl rfl (h_gI (j := 8) rfl rfl rfl rfl rfl) rfl ?_
      refine w_t (a := 93) (b := 89) (cb_ne_t (by exact FS_0 F1)) rfl rfl ?_
      refine w_p (pc1 := 94) rfl rfl ?_
      refine w_r rfl rfl rfl (fun _ _ => rfl) cr_int ?_
      exact Or.inr ⟨0, rfl, ⟨_, ⟨1, i + 1, flS_1 ⟨2, rAcn_x (by rw [g1]; decide) (by rw [g1]; decide) (by rw [g1]; decide) (by rw [g1]; decide)⟩ g1, F1⟩, rfl⟩, rfl⟩
  by_cases h11 : kd B n (i + 1) = 11
  · have hx : rAcn (tkP B n) (i + 1) = .inr (2, i + 1 + 1) := rAcn_y (k := 11) h11 rfl
    refine w_p (pc1 := 1) rfl rfl ?_
    refine w_ji (pc1 := 4) (vs := [.ref 176]) (rest := []) (nS (d := _) M h2) rfl rfl rfl (fun _ _ => rfl) rfl (by exact cl_v my_195 rfl rfl rfl (Nat.le_of_ble_eq_true rfl) rfl (MH_obj rfl rfl) rfl (by decide) rfl rfl) (by rfl) (Nat.le_of_ble_eq_true rfl) (Nat.le_of_ble_eq_true rfl) rfl (fun v h1 d1 hq => ?_) (fun _ _ _ e => e.elim)
    rcases hq with ⟨hv, ⟨C1, ⟨g1, M1, f1⟩, hh⟩, hn⟩ | ⟨hv, ⟨C1, ⟨g1, F1, f1⟩, hh⟩, hn⟩
    · subst hv; subst hh; subst hn
      refine w_p (pc1 := 5) rfl rfl ?_
      refine w_m0 (pc1 := 8) (st1 := .int 0 :: _) rfl rfl (h_gIe (j := 8) rfl rfl rfl rfl rfl (M1.2.1.2.1)) rfl ?_
      refine w_t (a := 15) (b := 11) rfl rfl rfl ?_
      refine w_p (pc1 := 16) rfl rfl ?_
      refine w_m0 (pc1 := 19) (st1 := .long 1937010544 :: _) rfl rfl rfl rfl ?_
      refine w_je (pc1 := 22) (vs := [.ref 176, .long 1937010544]) (rest := []) (st1 := [.int 0]) (m_205f (d := _) (sl := 0) ((wd_k (k := 36) M1.2.1 (by decide) (by decide)).trans (decide_eq_false (by rw [h11]; decide)))) rfl rfl rfl (fun _ _ => rfl) rfl (by exact cl_v my_205 rfl rfl rfl (Nat.le_of_ble_eq_true rfl) rfl (MH_obj rfl rfl) rfl (by decide) rfl rfl) (by rfl) (Nat.le_of_ble_eq_true rfl) (Nat.le_of_ble_eq_true rfl) rfl (by rfl) ?_
      refine w_t (a := 29) (b := 25) rfl rfl rfl ?_
      refine w_p (pc1 := 30) rfl rfl ?_
      refine w_m0 (pc1 := 33) (st1 := .long 27973170910815333 :: _) rfl rfl rfl rfl ?_
      refine w_je (pc1 := 36) (vs := [.ref 176, .long 27973170910815333]) (rest := []) (st1 := [.int 1]) (m_205t (d := _) (sl := 0) ((wd_k (k := 11) M1.2.1 (by decide) (by decide)).trans (decide_eq_true h11))) rfl rfl rfl (fun _ _ => rfl) rfl (by exact cl_v my_205 rfl rfl rfl (Nat.le_of_ble_eq_true rfl) rfl (MH_obj rfl rfl) rfl (by decide) rfl rfl) (by rfl) (Nat.le_of_ble_eq_true rfl) (Nat.le_of_ble_eq_true rfl) rfl (by rfl) ?_
      refine w_f (a := 43) (b := 39) rfl rfl rfl ?_
      refine w_p (pc1 := 40) (st1 := .int 2 :: _) rfl rfl ?_
      refine w_p (pc1 := 72) rfl rfl ?_
      refine w_p (pc1 := 73) (al1 := [(1, .int 2), (0, .ref 176)]) rfl rfl ?_
      refine w_p (pc1 := 74) rfl rfl ?_
      refine w_t (a := 82) (b := 77) rfl rfl rfl ?_
      refine w_p (pc1 := 83) rfl rfl ?_
      refine w_m0 (pc1 := 86) (st1 := .int 0 :: _) rfl rfl (h_gIe (j := 8) rfl rfl rfl rfl rfl (M1.2.1.2.1)) rfl ?_
      refine w_f (a := 93) (b := 89) rfl rfl rfl ?_
      refine w_p (pc1 := 90) rfl rfl ?_
      refine w_ji (pc1 := 93) (vs := [.ref 176]) (rest := []) (nS (d := _) M1 (by rw [h11]; decide)) rfl rfl rfl (fun _ _ => rfl) rfl (by exact cl_v my_195 rfl rfl rfl (Nat.le_of_ble_eq_true rfl) rfl (MH_obj rfl rfl) rfl (by decide) rfl rfl) (by rfl) (Nat.le_of_ble_eq_true rfl) (Nat.le_of_ble_eq_true rfl) rfl (fun v h1 d1 hq => ?_) (fun _ _ _ e => e.elim)
      rcases hq with ⟨hv, ⟨C2, ⟨g2, M2, f2⟩, hh⟩, hn⟩ | ⟨hv, ⟨C2, ⟨g2, F2, f2⟩, hh⟩, hn⟩
      · subst hv; subst hh; subst hn
        refine w_p (pc1 := 94) rfl rfl ?_
        refine w_r rfl rfl rfl (fun _ _ => rfl) cr_int ?_
        exact Or.inl ⟨2, rfl, ⟨_, ⟨hx, by omega, g2, M2, frT_t f1 f2⟩, rfl⟩, rfl⟩
      · subst hv; subst hh; subst hn
        refine w_p (pc1 := 94) rfl rfl ?_
        refine w_r rfl rfl rfl (fun _ _ => rfl) cr_int ?_
        exact Or.inr ⟨2, rfl, ⟨_, ⟨1, i + 1 + 1, flS_e hx rfl g2, F2⟩, rfl⟩, rfl⟩
    · subst hv; subst hh; subst hn
      refine w_p (pc1 := 5) rfl rfl ?_
      refine w_m0 (pc1 := 8) (st1 := .int 1 :: _) rfl rfl (h_gIe (j := 8) rfl rfl rfl rfl rfl (F1.1.2.1)) rfl ?_
      refine w_f (a := 15) (b := 11) rfl rfl rfl ?_
      refine w_p (pc1 := 12) (st1 := .int 0 :: _) rfl rfl ?_
      refine w_p (pc1 := 72) rfl rfl ?_
      refine w_p (pc1 := 73) (al1 := [(1, .int 0), (0, .ref 176)]) rfl rfl ?_
      refine w_p (pc1 := 74) rfl rfl ?_
      refine w_f (a := 82) (b := 77) rfl rfl rfl ?_
      refine w_p (pc1 := 78) rfl rfl ?_
      refine w_p (pc1 := 79) (st1 := .int 2 :: _) rfl rfl ?_
      refine w_je (pc1 := 82) (vs := [.ref 176, .int 2]) (rest := []) (st1 := []) (hF (d := _) (c' := 2) F1 (by decide)) rfl rfl rfl (fun _ _ => rfl) rfl (by exact cl_v my_200 rfl rfl rfl (Nat.le_of_ble_eq_true rfl) rfl (MH_obj rfl rfl) rfl (by decide) rfl rfl) (by rfl) (Nat.le_of_ble_eq_true rfl) (Nat.le_of_ble_eq_true rfl) rfl (by rfl) ?_
      refine w_p (pc1 := 83) rfl rfl ?_
      refine w_m0 (pc1 := 86) rfl rfl (h_gI (j := 8) rfl rfl rfl rfl rfl) rfl ?_
      refine w_t (a := 93) (b := 89) (cb_ne_t (by exact FS_0 F1)) rfl rfl ?_
      refine w_p (pc1 := 94) rfl rfl ?_
      refine w_r rfl rfl rfl (fun _ _ => rfl) cr_int ?_
      exact Or.inr ⟨0, rfl, ⟨_, ⟨1, i + 1, flS_1 ⟨2, rAcn_x (by rw [g1]; decide) (by rw [g1]; decide) (by rw [g1]; decide) (by rw [g1]; decide)⟩ g1, F1⟩, rfl⟩, rfl⟩
  by_cases h27 : kd B n (i + 1) = 27
  · have hx : rAcn (tkP B n) (i + 1) = .inr (3, i + 1 + 1) := rAcn_y (k := 27) h27 rfl
    refine w_p (pc1 := 1) rfl rfl ?_
    refine w_ji (pc1 := 4) (vs := [.ref 176]) (rest := []) (nS (d := _) M h2) rfl rfl rfl (fun _ _ => rfl) rfl (by exact cl_v my_195 rfl rfl rfl (Nat.le_of_ble_eq_true rfl) rfl (MH_obj rfl rfl) rfl (by decide) rfl rfl) (by rfl) (Nat.le_of_ble_eq_true rfl) (Nat.le_of_ble_eq_true rfl) rfl (fun v h1 d1 hq => ?_) (fun _ _ _ e => e.elim)
    rcases hq with ⟨hv, ⟨C1, ⟨g1, M1, f1⟩, hh⟩, hn⟩ | ⟨hv, ⟨C1, ⟨g1, F1, f1⟩, hh⟩, hn⟩
    · subst hv; subst hh; subst hn
      refine w_p (pc1 := 5) rfl rfl ?_
      refine w_m0 (pc1 := 8) (st1 := .int 0 :: _) rfl rfl (h_gIe (j := 8) rfl rfl rfl rfl rfl (M1.2.1.2.1)) rfl ?_
      refine w_t (a := 15) (b := 11) rfl rfl rfl ?_
      refine w_p (pc1 := 16) rfl rfl ?_
      refine w_m0 (pc1 := 19) (st1 := .long 1937010544 :: _) rfl rfl rfl rfl ?_
      refine w_je (pc1 := 22) (vs := [.ref 176, .long 1937010544]) (rest := []) (st1 := [.int 0]) (m_205f (d := _) (sl := 0) ((wd_k (k := 36) M1.2.1 (by decide) (by decide)).trans (decide_eq_false (by rw [h27]; decide)))) rfl rfl rfl (fun _ _ => rfl) rfl (by exact cl_v my_205 rfl rfl rfl (Nat.le_of_ble_eq_true rfl) rfl (MH_obj rfl rfl) rfl (by decide) rfl rfl) (by rfl) (Nat.le_of_ble_eq_true rfl) (Nat.le_of_ble_eq_true rfl) rfl (by rfl) ?_
      refine w_t (a := 29) (b := 25) rfl rfl rfl ?_
      refine w_p (pc1 := 30) rfl rfl ?_
      refine w_m0 (pc1 := 33) (st1 := .long 27973170910815333 :: _) rfl rfl rfl rfl ?_
      refine w_je (pc1 := 36) (vs := [.ref 176, .long 27973170910815333]) (rest := []) (st1 := [.int 0]) (m_205f (d := _) (sl := 0) ((wd_k (k := 11) M1.2.1 (by decide) (by decide)).trans (decide_eq_false (by rw [h27]; decide)))) rfl rfl rfl (fun _ _ => rfl) rfl (by exact cl_v my_205 rfl rfl rfl (Nat.le_of_ble_eq_true rfl) rfl (MH_obj rfl rfl) rfl (by decide) rfl rfl) (by rfl) (Nat.le_of_ble_eq_true rfl) (Nat.le_of_ble_eq_true rfl) rfl (by rfl) ?_
      refine w_t (a := 43) (b := 39) rfl rfl rfl ?_
      refine w_p (pc1 := 44) rfl rfl ?_
      refine w_m0 (pc1 := 47) (st1 := .long 1853189228 :: _) rfl rfl rfl rfl ?_
      refine w_je (pc1 := 50) (vs := [.ref 176, .long 1853189228]) (rest := []) (st1 := [.int 1]) (m_205t (d := _) (sl := 0) ((wd_k (k := 27) M1.2.1 (by decide) (by decide)).trans (decide_eq_true h27))) rfl rfl rfl (fun _ _ => rfl) rfl (by exact cl_v my_205 rfl rfl rfl (Nat.le_of_ble_eq_true rfl) rfl (MH_obj rfl rfl) rfl (by decide) rfl rfl) (by rfl) (Nat.le_of_ble_eq_true rfl) (Nat.le_of_ble_eq_true rfl) rfl (by rfl) ?_
      refine w_f (a := 57) (b := 53) rfl rfl rfl ?_
      refine w_p (pc1 := 54) (st1 := .int 3 :: _) rfl rfl ?_
      refine w_p (pc1 := 72) rfl rfl ?_
      refine w_p (pc1 := 73) (al1 := [(1, .int 3), (0, .ref 176)]) rfl rfl ?_
      refine w_p (pc1 := 74) rfl rfl ?_
      refine w_t (a := 82) (b := 77) rfl rfl rfl ?_
      refine w_p (pc1 := 83) rfl rfl ?_
      refine w_m0 (pc1 := 86) (st1 := .int 0 :: _) rfl rfl (h_gIe (j := 8) rfl rfl rfl rfl rfl (M1.2.1.2.1)) rfl ?_
      refine w_f (a := 93) (b := 89) rfl rfl rfl ?_
      refine w_p (pc1 := 90) rfl rfl ?_
      refine w_ji (pc1 := 93) (vs := [.ref 176]) (rest := []) (nS (d := _) M1 (by rw [h27]; decide)) rfl rfl rfl (fun _ _ => rfl) rfl (by exact cl_v my_195 rfl rfl rfl (Nat.le_of_ble_eq_true rfl) rfl (MH_obj rfl rfl) rfl (by decide) rfl rfl) (by rfl) (Nat.le_of_ble_eq_true rfl) (Nat.le_of_ble_eq_true rfl) rfl (fun v h1 d1 hq => ?_) (fun _ _ _ e => e.elim)
      rcases hq with ⟨hv, ⟨C2, ⟨g2, M2, f2⟩, hh⟩, hn⟩ | ⟨hv, ⟨C2, ⟨g2, F2, f2⟩, hh⟩, hn⟩
      · subst hv; subst hh; subst hn
        refine w_p (pc1 := 94) rfl rfl ?_
        refine w_r rfl rfl rfl (fun _ _ => rfl) cr_int ?_
        exact Or.inl ⟨3, rfl, ⟨_, ⟨hx, by omega, g2, M2, frT_t f1 f2⟩, rfl⟩, rfl⟩
      · subst hv; subst hh; subst hn
        refine w_p (pc1 := 94) rfl rfl ?_
        refine w_r rfl rfl rfl (fun _ _ => rfl) cr_int ?_
        exact Or.inr ⟨3, rfl, ⟨_, ⟨1, i + 1 + 1, flS_e hx rfl g2, F2⟩, rfl⟩, rfl⟩
    · subst hv; subst hh; subst hn
      refine w_p (pc1 := 5) rfl rfl ?_
      refine w_m0 (pc1 := 8) (st1 := .int 1 :: _) rfl rfl (h_gIe (j := 8) rfl rfl rfl rfl rfl (F1.1.2.1)) rfl ?_
      refine w_f (a := 15) (b := 11) rfl rfl rfl ?_
      refine w_p (pc1 := 12) (st1 := .int 0 :: _) rfl rfl ?_
      refine w_p (pc1 := 72) rfl rfl ?_
      refine w_p (pc1 := 73) (al1 := [(1, .int 0), (0, .ref 176)]) rfl rfl ?_
      refine w_p (pc1 := 74) rfl rfl ?_
      refine w_f (a := 82) (b := 77) rfl rfl rfl ?_
      refine w_p (pc1 := 78) rfl rfl ?_
      refine w_p (pc1 := 79) (st1 := .int 2 :: _) rfl rfl ?_
      refine w_je (pc1 := 82) (vs := [.ref 176, .int 2]) (rest := []) (st1 := []) (hF (d := _) (c' := 2) F1 (by decide)) rfl rfl rfl (fun _ _ => rfl) rfl (by exact cl_v my_200 rfl rfl rfl (Nat.le_of_ble_eq_true rfl) rfl (MH_obj rfl rfl) rfl (by decide) rfl rfl) (by rfl) (Nat.le_of_ble_eq_true rfl) (Nat.le_of_ble_eq_true rfl) rfl (by rfl) ?_
      refine w_p (pc1 := 83) rfl rfl ?_
      refine w_m0 (pc1 := 86) rfl rfl (h_gI (j := 8) rfl rfl rfl rfl rfl) rfl ?_
      refine w_t (a := 93) (b := 89) (cb_ne_t (by exact FS_0 F1)) rfl rfl ?_
      refine w_p (pc1 := 94) rfl rfl ?_
      refine w_r rfl rfl rfl (fun _ _ => rfl) cr_int ?_
      exact Or.inr ⟨0, rfl, ⟨_, ⟨1, i + 1, flS_1 ⟨2, rAcn_x (by rw [g1]; decide) (by rw [g1]; decide) (by rw [g1]; decide) (by rw [g1]; decide)⟩ g1, F1⟩, rfl⟩, rfl⟩
  by_cases h14 : kd B n (i + 1) = 14
  · have hx : rAcn (tkP B n) (i + 1) = .inr (4, i + 1 + 1) := rAcn_y (k := 14) h14 rfl
    refine w_p (pc1 := 1) rfl rfl ?_
    refine w_ji (pc1 := 4) (vs := [.ref 176]) (rest := []) (nS (d := _) M h2) rfl rfl rfl (fun _ _ => rfl) rfl (by exact cl_v my_195 rfl rfl rfl (Nat.le_of_ble_eq_true rfl) rfl (MH_obj rfl rfl) rfl (by decide) rfl rfl) (by rfl) (Nat.le_of_ble_eq_true rfl) (Nat.le_of_ble_eq_true rfl) rfl (fun v h1 d1 hq => ?_) (fun _ _ _ e => e.elim)
    rcases hq with ⟨hv, ⟨C1, ⟨g1, M1, f1⟩, hh⟩, hn⟩ | ⟨hv, ⟨C1, ⟨g1, F1, f1⟩, hh⟩, hn⟩
    · subst hv; subst hh; subst hn
      refine w_p (pc1 := 5) rfl rfl ?_
      refine w_m0 (pc1 := 8) (st1 := .int 0 :: _) rfl rfl (h_gIe (j := 8) rfl rfl rfl rfl rfl (M1.2.1.2.1)) rfl ?_
      refine w_t (a := 15) (b := 11) rfl rfl rfl ?_
      refine w_p (pc1 := 16) rfl rfl ?_
      refine w_m0 (pc1 := 19) (st1 := .long 1937010544 :: _) rfl rfl rfl rfl ?_
      refine w_je (pc1 := 22) (vs := [.ref 176, .long 1937010544]) (rest := []) (st1 := [.int 0]) (m_205f (d := _) (sl := 0) ((wd_k (k := 36) M1.2.1 (by decide) (by decide)).trans (decide_eq_false (by rw [h14]; decide)))) rfl rfl rfl (fun _ _ => rfl) rfl (by exact cl_v my_205 rfl rfl rfl (Nat.le_of_ble_eq_true rfl) rfl (MH_obj rfl rfl) rfl (by decide) rfl rfl) (by rfl) (Nat.le_of_ble_eq_true rfl) (Nat.le_of_ble_eq_true rfl) rfl (by rfl) ?_
      refine w_t (a := 29) (b := 25) rfl rfl rfl ?_
      refine w_p (pc1 := 30) rfl rfl ?_
      refine w_m0 (pc1 := 33) (st1 := .long 27973170910815333 :: _) rfl rfl rfl rfl ?_
      refine w_je (pc1 := 36) (vs := [.ref 176, .long 27973170910815333]) (rest := []) (st1 := [.int 0]) (m_205f (d := _) (sl := 0) ((wd_k (k := 11) M1.2.1 (by decide) (by decide)).trans (decide_eq_false (by rw [h14]; decide)))) rfl rfl rfl (fun _ _ => rfl) rfl (by exact cl_v my_205 rfl rfl rfl (Nat.le_of_ble_eq_true rfl) rfl (MH_obj rfl rfl) rfl (by decide) rfl rfl) (by rfl) (Nat.le_of_ble_eq_true rfl) (Nat.le_of_ble_eq_true rfl) rfl (by rfl) ?_
      refine w_t (a := 43) (b := 39) rfl rfl rfl ?_
      refine w_p (pc1 := 44) rfl rfl ?_
      refine w_m0 (pc1 := 47) (st1 := .long 1853189228 :: _) rfl rfl rfl rfl ?_
      refine w_je (pc1 := 50) (vs := [.ref 176, .long 1853189228]) (rest := []) (st1 := [.int 0]) (m_205f (d := _) (sl := 0) ((wd_k (k := 27) M1.2.1 (by decide) (by decide)).trans (decide_eq_false (by rw [h14]; decide)))) rfl rfl rfl (fun _ _ => rfl) rfl (by exact cl_v my_205 rfl rfl rfl (Nat.le_of_ble_eq_true rfl) rfl (MH_obj rfl rfl) rfl (by decide) rfl rfl) (by rfl) (Nat.le_of_ble_eq_true rfl) (Nat.le_of_ble_eq_true rfl) rfl (by rfl) ?_
      refine w_t (a := 57) (b := 53) rfl rfl rfl ?_
      refine w_p (pc1 := 58) rfl rfl ?_
      refine w_m0 (pc1 := 61) (st1 := .long 28258988067220596 :: _) rfl rfl rfl rfl ?_
      refine w_je (pc1 := 64) (vs := [.ref 176, .long 28258988067220596]) (rest := []) (st1 := [.int 1]) (m_205t (d := _) (sl := 0) ((wd_k (k := 14) M1.2.1 (by decide) (by decide)).trans (decide_eq_true h14))) rfl rfl rfl (fun _ _ => rfl) rfl (by exact cl_v my_205 rfl rfl rfl (Nat.le_of_ble_eq_true rfl) rfl (MH_obj rfl rfl) rfl (by decide) rfl rfl) (by rfl) (Nat.le_of_ble_eq_true rfl) (Nat.le_of_ble_eq_true rfl) rfl (by rfl) ?_
      refine w_f (a := 71) (b := 67) rfl rfl rfl ?_
      refine w_p (pc1 := 68) (st1 := .int 4 :: _) rfl rfl ?_
      refine w_p (pc1 := 72) rfl rfl ?_
      refine w_p (pc1 := 73) (al1 := [(1, .int 4), (0, .ref 176)]) rfl rfl ?_
      refine w_p (pc1 := 74) rfl rfl ?_
      refine w_t (a := 82) (b := 77) rfl rfl rfl ?_
      refine w_p (pc1 := 83) rfl rfl ?_
      refine w_m0 (pc1 := 86) (st1 := .int 0 :: _) rfl rfl (h_gIe (j := 8) rfl rfl rfl rfl rfl (M1.2.1.2.1)) rfl ?_
      refine w_f (a := 93) (b := 89) rfl rfl rfl ?_
      refine w_p (pc1 := 90) rfl rfl ?_
      refine w_ji (pc1 := 93) (vs := [.ref 176]) (rest := []) (nS (d := _) M1 (by rw [h14]; decide)) rfl rfl rfl (fun _ _ => rfl) rfl (by exact cl_v my_195 rfl rfl rfl (Nat.le_of_ble_eq_true rfl) rfl (MH_obj rfl rfl) rfl (by decide) rfl rfl) (by rfl) (Nat.le_of_ble_eq_true rfl) (Nat.le_of_ble_eq_true rfl) rfl (fun v h1 d1 hq => ?_) (fun _ _ _ e => e.elim)
      rcases hq with ⟨hv, ⟨C2, ⟨g2, M2, f2⟩, hh⟩, hn⟩ | ⟨hv, ⟨C2, ⟨g2, F2, f2⟩, hh⟩, hn⟩
      · subst hv; subst hh; subst hn
        refine w_p (pc1 := 94) rfl rfl ?_
        refine w_r rfl rfl rfl (fun _ _ => rfl) cr_int ?_
        exact Or.inl ⟨4, rfl, ⟨_, ⟨hx, by omega, g2, M2, frT_t f1 f2⟩, rfl⟩, rfl⟩
      · subst hv; subst hh; subst hn
        refine w_p (pc1 := 94) rfl rfl ?_
        refine w_r rfl rfl rfl (fun _ _ => rfl) cr_int ?_
        exact Or.inr ⟨4, rfl, ⟨_, ⟨1, i + 1 + 1, flS_e hx rfl g2, F2⟩, rfl⟩, rfl⟩
    · subst hv; subst hh; subst hn
      refine w_p (pc1 := 5) rfl rfl ?_
      refine w_m0 (pc1 := 8) (st1 := .int 1 :: _) rfl rfl (h_gIe (j := 8) rfl rfl rfl rfl rfl (F1.1.2.1)) rfl ?_
      refine w_f (a := 15) (b := 11) rfl rfl rfl ?_
      refine w_p (pc1 := 12) (st1 := .int 0 :: _) rfl rfl ?_
      refine w_p (pc1 := 72) rfl rfl ?_
      refine w_p (pc1 := 73) (al1 := [(1, .int 0), (0, .ref 176)]) rfl rfl ?_
      refine w_p (pc1 := 74) rfl rfl ?_
      refine w_f (a := 82) (b := 77) rfl rfl rfl ?_
      refine w_p (pc1 := 78) rfl rfl ?_
      refine w_p (pc1 := 79) (st1 := .int 2 :: _) rfl rfl ?_
      refine w_je (pc1 := 82) (vs := [.ref 176, .int 2]) (rest := []) (st1 := []) (hF (d := _) (c' := 2) F1 (by decide)) rfl rfl rfl (fun _ _ => rfl) rfl (by exact cl_v my_200 rfl rfl rfl (Nat.le_of_ble_eq_true rfl) rfl (MH_obj rfl rfl) rfl (by decide) rfl rfl) (by rfl) (Nat.le_of_ble_eq_true rfl) (Nat.le_of_ble_eq_true rfl) rfl (by rfl) ?_
      refine w_p (pc1 := 83) rfl rfl ?_
      refine w_m0 (pc1 := 86) rfl rfl (h_gI (j := 8) rfl rfl rfl rfl rfl) rfl ?_
      refine w_t (a := 93) (b := 89) (cb_ne_t (by exact FS_0 F1)) rfl rfl ?_
      refine w_p (pc1 := 94) rfl rfl ?_
      refine w_r rfl rfl rfl (fun _ _ => rfl) cr_int ?_
      exact Or.inr ⟨0, rfl, ⟨_, ⟨1, i + 1, flS_1 ⟨2, rAcn_x (by rw [g1]; decide) (by rw [g1]; decide) (by rw [g1]; decide) (by rw [g1]; decide)⟩ g1, F1⟩, rfl⟩, rfl⟩
  have hx : rAcn (tkP B n) (i + 1) = .inl (2, i + 1) := rAcn_x h36 h11 h27 h14
  refine w_p (pc1 := 1) rfl rfl ?_
  refine w_ji (pc1 := 4) (vs := [.ref 176]) (rest := []) (nS (d := _) M h2) rfl rfl rfl (fun _ _ => rfl) rfl (by exact cl_v my_195 rfl rfl rfl (Nat.le_of_ble_eq_true rfl) rfl (MH_obj rfl rfl) rfl (by decide) rfl rfl) (by rfl) (Nat.le_of_ble_eq_true rfl) (Nat.le_of_ble_eq_true rfl) rfl (fun v h1 d1 hq => ?_) (fun _ _ _ e => e.elim)
  rcases hq with ⟨hv, ⟨C1, ⟨g1, M1, f1⟩, hh⟩, hn⟩ | ⟨hv, ⟨C1, ⟨g1, F1, f1⟩, hh⟩, hn⟩
  · subst hv; subst hh; subst hn
    refine w_p (pc1 := 5) rfl rfl ?_
    refine w_m0 (pc1 := 8) (st1 := .int 0 :: _) rfl rfl (h_gIe (j := 8) rfl rfl rfl rfl rfl (M1.2.1.2.1)) rfl ?_
    refine w_t (a := 15) (b := 11) rfl rfl rfl ?_
    refine w_p (pc1 := 16) rfl rfl ?_
    refine w_m0 (pc1 := 19) (st1 := .long 1937010544 :: _) rfl rfl rfl rfl ?_
    refine w_je (pc1 := 22) (vs := [.ref 176, .long 1937010544]) (rest := []) (st1 := [.int 0]) (m_205f (d := _) (sl := 0) ((wd_k (k := 36) M1.2.1 (by decide) (by decide)).trans (decide_eq_false h36))) rfl rfl rfl (fun _ _ => rfl) rfl (by exact cl_v my_205 rfl rfl rfl (Nat.le_of_ble_eq_true rfl) rfl (MH_obj rfl rfl) rfl (by decide) rfl rfl) (by rfl) (Nat.le_of_ble_eq_true rfl) (Nat.le_of_ble_eq_true rfl) rfl (by rfl) ?_
    refine w_t (a := 29) (b := 25) rfl rfl rfl ?_
    refine w_p (pc1 := 30) rfl rfl ?_
    refine w_m0 (pc1 := 33) (st1 := .long 27973170910815333 :: _) rfl rfl rfl rfl ?_
    refine w_je (pc1 := 36) (vs := [.ref 176, .long 27973170910815333]) (rest := []) (st1 := [.int 0]) (m_205f (d := _) (sl := 0) ((wd_k (k := 11) M1.2.1 (by decide) (by decide)).trans (decide_eq_false h11))) rfl rfl rfl (fun _ _ => rfl) rfl (by exact cl_v my_205 rfl rfl rfl (Nat.le_of_ble_eq_true rfl) rfl (MH_obj rfl rfl) rfl (by decide) rfl rfl) (by rfl) (Nat.le_of_ble_eq_true rfl) (Nat.le_of_ble_eq_true rfl) rfl (by rfl) ?_
    refine w_t (a := 43) (b := 39) rfl rfl rfl ?_
    refine w_p (pc1 := 44) rfl rfl ?_
    refine w_m0 (pc1 := 47) (st1 := .long 1853189228 :: _) rfl rfl rfl rfl ?_
    refine w_je (pc1 := 50) (vs := [.ref 176, .long 1853189228]) (rest := []) (st1 := [.int 0]) (m_205f (d := _) (sl := 0) ((wd_k (k := 27) M1.2.1 (by decide) (by decide)).trans (decide_eq_false h27))) rfl rfl rfl (fun _ _ => rfl) rfl (by exact cl_v my_205 rfl rfl rfl (Nat.le_of_ble_eq_true rfl) rfl (MH_obj rfl rfl) rfl (by decide) rfl rfl) (by rfl) (Nat.le_of_ble_eq_true rfl) (Nat.le_of_ble_eq_true rfl) rfl (by rfl) ?_
    refine w_t (a := 57) (b := 53) rfl rfl rfl ?_
    refine w_p (pc1 := 58) rfl rfl ?_
    refine w_m0 (pc1 := 61) (st1 := .long 28258988067220596 :: _) rfl rfl rfl rfl ?_
    refine w_je (pc1 := 64) (vs := [.ref 176, .long 28258988067220596]) (rest := []) (st1 := [.int 0]) (m_205f (d := _) (sl := 0) ((wd_k (k := 14) M1.2.1 (by decide) (by decide)).trans (decide_eq_false h14))) rfl rfl rfl (fun _ _ => rfl) rfl (by exact cl_v my_205 rfl rfl rfl (Nat.le_of_ble_eq_true rfl) rfl (MH_obj rfl rfl) rfl (by decide) rfl rfl) (by rfl) (Nat.le_of_ble_eq_true rfl) (Nat.le_of_ble_eq_true rfl) rfl (by rfl) ?_
    refine w_t (a := 71) (b := 67) rfl rfl rfl ?_
    refine w_p (pc1 := 72) (st1 := .int 0 :: _) rfl rfl ?_
    refine w_p (pc1 := 73) (al1 := [(1, .int 0), (0, .ref 176)]) rfl rfl ?_
    refine w_p (pc1 := 74) rfl rfl ?_
    refine w_f (a := 82) (b := 77) rfl rfl rfl ?_
    refine w_p (pc1 := 78) rfl rfl ?_
    refine w_p (pc1 := 79) (st1 := .int 2 :: _) rfl rfl ?_
    refine w_je (pc1 := 82) (vs := [.ref 176, .int 2]) (rest := []) (st1 := []) (m_200 (d := _) (sl := 0) (fun z => absurd M1.2.1.2.1 z)) rfl rfl rfl (fun _ _ => rfl) rfl (by exact cl_v my_200 rfl rfl rfl (Nat.le_of_ble_eq_true rfl) rfl (MH_obj rfl rfl) rfl (by decide) rfl rfl) (by rfl) (Nat.le_of_ble_eq_true rfl) (Nat.le_of_ble_eq_true rfl) rfl (by rfl) ?_
    refine w_p (pc1 := 83) rfl rfl ?_
    refine w_m0 (pc1 := 86) rfl rfl (h_gI (j := 8) rfl rfl rfl rfl rfl) rfl ?_
    refine w_t (a := 93) (b := 89) (cb_ne_t (by exact FS_0 (FS_new (c := 2) M1 (by decide)))) rfl rfl ?_
    refine w_p (pc1 := 94) rfl rfl ?_
    refine w_r rfl rfl rfl (fun _ _ => rfl) cr_int ?_
    exact Or.inr ⟨0, rfl, ⟨_, ⟨2, i + 1, flS_n hx g1, FS_new (c := 2) M1 (by decide)⟩, rfl⟩, rfl⟩
  · subst hv; subst hh; subst hn
    refine w_p (pc1 := 5) rfl rfl ?_
    refine w_m0 (pc1 := 8) (st1 := .int 1 :: _) rfl rfl (h_gIe (j := 8) rfl rfl rfl rfl rfl (F1.1.2.1)) rfl ?_
    refine w_f (a := 15) (b := 11) rfl rfl rfl ?_
    refine w_p (pc1 := 12) (st1 := .int 0 :: _) rfl rfl ?_
    refine w_p (pc1 := 72) rfl rfl ?_
    refine w_p (pc1 := 73) (al1 := [(1, .int 0), (0, .ref 176)]) rfl rfl ?_
    refine w_p (pc1 := 74) rfl rfl ?_
    refine w_f (a := 82) (b := 77) rfl rfl rfl ?_
    refine w_p (pc1 := 78) rfl rfl ?_
    refine w_p (pc1 := 79) (st1 := .int 2 :: _) rfl rfl ?_
    refine w_je (pc1 := 82) (vs := [.ref 176, .int 2]) (rest := []) (st1 := []) (hF (d := _) (c' := 2) F1 (by decide)) rfl rfl rfl (fun _ _ => rfl) rfl (by exact cl_v my_200 rfl rfl rfl (Nat.le_of_ble_eq_true rfl) rfl (MH_obj rfl rfl) rfl (by decide) rfl rfl) (by rfl) (Nat.le_of_ble_eq_true rfl) (Nat.le_of_ble_eq_true rfl) rfl (by rfl) ?_
    refine w_p (pc1 := 83) rfl rfl ?_
    refine w_m0 (pc1 := 86) rfl rfl (h_gI (j := 8) rfl rfl rfl rfl rfl) rfl ?_
    refine w_t (a := 93) (b := 89) (cb_ne_t (by exact FS_0 F1)) rfl rfl ?_
    refine w_p (pc1 := 94) rfl rfl ?_
    refine w_r rfl rfl rfl (fun _ _ => rfl) cr_int ?_
    exact Or.inr ⟨0, rfl, ⟨_, ⟨1, i + 1, flS_1 ⟨2, rAcn_x (by rw [g1]; decide) (by rw [g1]; decide) (by rw [g1]; decide) (by rw [g1]; decide)⟩ g1, F1⟩, rfl⟩, rfl⟩
end MTA
