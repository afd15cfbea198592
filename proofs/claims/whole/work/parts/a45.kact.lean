
/-! ONE SIDE: a change is read, 1: what names stand for; a new act; parts of an insert -/
def RX (C : co_T) (sc : sc_T) (row : Option Nat) (tg : Option (Nat × Nat)) (g : Bool) : Prop := SCK C sc ∧ (C.1 21 7 = tgI row ∧ ∀ b, row = some b → b < 6) ∧ (C.1 21 8 = tgI (tg.map Prod.fst) ∧ ∀ p, tg = some p → C.1 21 9 = nI p.2 ∧ p.1 < 6 ∧ p.2 < 3) ∧ C.1 21 10 = ck g
set_option maxRecDepth 100000 in
theorem RX_F {C C' : co_T} {sc : sc_T} {row : Option Nat} {tg : Option (Nat × Nat)} {g : Bool} (R : RX C sc row tg g) (h : frF C C') : RX C' sc row tg g := by
  have e : ∀ j, 7 ≤ j → C'.1 21 j = C.1 21 j := fun j hj => h.1 21 j (by omega) (by omega) (by omega) (by omega)
  exact ⟨SCK_D R.1 (frD_F h), ⟨(e 7 (by omega)).trans R.2.1.1, R.2.1.2⟩, ⟨(e 8 (by omega)).trans R.2.2.1.1, fun p hp => ⟨(e 9 (by omega)).trans (R.2.2.1.2 p hp).1, (R.2.2.1.2 p hp).2⟩⟩, (e 10 (by omega)).trans R.2.2.2⟩
set_option maxRecDepth 100000 in
theorem frF_N {C C' : co_T} (h : frN C C') : frF C C' := ⟨fun k j _ _ c _ => h.1 k j c, fun k j a => h.2.1 k j a, fun k j a => h.2.2 k j a⟩
set_option maxRecDepth 100000 in
theorem RX_c {C : co_T} {sc : sc_T} (S : SCK C sc) {x : Int32} : ∀ {row : Option Nat}, x = tgI row → (∀ b, row = some b → b < 6) → colK C x (row.map (clF sc))
  | none, e, _ => e
  | some b, e, h => ⟨b, sc.2.1 b, h b rfl, (S.2 b (h b rfl)).2.1, e, (S.2 b (h b rfl)).1, funext (fun v => (clF_K S (h b rfl) v).symm)⟩
set_option maxRecDepth 100000 in
theorem RX_e {B : Nat → Nat} {n : Nat} {C : co_T} {sc : sc_T} {row : Option Nat} {tg : Option (Nat × Nat)} {g : Bool} (R : RX C sc row tg g) : eK B n C (fE (tkP B n) sc row tg) := by
  obtain ⟨h1, ⟨h2, h3⟩, ⟨h4, h5⟩, h6⟩ := R
  cases tg with
  | none =>
    refine ⟨rfl, rfl, RX_c h1 h2 h3, h4, ?_, ?_⟩
    · exact ⟨fun e => (by cases e), fun e => absurd h4 e.1⟩
    · exact ⟨fun e => (by cases e), fun e => absurd h4 e.1⟩
  | some p =>
    obtain ⟨e1, e2, e3⟩ := h5 p rfl
    have h4 : C.1 21 8 = nI p.1 := h4
    have hne : C.1 21 8 ≠ -1 := by rw [h4]; exact nK_m1 (by omega)
    refine ⟨rfl, rfl, RX_c h1 h2 h3, RX_c (row := some p.1) h1 h4 (fun b hb => by cases hb; exact e2), ?_, ?_⟩
    · show decide (p.2 ≠ 2) = true ↔ _
      rw [decide_eq_true_iff, e1]
      exact ⟨fun h => ⟨hne, fun e => h ((nK_inj (by omega) (by decide)).mp e)⟩, fun h e => h.2 (by rw [e]; rfl)⟩
    · show decide (p.2 ≠ 0) = true ↔ _
      rw [decide_eq_true_iff, e1]
      exact ⟨fun h => ⟨hne, fun e => h ((nK_inj (by omega) (by decide)).mp e)⟩, fun h e => h.2 (by rw [e]; rfl)⟩
/-! an act's three cells -/
def AP (t : ab_H) (k0 kc ks : Nat) (kd tb : Int32) (fc : Nat → Int32) (fs : Nat → Option Nat) (sz : Int32) (vw : Value) (no : Int32) : Prop := t[k0]? = some (.inr (9, [.int kd, .int tb, .ref (241 + kc), .ref (241 + ks), .int sz, vw, .int no])) ∧ t[kc]? = some (.inl (0, 6, .inl fc)) ∧ t[ks]? = some (.inl (8, 6, .inr (.inr (.inr (.inr fs)))))
/-! a formula isn't touched where an act's cells are set -/
set_option maxRecDepth 100000 in
theorem FO_st {t : ab_H} {k k1 k2 k3 j : Nat} {O : List op_T} {c : Int32} {s : Nat → Int64} {c0 c' : ab_C} (F : FO t k k1 k2 k3 O c s) (h : t[j]? = some c0) (hc : (∃ l, c0 = .inr (9, l)) ∨ (∃ f, c0 = .inl (8, 6, .inr (.inr (.inr (.inr f)))))) : FO (t.set j c') k k1 k2 k3 O c s := by
  obtain ⟨h1, ⟨f, h2, h3⟩, ⟨g, h4, h5⟩, h6⟩ := F
  have ne : ∀ (q : Nat) (x : ab_C), t[q]? = some x → x ≠ c0 → j ≠ q := fun q x hx hn => tl_ne hx h hn
  rcases hc with ⟨l, rfl⟩ | ⟨f0, rfl⟩
  · exact ⟨tl_set h1 (ne _ _ h1 (fun e => by cases e)), ⟨f, tl_set h2 (ne _ _ h2 (fun e => by cases e)), h3⟩, ⟨g, tl_set h4 (ne _ _ h4 (fun e => by cases e)), h5⟩, tl_set h6 (ne _ _ h6 (fun e => by cases e))⟩
  · exact ⟨tl_set h1 (ne _ _ h1 (fun e => by cases e)), ⟨f, tl_set h2 (ne _ _ h2 (fun e => by cases e)), h3⟩, ⟨g, tl_set h4 (ne _ _ h4 (fun e => by cases e)), h5⟩, tl_set h6 (ne _ _ h6 (fun e => by cases e))⟩
set_option maxRecDepth 100000 in
theorem foK_st {t : ab_H} {j : Nat} {c : Int32} {v : Value} {c0 c' : ab_C} (h : t[j]? = some c0) (hc : (∃ l, c0 = .inr (9, l)) ∨ (∃ f, c0 = .inl (8, 6, .inr (.inr (.inr (.inr f)))))) : ∀ {q : Option (List op_T)}, foK t c v q → foK (t.set j c') c v q
  | none, e => e
  | some O, ⟨k, k1, k2, k3, s, e, F, h6⟩ => ⟨k, k1, k2, k3, s, e, FO_st F h hc, h6⟩
section ACI
variable {L : Nat} {xs : Nat → Int32} {B : Nat → Nat} {n m : Nat} {C C' C0 : co_T} {t t0 : ab_H} {d sl sl0 i i0 j b k k0 kc ks w : Nat} {sc : sc_T} {row : Option Nat} {tg : Option (Nat × Nat)} {nl : Option Nat} {kd0 tb0 : Int32}
set_option maxRecDepth 100000 in
theorem m_82 (h0 : t[k]? = some (.inr (9, [.int 0, .int 0, .null, .null, .int 0, .null, .int 0]))) : Wd L xs (d + 1) y_82 (0, [(0, .ref (241 + k)), (1, .int kd0), (2, .int tb0)], [], MH C t, sl) (fun v h q => none = v ∧ (∃ t', (AP t' k t.length (t.length + 1) kd0 tb0 (fun _ => 0) (fun _ => none) 0 .null 0 ∧ t'.length = t.length + 2 ∧ ∀ j x, j ≠ k → t[j]? = some x → t'[j]? = some x) ∧ MH C t' = h) ∧ sl + 12 = q) nX := by
  have hkl : k < t.length := get_lt h0
  refine w_p (pc1 := 1) rfl rfl ?_
  refine w_c (pc1 := 4) rfl rfl rfl (fun fr lo h1 h2 => n_oi rfl (Nat.le_of_ble_eq_true rfl) h1 h2) rfl ?_
  refine w_p (pc1 := 5) rfl rfl ?_
  refine w_p (pc1 := 7) (st1 := .int 6 :: _) rfl rfl ?_
  refine w_m (pc1 := 9) rfl rfl (x_naI (n := 6) (by omega)) rfl ?_
  obtain ⟨t1, e1, n1, q1, l1⟩ := tl_mk t (.inl (0, 6, .inl (fun _ => 0)))
  rw [e1]
  have g0 := q1 _ _ h0
  refine w_m0 (pc1 := 12) rfl rfl (x_pf (k := k) (fs' := [.int 0, .int 0, .ref (241 + t.length), .null, .int 0, .null, .int 0]) rfl g0 rfl rfl ⟨rfl, rfl⟩ (Or.inr ⟨rfl, rfl, rfl⟩) (Nat.le_of_ble_eq_true rfl) rfl) rfl ?_
  obtain ⟨t2, e2, g1, p2, l2⟩ := tl_st g0 (.inr (9, [.int 0, .int 0, .ref (241 + t.length), .null, .int 0, .null, .int 0]))
  rw [e2]
  refine w_p (pc1 := 13) rfl rfl ?_
  refine w_p (pc1 := 15) (st1 := .int 6 :: _) rfl rfl ?_
  refine w_m (pc1 := 18) rfl rfl (x_an (c := 8) (n := 6) rfl rfl (by omega)) rfl ?_
  obtain ⟨t3, e3, n3, q3, l3⟩ := tl_mk t2 (.inl (8, 6, .inr (.inr (.inr (.inr (fun _ => none))))))
  rw [e3]
  have g2 := q3 _ _ g1
  refine w_m0 (pc1 := 21) rfl rfl (x_pf (k := k) (fs' := [.int 0, .int 0, .ref (241 + t.length), .ref (241 + t2.length), .int 0, .null, .int 0]) rfl g2 rfl rfl ⟨rfl, rfl⟩ (Or.inr ⟨rfl, rfl, rfl⟩) (Nat.le_of_ble_eq_true rfl) rfl) rfl ?_
  obtain ⟨t4, e4, g3, p4, l4⟩ := tl_st g2 (.inr (9, [.int 0, .int 0, .ref (241 + t.length), .ref (241 + t2.length), .int 0, .null, .int 0]))
  rw [e4]
  refine w_p (pc1 := 22) rfl rfl ?_
  refine w_p (pc1 := 23) rfl rfl ?_
  refine w_m0 (pc1 := 26) rfl rfl (x_pf (k := k) (fs' := [.int (kd0), .int 0, .ref (241 + t.length), .ref (241 + t2.length), .int 0, .null, .int 0]) rfl g3 rfl rfl ⟨rfl, rfl⟩ (Or.inr ⟨rfl, rfl, rfl⟩) (Nat.le_of_ble_eq_true rfl) rfl) rfl ?_
  obtain ⟨t5, e5, g4, p5, l5⟩ := tl_st g3 (.inr (9, [.int kd0, .int 0, .ref (241 + t.length), .ref (241 + t2.length), .int 0, .null, .int 0]))
  rw [e5]
  refine w_p (pc1 := 27) rfl rfl ?_
  refine w_p (pc1 := 28) rfl rfl ?_
  refine w_m0 (pc1 := 31) rfl rfl (x_pf (k := k) (fs' := [.int (kd0), .int (tb0), .ref (241 + t.length), .ref (241 + t2.length), .int 0, .null, .int 0]) rfl g4 rfl rfl ⟨rfl, rfl⟩ (Or.inr ⟨rfl, rfl, rfl⟩) (Nat.le_of_ble_eq_true rfl) rfl) rfl ?_
  obtain ⟨t6, e6, g5, p6, l6⟩ := tl_st g4 (.inr (9, [.int kd0, .int tb0, .ref (241 + t.length), .ref (241 + t2.length), .int 0, .null, .int 0]))
  rw [e6]
  refine w_r rfl rfl rfl (fun _ _ => rfl) rfl ?_
  have a2 : t2.length = t.length + 1 := by omega
  rw [a2] at g5 n3
  refine ⟨rfl, ⟨t6, ⟨⟨g5, p6 _ _ (by omega) (p5 _ _ (by omega) (p4 _ _ (by omega) (q3 _ _ (p2 _ _ (by omega) n1)))), p6 _ _ (by omega) (p5 _ _ (by omega) (p4 _ _ (by omega) n3))⟩, by omega, fun j x hj h => p6 _ _ hj (p5 _ _ hj (p4 _ _ hj (q3 _ _ (p2 _ _ hj (q1 _ _ h)))))⟩, ?_⟩, by omega⟩
  with_reducible rfl
/-! parts that were read so far -/
def PAs (B : Nat → Nat) (n m : Nat) (C0 : co_T) (t0 : ab_H) (i0 sl0 k0 kc ks : Nat) (kd0 tb0 : Int32) (pre : List (Option (List op_T))) (i : Nat) (nl : Option Nat) (C : co_T) (t : ab_H) (sl : Nat) : Prop := (tkS B n m C i ∧ lfK (C.1 21 6) nl ∧ frF C0 C) ∧ (∃ fc fs, AP t k0 kc ks kd0 tb0 fc fs (nI (min pre.length 6)) .null 0 ∧ (∀ j s, pre[j]? = some s → j < 6 → foK t 0 (va_rf (fs j)) s) ∧ (∀ j, pre.length ≤ j → fs j = none)) ∧ ((∀ j x, j ≠ k0 → j ≠ ks → t0[j]? = some x → t[j]? = some x) ∧ t.length ≤ t0.length + 4 * (i - i0) ∧ t0.length ≤ t.length ∧ sl ≤ sl0 + 25 * (i - i0) ∧ i0 ≤ i ∧ pre.length + 1 ≤ i)
def XAs (B : Nat → Nat) (n : Nat) (C0 : co_T) (t0 : ab_H) (i0 sl0 k0 ks : Nat) (c : Int32) (j : Nat) : Nat → ab_H → Nat → Prop := fun a h q => ∃ C' t' s, (flt B n C' c j ∧ frD C0 C' ∧ ((∀ j x, j ≠ k0 → j ≠ ks → t0[j]? = some x → t'[j]? = some x) ∧ t'.length ≤ t0.length + 4 * (j - i0) ∧ t0.length ≤ t'.length ∧ i0 ≤ j) ∧ s ≤ sl0 + 25 * (j - i0)) ∧ Xk 12 C' t' s a h q
/-! a part is put into its place -/
set_option maxRecDepth 100000 in
theorem PAs_p {pre : List (Option (List op_T))} {v : Option Nat} {s : Option (List op_T)} {i2 : Nat} {nl2 : Option Nat} {C1 : co_T} {t1 : ab_H} {sl1 : Nat} {fc : Nat → Int32} {fs : Nat → Option Nat} (A : AP t1 k0 kc ks kd0 tb0 fc fs (nI (min pre.length 6)) .null 0) (hp : ∀ j s, pre[j]? = some s → j < 6 → foK t1 0 (va_rf (fs j)) s) (hn : ∀ j, pre.length ≤ j → fs j = none) (hk : k0 ≠ ks ∧ k0 ≠ kc ∧ ks ≠ kc) (hs : foK t1 0 (va_rf v) s) (h6 : pre.length < 6) : ∃ fs', AP ((t1.set ks (.inl (8, 6, .inr (.inr (.inr (.inr (va_up fs pre.length v))))))).set k0 (.inr (9, [.int kd0, .int tb0, .ref (241 + kc), .ref (241 + ks), .int (nI (pre.length + 1)), .null, .int 0]))) k0 kc ks kd0 tb0 fc fs' (nI (min (pre ++ [s]).length 6)) .null 0 ∧ (∀ j x, (pre ++ [s])[j]? = some x → j < 6 → foK ((t1.set ks (.inl (8, 6, .inr (.inr (.inr (.inr (va_up fs pre.length v))))))).set k0 (.inr (9, [.int kd0, .int tb0, .ref (241 + kc), .ref (241 + ks), .int (nI (pre.length + 1)), .null, .int 0]))) 0 (va_rf (fs' j)) x) ∧ (∀ j, (pre ++ [s]).length ≤ j → fs' j = none) := by
  obtain ⟨a1, a2, a3⟩ := A
  have b1 := tl_set (z := .inl (8, 6, .inr (.inr (.inr (.inr (va_up fs pre.length v)))))) a1 (Ne.symm hk.1)
  have up : ∀ j, va_up fs pre.length v j = if j = pre.length then v else fs j := fun j => rfl
  refine ⟨va_up fs pre.length v, ⟨?_, tl_set (tl_set a2 hk.2.2) hk.2.1, tl_set (tl_self a3) hk.1⟩, fun j x hj h6j => ?_, fun j hj => ?_⟩
  · rw [len_s, show min (pre.length + 1) 6 = pre.length + 1 by omega]
    exact tl_self b1
  · refine foK_st b1 (Or.inl ⟨_, rfl⟩) (foK_st a3 (Or.inr ⟨_, rfl⟩) ?_)
    rw [up]
    by_cases e : j < pre.length
    · rw [if_neg (by omega)]
      rw [List.getElem?_append_left e] at hj
      exact hp j x hj h6j
    · have hjl := get_lt hj
      rw [len_s] at hjl
      obtain rfl : j = pre.length := by omega
      rw [List.getElem?_append_right (Nat.le_refl _), Nat.sub_self] at hj
      cases hj
      rw [if_pos rfl]
      exact hs
  · rw [len_s] at hj
    rw [up, if_neg (by omega)]
    exact hn j (by omega)
end ACI
