
/-! ONE SIDE: a table is read, 5: what is kept on the way; keys -/
abbrev tb_S : Type := sc_T × (Nat → Nat → Option Int32) × (Nat → Option ru_T)
def addR (T : tb_S) (u : ru_T) : tb_S := (T.1, T.2.1, fun q => if q = (ruN T.2.2).toNatClampNeg then some u else T.2.2 q)
def rDef (K : tv2) (i : Nat) : Bool × Nat := if K.1 i = 20 then (true, i + 1) else (false, i)
def rKey (K : tv2) (T : tb_S) (b kd i : Nat) (nl : Option Nat) : pz_T (tb_S × Nat × Option Nat) := if ruN T.2.2 = -1 then .inl (6, i) else pb (xpP K 44 (i + 1)) (fun j => pb (rNam K T.1 b 7 [] j) (fun y => pb (xpP K 45 y.2) (fun j2 => .inr (addR T (kd, b, y.1, none, [], (rDef K j2).1, 0, 0, none), (rDef K j2).2, nl))))
section TBK
variable {L : Nat} {xs : Nat → Int32} {B : Nat → Nat} {n m : Nat} {C C' C0 C1 : co_T} {t t0 t1 : ab_H} {d sl sl0 sl1 i i0 i1 j b e ti k k0 kc ks w c : Nat} {sc : sc_T} {row : Option Nat} {tg : Option (Nat × Nat)} {nl : Option Nat} {kd0 tb0 : Int32} {P : Option Value → ab_H → Nat → Prop} {X : Nat → ab_H → Nat → Prop} {cs : List Nat} {ss : List (Option (List op_T))} {E : fe_T} {tr : Nat → Option tr_T} {ru : Nat → Option ru_T} {T : tb_S}
def frTb (C C' : co_T) : Prop := (∀ k j, ¬ (k = 1 ∧ (j = 5 ∨ j = 7 ∨ j = 9 ∨ j = 10)) → k ≠ 22 → k ≠ 23 → ¬ (k = 21 ∧ 4 ≤ j) → k ≠ 20 → k ≠ 8 → C'.1 k j = C.1 k j) ∧ (∀ k j, ¬ (k = 1 ∧ j = 8) → k ≠ 20 → k ≠ 7 → k ≠ 9 → k ≠ 10 → C'.2.1 k j = C.2.1 k j) ∧ (∀ k j, ¬ (k = 1 ∧ j = 6) → k ≠ 20 → k ≠ 11 → C'.2.2 k j = C.2.2 k j)
set_option maxRecDepth 100000 in
theorem frTb_t {C1 C2 C3 : co_T} (h : frTb C1 C2) (g : frTb C2 C3) : frTb C1 C3 := ⟨fun k j a b c d e f => (g.1 k j a b c d e f).trans (h.1 k j a b c d e f), fun k j a b c d e => (g.2.1 k j a b c d e).trans (h.2.1 k j a b c d e), fun k j a b c => (g.2.2 k j a b c).trans (h.2.2 k j a b c)⟩
set_option maxRecDepth 100000 in
theorem frTb_D {C C' : co_T} (h : frD C C') : frTb C C' := ⟨fun k j a b c d e _ => h.1 k j a b c d (by omega), fun k j a b _ _ _ => h.2.1 k j a b, fun k j a b _ => h.2.2 k j a b⟩
/-! what the reading of table b may change -/
def STB (b : Nat) (C : co_T) (t : ab_H) (C' : co_T) (t' : ab_H) : Prop := (frTb C C' ∧ tlE t t') ∧ ((∀ j, j ≠ b → C'.2.1 7 j = C.2.1 7 j ∧ C'.1 8 j = C.1 8 j) ∧ C'.2.1 7 b = C.2.1 7 b ∧ (∀ k, ¬ (b * 6 ≤ k ∧ k < b * 6 + 6) → C'.2.1 9 k = C.2.1 9 k ∧ C'.2.1 10 k = C.2.1 10 k)) ∧ (∀ i, i < 24 → C'.2.2 11 i = C.2.2 11 i ∨ (C.2.2 11 i = none ∧ ∃ k x l, C'.2.2 11 i = some (241 + k) ∧ t'[k]? = some (.inr (7, .int x :: .int (nI b) :: l)))) ∧ (C'.1 20 10 = C.1 20 10 ∧ C'.2.2 20 3 = C.2.2 20 3 ∧ ∀ j, 7 ≤ j → C'.1 21 j = C.1 21 j)
set_option maxRecDepth 100000 in
theorem STB_t {C1 C2 C3 : co_T} {t1 t2 t3 : ab_H} (h : STB b C1 t1 C2 t2) (g : STB b C2 t2 C3 t3) : STB b C1 t1 C3 t3 := by
  obtain ⟨⟨h1, h2⟩, ⟨h3, h4, h5⟩, h6, h7, h8, h9⟩ := h
  obtain ⟨⟨g1, g2⟩, ⟨g3, g4, g5⟩, g6, g7, g8, g9⟩ := g
  refine ⟨⟨frTb_t h1 g1, tlE_t h2 g2⟩, ⟨fun j hj => ⟨(g3 j hj).1.trans (h3 j hj).1, (g3 j hj).2.trans (h3 j hj).2⟩, g4.trans h4, fun k hk => ⟨(g5 k hk).1.trans (h5 k hk).1, (g5 k hk).2.trans (h5 k hk).2⟩⟩, fun i hi => ?_, g7.trans h7, g8.trans h8, fun j hj => (g9 j hj).trans (h9 j hj)⟩
  rcases g6 i hi with e | ⟨e, k, x, l, e1, e2⟩
  · rcases h6 i hi with e' | ⟨e', k, x, l, e1, e2⟩
    · exact Or.inl (e.trans e')
    · exact Or.inr ⟨e', k, x, l, e.trans e1, g2 _ _ e2⟩
  · rcases h6 i hi with e' | ⟨e', k', x', l', e1', e2'⟩
    · exact Or.inr ⟨e'.symm.trans e, k, x, l, e1, e2⟩
    · rw [e1'] at e
      cases e
set_option maxRecDepth 100000 in
theorem STB_F (h : frF C C') (g : tlE t t1) : STB b C t C' t1 := ⟨⟨frTb_D (frD_F h), g⟩, ⟨fun j _ => ⟨h.2.1 7 j (by omega), h.1 8 j (by omega) (by omega) (by omega) (by omega)⟩, h.2.1 7 b (by omega), fun k _ => ⟨h.2.1 9 k (by omega), h.2.1 10 k (by omega)⟩⟩, fun i _ => Or.inl (h.2.2 11 i (by omega)), h.1 20 10 (by omega) (by omega) (by omega) (by omega), h.2.2 20 3 (by omega), fun j hj => h.1 21 j (by omega) (by omega) (by omega) (by omega)⟩
set_option maxRecDepth 100000 in
theorem STB_rf {j : Nat} {x : Int32} : STB b C t (rfC B n C j x) t := by
  have f := (flt_rf (B := B) (n := n) (j := j) (C := C) (c := x)).2
  exact ⟨⟨frTb_D f, tlE_r⟩, ⟨fun q _ => ⟨f.2.1 7 q (by omega) (by omega), f.1 8 q (by omega) (by omega) (by omega) (by omega) (by omega)⟩, f.2.1 7 b (by omega) (by omega), fun k _ => ⟨f.2.1 9 k (by omega) (by omega), f.2.1 10 k (by omega) (by omega)⟩⟩, fun i _ => Or.inl (f.2.2 11 i (by omega) (by omega)), rfl, rfl, fun j _ => rfl⟩
/-! names, defaults, rules -/
def BK (C : co_T) (t : ab_H) (T : tb_S) : Prop := SCK C T.1 ∧ (∀ b c, b < 6 → c < T.1.2.1 b → C.2.1 10 (b * 6 + c) = e_V (T.2.1 b c)) ∧ RLK C t T.2.2
set_option maxRecDepth 100000 in
theorem BK_F (h : frF C C') (g : tlE t t1) (K : BK C t T) : BK C' t1 T := ⟨SCK_D K.1 (frD_F h), fun b c hb hc => (h.2.1 10 _ (by omega)).trans (K.2.1 b c hb hc), fun i hi => by
  rw [h.2.2 11 i (by omega)]
  exact opK_m (fun k u => RUK_e g) (K.2.2 i hi)⟩
/-! a new rule: whatever is read for it -/
abbrev nrC (B : Nat → Nat) (n : Nat) (C : co_T) (i s : Nat) (t : ab_H) : co_T := sQ (nxT B n C i) 11 s (some (241 + t.length))
set_option maxRecDepth 100000 in
theorem nr_F {s : Nat} (f : frF (nrC B n C i s t) C') : (∀ k j, k ≠ 22 → k ≠ 23 → ¬ (k = 1 ∧ (j = 5 ∨ j = 7)) → ¬ (k = 21 ∧ (j = 4 ∨ j = 5 ∨ j = 6)) → C'.1 k j = C.1 k j) ∧ (∀ k j, ¬ (k = 1 ∧ j = 8) → C'.2.1 k j = C.2.1 k j) ∧ (∀ k j, ¬ (k = 1 ∧ j = 6) → ¬ (k = 11 ∧ j = s) → C'.2.2 k j = C.2.2 k j) ∧ C'.2.2 11 s = some (241 + t.length) := by
  have g := nxT_fr (B := B) (n := n) (C := C) (i := i)
  refine ⟨fun k j a b c d => (f.1 k j a b c d).trans (g.1 k j c), fun k j a => (f.2.1 k j a).trans (g.2.1 k j a), fun k j a b => (f.2.2 k j a).trans ?_, (f.2.2 11 s (by omega)).trans ?_⟩
  · rw [sQ_3, if_neg b]
    exact g.2.2 k j a
  · rw [sQ_3, if_pos ⟨rfl, rfl⟩]
set_option maxRecDepth 100000 in
theorem STB_48 {s : Nat} {x : Int32} {l : List Value} (hs : C.2.2 11 s = none) (f : frF (nrC B n C i s t) C') (g : tlE t t1) (h : t1[t.length]? = some (.inr (7, .int x :: .int (nI b) :: l))) : STB b C t C' t1 := by
  obtain ⟨f1, f2, f3, f4⟩ := nr_F f
  refine ⟨⟨⟨fun k j a b c d e _ => f1 k j b c (by omega) (by omega), fun k j a _ _ _ _ => f2 k j a, fun k j a _ c => f3 k j a (by omega)⟩, g⟩, ⟨fun j _ => ⟨f2 7 j (by omega), f1 8 j (by omega) (by omega) (by omega) (by omega)⟩, f2 7 b (by omega), fun k _ => ⟨f2 9 k (by omega), f2 10 k (by omega)⟩⟩, fun q hq => ?_, f1 20 10 (by omega) (by omega) (by omega) (by omega), f3 20 3 (by omega) (by omega), fun j hj => f1 21 j (by omega) (by omega) (by omega) (by omega)⟩
  by_cases e : q = s
  · subst e
    exact Or.inr ⟨hs, t.length, x, l, f4, h⟩
  · exact Or.inl (f3 11 q (by omega) (by omega))
set_option maxRecDepth 100000 in
theorem BK_48 {s : Nat} {u : ru_T} (K : BK C t T) (hN : ruN T.2.2 = nI s) (hs : s < 24) (f : frF (nrC B n C i s t) C') (g : tlE t t1) (h : RUK t1 t.length u) : BK C' t1 (addR T u) := by
  obtain ⟨f1, f2, f3, f4⟩ := nr_F f
  refine ⟨⟨fun b hb => (f2 7 b (by omega)).trans (K.1.1 b hb), fun b hb => ⟨(f1 8 b (by omega) (by omega) (by omega) (by omega)).trans (K.1.2 b hb).1, (K.1.2 b hb).2.1, fun c hc => (f2 9 _ (by omega)).trans ((K.1.2 b hb).2.2 c hc)⟩⟩, fun b c hb hc => (f2 10 _ (by omega)).trans (K.2.1 b c hb hc), fun q hq => ?_⟩
  show opK (RUK t1) (C'.2.2 11 q) (if q = (ruN T.2.2).toNatClampNeg then some u else T.2.2 q)
  rw [hN, nK_nat (by omega)]
  by_cases e : q = s
  · subst e
    rw [if_pos rfl]
    exact ⟨t.length, f4, h⟩
  · rw [if_neg e, f3 11 q (by omega) (by omega)]
    exact opK_m (fun k u => RUK_e g) (K.2.2 q hq)
set_option maxRecDepth 100000 in
theorem RLK_n (h : RLK C t ru) {s : Nat} (hs : s < 24) (e : ru s = none) : C.2.2 11 s = none := by
  have := h s hs
  rw [e] at this
  exact this
/-! how an item's reading ends -/
def PIt (B : Nat → Nat) (n m : Nat) (C : co_T) (t : ab_H) (i sl b : Nat) (r : pz_T (tb_S × Nat × Option Nat)) : Option Value → ab_H → Nat → Prop := fun v h q => ∃ T i' nl' C' t', (r = .inr (T, i', nl') ∧ none = v ∧ (tkS B n m C' i' ∧ lfK (C'.1 21 6) nl') ∧ BK C' t' T ∧ STB b C t C' t' ∧ t'.length ≤ t.length + 4 * (i' - i) ∧ i ≤ i') ∧ MH C' t' = h ∧ q ≤ sl + 25 * (i' - i)
def XIt {α : Type} (B : Nat → Nat) (n : Nat) (C : co_T) (t : ab_H) (i sl b : Nat) (r : pz_T α) : Nat → ab_H → Nat → Prop := fun a h q => ∃ c j C' t' s, (r = .inl (c, j) ∧ flt B n C' c j ∧ STB b C t C' t' ∧ t'.length ≤ t.length + 4 * (j - i) ∧ i ≤ j ∧ s ≤ sl + 25 * (j - i)) ∧ Xk 12 C' t' s a h q
set_option maxRecDepth 100000 in
theorem frN_r : frN C C := ⟨fun _ _ _ => rfl, fun _ _ _ => rfl, fun _ _ _ => rfl⟩
set_option maxRecDepth 100000 in
theorem nr_S {s : Nat} (S : tkS B n m C i) (h1 : kd B n i ≠ 1) (h2 : kd B n i ≠ 2) : tkS B n m (nrC B n C i s t) (i + 1) := tkS_g (nxT_S S h1 h2) (fun _ _ _ => rfl) (fun _ _ _ => rfl) (fun k j h => by rw [sQ_3, if_neg (by omega)])
end TBK
