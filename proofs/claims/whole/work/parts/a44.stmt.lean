
/-! HOW STATEMENTS ARE READ, as functions of the tokens: names, sums, changes -/
abbrev pz_T (α : Type) : Type := (Int32 × Nat) ⊕ α
def pb {α β : Type} (r : pz_T α) (g : α → pz_T β) : pz_T β := match r with
  | .inl e => .inl e
  | .inr a => g a
/-! names of tables, widths, names of columns -/
abbrev sc_T : Type := (Nat → Int64) × (Nat → Nat) × (Nat → Nat → Int64)
def tbF (tn : Nat → Int64) (v : Int64) : Int32 := fnd (fun j => !decide (tn j = 0) && decide (tn j = v)) 6 0
def clF (sc : sc_T) (b : Nat) (v : Int64) : Int32 := fnd (fun j => decide (sc.2.2 b j = v)) (sc.2.1 b) 0
/-! kinds and values of tokens -/
abbrev tv2 : Type := (Nat → Nat) × (Nat → Int64)
def xpP (K : tv2) (w i : Nat) : pz_T Nat := if K.1 i = w then .inr (i + 1) else .inl (2, i)
def rTab (K : tv2) (sc : sc_T) (i : Nat) : pz_T (Nat × Nat) := if K.1 i = 3 then (if tbF sc.1 (K.2 i) = -1 then .inl (4, i) else .inr ((tbF sc.1 (K.2 i)).toNatClampNeg, i + 1)) else .inl (2, i)
def evt (k : Nat) : Option Nat := if k = 18 then some 0 else if k = 41 then some 1 else if k = 15 then some 2 else none
def rEvt (K : tv2) (i : Nat) : pz_T (Nat × Nat) := match evt (K.1 i) with
  | none => .inl (2, i)
  | some e => .inr (e, i + 1)
def rCol (K : tv2) (sc : sc_T) (b : Nat) (acc : List Nat) (i : Nat) : pz_T (Nat × Nat) := if K.1 i = 3 then (if clF sc b (K.2 i) = -1 then .inl (4, i) else if acc.contains (clF sc b (K.2 i)).toNatClampNeg = true then .inl (3, i) else .inr ((clF sc b (K.2 i)).toNatClampNeg, i + 1)) else .inl (2, i)
/-! the names in a formula: columns of a row; NEW and OLD of a trigger -/
def fE (K : tv2) (sc : sc_T) (row : Option Nat) (tg : Option (Nat × Nat)) : fe_T := (K.1, K.2, row.map (clF sc), tg.map (fun p => clF sc p.1), (match tg with
  | none => false
  | some p => decide (p.2 ≠ 2)), (match tg with
  | none => false
  | some p => decide (p.2 ≠ 0)))
def rFm (E : fe_T) (md i : Nat) (nl : Option Nat) : pz_T (List op_T × Nat × Option Nat) := match rd E 6000 md (i, [], 0, nl) with
  | .inl e => .inl e
  | .inr z => .inr (z.2.1, z.1, z.2.2.2)
def rPt (E : fe_T) (i : Nat) (nl : Option Nat) : pz_T (Option (List op_T) × Nat × Option Nat) := if E.1 i = 14 then .inr (none, i + 1, nl) else pb (rFm E 3 i nl) (fun x => .inr (some x.1, x.2))
def rPar (E : fe_T) : Nat → Nat → Option Nat → pz_T (List (Option (List op_T)) × Nat × Option Nat)
  | 0, _, _ => .inl (0, 0)
  | f + 1, i, nl => pb (rPt E i nl) (fun x => if E.1 x.2.1 = 48 then pb (rPar E f (x.2.1 + 1) x.2.2) (fun y => .inr (x.1 :: y.1, y.2)) else .inr ([x.1], x.2))
def rSet (K : tv2) (sc : sc_T) (E : fe_T) (b : Nat) : Nat → List Nat → Nat → Option Nat → pz_T ((List Nat × List (Option (List op_T))) × Nat × Option Nat)
  | 0, _, _, _ => .inl (0, 0)
  | f + 1, acc, i, nl => pb (rCol K sc b acc i) (fun c => pb (xpP K 50 c.2) (fun j => pb (rFm E 3 j nl) (fun x => if K.1 x.2.1 = 48 then pb (rSet K sc E b f (acc ++ [c.1]) (x.2.1 + 1) x.2.2) (fun y => .inr ((c.1 :: y.1.1, some x.1 :: y.1.2), y.2)) else .inr (([c.1], [some x.1]), x.2))))
def rIns (K : tv2) (sc : sc_T) (tg : Option (Nat × Nat)) (b i : Nat) (nl : Option Nat) : pz_T (ac_T × Nat × Option Nat) := pb (xpP K 44 i) (fun j => pb (rPar (fE K sc none tg) 601 j nl) (fun p => if K.1 p.2.1 = 45 then (if p.1.length = sc.2.1 b then .inr ((0, some b, [], p.1, none, 0), p.2.1 + 1, p.2.2) else .inl (7, p.2.1)) else .inl (2, p.2.1)))
def rUpd (K : tv2) (sc : sc_T) (tg : Option (Nat × Nat)) (e b i : Nat) (nl : Option Nat) : pz_T ((List Nat × List (Option (List op_T))) × Nat × Option Nat) := if e = 1 then pb (xpP K 34 i) (fun j => rSet K sc (fE K sc (some b) tg) b 601 [] j nl) else .inr (([], []), i, nl)
def rWhr (K : tv2) (sc : sc_T) (tg : Option (Nat × Nat)) (e b : Nat) (s : (List Nat × List (Option (List op_T))) × Nat × Option Nat) : pz_T (ac_T × Nat × Option Nat) := if K.1 s.2.1 = 43 then pb (rFm (fE K sc (some b) tg) 8 (s.2.1 + 1) s.2.2) (fun x => .inr ((e, some b, s.1.1, s.1.2, some x.1, 0), x.2)) else .inr ((e, some b, s.1.1, s.1.2, none, 0), s.2)
def rChg (K : tv2) (sc : sc_T) (tg : Option (Nat × Nat)) (i : Nat) (nl : Option Nat) : pz_T (ac_T × Nat × Option Nat) := pb (rEvt K i) (fun e => pb (rTab K sc e.2) (fun tb => if e.1 = 0 then rIns K sc tg tb.1 tb.2 nl else pb (rUpd K sc tg e.1 tb.1 tb.2 nl) (rWhr K sc tg e.1 tb.1)))
set_option maxRecDepth 100000 in
theorem pb_l {α β : Type} {r : pz_T α} {g : α → pz_T β} {e : Int32 × Nat} (h : r = .inl e) : pb r g = .inl e := by rw [h]; rfl
set_option maxRecDepth 100000 in
theorem pb_r {α β : Type} {r : pz_T α} {g : α → pz_T β} {a : α} (h : r = .inr a) : pb r g = g a := by rw [h]; rfl
section RDC
variable {K : tv2} {sc : sc_T} {i b c : Nat} {acc : List Nat}
set_option maxRecDepth 100000 in
theorem rTab_2 (h : K.1 i ≠ 3) : rTab K sc i = .inl (2, i) := if_neg h
set_option maxRecDepth 100000 in
theorem rTab_4 (h : K.1 i = 3) (hf : tbF sc.1 (K.2 i) = -1) : rTab K sc i = .inl (4, i) := by
  unfold rTab
  rw [if_pos h, if_pos hf]
set_option maxRecDepth 100000 in
theorem rTab_s (h : K.1 i = 3) (hf : tbF sc.1 (K.2 i) ≠ -1) (hb : (tbF sc.1 (K.2 i)).toNatClampNeg = b) : rTab K sc i = .inr (b, i + 1) := by
  unfold rTab
  rw [if_pos h, if_neg hf, hb]
set_option maxRecDepth 100000 in
theorem rCol_2 (h : K.1 i ≠ 3) : rCol K sc b acc i = .inl (2, i) := if_neg h
set_option maxRecDepth 100000 in
theorem rCol_4 (h : K.1 i = 3) (hf : clF sc b (K.2 i) = -1) : rCol K sc b acc i = .inl (4, i) := by
  unfold rCol
  rw [if_pos h, if_pos hf]
set_option maxRecDepth 100000 in
theorem rCol_3 (h : K.1 i = 3) (hf : clF sc b (K.2 i) ≠ -1) (hc : (clF sc b (K.2 i)).toNatClampNeg = c) (ha : acc.contains c = true) : rCol K sc b acc i = .inl (3, i) := by
  unfold rCol
  rw [if_pos h, if_neg hf, hc, if_pos ha]
set_option maxRecDepth 100000 in
theorem rCol_s (h : K.1 i = 3) (hf : clF sc b (K.2 i) ≠ -1) (hc : (clF sc b (K.2 i)).toNatClampNeg = c) (ha : acc.contains c = false) : rCol K sc b acc i = .inr (c, i + 1) := by
  unfold rCol
  rw [if_pos h, if_neg hf, hc, if_neg (by rw [ha]; decide)]
end RDC
set_option maxRecDepth 100000 in
theorem fnd_b (p : Nat → Bool) : ∀ (n k : Nat), fnd p n k = -1 ∨ ∃ j, fnd p n k = nI j ∧ k ≤ j ∧ j < k + n ∧ p j = true
  | 0, _ => Or.inl rfl
  | n + 1, k => by
    have e0 : fnd p (n + 1) k = bif p k then nI k else fnd p n (k + 1) := rfl
    rw [e0]
    cases hp : p k with
    | true => exact Or.inr ⟨k, rfl, Nat.le_refl _, by omega, hp⟩
    | false =>
      rcases fnd_b p n (k + 1) with h | ⟨j, h1, h2, h3, h4⟩
      · exact Or.inl h
      · exact Or.inr ⟨j, h1, by omega, by omega, h4⟩
set_option maxRecDepth 100000 in
theorem tbF_b {tn : Nat → Int64} {v : Int64} (h : tbF tn v ≠ -1) : ∃ b, tbF tn v = nI b ∧ b < 6 ∧ tn b ≠ 0 ∧ (tbF tn v).toNatClampNeg = b := by
  rcases fnd_b (fun j => !decide (tn j = 0) && decide (tn j = v)) 6 0 with h1 | ⟨j, h1, h2, h3, h4⟩
  · exact absurd h1 h
  · have h4 : (!decide (tn j = 0) && decide (tn j = v)) = true := h4
    simp at h4
    exact ⟨j, h1, by omega, h4.1, by rw [show tbF tn v = nI j from h1, nK_nat (by omega)]⟩
set_option maxRecDepth 100000 in
theorem clF_b {sc : sc_T} {b : Nat} {v : Int64} (h6 : sc.2.1 b ≤ 6) (h : clF sc b v ≠ -1) : ∃ c, clF sc b v = nI c ∧ c < sc.2.1 b ∧ (clF sc b v).toNatClampNeg = c := by
  rcases fnd_b (fun j => decide (sc.2.2 b j = v)) (sc.2.1 b) 0 with h1 | ⟨j, h1, h2, h3, h4⟩
  · exact absurd h1 h
  · exact ⟨j, h1, by omega, by rw [show clF sc b v = nI j from h1, nK_nat (by omega)]⟩
/-! ONE SIDE: what a reading leaves -/
def frD (C C' : co_T) : Prop := (∀ k j, ¬ (k = 1 ∧ (j = 5 ∨ j = 7 ∨ j = 9 ∨ j = 10)) → k ≠ 22 → k ≠ 23 → ¬ (k = 21 ∧ 4 ≤ j) → ¬ (k = 20 ∧ j ≠ 10) → C'.1 k j = C.1 k j) ∧ (∀ k j, ¬ (k = 1 ∧ j = 8) → k ≠ 20 → C'.2.1 k j = C.2.1 k j) ∧ (∀ k j, ¬ (k = 1 ∧ j = 6) → k ≠ 20 → C'.2.2 k j = C.2.2 k j)
set_option maxRecDepth 100000 in
theorem frD_r {C : co_T} : frD C C := ⟨fun _ _ _ _ _ _ _ => rfl, fun _ _ _ _ => rfl, fun _ _ _ _ => rfl⟩
set_option maxRecDepth 100000 in
theorem frD_t {C1 C2 C3 : co_T} (h : frD C1 C2) (g : frD C2 C3) : frD C1 C3 := ⟨fun k j a b c d e => (g.1 k j a b c d e).trans (h.1 k j a b c d e), fun k j a b => (g.2.1 k j a b).trans (h.2.1 k j a b), fun k j a b => (g.2.2 k j a b).trans (h.2.2 k j a b)⟩
set_option maxRecDepth 100000 in
theorem frD_F {C C' : co_T} (h : frF C C') : frD C C' := ⟨fun k j a b c d _ => h.1 k j b c (by omega) (by omega), fun k j a _ => h.2.1 k j a, fun k j a _ => h.2.2 k j a⟩
set_option maxRecDepth 100000 in
theorem frD_N {C C' : co_T} (h : frN C C') : frD C C' := ⟨fun k j a b c d _ => h.1 k j (by omega), fun k j a _ => h.2.1 k j a, fun k j a _ => h.2.2 k j a⟩
set_option maxRecDepth 100000 in
theorem frD_I {C : co_T} {k j : Nat} {v : Int32} (h : (k = 21 ∧ 4 ≤ j) ∨ (k = 20 ∧ j ≠ 10) ∨ (k = 1 ∧ (j = 9 ∨ j = 10))) : frD C (sI C k j v) := ⟨fun q i a b c d e => by rw [sI_1, if_neg (by omega)], fun _ _ _ _ => rfl, fun _ _ _ _ => rfl⟩
def flt (B : Nat → Nat) (n : Nat) (C : co_T) (c : Int32) (j : Nat) : Prop := C.1 1 9 = (if kd B n j = 1 then 1 else c) ∧ C.1 1 10 = nI (tkA B n j)
set_option maxRecDepth 100000 in
theorem flt_rf {B : Nat → Nat} {n j : Nat} {C : co_T} {c : Int32} : flt B n (rfC B n C j c) c j ∧ frD C (rfC B n C j c) := ⟨⟨rfl, rfl⟩, frD_t (frD_I (by omega)) (frD_I (by omega))⟩
def frRd (C C' : co_T) : Prop := frD C C' ∧ ∀ j, C'.1 20 j = C.1 20 j ∧ C'.2.1 20 j = C.2.1 20 j ∧ C'.2.2 20 j = C.2.2 20 j
set_option maxRecDepth 100000 in
theorem frRd_r {C : co_T} : frRd C C := ⟨frD_r, fun _ => ⟨rfl, rfl, rfl⟩⟩
set_option maxRecDepth 100000 in
theorem frRd_t {C1 C2 C3 : co_T} (h : frRd C1 C2) (g : frRd C2 C3) : frRd C1 C3 := ⟨frD_t h.1 g.1, fun j => ⟨(g.2 j).1.trans (h.2 j).1, (g.2 j).2.1.trans (h.2 j).2.1, (g.2 j).2.2.trans (h.2 j).2.2⟩⟩
set_option maxRecDepth 100000 in
theorem frRd_F {C C' : co_T} (h : frF C C') : frRd C C' := ⟨frD_F h, fun j => ⟨h.1 20 j (by omega) (by omega) (by omega) (by omega), h.2.1 20 j (by omega), h.2.2 20 j (by omega)⟩⟩
set_option maxRecDepth 100000 in
theorem frRd_N {C C' : co_T} (h : frN C C') : frRd C C' := ⟨frD_N h, fun j => ⟨h.1 20 j (by omega), h.2.1 20 j (by omega), h.2.2 20 j (by omega)⟩⟩
set_option maxRecDepth 100000 in
theorem frRd_I {C : co_T} {j : Nat} {v : Int32} (h : 4 ≤ j) : frRd C (sI C 21 j v) := ⟨frD_I (by omega), fun q => ⟨by rw [sI_1, if_neg (by omega)], rfl, rfl⟩⟩
/-! how a reading ends: well, at the token i'; refused -/
def PD {α : Type} (B : Nat → Nat) (n m : Nat) (C : co_T) (t : ab_H) (i sl : Nat) (r : pz_T (α × Nat × Option Nat)) (Q : α → co_T → ab_H → Option Value → Prop) : Option Value → ab_H → Nat → Prop := fun v h q => ∃ a i' nl' C' t', (r = .inr (a, i', nl') ∧ Q a C' t' v ∧ (tkS B n m C' i' ∧ lfK (C'.1 21 6) nl') ∧ frRd C C' ∧ (tlE t t' ∧ t'.length ≤ t.length + 4 * (i' - i) ∧ i ≤ i')) ∧ MH C' t' = h ∧ q ≤ sl + 25 * (i' - i)
def XD {α : Type} (B : Nat → Nat) (n : Nat) (C : co_T) (t : ab_H) (i sl : Nat) (r : pz_T α) : Nat → ab_H → Nat → Prop := fun a h q => ∃ c j C' t' s, (r = .inl (c, j) ∧ flt B n C' c j ∧ frD C C' ∧ (tlE t t' ∧ t'.length ≤ t.length + 4 * (j - i) ∧ i ≤ j) ∧ s ≤ sl + 25 * (j - i)) ∧ Xk 12 C' t' s a h q
/-! readings that make nothing, and need no count of nodes -/
def PN {α : Type} (B : Nat → Nat) (n m : Nat) (C : co_T) (t : ab_H) (sl : Nat) (r : pz_T (α × Nat)) (Q : α → Option Value → Prop) : Option Value → ab_H → Nat → Prop := fun v h q => ∃ a i' C', (r = .inr (a, i') ∧ Q a v ∧ tkS B n m C' i' ∧ frN C C') ∧ MH C' t = h ∧ sl = q
def XN {α : Type} (B : Nat → Nat) (n m : Nat) (C : co_T) (t : ab_H) (sl : Nat) (r : pz_T α) : Nat → ab_H → Nat → Prop := fun a h q => ∃ c j, (r = .inl (c, j) ∧ tkS B n m C j) ∧ Xk 12 (rfC B n C j c) t sl a h q
section NMS
variable {L : Nat} {xs : Nat → Int32} {B : Nat → Nat} {n m : Nat} {C C' C0 : co_T} {t : ab_H} {d sl i j b : Nat} {sc : sc_T}
def tkP (B : Nat → Nat) (n : Nat) : tv2 := (kd B n, vl B n)
/-! the names as one side keeps them -/
def SCK (C : co_T) (sc : sc_T) : Prop := (∀ b, b < 6 → C.2.1 7 b = sc.1 b) ∧ (∀ b, b < 6 → C.1 8 b = nI (sc.2.1 b) ∧ sc.2.1 b ≤ 6 ∧ ∀ c, c < sc.2.1 b → C.2.1 9 (b * 6 + c) = sc.2.2 b c)
set_option maxRecDepth 100000 in
theorem fnd_c {p q : Nat → Bool} : ∀ (n k : Nat), (∀ j, k ≤ j → j < k + n → p j = q j) → fnd p n k = fnd q n k
  | 0, _, _ => rfl
  | n + 1, k, h => by
    have e1 : fnd p (n + 1) k = bif p k then nI k else fnd p n (k + 1) := rfl
    have e2 : fnd q (n + 1) k = bif q k then nI k else fnd q n (k + 1) := rfl
    rw [e1, e2, h k (Nat.le_refl _) (by omega), fnd_c n (k + 1) (fun j a b => h j (by omega) (by omega))]
set_option maxRecDepth 100000 in
theorem tbF_K (S : SCK C sc) (v : Int64) : fnd (fun i => isT C i && decide (C.2.1 7 i = v)) 6 0 = tbF sc.1 v := fnd_c 6 0 (fun j _ hj => by
  show (isT C j && decide (C.2.1 7 j = v)) = _
  unfold isT
  rw [S.1 j (by omega)])
set_option maxRecDepth 100000 in
theorem clF_K (S : SCK C sc) (hb : b < 6) (v : Int64) : fnd (fun i => decide (C.2.1 9 (b * 6 + i) = v)) (sc.2.1 b) 0 = clF sc b v := fnd_c _ 0 (fun j _ hj => by
  show decide (C.2.1 9 (b * 6 + j) = v) = _
  rw [(S.2 b hb).2.2 j (by omega)])
set_option maxRecDepth 100000 in
theorem SCK_D (S : SCK C sc) (h : frD C C') : SCK C' sc := ⟨fun b hb => (h.2.1 7 b (by omega) (by omega)).trans (S.1 b hb), fun b hb => ⟨(h.1 8 b (by omega) (by omega) (by omega) (by omega) (by omega)).trans (S.2 b hb).1, (S.2 b hb).2.1, fun c hc => (h.2.1 9 _ (by omega) (by omega)).trans ((S.2 b hb).2.2 c hc)⟩⟩
set_option maxRecDepth 100000 in
theorem m_74 (S : tkS B n m C i) (hS : SCK C sc) : Wd L xs (d + 7) y_74 (0, [(0, .ref 120)], [], MH C t, sl) (PN B n m C t sl (rTab (tkP B n) sc i) (fun b v => some (.int (nI b)) = v)) (XN B n m C t sl (rTab (tkP B n) sc i)) := by
  by_cases hk : kd B n i = 3
  · have hm1 := m_32 (L := L) (xs := xs) (C := C) (t := t) (d := d + 5) (sl := 0) (a := vl B n i)
    rw [tbF_K hS] at hm1
    by_cases hf : tbF sc.1 (vl B n i) = -1
    · have e0 : rTab (tkP B n) sc i = .inl (4, i) := rTab_4 (K := tkP B n) hk hf
      rw [hf] at hm1
      refine w_p (pc1 := 1) rfl rfl ?_
      refine w_m0 (pc1 := 4) rfl rfl (h_gC rfl rfl rfl rfl) rfl ?_
      refine w_m0 (pc1 := 7) (st1 := .ref (kd B n i) :: _) rfl rfl (h_gRs (j := 6) rfl rfl rfl rfl rfl (tkS_tok S)) rfl ?_
      refine w_m0 (pc1 := 10) (st1 := .ref 3 :: _) rfl rfl rfl rfl ?_
      refine w_ae_y (A := 21) (ok_kd) (by decide) (hk) rfl rfl ?_
      refine w_p (pc1 := 22) rfl rfl ?_
      refine w_m0 (pc1 := 25) rfl rfl (h_gC rfl rfl rfl rfl) rfl ?_
      refine w_p (pc1 := 26) rfl rfl ?_
      refine w_m0 (pc1 := 29) rfl rfl (h_gC rfl rfl rfl rfl) rfl ?_
      refine w_m0 (pc1 := 32) (st1 := .long (vl B n i) :: _) rfl rfl (h_gJe (j := 8) rfl rfl rfl rfl rfl (tkS_v S)) rfl ?_
      refine w_je (pc1 := 35) (vs := [.ref 106, .long (vl B n i)]) (rest := []) (st1 := [.int (-1)]) (hm1) rfl rfl rfl (fun _ _ => rfl) rfl (by exact cl_v my_32 rfl rfl rfl (Nat.le_of_ble_eq_true rfl) rfl (MH_obj rfl rfl) rfl (by decide) rfl rfl) (by rfl) (Nat.le_of_ble_eq_true rfl) (Nat.le_of_ble_eq_true rfl) rfl (by rfl) ?_
      refine w_p (pc1 := 36) (al1 := [(1, .int (-1)), (0, .ref 120)]) rfl rfl ?_
      refine w_p (pc1 := 37) rfl rfl ?_
      refine w_p (pc1 := 38) (st1 := .int (-1) :: _) rfl rfl ?_
      refine w_f (a := 49) (b := 41) rfl rfl rfl ?_
      refine w_p (pc1 := 42) rfl rfl ?_
      refine w_m0 (pc1 := 45) rfl rfl (h_gC rfl rfl rfl rfl) rfl ?_
      refine w_p (pc1 := 46) (st1 := .int 4 :: _) rfl rfl ?_
      refine w_ji (pc1 := 49) (vs := [.ref 101, .int 4]) (rest := []) (m_31 (d := d) (sl := 0) (c := 4) S) rfl rfl rfl (fun _ _ => rfl) rfl (by exact cl_v my_31 rfl rfl rfl (Nat.le_of_ble_eq_true rfl) rfl (MH_obj rfl rfl) rfl (by decide) rfl rfl) (by rfl) (Nat.le_of_ble_eq_true rfl) (Nat.le_of_ble_eq_true rfl) rfl (fun v h1 d1 hq => ?_) (fun a h1 d1 hq => ?_)
      · exact hq.elim
      · rcases hq with ⟨ha, hh, hn⟩
        · subst ha; subst hh; subst hn
          refine Or.inl ⟨ch_new (by decide) rfl, ?_⟩
          refine ⟨4, i, ⟨e0, S⟩, rfl, ?_, by omega⟩
          with_reducible rfl
    · obtain ⟨b, h1, h2, h3, h4⟩ := tbF_b hf
      have e0 : rTab (tkP B n) sc i = .inr (b, i + 1) := rTab_s (K := tkP B n) hk hf h4
      rw [h1] at hm1
      have hnx := m_21s (L := L) (xs := xs) (t := t) (d := d + 6) (sl := 0) S (by rw [hk]; decide) (by rw [hk]; decide)
      refine w_p (pc1 := 1) rfl rfl ?_
      refine w_m0 (pc1 := 4) rfl rfl (h_gC rfl rfl rfl rfl) rfl ?_
      refine w_m0 (pc1 := 7) (st1 := .ref (kd B n i) :: _) rfl rfl (h_gRs (j := 6) rfl rfl rfl rfl rfl (tkS_tok S)) rfl ?_
      refine w_m0 (pc1 := 10) (st1 := .ref 3 :: _) rfl rfl rfl rfl ?_
      refine w_ae_y (A := 21) (ok_kd) (by decide) (hk) rfl rfl ?_
      refine w_p (pc1 := 22) rfl rfl ?_
      refine w_m0 (pc1 := 25) rfl rfl (h_gC rfl rfl rfl rfl) rfl ?_
      refine w_p (pc1 := 26) rfl rfl ?_
      refine w_m0 (pc1 := 29) rfl rfl (h_gC rfl rfl rfl rfl) rfl ?_
      refine w_m0 (pc1 := 32) (st1 := .long (vl B n i) :: _) rfl rfl (h_gJe (j := 8) rfl rfl rfl rfl rfl (tkS_v S)) rfl ?_
      refine w_je (pc1 := 35) (vs := [.ref 106, .long (vl B n i)]) (rest := []) (st1 := [.int (nI (b))]) (hm1) rfl rfl rfl (fun _ _ => rfl) rfl (by exact cl_v my_32 rfl rfl rfl (Nat.le_of_ble_eq_true rfl) rfl (MH_obj rfl rfl) rfl (by decide) rfl rfl) (by rfl) (Nat.le_of_ble_eq_true rfl) (Nat.le_of_ble_eq_true rfl) rfl (by rfl) ?_
      refine w_p (pc1 := 36) (al1 := [(1, .int (nI (b))), (0, .ref 120)]) rfl rfl ?_
      refine w_p (pc1 := 37) rfl rfl ?_
      refine w_p (pc1 := 38) (st1 := .int (-1) :: _) rfl rfl ?_
      refine w_t (a := 49) (b := 41) (cb_ne_t (by exact nK_m1 (by omega))) rfl rfl ?_
      refine w_p (pc1 := 50) rfl rfl ?_
      refine w_m0 (pc1 := 53) rfl rfl (h_gC rfl rfl rfl rfl) rfl ?_
      refine w_je (pc1 := 56) (vs := [.ref 101]) (rest := []) (st1 := []) (hnx) rfl rfl rfl (fun _ _ => rfl) rfl (by exact cl_v my_21 rfl rfl rfl (Nat.le_of_ble_eq_true rfl) rfl (MH_obj rfl rfl) rfl (by decide) rfl rfl) (by rfl) (Nat.le_of_ble_eq_true rfl) (Nat.le_of_ble_eq_true rfl) rfl (by rfl) ?_
      refine w_p (pc1 := 57) rfl rfl ?_
      refine w_r rfl rfl rfl (fun _ _ => rfl) cr_int ?_
      refine ⟨b, i + 1, _, ⟨e0, rfl, nxT_S S (by rw [hk]; decide) (by rw [hk]; decide), nxT_fr⟩, ?_, rfl⟩
      with_reducible rfl
  · have e0 : rTab (tkP B n) sc i = .inl (2, i) := rTab_2 (K := tkP B n) hk
    refine w_p (pc1 := 1) rfl rfl ?_
    refine w_m0 (pc1 := 4) rfl rfl (h_gC rfl rfl rfl rfl) rfl ?_
    refine w_m0 (pc1 := 7) (st1 := .ref (kd B n i) :: _) rfl rfl (h_gRs (j := 6) rfl rfl rfl rfl rfl (tkS_tok S)) rfl ?_
    refine w_m0 (pc1 := 10) (st1 := .ref 3 :: _) rfl rfl rfl rfl ?_
    refine w_ae_n (A := 21) (Bn := 13) (ok_kd) (by decide) (hk) rfl rfl rfl ?_
    refine w_p (pc1 := 14) rfl rfl ?_
    refine w_m0 (pc1 := 17) rfl rfl (h_gC rfl rfl rfl rfl) rfl ?_
    refine w_p (pc1 := 18) (st1 := .int 2 :: _) rfl rfl ?_
    refine w_ji (pc1 := 21) (vs := [.ref 101, .int 2]) (rest := []) (m_31 (d := d) (sl := 0) (c := 2) S) rfl rfl rfl (fun _ _ => rfl) rfl (by exact cl_v my_31 rfl rfl rfl (Nat.le_of_ble_eq_true rfl) rfl (MH_obj rfl rfl) rfl (by decide) rfl rfl) (by rfl) (Nat.le_of_ble_eq_true rfl) (Nat.le_of_ble_eq_true rfl) rfl (fun v h1 d1 hq => ?_) (fun a h1 d1 hq => ?_)
    · exact hq.elim
    · rcases hq with ⟨ha, hh, hn⟩
      · subst ha; subst hh; subst hn
        refine Or.inl ⟨ch_new (by decide) rfl, ?_⟩
        refine ⟨2, i, ⟨e0, S⟩, rfl, ?_, by omega⟩
        with_reducible rfl
set_option maxRecDepth 100000 in
theorem sw_e0 : ∀ k : Fin 60, 1 ≤ k.1 → evt k.1 = none → (tk_s.getD (k.1 - 1) 0).toInt < 10 ∨ 12 < (tk_s.getD (k.1 - 1) 0).toInt := by decide +kernel
set_option maxRecDepth 100000 in
theorem sw_e (h : evt (kd B n i) = none) : (tk_s.getD (kd B n i - 1) 0).toInt < 10 ∨ 12 < (tk_s.getD (kd B n i - 1) 0).toInt := sw_e0 ⟨kd B n i, by have := (kd_ok (B := B) (n := n) i).2; omega⟩ (kd_ok i).1 h
set_option maxRecDepth 100000 in
theorem evt_s {k e : Nat} (h : evt k = some e) : (k = 18 ∧ e = 0) ∨ (k = 41 ∧ e = 1) ∨ (k = 15 ∧ e = 2) := by
  unfold evt at h
  split at h
  · cases h; exact Or.inl ⟨by assumption, rfl⟩
  · split at h
    · cases h; exact Or.inr (Or.inl ⟨by assumption, rfl⟩)
    · split at h
      · cases h; exact Or.inr (Or.inr ⟨by assumption, rfl⟩)
      · cases h
set_option maxRecDepth 100000 in
theorem m_80n (S : tkS B n m C i) (h : evt (kd B n i) = none) : Wd L xs (d + 1) y_80 (0, [(0, .ref 120)], [], MH C t, sl) (Rt (some (.int (-1))) (MH C t) sl) nX := by
  refine w_m0 (pc1 := 3) (st1 := .ref 61 :: _) rfl rfl rfl rfl ?_
  refine w_p (pc1 := 4) rfl rfl ?_
  refine w_m0 (pc1 := 7) rfl rfl (h_gC rfl rfl rfl rfl) rfl ?_
  refine w_m0 (pc1 := 10) (st1 := .ref (kd B n i) :: _) rfl rfl (h_gRs (j := 6) rfl rfl rfl rfl rfl (tkS_tok S)) rfl ?_
  refine w_c (pc1 := 13) rfl rfl rfl (fun fr lo h1 h2 => n_or rfl (kd_ok _) (by decide) h1 h2) rfl ?_
  refine w_m0 (pc1 := 14) rfl rfl (h_sw (kd_ok _)) rfl ?_
  refine w_sd (a := 46) rfl rfl (by exact sw_e h) ?_
  refine w_p (pc1 := 47) (st1 := .int (-1) :: _) rfl rfl ?_
  refine w_r rfl rfl rfl (fun _ _ => rfl) cr_int ?_
  exact ⟨rfl, rfl, rfl⟩
set_option maxRecDepth 100000 in
theorem m_80s {e : Nat} (S : tkS B n m C i) (h : evt (kd B n i) = some e) : Wd L xs (d + 1) y_80 (0, [(0, .ref 120)], [], MH C t, sl) (Rt (some (.int (nI e))) (MH C t) sl) nX := by
  have hto := tkS_tok S
  rcases evt_s h with ⟨h1, rfl⟩ | ⟨h1, rfl⟩ | ⟨h1, rfl⟩
  · rw [h1] at hto
    refine w_m0 (pc1 := 3) (st1 := .ref 61 :: _) rfl rfl rfl rfl ?_
    refine w_p (pc1 := 4) rfl rfl ?_
    refine w_m0 (pc1 := 7) rfl rfl (h_gC rfl rfl rfl rfl) rfl ?_
    refine w_m0 (pc1 := 10) (st1 := .ref 18 :: _) rfl rfl (h_gRs (j := 6) rfl rfl rfl rfl rfl (hto)) rfl ?_
    refine w_c (pc1 := 13) rfl rfl rfl (fun fr lo h1 h2 => n_or rfl (by decide) (by decide) h1 h2) rfl ?_
    refine w_m0 (pc1 := 14) rfl rfl (h_sw (by decide)) rfl ?_
    refine w_p (pc1 := 40) rfl rfl ?_
    refine w_p (pc1 := 41) (st1 := .int 0 :: _) rfl rfl ?_
    refine w_r rfl rfl rfl (fun _ _ => rfl) cr_int ?_
    exact ⟨rfl, rfl, rfl⟩
  · rw [h1] at hto
    refine w_m0 (pc1 := 3) (st1 := .ref 61 :: _) rfl rfl rfl rfl ?_
    refine w_p (pc1 := 4) rfl rfl ?_
    refine w_m0 (pc1 := 7) rfl rfl (h_gC rfl rfl rfl rfl) rfl ?_
    refine w_m0 (pc1 := 10) (st1 := .ref 41 :: _) rfl rfl (h_gRs (j := 6) rfl rfl rfl rfl rfl (hto)) rfl ?_
    refine w_c (pc1 := 13) rfl rfl rfl (fun fr lo h1 h2 => n_or rfl (by decide) (by decide) h1 h2) rfl ?_
    refine w_m0 (pc1 := 14) rfl rfl (h_sw (by decide)) rfl ?_
    refine w_p (pc1 := 42) rfl rfl ?_
    refine w_p (pc1 := 43) (st1 := .int 1 :: _) rfl rfl ?_
    refine w_r rfl rfl rfl (fun _ _ => rfl) cr_int ?_
    exact ⟨rfl, rfl, rfl⟩
  · rw [h1] at hto
    refine w_m0 (pc1 := 3) (st1 := .ref 61 :: _) rfl rfl rfl rfl ?_
    refine w_p (pc1 := 4) rfl rfl ?_
    refine w_m0 (pc1 := 7) rfl rfl (h_gC rfl rfl rfl rfl) rfl ?_
    refine w_m0 (pc1 := 10) (st1 := .ref 15 :: _) rfl rfl (h_gRs (j := 6) rfl rfl rfl rfl rfl (hto)) rfl ?_
    refine w_c (pc1 := 13) rfl rfl rfl (fun fr lo h1 h2 => n_or rfl (by decide) (by decide) h1 h2) rfl ?_
    refine w_m0 (pc1 := 14) rfl rfl (h_sw (by decide)) rfl ?_
    refine w_p (pc1 := 44) rfl rfl ?_
    refine w_p (pc1 := 45) (st1 := .int 2 :: _) rfl rfl ?_
    refine w_r rfl rfl rfl (fun _ _ => rfl) cr_int ?_
    exact ⟨rfl, rfl, rfl⟩
set_option maxRecDepth 100000 in
theorem m_79 (S : tkS B n m C i) : Wd L xs (d + 7) y_79 (0, [(0, .ref 120)], [], MH C t, sl) (PN B n m C t sl (rEvt (tkP B n) i) (fun e v => some (.int (nI e)) = v)) (XN B n m C t sl (rEvt (tkP B n) i)) := by
  cases he : evt (kd B n i) with
  | none =>
    have e0 : rEvt (tkP B n) i = .inl (2, i) := by
      unfold rEvt
      rw [show evt ((tkP B n).1 i) = none from he]
    have hm1 := m_80n (L := L) (xs := xs) (t := t) (d := d + 5) (sl := 0) S he
    refine w_p (pc1 := 1) rfl rfl ?_
    refine w_je (pc1 := 4) (vs := [.ref 120]) (rest := []) (st1 := [.int (-1)]) (hm1) rfl rfl rfl (fun _ _ => rfl) rfl (by exact cl_v my_80 rfl rfl rfl (Nat.le_of_ble_eq_true rfl) rfl (MH_obj rfl rfl) rfl (by decide) rfl rfl) (by rfl) (Nat.le_of_ble_eq_true rfl) (Nat.le_of_ble_eq_true rfl) rfl (by rfl) ?_
    refine w_p (pc1 := 5) (al1 := [(1, .int (-1)), (0, .ref 120)]) rfl rfl ?_
    refine w_p (pc1 := 6) rfl rfl ?_
    refine w_p (pc1 := 7) (st1 := .int (-1) :: _) rfl rfl ?_
    refine w_f (a := 18) (b := 10) rfl rfl rfl ?_
    refine w_p (pc1 := 11) rfl rfl ?_
    refine w_m0 (pc1 := 14) rfl rfl (h_gC rfl rfl rfl rfl) rfl ?_
    refine w_p (pc1 := 15) (st1 := .int 2 :: _) rfl rfl ?_
    refine w_ji (pc1 := 18) (vs := [.ref 101, .int 2]) (rest := []) (m_31 (d := d) (sl := 0) (c := 2) S) rfl rfl rfl (fun _ _ => rfl) rfl (by exact cl_v my_31 rfl rfl rfl (Nat.le_of_ble_eq_true rfl) rfl (MH_obj rfl rfl) rfl (by decide) rfl rfl) (by rfl) (Nat.le_of_ble_eq_true rfl) (Nat.le_of_ble_eq_true rfl) rfl (fun v h1 d1 hq => ?_) (fun a h1 d1 hq => ?_)
    · exact hq.elim
    · rcases hq with ⟨ha, hh, hn⟩
      · subst ha; subst hh; subst hn
        refine Or.inl ⟨ch_new (by decide) rfl, ?_⟩
        refine ⟨2, i, ⟨e0, S⟩, rfl, ?_, by omega⟩
        with_reducible rfl
  | some e =>
    have e0 : rEvt (tkP B n) i = .inr (e, i + 1) := by
      unfold rEvt
      rw [show evt ((tkP B n).1 i) = some e from he]
    have hm1 := m_80s (L := L) (xs := xs) (t := t) (d := d + 5) (sl := 0) S he
    have he3 : e < 3 := by rcases evt_s he with ⟨_, h⟩ | ⟨_, h⟩ | ⟨_, h⟩ <;> omega
    have hkn : kd B n i ≠ 1 ∧ kd B n i ≠ 2 := by rcases evt_s he with ⟨h, _⟩ | ⟨h, _⟩ | ⟨h, _⟩ <;> omega
    have hnx := m_21s (L := L) (xs := xs) (t := t) (d := d + 6) (sl := 0) S hkn.1 hkn.2
    refine w_p (pc1 := 1) rfl rfl ?_
    refine w_je (pc1 := 4) (vs := [.ref 120]) (rest := []) (st1 := [.int (nI (e))]) (hm1) rfl rfl rfl (fun _ _ => rfl) rfl (by exact cl_v my_80 rfl rfl rfl (Nat.le_of_ble_eq_true rfl) rfl (MH_obj rfl rfl) rfl (by decide) rfl rfl) (by rfl) (Nat.le_of_ble_eq_true rfl) (Nat.le_of_ble_eq_true rfl) rfl (by rfl) ?_
    refine w_p (pc1 := 5) (al1 := [(1, .int (nI (e))), (0, .ref 120)]) rfl rfl ?_
    refine w_p (pc1 := 6) rfl rfl ?_
    refine w_p (pc1 := 7) (st1 := .int (-1) :: _) rfl rfl ?_
    refine w_t (a := 18) (b := 10) (cb_ne_t (by exact nK_m1 (by omega))) rfl rfl ?_
    refine w_p (pc1 := 19) rfl rfl ?_
    refine w_m0 (pc1 := 22) rfl rfl (h_gC rfl rfl rfl rfl) rfl ?_
    refine w_je (pc1 := 25) (vs := [.ref 101]) (rest := []) (st1 := []) (hnx) rfl rfl rfl (fun _ _ => rfl) rfl (by exact cl_v my_21 rfl rfl rfl (Nat.le_of_ble_eq_true rfl) rfl (MH_obj rfl rfl) rfl (by decide) rfl rfl) (by rfl) (Nat.le_of_ble_eq_true rfl) (Nat.le_of_ble_eq_true rfl) rfl (by rfl) ?_
    refine w_p (pc1 := 26) rfl rfl ?_
    refine w_r rfl rfl rfl (fun _ _ => rfl) cr_int ?_
    refine ⟨e, i + 1, _, ⟨e0, rfl, nxT_S S hkn.1 hkn.2, nxT_fr⟩, ?_, rfl⟩
    with_reducible rfl
variable {kc c : Nat} {fc : Nat → Int32} {acc : List Nat}
set_option maxRecDepth 100000 in
theorem lp_54y {P : Option Value → ab_H → Nat → Prop} {X : Nat → ab_H → Nat → Prop} (hc : t[kc]? = some (.inl (0, 6, .inl fc))) (ha : arI fc 0 acc) (h6 : acc.length ≤ 6) (hacc : ∀ x, x ∈ acc → x < 6) (hc6 : c < 6) (hn : acc.contains c = false) (H : Wd L xs d y_54 (91, [(4, .int (nI (c))), (0, .ref 120), (1, .int (nI (b))), (2, .ref (241 + kc)), (3, .int (nI (acc.length)))], [], MH C t, sl) P X) : ∀ (m p : Nat), p + m = acc.length → Wd L xs d y_54 (55, [(5, .int (nI (p))), (4, .int (nI (c))), (0, .ref 120), (1, .int (nI (b))), (2, .ref (241 + kc)), (3, .int (nI (acc.length)))], [], MH C t, sl) P X
  | 0, p, hp => by
    refine w_p (pc1 := 57) rfl rfl ?_
    refine w_p (pc1 := 58) rfl rfl ?_
    refine w_t (a := 91) (b := 61) (bN_ge_t (a := p) (b := acc.length) (by omega) (by omega) (by omega)) rfl rfl ?_
    refine Wd_al (al := [(4, .int (nI (c))), (0, .ref 120), (1, .int (nI (b))), (2, .ref (241 + kc)), (3, .int (nI (acc.length)))]) (sba_p [1, 2, 3, 4, 5] rfl rfl) ?_
    exact H
  | m + 1, p, hp => by
    have hg : acc[p]? = some acc[p] := List.getElem?_eq_getElem (by omega)
    have hv := ha p _ hg
    rw [Nat.zero_add] at hv
    have hx := hacc _ (List.getElem_mem (by omega : p < acc.length))
    have hne : acc[p] ≠ c := fun e => by
      have : acc.contains c = true := by rw [List.contains_iff_mem, ← e]; exact List.getElem_mem _
      rw [hn] at this
      cases this
    refine w_p (pc1 := 57) rfl rfl ?_
    refine w_p (pc1 := 58) rfl rfl ?_
    refine w_f (a := 91) (b := 61) (bN_ge_f (a := p) (b := acc.length) (by omega) (by omega) (by omega)) rfl rfl ?_
    refine w_p (pc1 := 63) rfl rfl ?_
    refine w_p (pc1 := 64) rfl rfl ?_
    refine w_m0 (pc1 := 65) (st1 := .int (nI (6)) :: _) rfl rfl (x_ln (k := kc) hc (by decide)) rfl ?_
    refine w_f (a := 91) (b := 68) (bN_ge_f (a := p) (b := 6) (by omega) (by omega) (by omega)) rfl rfl ?_
    refine w_p (pc1 := 69) rfl rfl ?_
    refine w_p (pc1 := 71) rfl rfl ?_
    refine w_m0 (pc1 := 72) (st1 := .int (nI (acc[p])) :: _) rfl rfl (x_ile (k := kc) (e := p) hc (by omega) (by omega) (hv)) rfl ?_
    refine w_p (pc1 := 74) rfl rfl ?_
    refine w_t (a := 85) (b := 77) (bN_ne_t (a := acc[p]) (b := c) (by omega) (by omega) (by omega)) rfl rfl ?_
    refine w_iinc (pc1 := 88) (u := nI (p)) (z := nI (p + 1)) (al1 := [(5, .int (nI (p + 1))), (4, .int (nI (c))), (0, .ref 120), (1, .int (nI (b))), (2, .ref (241 + kc)), (3, .int (nI (acc.length)))]) rfl rfl rfl nK_1 rfl rfl ?_
    refine w_p (pc1 := 55) rfl rfl ?_
    exact lp_54y hc ha h6 hacc hc6 hn H m (p + 1) (by omega)
set_option maxRecDepth 100000 in
theorem lp_54n (S : tkS B n m C i) (hc : t[kc]? = some (.inl (0, 6, .inl fc))) (ha : arI fc 0 acc) (h6 : acc.length ≤ 6) (hacc : ∀ x, x ∈ acc → x < 6) (hc6 : c < 6) : ∀ (q p : Nat), p + q = acc.length → (∃ j, p ≤ j ∧ acc[j]? = some c) → Wd L xs (d + 7) y_54 (55, [(5, .int (nI (p))), (4, .int (nI (c))), (0, .ref 120), (1, .int (nI (b))), (2, .ref (241 + kc)), (3, .int (nI (acc.length)))], [], MH C t, sl) nP (Xk 12 (rfC B n C i 3) t sl)
  | 0, p, hp, ⟨j, h1, h2⟩ => by
    have := get_lt h2
    omega
  | q + 1, p, hp, ⟨j, h1, h2⟩ => by
    have hg : acc[p]? = some acc[p] := List.getElem?_eq_getElem (by omega)
    have hv := ha p _ hg
    rw [Nat.zero_add] at hv
    have hx := hacc _ (List.getElem_mem (by omega : p < acc.length))
    by_cases he : acc[p] = c
    · skip
      refine w_p (pc1 := 57) rfl rfl ?_
      refine w_p (pc1 := 58) rfl rfl ?_
      refine w_f (a := 91) (b := 61) (bN_ge_f (a := p) (b := acc.length) (by omega) (by omega) (by omega)) rfl rfl ?_
      refine w_p (pc1 := 63) rfl rfl ?_
      refine w_p (pc1 := 64) rfl rfl ?_
      refine w_m0 (pc1 := 65) (st1 := .int (nI (6)) :: _) rfl rfl (x_ln (k := kc) hc (by decide)) rfl ?_
      refine w_f (a := 91) (b := 68) (bN_ge_f (a := p) (b := 6) (by omega) (by omega) (by omega)) rfl rfl ?_
      refine w_p (pc1 := 69) rfl rfl ?_
      refine w_p (pc1 := 71) rfl rfl ?_
      refine w_m0 (pc1 := 72) (st1 := .int (nI (acc[p])) :: _) rfl rfl (x_ile (k := kc) (e := p) hc (by omega) (by omega) (hv)) rfl ?_
      refine w_p (pc1 := 74) rfl rfl ?_
      refine w_f (a := 85) (b := 77) (bN_ne_f (a := acc[p]) (b := c) (by omega) (by omega) (by omega)) rfl rfl ?_
      refine w_p (pc1 := 78) rfl rfl ?_
      refine w_m0 (pc1 := 81) rfl rfl (h_gC rfl rfl rfl rfl) rfl ?_
      refine w_p (pc1 := 82) (st1 := .int 3 :: _) rfl rfl ?_
      refine w_ji (pc1 := 85) (vs := [.ref 101, .int 3]) (rest := []) (m_31 (d := d) (sl := 0) (c := 3) S) rfl rfl rfl (fun _ _ => rfl) rfl (by exact cl_v my_31 rfl rfl rfl (Nat.le_of_ble_eq_true rfl) rfl (MH_obj rfl rfl) rfl (by decide) rfl rfl) (by rfl) (Nat.le_of_ble_eq_true rfl) (Nat.le_of_ble_eq_true rfl) rfl (fun v h1 d1 hq => ?_) (fun a h1 d1 hq => ?_)
      · exact hq.elim
      · rcases hq with ⟨ha, hh, hn⟩
        · subst ha; subst hh; subst hn
          refine Or.inl ⟨ch_new (by decide) rfl, ?_⟩
          refine ⟨rfl, ?_, by omega⟩
          with_reducible rfl
    · have hj : p + 1 ≤ j := by
        rcases Nat.lt_or_ge p j with h | h
        · exact h
        · obtain rfl : p = j := by omega
          rw [hg] at h2
          exact absurd (Option.some.inj h2) he
      refine w_p (pc1 := 57) rfl rfl ?_
      refine w_p (pc1 := 58) rfl rfl ?_
      refine w_f (a := 91) (b := 61) (bN_ge_f (a := p) (b := acc.length) (by omega) (by omega) (by omega)) rfl rfl ?_
      refine w_p (pc1 := 63) rfl rfl ?_
      refine w_p (pc1 := 64) rfl rfl ?_
      refine w_m0 (pc1 := 65) (st1 := .int (nI (6)) :: _) rfl rfl (x_ln (k := kc) hc (by decide)) rfl ?_
      refine w_f (a := 91) (b := 68) (bN_ge_f (a := p) (b := 6) (by omega) (by omega) (by omega)) rfl rfl ?_
      refine w_p (pc1 := 69) rfl rfl ?_
      refine w_p (pc1 := 71) rfl rfl ?_
      refine w_m0 (pc1 := 72) (st1 := .int (nI (acc[p])) :: _) rfl rfl (x_ile (k := kc) (e := p) hc (by omega) (by omega) (hv)) rfl ?_
      refine w_p (pc1 := 74) rfl rfl ?_
      refine w_t (a := 85) (b := 77) (bN_ne_t (a := acc[p]) (b := c) (by omega) (by omega) (by omega)) rfl rfl ?_
      refine w_iinc (pc1 := 88) (u := nI (p)) (z := nI (p + 1)) (al1 := [(5, .int (nI (p + 1))), (4, .int (nI (c))), (0, .ref 120), (1, .int (nI (b))), (2, .ref (241 + kc)), (3, .int (nI (acc.length)))]) rfl rfl rfl nK_1 rfl rfl ?_
      refine w_p (pc1 := 55) rfl rfl ?_
      exact lp_54n S hc ha h6 hacc hc6 q (p + 1) (by omega) ⟨j, hj, h2⟩
set_option maxRecDepth 100000 in
theorem m_54 (S : tkS B n m C i) (hS : SCK C sc) (hb : b < 6) (hc : t[kc]? = some (.inl (0, 6, .inl fc))) (ha : arI fc 0 acc) (h6 : acc.length ≤ 6) (hacc : ∀ x, x ∈ acc → x < 6) : Wd L xs (d + 7) y_54 (0, [(0, .ref 120), (1, .int (nI (b))), (2, .ref (241 + kc)), (3, .int (nI (acc.length)))], [], MH C t, sl) (PN B n m C t sl (rCol (tkP B n) sc b acc i) (fun c v => some (.int (nI c)) = v ∧ c < sc.2.1 b ∧ acc.contains c = false)) (XN B n m C t sl (rCol (tkP B n) sc b acc i)) := by
  by_cases hk : kd B n i = 3
  · have hm1 := m_41 (L := L) (xs := xs) (C := C) (t := t) (d := d + 6) (sl := 0) (a := vl B n i) hb (hS.2 b hb).1 (hS.2 b hb).2.1
    have hw6 := (hS.2 b hb).2.1
    rw [clF_K hS hb] at hm1
    by_cases hf : clF sc b (vl B n i) = -1
    · have e0 : rCol (tkP B n) sc b acc i = .inl (4, i) := rCol_4 (K := tkP B n) hk hf
      rw [hf] at hm1
      refine w_p (pc1 := 1) rfl rfl ?_
      refine w_m0 (pc1 := 4) rfl rfl (h_gC rfl rfl rfl rfl) rfl ?_
      refine w_m0 (pc1 := 7) (st1 := .ref (kd B n i) :: _) rfl rfl (h_gRs (j := 6) rfl rfl rfl rfl rfl (tkS_tok S)) rfl ?_
      refine w_m0 (pc1 := 10) (st1 := .ref 3 :: _) rfl rfl rfl rfl ?_
      refine w_ae_y (A := 21) (ok_kd) (by decide) (hk) rfl rfl ?_
      refine w_p (pc1 := 22) rfl rfl ?_
      refine w_m0 (pc1 := 25) rfl rfl (h_gC rfl rfl rfl rfl) rfl ?_
      refine w_p (pc1 := 26) rfl rfl ?_
      refine w_p (pc1 := 27) rfl rfl ?_
      refine w_m0 (pc1 := 30) rfl rfl (h_gC rfl rfl rfl rfl) rfl ?_
      refine w_m0 (pc1 := 33) (st1 := .long (vl B n i) :: _) rfl rfl (h_gJe (j := 8) rfl rfl rfl rfl rfl (tkS_v S)) rfl ?_
      refine w_je (pc1 := 36) (vs := [.ref 106, .int (nI (b)), .long (vl B n i)]) (rest := []) (st1 := [.int (-1)]) (hm1) rfl rfl rfl (fun _ _ => rfl) rfl (by exact cl_v my_41 rfl rfl rfl (Nat.le_of_ble_eq_true rfl) rfl (MH_obj rfl rfl) rfl (by decide) rfl rfl) (by rfl) (Nat.le_of_ble_eq_true rfl) (Nat.le_of_ble_eq_true rfl) rfl (by rfl) ?_
      refine w_p (pc1 := 38) (al1 := [(4, .int (-1)), (0, .ref 120), (1, .int (nI (b))), (2, .ref (241 + kc)), (3, .int (nI (acc.length)))]) rfl rfl ?_
      refine w_p (pc1 := 40) rfl rfl ?_
      refine w_p (pc1 := 41) (st1 := .int (-1) :: _) rfl rfl ?_
      refine w_f (a := 52) (b := 44) rfl rfl rfl ?_
      refine w_p (pc1 := 45) rfl rfl ?_
      refine w_m0 (pc1 := 48) rfl rfl (h_gC rfl rfl rfl rfl) rfl ?_
      refine w_p (pc1 := 49) (st1 := .int 4 :: _) rfl rfl ?_
      refine w_ji (pc1 := 52) (vs := [.ref 101, .int 4]) (rest := []) (m_31 (d := d) (sl := 0) (c := 4) S) rfl rfl rfl (fun _ _ => rfl) rfl (by exact cl_v my_31 rfl rfl rfl (Nat.le_of_ble_eq_true rfl) rfl (MH_obj rfl rfl) rfl (by decide) rfl rfl) (by rfl) (Nat.le_of_ble_eq_true rfl) (Nat.le_of_ble_eq_true rfl) rfl (fun v h1 d1 hq => ?_) (fun a h1 d1 hq => ?_)
      · exact hq.elim
      · rcases hq with ⟨ha, hh, hn⟩
        · subst ha; subst hh; subst hn
          refine Or.inl ⟨ch_new (by decide) rfl, ?_⟩
          refine ⟨4, i, ⟨e0, S⟩, rfl, ?_, by omega⟩
          with_reducible rfl
    · obtain ⟨c, h1, h2, h3⟩ := clF_b hw6 hf
      rw [h1] at hm1
      cases hcc : acc.contains c with
      | true =>
        have e0 : rCol (tkP B n) sc b acc i = .inl (3, i) := rCol_3 (K := tkP B n) hk hf h3 hcc
        obtain ⟨j, hj⟩ := List.getElem?_of_mem (List.contains_iff_mem.mp hcc)
        have hl := lp_54n (L := L) (xs := xs) (d := d) (sl := sl) (b := b) S hc ha h6 hacc (c := c) (by omega) acc.length 0 (Nat.zero_add _) ⟨j, Nat.zero_le _, hj⟩
        have hl2 := Wd_q hl (P' := PN B n m C t sl (rCol (tkP B n) sc b acc i) (fun c v => some (.int (nI c)) = v ∧ c < sc.2.1 b ∧ acc.contains c = false)) (X' := XN B n m C t sl (rCol (tkP B n) sc b acc i)) (fun _ _ _ e => e.elim) (fun a h q hx => ⟨3, i, ⟨e0, S⟩, hx⟩)
        refine w_p (pc1 := 1) rfl rfl ?_
        refine w_m0 (pc1 := 4) rfl rfl (h_gC rfl rfl rfl rfl) rfl ?_
        refine w_m0 (pc1 := 7) (st1 := .ref (kd B n i) :: _) rfl rfl (h_gRs (j := 6) rfl rfl rfl rfl rfl (tkS_tok S)) rfl ?_
        refine w_m0 (pc1 := 10) (st1 := .ref 3 :: _) rfl rfl rfl rfl ?_
        refine w_ae_y (A := 21) (ok_kd) (by decide) (hk) rfl rfl ?_
        refine w_p (pc1 := 22) rfl rfl ?_
        refine w_m0 (pc1 := 25) rfl rfl (h_gC rfl rfl rfl rfl) rfl ?_
        refine w_p (pc1 := 26) rfl rfl ?_
        refine w_p (pc1 := 27) rfl rfl ?_
        refine w_m0 (pc1 := 30) rfl rfl (h_gC rfl rfl rfl rfl) rfl ?_
        refine w_m0 (pc1 := 33) (st1 := .long (vl B n i) :: _) rfl rfl (h_gJe (j := 8) rfl rfl rfl rfl rfl (tkS_v S)) rfl ?_
        refine w_je (pc1 := 36) (vs := [.ref 106, .int (nI (b)), .long (vl B n i)]) (rest := []) (st1 := [.int (nI (c))]) (hm1) rfl rfl rfl (fun _ _ => rfl) rfl (by exact cl_v my_41 rfl rfl rfl (Nat.le_of_ble_eq_true rfl) rfl (MH_obj rfl rfl) rfl (by decide) rfl rfl) (by rfl) (Nat.le_of_ble_eq_true rfl) (Nat.le_of_ble_eq_true rfl) rfl (by rfl) ?_
        refine w_p (pc1 := 38) (al1 := [(4, .int (nI (c))), (0, .ref 120), (1, .int (nI (b))), (2, .ref (241 + kc)), (3, .int (nI (acc.length)))]) rfl rfl ?_
        refine w_p (pc1 := 40) rfl rfl ?_
        refine w_p (pc1 := 41) (st1 := .int (-1) :: _) rfl rfl ?_
        refine w_t (a := 52) (b := 44) (cb_ne_t (by exact nK_m1 (by omega))) rfl rfl ?_
        refine w_p (pc1 := 53) (st1 := .int 0 :: _) rfl rfl ?_
        refine w_p (pc1 := 55) (al1 := [(5, .int 0), (4, .int (nI (c))), (0, .ref 120), (1, .int (nI (b))), (2, .ref (241 + kc)), (3, .int (nI (acc.length)))]) rfl rfl ?_
        exact hl2
      | false =>
        have e0 : rCol (tkP B n) sc b acc i = .inr (c, i + 1) := rCol_s (K := tkP B n) hk hf h3 hcc
        have hnx := m_21s (L := L) (xs := xs) (t := t) (d := d + 6) (sl := 0) S (by rw [hk]; decide) (by rw [hk]; decide)
        have hl := fun H => lp_54y (L := L) (xs := xs) (d := d + 7) (sl := sl) (b := b) (C := C) (P := PN B n m C t sl (rCol (tkP B n) sc b acc i) (fun c v => some (.int (nI c)) = v ∧ c < sc.2.1 b ∧ acc.contains c = false)) (X := XN B n m C t sl (rCol (tkP B n) sc b acc i)) hc ha h6 hacc (c := c) (by omega) hcc H acc.length 0 (Nat.zero_add _)
        refine w_p (pc1 := 1) rfl rfl ?_
        refine w_m0 (pc1 := 4) rfl rfl (h_gC rfl rfl rfl rfl) rfl ?_
        refine w_m0 (pc1 := 7) (st1 := .ref (kd B n i) :: _) rfl rfl (h_gRs (j := 6) rfl rfl rfl rfl rfl (tkS_tok S)) rfl ?_
        refine w_m0 (pc1 := 10) (st1 := .ref 3 :: _) rfl rfl rfl rfl ?_
        refine w_ae_y (A := 21) (ok_kd) (by decide) (hk) rfl rfl ?_
        refine w_p (pc1 := 22) rfl rfl ?_
        refine w_m0 (pc1 := 25) rfl rfl (h_gC rfl rfl rfl rfl) rfl ?_
        refine w_p (pc1 := 26) rfl rfl ?_
        refine w_p (pc1 := 27) rfl rfl ?_
        refine w_m0 (pc1 := 30) rfl rfl (h_gC rfl rfl rfl rfl) rfl ?_
        refine w_m0 (pc1 := 33) (st1 := .long (vl B n i) :: _) rfl rfl (h_gJe (j := 8) rfl rfl rfl rfl rfl (tkS_v S)) rfl ?_
        refine w_je (pc1 := 36) (vs := [.ref 106, .int (nI (b)), .long (vl B n i)]) (rest := []) (st1 := [.int (nI (c))]) (hm1) rfl rfl rfl (fun _ _ => rfl) rfl (by exact cl_v my_41 rfl rfl rfl (Nat.le_of_ble_eq_true rfl) rfl (MH_obj rfl rfl) rfl (by decide) rfl rfl) (by rfl) (Nat.le_of_ble_eq_true rfl) (Nat.le_of_ble_eq_true rfl) rfl (by rfl) ?_
        refine w_p (pc1 := 38) (al1 := [(4, .int (nI (c))), (0, .ref 120), (1, .int (nI (b))), (2, .ref (241 + kc)), (3, .int (nI (acc.length)))]) rfl rfl ?_
        refine w_p (pc1 := 40) rfl rfl ?_
        refine w_p (pc1 := 41) (st1 := .int (-1) :: _) rfl rfl ?_
        refine w_t (a := 52) (b := 44) (cb_ne_t (by exact nK_m1 (by omega))) rfl rfl ?_
        refine w_p (pc1 := 53) (st1 := .int 0 :: _) rfl rfl ?_
        refine w_p (pc1 := 55) (al1 := [(5, .int 0), (4, .int (nI (c))), (0, .ref 120), (1, .int (nI (b))), (2, .ref (241 + kc)), (3, .int (nI (acc.length)))]) rfl rfl ?_
        refine hl ?_
        refine w_p (pc1 := 92) rfl rfl ?_
        refine w_m0 (pc1 := 95) rfl rfl (h_gC rfl rfl rfl rfl) rfl ?_
        refine w_je (pc1 := 98) (vs := [.ref 101]) (rest := []) (st1 := []) (hnx) rfl rfl rfl (fun _ _ => rfl) rfl (by exact cl_v my_21 rfl rfl rfl (Nat.le_of_ble_eq_true rfl) rfl (MH_obj rfl rfl) rfl (by decide) rfl rfl) (by rfl) (Nat.le_of_ble_eq_true rfl) (Nat.le_of_ble_eq_true rfl) rfl (by rfl) ?_
        refine w_p (pc1 := 100) rfl rfl ?_
        refine w_r rfl rfl rfl (fun _ _ => rfl) cr_int ?_
        refine ⟨c, i + 1, _, ⟨e0, ⟨rfl, h2, hcc⟩, nxT_S S (by rw [hk]; decide) (by rw [hk]; decide), nxT_fr⟩, ?_, rfl⟩
        with_reducible rfl
  · have e0 : rCol (tkP B n) sc b acc i = .inl (2, i) := rCol_2 (K := tkP B n) hk
    refine w_p (pc1 := 1) rfl rfl ?_
    refine w_m0 (pc1 := 4) rfl rfl (h_gC rfl rfl rfl rfl) rfl ?_
    refine w_m0 (pc1 := 7) (st1 := .ref (kd B n i) :: _) rfl rfl (h_gRs (j := 6) rfl rfl rfl rfl rfl (tkS_tok S)) rfl ?_
    refine w_m0 (pc1 := 10) (st1 := .ref 3 :: _) rfl rfl rfl rfl ?_
    refine w_ae_n (A := 21) (Bn := 13) (ok_kd) (by decide) (hk) rfl rfl rfl ?_
    refine w_p (pc1 := 14) rfl rfl ?_
    refine w_m0 (pc1 := 17) rfl rfl (h_gC rfl rfl rfl rfl) rfl ?_
    refine w_p (pc1 := 18) (st1 := .int 2 :: _) rfl rfl ?_
    refine w_ji (pc1 := 21) (vs := [.ref 101, .int 2]) (rest := []) (m_31 (d := d) (sl := 0) (c := 2) S) rfl rfl rfl (fun _ _ => rfl) rfl (by exact cl_v my_31 rfl rfl rfl (Nat.le_of_ble_eq_true rfl) rfl (MH_obj rfl rfl) rfl (by decide) rfl rfl) (by rfl) (Nat.le_of_ble_eq_true rfl) (Nat.le_of_ble_eq_true rfl) rfl (fun v h1 d1 hq => ?_) (fun a h1 d1 hq => ?_)
    · exact hq.elim
    · rcases hq with ⟨ha, hh, hn⟩
      · subst ha; subst hh; subst hn
        refine Or.inl ⟨ch_new (by decide) rfl, ?_⟩
        refine ⟨2, i, ⟨e0, S⟩, rfl, ?_, by omega⟩
        with_reducible rfl
end NMS
