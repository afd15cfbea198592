
/-! WHAT IS READ CAN STAND: triggers; nodes that they hold -/
section WEG
variable {B : Nat → Nat} {n m i b ti e w1 w2 w3 md : Nat} {sc : sc_T} {row : Option Nat} {tg : Option (Nat × Nat)} {nl : Option Nat} {E : fe_T} {K : tv2} {tr : Nat → Option tr_T} {nm : Int64} {p : Nat × Nat}
/-! what is left is less by what was read -/
def lsN (nl nl' : Option Nat) (k : Nat) : Prop := (nl = none ∧ nl' = none) ∨ ∃ a b, nl = some a ∧ nl' = some b ∧ a = b + k
set_option maxRecDepth 100000 in
theorem lsN_0 : lsN nl nl 0 := by
  cases nl with
  | none => exact Or.inl ⟨rfl, rfl⟩
  | some a => exact Or.inr ⟨a, a, rfl, rfl, rfl⟩
set_option maxRecDepth 100000 in
theorem lsN_t {n1 n2 n3 : Option Nat} {a b c : Nat} (h : lsN n1 n2 a) (g : lsN n2 n3 b) (hc : c = a + b) : lsN n1 n3 c := by
  rcases h with ⟨h1, h2⟩ | ⟨x, y, h1, h2, h3⟩
  · rcases g with ⟨g1, g2⟩ | ⟨x', y', g1, g2, g3⟩
    · exact Or.inl ⟨h1, g2⟩
    · rw [h2] at g1; cases g1
  · rcases g with ⟨g1, g2⟩ | ⟨x', y', g1, g2, g3⟩
    · rw [h2] at g1; cases g1
    · rw [h2] at g1
      cases g1
      exact Or.inr ⟨x, y', h1, g2, by omega⟩
set_option maxRecDepth 100000 in
theorem rFm_l {x : List op_T × Nat × Option Nat} (h : rFm E md i nl = .inr x) : lsN nl x.2.2 x.1.length := rFm_nd (O := x.1) (i' := x.2.1) (nl' := x.2.2) h
set_option maxRecDepth 100000 in
theorem rPt_l {x : Option (List op_T) × Nat × Option Nat} (h : rPt E i nl = .inr x) : lsN nl x.2.2 (ndF x.1) := by
  unfold rPt at h
  split at h
  · cases h
    exact lsN_0
  · obtain ⟨y, h1, h2⟩ := pb_inr h
    cases h2
    exact rFm_l h1
set_option maxRecDepth 100000 in
theorem ndL_c {s : Option (List op_T)} {l : List (Option (List op_T))} : ndL (s :: l) = ndF s + ndL l := by
  unfold ndL
  rw [List.map_cons, List.sum_cons]
set_option maxRecDepth 100000 in
theorem ndL_0 : ndL [] = 0 := rfl
set_option maxRecDepth 100000 in
theorem rPar_l : ∀ (f i : Nat) (nl : Option Nat) (x : List (Option (List op_T)) × Nat × Option Nat), rPar E f i nl = .inr x → lsN nl x.2.2 (ndL x.1)
  | 0, _, _, x, h => by cases h
  | f + 1, i, nl, x, h => by
    obtain ⟨y, h1, h2⟩ := pb_inr h
    have g1 := rPt_l h1
    split at h2
    · obtain ⟨z, h3, h4⟩ := pb_inr h2
      cases h4
      exact lsN_t g1 (rPar_l f _ _ z h3) ndL_c
    · cases h2
      exact lsN_t g1 lsN_0 (by rw [ndL_c, ndL_0])
set_option maxRecDepth 100000 in
theorem rSet_l : ∀ (f : Nat) (acc : List Nat) (i : Nat) (nl : Option Nat) (x : (List Nat × List (Option (List op_T))) × Nat × Option Nat), rSet K sc E b f acc i nl = .inr x → lsN nl x.2.2 (ndL x.1.2)
  | 0, _, _, _, x, h => by cases h
  | f + 1, acc, i, nl, x, h => by
    obtain ⟨c, h1, h⟩ := pb_inr h
    obtain ⟨j, h2, h⟩ := pb_inr h
    obtain ⟨y, h3, h⟩ := pb_inr h
    have g := rFm_l h3
    split at h
    · obtain ⟨z, h5, h⟩ := pb_inr h
      cases h
      exact lsN_t g (rSet_l f _ _ _ z h5) ndL_c
    · cases h
      exact lsN_t g lsN_0 (by rw [ndL_c, ndL_0]; rfl)
set_option maxRecDepth 100000 in
theorem rChg_l {x : ac_T × Nat × Option Nat} (h : rChg K sc tg i nl = .inr x) : lsN nl x.2.2 (ndA x.1) := by
  obtain ⟨e, h1, h⟩ := pb_inr h
  obtain ⟨tb, h2, h⟩ := pb_inr h
  split at h
  · obtain ⟨j, h3, h⟩ := pb_inr h
    obtain ⟨p, h4, h⟩ := pb_inr h
    have g := rPar_l 601 j nl p h4
    split at h
    · split at h
      · cases h
        exact lsN_t lsN_0 g (by show 0 + ndL p.1 = 0 + ndL p.1; rfl)
      · cases h
    · cases h
  · obtain ⟨s, h3, h⟩ := pb_inr h
    have g : lsN nl s.2.2 (ndL s.1.2) := by
      unfold rUpd at h3
      split at h3
      · obtain ⟨j, h5, h3⟩ := pb_inr h3
        exact rSet_l 601 [] j nl s h3
      · cases h3
        exact lsN_0
    unfold rWhr at h
    split at h
    · obtain ⟨y, h5, h⟩ := pb_inr h
      cases h
      exact lsN_t g (rFm_l h5) (by show y.1.length + ndL s.1.2 = ndL s.1.2 + y.1.length; omega)
    · cases h
      exact lsN_t g lsN_0 (by show 0 + ndL s.1.2 = ndL s.1.2 + 0; omega)
set_option maxRecDepth 100000 in
theorem rLet_l {x : ac_T × Nat × Option Nat} (h : rLet K sc tg b ti e i nl = .inr x) : lsN nl x.2.2 (ndA x.1) := by
  unfold rLet at h
  split at h
  · cases h
  · obtain ⟨c, h1, h⟩ := pb_inr h
    obtain ⟨j, h2, h⟩ := pb_inr h
    obtain ⟨y, h3, h⟩ := pb_inr h
    cases h
    exact lsN_t (rFm_l h3) lsN_0 (by show 0 + ndL [some y.1] = y.1.length + 0; rw [ndL_c, ndL_0]; show 0 + (y.1.length + 0) = _; omega)
set_option maxRecDepth 100000 in
theorem rRai_l {x : ac_T × Nat × Option Nat} (h : rRai K i nl = .inr x) : lsN nl x.2.2 (ndA x.1) := by
  unfold rRai at h
  split at h
  · cases h
    exact lsN_0
  · cases h
set_option maxRecDepth 100000 in
theorem rAct_l {x : ac_T × Nat × Option Nat} (h : rAct K sc p ti i nl = .inr x) : lsN nl x.2.2 (ndA x.1) := by
  unfold rAct at h
  split at h
  · exact rLet_l h
  · split at h
    · exact rRai_l h
    · exact rChg_l h
set_option maxRecDepth 100000 in
theorem rTr2_l {x : tr_T × Nat × Option Nat} (h : rTr2 K sc nm p ti i nl = .inr x) : lsN nl x.2.2 (ndG (some x.1)) := by
  obtain ⟨w, h1, h⟩ := pb_inr h
  have g : lsN nl w.2.2 (ndF w.1) := by
    unfold rWhn at h1
    split at h1
    · obtain ⟨y, h5, h1⟩ := pb_inr h1
      cases h1
      exact rFm_l h5
    · cases h1
      exact lsN_0
  obtain ⟨j, h2, h⟩ := pb_inr h
  obtain ⟨a, h3, h⟩ := pb_inr h
  cases h
  exact lsN_t g (rAct_l h3) rfl
set_option maxRecDepth 100000 in
theorem rTrg_l {x : tr_T × Nat × Option Nat} (h : rTrg K sc tr i nl = .inr x) : lsN nl x.2.2 (ndG (some x.1)) := by
  obtain ⟨nm, h0, h⟩ := pb_inr h
  obtain ⟨ti, h1, h⟩ := pb_inr h
  obtain ⟨ev, h2, h⟩ := pb_inr h
  obtain ⟨j, h3, h⟩ := pb_inr h
  obtain ⟨tb, h4, h⟩ := pb_inr h
  exact rTr2_l h
set_option maxRecDepth 100000 in
theorem rTim_w {x : Nat × Nat} (h : rTim K i = .inr x) : x.1 < 2 := by
  unfold rTim at h
  split at h
  · cases h; show 1 < 2; omega
  · split at h
    · cases h; show 0 < 2; omega
    · cases h
/-! a trigger's tables are there -/
def lvG (tn : Nat → Int64) (g : tr_T) : Prop := tn (gTb g) ≠ 0 ∧ (∀ b, aTb (gAc g) = some b → b < 6 ∧ tn b ≠ 0) ∧ (aSs (gAc g)).length ≤ 6
set_option maxRecDepth 100000 in
theorem rAct_w {p : Nat × Nat} (hm : lst B n m) (h6 : m ≤ 600) (hi : i ≤ m) (hL : ∀ b, b < 6 → sc.1 b ≠ 0 → sc.2.1 b ≤ 6 ∧ 0 < sc.2.1 b) (hp : p.1 < 6 ∧ sc.1 p.1 ≠ 0) {x : ac_T × Nat × Option Nat} (h : rAct (tkP B n) sc p ti i nl = .inr x) : okA2 sc.2.1 (sc.2.1 p.1) (wN sc.2.1 p.1 p.2) (wO sc.2.1 p.1 p.2) x.1 ∧ (aSs x.1).length ≤ 6 ∧ ∀ b, aTb x.1 = some b → b < 6 ∧ sc.1 b ≠ 0 := by
  have hw := hL p.1 hp.1 hp.2
  have htg : ∀ q, some p = some q → sc.2.1 q.1 ≤ 6 := fun q e => by cases e; exact hw.1
  unfold rAct at h
  split at h
  · rename_i h21
    have m0 := st1 hm hi h21 (by decide) (by decide)
    unfold rLet at h
    split at h
    · cases h
    · obtain ⟨c, h1, h⟩ := pb_inr h
      obtain ⟨j, h2, h⟩ := pb_inr h
      obtain ⟨y, h3, h⟩ := pb_inr h
      cases h
      have m1 := rCol_m hm m0 h1
      have m2 := xpP_m hm m1 (by decide) (by decide) h2
      have hE := eW_f (K := tkP B n) (sc := sc) (row := none) (tg := some p) (fun b e => by cases e) htg
      have g := rFm_w (E := fE (tkP B n) sc none (some p)) rfl hm h6 m2 hE (Or.inl rfl) h3
      exact ⟨Or.inr (Or.inr (Or.inr (Or.inl ⟨rfl, rfl, c.1, y.1, rfl, rfl, (rCol_w hw.1 h1).1, g⟩))), by show 1 ≤ 6; decide, fun b e => by cases e⟩
  · split at h
    · unfold rRai at h
      split at h
      · cases h
        exact ⟨Or.inr (Or.inr (Or.inr (Or.inr ⟨rfl, rfl⟩))), by show 0 ≤ 6; decide, fun b e => by cases e⟩
      · cases h
    · obtain ⟨g1, g2, b0, g3, g4, g5⟩ := rChg_w (w0 := sc.2.1 p.1) hm h6 hi hL htg h
      exact ⟨g1, g2.2, fun b e => by rw [g3] at e; cases e; exact ⟨g4, g5⟩⟩
set_option maxRecDepth 100000 in
theorem rTrg_w (hm : lst B n m) (h6 : m ≤ 600) (hi : i + 1 ≤ m) (hL : ∀ b, b < 6 → sc.1 b ≠ 0 → sc.2.1 b ≤ 6 ∧ 0 < sc.2.1 b) {x : tr_T × Nat × Option Nat} (h : rTrg (tkP B n) sc tr i nl = .inr x) : okG sc.2.1 x.1 ∧ lvG sc.1 x.1 := by
  obtain ⟨nm, h0, h⟩ := pb_inr h
  have m0 := rNew_m hm hi h0
  obtain ⟨ti, h1, h⟩ := pb_inr h
  have m1 := rTim_m hm m0 h1
  obtain ⟨ev, h2, h⟩ := pb_inr h
  have m2 := rEvt_m hm m1 h2
  obtain ⟨j, h3, h⟩ := pb_inr h
  have m3 := xpP_m hm m2 (by decide) (by decide) h3
  obtain ⟨tb, h4, h⟩ := pb_inr h
  have m4 := rTab_m hm m3 h4
  obtain ⟨tb1, tb2⟩ := tb
  obtain ⟨_, hb, hz⟩ := rTab_i h4
  have hw := hL tb1 hb hz
  obtain ⟨w, h5, h⟩ := pb_inr h
  have htg : ∀ q, some (tb1, ev.1) = some q → sc.2.1 q.1 ≤ 6 := fun q e => by cases e; exact hw.1
  have hE := eW_f (K := tkP B n) (sc := sc) (row := none) (tg := some (tb1, ev.1)) (fun b e => by cases e) htg
  have g : okT2 0 (wN sc.2.1 tb1 ev.1) (wO sc.2.1 tb1 ev.1) w.1 ∧ w.2.1 ≤ m := by
    unfold rWhn at h5
    split at h5
    · rename_i h42
      obtain ⟨y, h6', h5⟩ := pb_inr h5
      cases h5
      have m5 := st1 hm m4 h42 (by decide) (by decide)
      exact ⟨rFm_w (E := fE (tkP B n) sc none (some (tb1, ev.1))) rfl hm h6 m5 hE (Or.inr rfl) h6', (rFm_m (E := fE (tkP B n) sc none (some (tb1, ev.1))) rfl hm m5 (Or.inr rfl) h6').2⟩
    · cases h5
      exact ⟨trivial, m4⟩
  obtain ⟨j2, h7, h⟩ := pb_inr h
  obtain ⟨a, h8, h⟩ := pb_inr h
  cases h
  have m6 := xpP_m hm g.2 (by decide) (by decide) h7
  obtain ⟨q1, q2, q3⟩ := rAct_w (p := (tb1, ev.1)) hm h6 m6 hL ⟨hb, hz⟩ h8
  exact ⟨⟨hb, rTim_w h1, rEvt_w h2, g.1, q1⟩, hz, q3, q2⟩
end WEG
