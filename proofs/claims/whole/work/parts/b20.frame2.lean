
/-! CELLS THAT NO ONE LOOKS AT, 2: runs -/
section RMV
variable {M : Nat → Bool} {G : Nat → ab_C} {h g h1 : ab_H} {a o idx du j fr lo len pc : Nat} {st st1 : List Value} {i : Instr} {y : mc_T} {L : Nat} {xs : Nat → Int32}
set_option maxRecDepth 100000 in
theorem dis1 : ∀ p, p ∈ ac_l → mi_l.contains p = false ∧ ma_l.contains p = false ∧ mal_l.contains p = false ∧ mlS.find? (fun q => q.1 == p.1 && q.2.1 == p.2) = none := by decide
set_option maxRecDepth 100000 in
theorem ac_R (R : Rm M G h g) : mR M G (cn_ac o idx fr lo h st) (cn_ac o idx fr lo g st) := by
  unfold cn_ac
  split
  · rename_i n dp a sp a0 q
    cases h0 : mo_arr h a0 with
    | none => exact mR_n
    | some x0 =>
      cases h1 : mo_arr h a with
      | none =>
        intro s1 g1 du e
        split at e
        · rename_i z
          cases z
        · rename_i z
          cases z
        · cases e
      | some x1 =>
        rw [(Rm_a R h0).1, (Rm_a R h1).1]
        try simp only
        split
        · exact mR_i (fun _ => mR_s (Rm_s R (Rm_a R h1).2)) (fun _ => mR_n)
        · exact mR_i (fun _ => mR_s (Rm_s R (Rm_a R h1).2)) (fun _ => mR_n)
        · exact mR_n
  · exact mR_n
set_option maxRecDepth 100000 in
theorem ac_c {x : List Value × ab_H × Nat} (e : cn_ac o idx fr lo h st = some x) : ac_l.contains (o, idx) = true := by
  unfold cn_ac at e
  split at e
  · split at e
    · split at e
      · rename_i z
        exact z.1
      · cases e
    · split at e
      · rename_i z
        exact z.1
      · cases e
    · cases e
  · cases e
set_option maxRecDepth 100000 in
theorem mi_R (R : Rm M G h g) : mR M G (cn_mi o idx fr lo h st) (cn_mi o idx fr lo g st) := by
  unfold cn_mi
  split
  · exact mR_i (fun _ => mR_i (fun _ => mR_s R) (fun _ => mR_i (fun _ => mR_s R) (fun _ => mR_n))) (fun _ => mR_n)
  · exact mR_i (fun _ => mR_s R) (fun _ => mR_n)
  · exact mR_n
set_option maxRecDepth 100000 in
theorem mi_n (hc : ac_l.contains (o, idx) = true) : cn_mi o idx fr lo h st = none := by
  obtain ⟨d1, d2, d3, _⟩ := dis1 (o, idx) (by simpa using hc)
  unfold cn_mi
  split
  · rw [d1, d2]
    split
    · rw [if_neg (by decide), if_neg (by decide)]
    · rfl
  · rw [d3, if_neg (fun z => absurd z.1 (by decide))]
  · rfl
set_option maxRecDepth 100000 in
theorem mu_R {t2 t1 N Mm : Nat} {p : Nat} (hp : M p = false) : ∀ (k i : Nat) (f : Nat → Option Nat) (h g : ab_H), Rm M G h g → Rm M G (mu_fill t2 t1 N Mm p k i f h) (mu_fill t2 t1 N Mm p k i f g)
  | 0, _, _, _, _, R => R
  | k + 1, i, f, h, g, R => by
    rw [mu_fill, mu_fill, R.1]
    exact mu_R hp k (i + 1) _ _ _ (Rm_s (Rm_p R) hp)
set_option maxRecDepth 100000 in
theorem Rm_l (R : Rm M G h g) : M h.length = false := by
  cases e : M h.length with
  | true => exact absurd ((R.2 _).1 e).1 (Nat.lt_irrefl _)
  | false => rfl
set_option maxRecDepth 100000 in
theorem cn_R (R : Rm M G h g) : mR M G (cn o fr lo i len h st) (cn o fr lo i len g st) := by
  unfold cn
  split
  · unfold cn_or
    split
    · exact mR_i (fun _ => mR_s R) (fun _ => mR_n)
    · exact mR_n
  · intro st1 h1 du e
    cases ha : cn_ac _ _ fr lo h st with
    | some x =>
      rw [ha] at e
      obtain ⟨s2, h2, d2⟩ := x
      have e : some (s2, h2, d2) = some (st1, h1, du) := e
      obtain ⟨g1, e1, e2⟩ := ac_R R _ _ _ (ha.trans e)
      refine ⟨g1, ?_, e2⟩
      rw [e1]
      rfl
    | none =>
      rw [ha] at e
      have e : cn_mi _ _ fr lo h st = some (st1, h1, du) := e
      obtain ⟨g1, e1, e2⟩ := mi_R R _ _ _ e
      refine ⟨g1, ?_, e2⟩
      cases hb : cn_ac _ _ fr lo g st with
      | some x =>
        rw [mi_n (ac_c hb)] at e
        cases e
      | none => exact e1
  · unfold cn_oi
    split
    · exact mR_i (fun _ => mR_s R) (fun _ => mR_n)
    · exact mR_n
  · unfold cn_mu
    split
    · rw [R.1]
      exact mR_i (fun _ => mR_s (mu_R (Rm_l R) _ _ _ _ _ (Rm_p R))) (fun _ => mR_n)
    · exact mR_n
  · exact mR_n
set_option maxRecDepth 100000 in
theorem cl_R (R : Rm M G h g) {x : mc_T × List Value × List Value} (e : cl o h i len st = some x) : cl o g i len st = some x := by
  unfold cl at e ⊢
  split at e
  · split at e
    · split at e
      · split at e
        · rename_i ho
          split at e
          · rename_i hc
            rw [(Rm_o R ho (by have := hc.2.1; show _ ≠ 99; omega)).1]
            simp only
            rw [if_pos hc]
            exact e
          · cases e
        · cases e
      · cases e
    · cases e
  · exact e
  · exact e
  · cases e
set_option maxRecDepth 100000 in
theorem ch_R (R : Rm M G h g) {x : Option Nat} (e : ch y h a pc = some x) : ch y g a pc = some x := by
  unfold ch at e ⊢
  split at e
  · rename_i ho
    split at e
    · rename_i hc
      rw [(Rm_o R ho (by show _ ≠ 99; omega)).1]
      simp only
      rw [if_pos hc]
      exact e
    · cases e
  · cases e
/-! where memory is looked at, nothing else is tried -/
set_option maxRecDepth 100000 in
theorem cr_n {ret : Option FieldType} (hi : i ≠ .return_ ∧ i ≠ .ireturn ∧ i ≠ .lreturn ∧ i ≠ .areturn) : cr ret i len st = none := by
  unfold cr
  split
  all_goals first | rfl | skip
  all_goals split
  all_goals first | rfl | exact absurd rfl hi.1 | exact absurd rfl hi.2.1 | exact absurd rfl hi.2.2.1 | exact absurd rfl hi.2.2.2
set_option maxRecDepth 100000 in
theorem mo_N {ini : Bool} (R : Rm M G h g) (e : mo L xs o ini i len h st = none) : mo L xs o ini i len g st = none ∨ (cn o fr lo i len h st = none ∧ (∀ ret, cr ret i len st = none) ∧ cl o h i len st = none ∧ cx y fr lo i len pc st = none) := by
  unfold mo at e ⊢
  split
  · exact Or.inr ⟨rfl, fun _ => cr_n ⟨(by intro z; cases z), (by intro z; cases z), (by intro z; cases z), (by intro z; cases z)⟩, rfl, rfl⟩
  · exact Or.inr ⟨rfl, fun _ => cr_n ⟨(by intro z; cases z), (by intro z; cases z), (by intro z; cases z), (by intro z; cases z)⟩, rfl, rfl⟩
  · exact Or.inr ⟨rfl, fun _ => cr_n ⟨(by intro z; cases z), (by intro z; cases z), (by intro z; cases z), (by intro z; cases z)⟩, rfl, rfl⟩
  · exact Or.inr ⟨rfl, fun _ => cr_n ⟨(by intro z; cases z), (by intro z; cases z), (by intro z; cases z), (by intro z; cases z)⟩, rfl, rfl⟩
  · exact Or.inr ⟨rfl, fun _ => cr_n ⟨(by intro z; cases z), (by intro z; cases z), (by intro z; cases z), (by intro z; cases z)⟩, rfl, rfl⟩
  · exact Or.inr ⟨rfl, fun _ => cr_n ⟨(by intro z; cases z), (by intro z; cases z), (by intro z; cases z), (by intro z; cases z)⟩, rfl, rfl⟩
  · exact Or.inr ⟨rfl, fun _ => cr_n ⟨(by intro z; cases z), (by intro z; cases z), (by intro z; cases z), (by intro z; cases z)⟩, rfl, rfl⟩
  · exact Or.inr ⟨rfl, fun _ => cr_n ⟨(by intro z; cases z), (by intro z; cases z), (by intro z; cases z), (by intro z; cases z)⟩, rfl, rfl⟩
  · exact Or.inr ⟨rfl, fun _ => cr_n ⟨(by intro z; cases z), (by intro z; cases z), (by intro z; cases z), (by intro z; cases z)⟩, rfl, rfl⟩
  · exact Or.inr ⟨rfl, fun _ => cr_n ⟨(by intro z; cases z), (by intro z; cases z), (by intro z; cases z), (by intro z; cases z)⟩, rfl, rfl⟩
  · exact Or.inr ⟨rfl, fun _ => cr_n ⟨(by intro z; cases z), (by intro z; cases z), (by intro z; cases z), (by intro z; cases z)⟩, rfl, rfl⟩
  · refine Or.inl ?_
    simp only at e
    unfold mo_nw at e ⊢
    split at e
    · split at e
      · cases e
      · rfl
    · rfl
  · refine Or.inl ?_
    simp only at e
    unfold mo_na at e ⊢
    split at e
    · split at e
      · split at e
        · cases e
        · rename_i h2
          rw [if_neg h2]
      · rfl
    · rfl
  · refine Or.inl ?_
    simp only at e
    unfold mo_an at e ⊢
    split at e
    · split at e
      · split at e
        · cases e
        · rename_i h2
          rw [if_neg h2]
      · rfl
    · rfl
  · refine Or.inl ?_
    simp only at e
    unfold mo_gs at e ⊢
    split at e
    · cases e
    · rfl
  · refine Or.inl ?_
    simp only at e
    unfold mo_kl at e ⊢
    split at e
    · cases e
    · rfl
  · exact Or.inl rfl
set_option maxRecDepth 100000 in
theorem cl_new {ci : Nat} (e : cx y fr lo i len pc st = some ci) : cl o g i len st = none := by
  unfold cx at e
  split at e
  · rfl
  · cases e
set_option maxRecDepth 100000 in
theorem cn_d (R : Rm M G h g) (e : cn o fr lo i len h st = none) {x : List Value × ab_H × Nat} (e2 : cn o fr lo i len g st = some x) : (∀ {ret : Option FieldType}, cr ret i len st = none) ∧ cl o h i len st = none ∧ cx y fr lo i len pc st = none := by
  unfold cn at e e2
  split at e
  · exfalso
    simp only at e2
    unfold cn_or at e e2
    split at e
    · split at e
      · cases e
      · rename_i hh
        simp only at e2
        rw [if_neg hh] at e2
        cases e2
    · simp only at e2
      cases e2
  · rename_i idx
    simp only at e2
    have hac : ∃ x, cn_ac o idx fr lo g st = some x := by
      cases ha : cn_ac o idx fr lo g st with
      | some x => exact ⟨x, rfl⟩
      | none =>
        exfalso
        rw [ha] at e2
        have e2 : cn_mi o idx fr lo g st = some x := e2
        cases hb : cn_ac o idx fr lo h st with
        | some z =>
          rw [hb] at e
          cases e
        | none =>
          rw [hb] at e
          have e : cn_mi o idx fr lo h st = none := e
          unfold cn_mi at e e2
          split at e
          · simp only at e2
            split at e
            · rename_i hh
              rw [if_pos hh] at e2
              split at e
              · cases e
              · rename_i h3
                rw [if_neg h3] at e2
                split at e
                · cases e
                · rename_i h4
                  rw [if_neg h4] at e2
                  cases e2
            · rename_i hh
              rw [if_neg hh] at e2
              cases e2
          · simp only at e2
            split at e
            · cases e
            · rename_i hh
              rw [if_neg hh] at e2
              cases e2
          · simp only at e2
            cases e2
    obtain ⟨z, hz⟩ := hac
    obtain ⟨_, _, _, d4⟩ := dis1 (o, idx) (by simpa using ac_c hz)
    refine ⟨cr_n ⟨(by intro z; cases z), (by intro z; cases z), (by intro z; cases z), (by intro z; cases z)⟩, ?_, rfl⟩
    unfold cl
    simp only
    have d4 : mlS.find? (fun q => q.1 == o && q.2.1 == idx) = none := d4
    rw [d4]
  · exfalso
    simp only at e2
    unfold cn_oi at e e2
    split at e
    · split at e
      · cases e
      · rename_i hh
        simp only at e2
        rw [if_neg hh] at e2
        cases e2
    · simp only at e2
      cases e2
  · exfalso
    simp only at e2
    unfold cn_mu at e e2
    split at e
    · split at e
      · cases e
      · rename_i hh
        simp only at e2
        rw [if_neg hh] at e2
        cases e2
    · simp only at e2
      cases e2
  · simp only at e2
    cases e2
set_option maxRecDepth 100000 in
theorem evx_R {go go' : ev_F} (ih : ∀ fr lo y pc al st h g sl, Rm M G h g → ∀ oc h1 m, go fr lo y pc al st h sl = some (oc, h1, m) → ∃ g1, go' fr lo y pc al st g sl = some (oc, g1, m) ∧ Rm M G h1 g1) {al : List (Nat × Value)} {sl : Nat} (R : Rm M G h g) {oc : Outcome} {m : Nat} (e : ev_x go fr lo y pc al a h sl = some (oc, h1, m)) : ∃ g1, ev_x go' fr lo y pc al a g sl = some (oc, g1, m) ∧ Rm M G h1 g1 := by
  unfold ev_x at e ⊢
  cases hc : ch y h a pc with
  | none =>
    rw [hc] at e
    cases e
  | some x =>
    rw [ch_R R hc]
    rw [hc] at e
    cases x with
    | none =>
      cases e
      exact ⟨g, rfl, R⟩
    | some hp => exact ih _ _ _ _ _ _ _ _ _ R _ _ _ e
set_option maxRecDepth 100000 in
theorem evm_R : ∀ (n fr lo : Nat) (y : mc_T) (pc : Nat) (al : List (Nat × Value)) (st : List Value) (h g : ab_H) (sl : Nat), Rm M G h g → ∀ oc h1 m, ev L xs n fr lo y pc al st h sl = some (oc, h1, m) → ∃ g1, ev L xs n fr lo y pc al st g sl = some (oc, g1, m) ∧ Rm M G h1 g1
  | 0, _, _, _, _, _, _, _, _, _, _, _, _, _, e => by cases e
  | n + 1, fr, lo, y, pc, al, st, h, g, sl, R, oc, h1, m, e => by
    have ih := evm_R n
    have e : ev_s L xs (ev L xs n) fr lo y pc al st h sl = some (oc, h1, m) := e
    show ∃ g1, ev_s L xs (ev L xs n) fr lo y pc al st g sl = some (oc, g1, m) ∧ _
    unfold ev_s at e ⊢
    cases hf : y.2.2.find? (fun x => x.1 == pc) with
    | none =>
      rw [hf] at e
      cases e
    | some q =>
      obtain ⟨pc0, i, len⟩ := q
      rw [hf] at e
      simp only at e ⊢
      cases hp : ab_p y.1.2.2.1 i len pc al st with
      | some k =>
        obtain ⟨pc1, al1, st1⟩ := k
        rw [hp] at e
        exact ih _ _ _ _ _ _ _ _ _ R _ _ _ e
      | none =>
        rw [hp] at e
        simp only at e ⊢
        cases hm : mo L xs y.2.1 (y.1.1.name == "<init>") i len h st with
        | some k =>
          obtain ⟨st1, h2, du⟩ := k
          obtain ⟨g2, e2, R2⟩ := mo_R R _ _ _ hm
          rw [hm] at e
          rw [e2]
          exact ih _ _ _ _ _ _ _ _ _ R2 _ _ _ e
        | none =>
          rw [hm] at e
          simp only at e
          rcases mo_N (fr := fr) (lo := lo) (y := y) (pc := pc) R hm with hg | ⟨d1, d2, d3, d4⟩
          · rw [hg]
            simp only
            cases hn : cn y.2.1 fr lo i len h st with
            | some k =>
              obtain ⟨st1, h2, du⟩ := k
              obtain ⟨g2, e2, R2⟩ := cn_R R _ _ _ hn
              rw [hn] at e
              rw [e2]
              exact ih _ _ _ _ _ _ _ _ _ R2 _ _ _ e
            | none =>
              rw [hn] at e
              simp only at e
              cases hn2 : cn y.2.1 fr lo i len g st with
              | some k =>
                exfalso
                obtain ⟨f1, f2, f3⟩ := cn_d (y := y) (pc := pc) R hn hn2
                rw [f1] at e
                simp only at e
                rw [f2] at e
                simp only at e
                rw [f3] at e
                cases e
              | none =>
                simp only
                cases hr : cr y.1.2.2.2.1 i len st with
                | some z =>
                  rw [hr] at e
                  cases e
                  exact ⟨g, rfl, R⟩
                | none =>
                  rw [hr] at e
                  simp only at e ⊢
                  cases hl : cl y.2.1 h i len st with
                  | some k =>
                    obtain ⟨yc, vs, rest⟩ := k
                    rw [hl] at e
                    rw [cl_R R hl]
                    simp only at e ⊢
                    split at e
                    · rename_i hw
                      rw [if_pos hw]
                      cases hgo : ev L xs n (fr - 1) (lo - (sumc rest + (yc.1.2.2.1 + 11))) yc 0 (lv_args 0 vs) [] h 0 with
                      | none =>
                        rw [hgo] at e
                        cases e
                      | some k =>
                        obtain ⟨o2, h2, d2⟩ := k
                        obtain ⟨g2, e2, R2⟩ := ih _ _ _ _ _ _ _ _ _ R _ _ _ hgo
                        rw [hgo] at e
                        rw [e2]
                        cases o2 with
                        | returned v => exact ih _ _ _ _ _ _ _ _ _ R2 _ _ _ e
                        | threw a => exact evx_R ih R2 e
                    · cases e
                  | none =>
                    rw [hl] at e
                    simp only at e
                    cases hx : cx y fr lo i len pc st with
                    | none =>
                      rw [hx] at e
                      cases e
                    | some ci =>
                      rw [hx] at e
                      simp only at e
                      rw [cl_new hx]
                      simp only
                      rw [R.1]
                      exact evx_R ih (Rm_p R) e
          · exfalso
            rw [d1] at e
            simp only at e
            rw [d2] at e
            simp only at e
            rw [d3] at e
            simp only at e
            rw [d4] at e
            cases e
set_option maxRecDepth 100000 in
theorem Wd_m {d sl : Nat} {al : List (Nat × Value)} {P : Option Value → ab_H → Nat → Prop} {X : Nat → ab_H → Nat → Prop} (w : Wd L xs d y (pc, al, st, h, sl) P X) (R : Rm M G h g) : Wd L xs d y (pc, al, st, g, sl) (fun v g1 m => ∃ h1, P v h1 m ∧ Rm M G h1 g1) (fun a g1 m => ∃ h1, X a h1 m ∧ Rm M G h1 g1) := by
  intro fr lo b
  obtain ⟨⟨oc, h1, m⟩, ⟨n, hn⟩, hq⟩ := w fr lo b
  obtain ⟨g1, e, R1⟩ := evm_R n fr lo y pc al st h g sl R oc h1 m hn
  refine ⟨(oc, g1, m), ⟨n, e⟩, ?_⟩
  cases oc with
  | returned v => exact ⟨h1, hq, R1⟩
  | threw a => exact ⟨h1, hq, R1⟩
/-! the tail alone is hidden -/
def Rt_m (M : Nat → Bool) (G : Nat → ab_C) (t u : ab_H) : Prop := u.length = t.length ∧ ∀ j, (M j = true → j < t.length ∧ t[j]? = some dC ∧ u[j]? = some (G j)) ∧ (M j = false → u[j]? = t[j]?)
end RMV
