/-! RULES FOR RUNS: an instruction a row -/
section RUL
variable {L : Nat} {xs : Nat → Int32} {fr lo pc sl pc0 len pc1 du : Nat} {y : mc_T} {al al1 : List (Nat × Value)} {st st1 : List Value} {h h1 : ab_H} {i : Instr} {r : Outcome × ab_H × Nat}
theorem z_at {n : Nat} : ev_at (ev L xs (n + 1)) fr lo y (pc, al, st, h, sl) = ev_g (mo L xs) (ev L xs n) fr lo y pc al st h sl := rfl
/-- no cell is touched -/
theorem z_p (hf : y.2.2.find? (fun x => x.1 == pc) = some (pc0, i, len)) (hp : ab_p y.1.2.2.1 i len pc al st = some (pc1, al1, st1)) (k : Ez L xs fr lo y (pc1, al1, st1, h, sl) r) : Ez L xs fr lo y (pc, al, st, h, sl) r := by
  obtain ⟨n, hn⟩ := k
  refine ⟨n + 1, ?_⟩
  rw [z_at]
  unfold ev_g
  rw [hf]
  simp only
  rw [hp]
  exact hn
/-- a jump on what isn't a number -/
theorem z_t {c : Bool} {a b : Nat} (hc : c = true) (hf : y.2.2.find? (fun x => x.1 == pc) = some (pc0, i, len)) (hp : ab_p y.1.2.2.1 i len pc al st = some (if c then a else b, al1, st1)) (k : Ez L xs fr lo y (a, al1, st1, h, sl) r) : Ez L xs fr lo y (pc, al, st, h, sl) r := by
  rw [if_pos hc] at hp
  exact z_p hf hp k
theorem z_f {c : Bool} {a b : Nat} (hc : c = false) (hf : y.2.2.find? (fun x => x.1 == pc) = some (pc0, i, len)) (hp : ab_p y.1.2.2.1 i len pc al st = some (if c then a else b, al1, st1)) (k : Ez L xs fr lo y (b, al1, st1, h, sl) r) : Ez L xs fr lo y (pc, al, st, h, sl) r := by
  rw [if_neg (by rw [hc]; decide)] at hp
  exact z_p hf hp k
theorem z_m (hf : y.2.2.find? (fun x => x.1 == pc) = some (pc0, i, len)) (hp : ab_p y.1.2.2.1 i len pc al st = none) (hm : mo L xs y.2.1 (y.1.1.name == "<init>") i len h st = some (st1, h1, du)) (hpc : pc + len = pc1) (k : Ez L xs fr lo y (pc1, al, st1, h1, sl + du) r) : Ez L xs fr lo y (pc, al, st, h, sl) r := by
  subst hpc
  obtain ⟨n, hn⟩ := k
  refine ⟨n + 1, ?_⟩
  rw [z_at]
  unfold ev_g
  rw [hf]
  simp only
  rw [hp]
  simp only
  rw [hm]
  exact hn
theorem z_c (hf : y.2.2.find? (fun x => x.1 == pc) = some (pc0, i, len)) (hp : ab_p y.1.2.2.1 i len pc al st = none) (hm : mo L xs y.2.1 (y.1.1.name == "<init>") i len h st = none) (hc : cn y.2.1 fr lo i len h st = some (st1, h1, du)) (hpc : pc + len = pc1) (k : Ez L xs fr lo y (pc1, al, st1, h1, sl + du) r) : Ez L xs fr lo y (pc, al, st, h, sl) r := by
  subst hpc
  obtain ⟨n, hn⟩ := k
  refine ⟨n + 1, ?_⟩
  rw [z_at]
  unfold ev_g
  rw [hf]
  simp only
  rw [hp]
  simp only
  rw [hm]
  simp only
  rw [hc]
  exact hn
theorem z_r {o : Outcome} (hf : y.2.2.find? (fun x => x.1 == pc) = some (pc0, i, len)) (hp : ab_p y.1.2.2.1 i len pc al st = none) (hm : mo L xs y.2.1 (y.1.1.name == "<init>") i len h st = none) (hc : cn y.2.1 fr lo i len h st = none) (hr : cr y.1.2.2.2.1 i len st = some o) : Ez L xs fr lo y (pc, al, st, h, sl) (o, h, sl) := by
  refine ⟨1, ?_⟩
  rw [z_at]
  unfold ev_g
  rw [hf]
  simp only
  rw [hp]
  simp only
  rw [hm]
  simp only
  rw [hc]
  simp only
  rw [hr]
/-- the evaluator at a call -/
theorem z_l {go : ev_F} {yc : mc_T} {vs rest : List Value} (hf : y.2.2.find? (fun x => x.1 == pc) = some (pc0, i, len)) (hp : ab_p y.1.2.2.1 i len pc al st = none) (hm : mo L xs y.2.1 (y.1.1.name == "<init>") i len h st = none) (hc : cn y.2.1 fr lo i len h st = none) (hr : cr y.1.2.2.2.1 i len st = none) (hl : cl y.2.1 h i len st = some (yc, vs, rest)) (hw : 1 ≤ fr ∧ sumc rest + (yc.1.2.2.1 + 11) ≤ lo ∧ (lg_sl vs).length ≤ yc.1.2.2.1) :
    ev_g (mo L xs) go fr lo y pc al st h sl = (match go (fr - 1) (lo - (sumc rest + (yc.1.2.2.1 + 11))) yc 0 (lv_args 0 vs) [] h 0 with
                | none => none
                | some (.returned v, h1, d1) => go fr lo y (pc + 3) al (v.toList ++ rest) h1 (sl + d1)
                | some (.threw a, h1, d1) => ev_x go fr lo y pc al a h1 (sl + d1)) := by
  unfold ev_g
  rw [hf]
  simp only
  rw [hp]
  simp only
  rw [hm]
  simp only
  rw [hc]
  simp only
  rw [hr]
  simp only
  rw [hl]
  simp only
  rw [if_pos hw]
  generalize go (fr - 1) (lo - (sumc rest + (yc.1.2.2.1 + 11))) yc 0 (lv_args 0 vs) [] h 0 = g
  cases g with
  | none => rfl
  | some q =>
    obtain ⟨o, h1, d1⟩ := q
    cases o <;> rfl
theorem z_i {yc : mc_T} {vs rest : List Value} {v : Option Value} {d1 fr1 lo1 : Nat} (hf : y.2.2.find? (fun x => x.1 == pc) = some (pc0, i, len)) (hp : ab_p y.1.2.2.1 i len pc al st = none) (hm : mo L xs y.2.1 (y.1.1.name == "<init>") i len h st = none) (hc : cn y.2.1 fr lo i len h st = none) (hr : cr y.1.2.2.2.1 i len st = none) (hl : cl y.2.1 h i len st = some (yc, vs, rest)) (hw : 1 ≤ fr ∧ sumc rest + (yc.1.2.2.1 + 11) ≤ lo ∧ (lg_sl vs).length ≤ yc.1.2.2.1)
    (e1 : fr - 1 = fr1) (e2 : lo - (sumc rest + (yc.1.2.2.1 + 11)) = lo1) (hpc : pc + 3 = pc1) (kc : Ez L xs fr1 lo1 yc (0, lv_args 0 vs, [], h, 0) (.returned v, h1, d1)) (k : Ez L xs fr lo y (pc1, al, v.toList ++ rest, h1, sl + d1) r) : Ez L xs fr lo y (pc, al, st, h, sl) r := by
  subst e1
  subst e2
  subst hpc
  obtain ⟨n, hn⟩ := kc
  obtain ⟨m, hm2⟩ := k
  refine ⟨max n m + 1, ?_⟩
  rw [z_at, z_l hf hp hm hc hr hl hw]
  have h3 := ev_le_to L xs (Nat.le_max_left n m) _ _ _ _ _ _ _ _ _ hn
  have h4 := ev_le_to L xs (Nat.le_max_right n m) _ _ _ _ _ _ _ _ _ hm2
  simp only at h3 h4
  rw [h3]
  exact h4
/-- the callee throws; it is caught here -/
theorem z_ic {yc : mc_T} {vs rest : List Value} {a d1 fr1 lo1 : Nat} {k1 : ev_K} (hf : y.2.2.find? (fun x => x.1 == pc) = some (pc0, i, len)) (hp : ab_p y.1.2.2.1 i len pc al st = none) (hm : mo L xs y.2.1 (y.1.1.name == "<init>") i len h st = none) (hc : cn y.2.1 fr lo i len h st = none) (hr : cr y.1.2.2.2.1 i len st = none) (hl : cl y.2.1 h i len st = some (yc, vs, rest)) (hw : 1 ≤ fr ∧ sumc rest + (yc.1.2.2.1 + 11) ≤ lo ∧ (lg_sl vs).length ≤ yc.1.2.2.1)
    (e1 : fr - 1 = fr1) (e2 : lo - (sumc rest + (yc.1.2.2.1 + 11)) = lo1) (kc : Ez L xs fr1 lo1 yc (0, lv_args 0 vs, [], h, 0) (.threw a, h1, d1)) (hx : ev_xk y pc al a h1 (sl + d1) = some k1) (k : Ez L xs fr lo y k1 r) : Ez L xs fr lo y (pc, al, st, h, sl) r := by
  subst e1
  subst e2
  obtain ⟨n, hn⟩ := kc
  obtain ⟨m, hm2⟩ := k
  refine ⟨max n m + 1, ?_⟩
  rw [z_at, z_l hf hp hm hc hr hl hw]
  have h3 := ev_le_to L xs (Nat.le_max_left n m) _ _ _ _ _ _ _ _ _ hn
  have h4 := ev_le_to L xs (Nat.le_max_right n m) _ _ _ _ _ _ _ _ _ hm2
  simp only at h3
  rw [h3]
  simp only
  rw [ev_xk_s hx]
  exact h4
/-- a throw that leaves the method -/
theorem z_x {ci : Nat} (hf : y.2.2.find? (fun x => x.1 == pc) = some (pc0, i, len)) (hp : ab_p y.1.2.2.1 i len pc al st = none) (hm : mo L xs y.2.1 (y.1.1.name == "<init>") i len h st = none) (hc : cn y.2.1 fr lo i len h st = none) (hr : cr y.1.2.2.2.1 i len st = none) (hl : cl y.2.1 h i len st = none) (hx : cx y fr lo i len pc st = some ci) (hh : ch y (h ++ [.inr (ci, [])]) (100 + h.length) (pc + 9) = some none) :
    Ez L xs fr lo y (pc, al, st, h, sl) (.threw (100 + h.length), h ++ [.inr (ci, [])], sl + 6) := by
  refine ⟨1, ?_⟩
  rw [z_at]
  unfold ev_g
  rw [hf]
  simp only
  rw [hp]
  simp only
  rw [hm]
  simp only
  rw [hc]
  simp only
  rw [hr]
  simp only
  rw [hl]
  simp only
  rw [hx]
  simp only
  unfold ev_x
  rw [hh]
end RUL
