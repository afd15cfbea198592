/-! THE EVALUATOR is right, 1: what the parts of its step say -/
def ab_o (r : Nat → Nat) : Outcome → Outcome
  | .returned v => .returned (v.map (ab_v r))
  | .threw a => .threw (r a)
theorem mo_len {L : Nat} {xs : Nat → Int32} {o : Nat} {ini : Bool} {i : Instr} {len du : Nat} {h h' : ab_H} {st st' : List Value} (hm : mo L xs o ini i len h st = some (st', h', du)) : h.length ≤ h'.length := by
  unfold mo at hm
  split at hm
  all_goals try unfold mo_gf at hm
  all_goals try unfold mo_pf at hm
  all_goals try unfold mo_il at hm
  all_goals try unfold mo_ll at hm
  all_goals try unfold mo_bl at hm
  all_goals try unfold mo_al at hm
  all_goals try unfold mo_ln at hm
  all_goals try unfold mo_is at hm
  all_goals try unfold mo_ls at hm
  all_goals try unfold mo_bs at hm
  all_goals try unfold mo_as at hm
  all_goals try unfold mo_nw at hm
  all_goals try unfold mo_na at hm
  all_goals try unfold mo_an at hm
  all_goals try unfold mo_gs at hm
  all_goals try unfold mo_kl at hm
  all_goals repeat' split at hm
  all_goals first
    | (cases hm; done)
    | (cases hm; exact Nat.le_refl _)
    | (cases hm; simp; done)
    | (obtain ⟨v, -, e⟩ := Option.map_eq_some_iff.mp hm; cases e; exact Nat.le_refl _)
theorem cn_len {o fr lo : Nat} {i : Instr} {len du : Nat} {h h' : ab_H} {st st' : List Value} (hm : cn o fr lo i len h st = some (st', h', du)) : h.length ≤ h'.length := by
  have k1 : ∀ idx, cn_ac o idx fr lo h st = some (st', h', du) → h.length ≤ h'.length := by
    intro idx hm
    unfold cn_ac at hm
    repeat' split at hm
    all_goals first
      | (cases hm; done)
      | (cases hm; simp; done)
  have k2 : ∀ idx, cn_mi o idx fr lo h st = some (st', h', du) → h.length ≤ h'.length := by
    intro idx hm
    unfold cn_mi at hm
    repeat' split at hm
    all_goals first
      | (cases hm; done)
      | (cases hm; exact Nat.le_refl _)
  unfold cn at hm
  split at hm
  · unfold cn_or at hm
    repeat' split at hm
    all_goals first
      | (cases hm; done)
      | (cases hm; exact Nat.le_refl _)
  · cases hc : cn_ac o _ fr lo h st with
    | none => rw [hc] at hm; exact k2 _ hm
    | some q => rw [hc] at hm; cases hm; exact k1 _ hc
  · unfold cn_oi at hm
    repeat' split at hm
    all_goals first
      | (cases hm; done)
      | (cases hm; exact Nat.le_refl _)
  · unfold cn_mu at hm
    split at hm
    · split at hm
      · cases hm
        rw [mu_fill_len]
        simp
        omega
      · cases hm
    · cases hm
  · cases hm
/-- the decoded text is the code's -/
theorem cd_dec {y : mc_T} (hy : y ∈ mc) {pc : Nat} {x : cd_T} (hf : y.2.2.find? (fun x => x.1 == pc) = some x) : decode y.1.2.1 pc = .ok x.2 := by
  have h := mc_ok y hy
  unfold cd_ck at h
  rw [Bool.and_eq_true] at h
  have h1 := List.find?_some hf
  have h2 : x.1 = pc := by simpa using h1
  have := dl_ck_ok y.1.2.1 y.2.2 0 (by simpa using h.2) (Nat.zero_le _) x (List.mem_of_find?_eq_some hf)
  rw [h2] at this
  exact this
theorem cd_own {y : mc_T} (hy : y ∈ mc) : own.getD y.2.1 "" = y.1.1.cls := by
  have h := mc_ok y hy
  unfold cd_ck at h
  rw [Bool.and_eq_true] at h
  simpa using h.1
theorem ab_inj {sa : Nat → Nat} {B L : Nat} {xs : Nat → Int32} {s : State} {Hs : Heap} (hSt : ab_St sa L xs (fun q => B ≤ q) s Hs) : ∀ a b, ab_ok a = true → ab_ok b = true → ab_r sa B a = ab_r sa B b → a = b := by
  intro a b ha hb e
  have key : ∀ a, ab_ok a = true → (∃ i, i < 59 ∧ a = 1 + i ∧ ab_r sa B a = sa (1 + i) ∧ sa (1 + i) < B) ∨ (100 ≤ a ∧ ab_r sa B a = B + (a - 100)) := by
    intro a ha
    simp only [ab_ok, Bool.or_eq_true, decide_eq_true_eq] at ha
    rcases ha with ha | ha
    · refine Or.inl ⟨a - 1, by omega, by omega, ?_, ?_⟩
      · rw [ab_r_lt (by omega), show 1 + (a - 1) = a by omega]
      · obtain ⟨-, -, -, -, h4⟩ := (hSt.1 (a - 1) (by omega)).2.1
        exact Nat.lt_of_not_le h4
    · exact Or.inr ⟨ha, ab_r_ge ha⟩
  rcases key a ha with ⟨i, h1, h2, h3, h4⟩ | ⟨h1, h2⟩ <;> rcases key b hb with ⟨j, g1, g2, g3, g4⟩ | ⟨g1, g2⟩
  · have := ab_tk_inj hSt.1 i j h1 g1 (by rw [← h3, ← g3]; exact e)
    omega
  · omega
  · omega
  · omega
/-- no cell of the world is a class's statics -/
theorem ab_Ns {D : va_G} {r : Nat → Nat} {tC : Nat → ClassId} {B : Nat} {h : ab_H} {H : Heap} (hP : va_P D cls (ab_w r tC B h) H) (hz : H.size = B + h.length) : ∀ (x : Nat) (cell : Cell), B ≤ x → H[x]? = some cell → cell.vm.isStatics = false := by
  intro x cell hx hc
  have hlt : x < H.size := (Array.getElem?_eq_some_iff.mp hc).1
  have hk : x - B < h.length := by omega
  have hq := hP (x - B) _ (ab_w_get (List.getElem?_eq_getElem hk))
  rw [show B + (x - B) = x by omega] at hq
  cases hh : h[x - B] with
  | inl a =>
    rw [hh] at hq
    have hq : H[x]? = some (vp_cell (tC a.1) (ab_a r a.2)) := hq
    cases hc.symm.trans hq
    obtain ⟨t, n, f⟩ := a
    rcases f with f | f | f | f | f <;> rfl
  | inr o =>
    rw [hh] at hq
    obtain ⟨q, -, cell', g1, -, g3, -⟩ := hq
    have g1 : H[x]? = some cell' := g1
    cases hc.symm.trans g1
    rw [g3]
    rfl
/-- a cell's class -/
theorem ab_obj {D : va_G} {sa : Nat → Nat} {tC : Nat → ClassId} {B : Nat} {h : ab_H} {H : Heap} {s : State} (hK : va_K D cls (ab_tys tC) s) (hP : va_P D cls (ab_w (ab_r sa B) tC B h) H) {a ci : Nat} {fs : List Value} (ho : mo_obj h a = some (ci, fs)) {r : vw_C} (hr : cls[ci]? = some r) :
    ∃ cell : Cell, H[ab_r sa B a]? = some cell ∧ cell.vm.isStatics = false ∧ s.vm.findClass r.1 = some cell.cls := by
  obtain ⟨ha, hc⟩ := mo_obj_s ho
  obtain ⟨q, q1, cell, g1, g2, g3, -⟩ := hP (a - 100) _ (ab_w_get hc)
  have q1 : cls[ci]? = some q := q1
  cases hr.symm.trans q1
  refine ⟨cell, by rw [ab_r_ge ha]; exact g1, by rw [g3]; rfl, ?_⟩
  have := (hK.1 ci _ hr).2.1
  rw [g2]
  exact this
/-- the search for a handler -/
abbrev ex_q (h : ExceptionTableEntry) : Nat × Nat × Nat × Nat := (h.startPc, h.endPc, h.handlerPc, h.catchType)
theorem chL_out {o ci pc : Nat} : ∀ (es : List ExceptionTableEntry), chL o ci pc (es.map ex_q) = some none → ∀ x ∈ es, covers x pc = false
  | [], _, x, hx => by cases hx
  | z :: r, h, x, hx => by
    rw [List.map_cons, chL] at h
    split at h
    · split at h
      · split at h
        · cases h
        · split at h
          · cases h
          · cases h
      · cases h
    · rename_i hn
      rcases List.mem_cons.mp hx with rfl | hx
      · have hn : ¬ (x.startPc ≤ pc ∧ pc < x.endPc) := hn
        simp only [covers]
        simpa using hn
      · exact chL_out r h x hx
theorem chL_in {o ci pc hp : Nat} : ∀ (es : List ExceptionTableEntry), chL o ci pc (es.map ex_q) = some (some hp) → ∃ pre x rest, es = pre ++ x :: rest ∧ covers x pc = true ∧ x.handlerPc = hp ∧ (o, x.catchType, ci) ∈ ht_l ∧ ∀ y ∈ pre, covers y pc = false ∨ ∃ cj, (o, y.catchType, cj) ∈ ht_l ∧ cj ≠ ci
  | [], h => by cases h
  | z :: r, h => by
    rw [List.map_cons, chL] at h
    split at h
    · rename_i hc
      have hc : z.startPc ≤ pc ∧ pc < z.endPc := hc
      have hcov : covers z pc = true := by simp only [covers]; simpa using hc
      split at h
      · rename_i q hq
        obtain ⟨m1, m2, m3⟩ := mo_find hq
        obtain ⟨q1, q2, q3⟩ := q
        have m2 : q1 = o := m2
        have m3 : q2 = z.catchType := m3
        subst m2
        subst m3
        split at h
        · rename_i e1
          have e1 : q3 = ci := e1
          subst e1
          cases h
          exact ⟨[], z, r, rfl, hcov, rfl, m1, fun y hy => by cases hy⟩
        · rename_i e1
          split at h
          · rename_i hp2 e2
            cases h
            obtain ⟨pre, x, rest, e3, e4, e5, e6, e7⟩ := chL_in r e2
            refine ⟨z :: pre, x, rest, by rw [e3]; rfl, e4, e5, e6, fun y hy => ?_⟩
            rcases List.mem_cons.mp hy with rfl | hy
            · exact Or.inr ⟨q3, m1, e1⟩
            · exact e7 y hy
          · cases h
      · cases h
    · rename_i hn
      have hn : ¬ (z.startPc ≤ pc ∧ pc < z.endPc) := hn
      obtain ⟨pre, x, rest, e3, e4, e5, e6, e7⟩ := chL_in r h
      refine ⟨z :: pre, x, rest, by rw [e3]; rfl, e4, e5, e6, fun y hy => ?_⟩
      rcases List.mem_cons.mp hy with rfl | hy
      · exact Or.inl (by simp only [covers]; simpa using hn)
      · exact e7 y hy
/-- words of exceptions that aren't of one another's classes -/
def ab_nc (s : State) : Prop := ∀ i j : Nat, (i = 12 ∨ i = 13 ∨ i = 14) → (j = 12 ∨ j = 13 ∨ j = 14) → j ≠ i → (Cond.not (.castable (xs_R i) (xs_R j))).before #[] s = true
theorem nc_args {C T : String} {a a' : Array Value} {s : State} (h : (Cond.not (.castable C T)).before a s = true) : (Cond.not (.castable C T)).before a' s = true := by
  simpa [Cond.before, Cond.holds, Cond.value] using h
theorem nc_warm {C T : String} {a : Array Value} {s U : State} (hW : s.vm.Alike U.vm) (h : (Cond.not (.castable C T)).before a s = true) : (Cond.not (.castable C T)).before a U = true := by
  simpa [Cond.before, Cond.holds, Cond.value, hW.findClass, hW.assignable] using h
theorem ab_nc.warm {s U : State} (hW : s.vm.Alike U.vm) (h : ab_nc s) : ab_nc U := fun i j hi hj hij => nc_warm hW (h i j hi hj hij)
