
/-! CELLS THAT NO ONE LOOKS AT: a run that goes through with dummies in their place goes through with them -/
def dC : ab_C := .inr (99, [])
def Rm (M : Nat → Bool) (G : Nat → ab_C) (h g : ab_H) : Prop := g.length = h.length ∧ ∀ j, (M j = true → j < h.length ∧ h[j]? = some dC ∧ g[j]? = some (G j)) ∧ (M j = false → g[j]? = h[j]?)
section RMM
variable {M : Nat → Bool} {G : Nat → ab_C} {h g h1 : ab_H} {a o idx du j : Nat} {st st1 : List Value}
set_option maxRecDepth 100000 in
theorem Rm_g (R : Rm M G h g) {c : ab_C} (hc : h[j]? = some c) (hd : c ≠ dC) : M j = false ∧ g[j]? = some c := by
  cases hm : M j with
  | true =>
    have := ((R.2 j).1 hm).2.1
    rw [hc] at this
    cases this
    exact absurd rfl hd
  | false => exact ⟨rfl, ((R.2 j).2 hm).trans hc⟩
set_option maxRecDepth 100000 in
theorem Rm_o (R : Rm M G h g) {q : Nat × List Value} (e : mo_obj h a = some q) (hq : q.1 ≠ 99) : mo_obj g a = some q ∧ M (a - 100) = false := by
  obtain ⟨h1, h2⟩ := mo_obj_s e
  obtain ⟨h3, h4⟩ := Rm_g R h2 (fun z => hq (by cases z; rfl))
  refine ⟨?_, h3⟩
  unfold mo_obj
  rw [if_pos h1, h4]
set_option maxRecDepth 100000 in
theorem Rm_a (R : Rm M G h g) {q : Nat × vp_A} (e : mo_arr h a = some q) : mo_arr g a = some q ∧ M (a - 100) = false := by
  obtain ⟨h1, h2⟩ := mo_arr_s e
  obtain ⟨h3, h4⟩ := Rm_g R h2 (fun z => by cases z)
  refine ⟨?_, h3⟩
  unfold mo_arr
  rw [if_pos h1, h4]
set_option maxRecDepth 100000 in
theorem Rm_0 (ha : a < 100) : mo_arr h a = none ∧ mo_obj h a = none := ⟨if_neg (by omega), if_neg (by omega)⟩
set_option maxRecDepth 100000 in
theorem Rm_s (R : Rm M G h g) {c : ab_C} (hm : M j = false) : Rm M G (h.set j c) (g.set j c) := by
  refine ⟨by rw [List.length_set, List.length_set]; exact R.1, fun i => ⟨fun hi => ?_, fun hi => ?_⟩⟩
  · have hij : j ≠ i := fun e => by rw [e, hi] at hm; cases hm
    rw [List.length_set, List.getElem?_set_ne hij, List.getElem?_set_ne hij]
    exact (R.2 i).1 hi
  · by_cases hij : j = i
    · subst hij
      rw [List.getElem?_set, List.getElem?_set, R.1, if_pos rfl, if_pos rfl]
    · rw [List.getElem?_set_ne hij, List.getElem?_set_ne hij]
      exact (R.2 i).2 hi
set_option maxRecDepth 100000 in
theorem Rm_p (R : Rm M G h g) {c : ab_C} : Rm M G (h ++ [c]) (g ++ [c]) := by
  refine ⟨by rw [List.length_append, List.length_append, R.1], fun i => ⟨fun hi => ?_, fun hi => ?_⟩⟩
  · obtain ⟨h1, h2, h3⟩ := (R.2 i).1 hi
    refine ⟨by rw [List.length_append]; omega, ?_, ?_⟩
    · rw [List.getElem?_append_left h1]
      exact h2
    · rw [List.getElem?_append_left (by rw [R.1]; exact h1)]
      exact h3
  · by_cases hl : i < h.length
    · rw [List.getElem?_append_left hl, List.getElem?_append_left (by rw [R.1]; exact hl)]
      exact (R.2 i).2 hi
    · rw [List.getElem?_append_right (show g.length ≤ i by rw [R.1]; omega), List.getElem?_append_right (show h.length ≤ i by omega), R.1]
abbrev mR (M : Nat → Bool) (G : Nat → ab_C) (x y : mo_T) : Prop := ∀ st1 h1 du, x = some (st1, h1, du) → ∃ g1, y = some (st1, g1, du) ∧ Rm M G h1 g1
set_option maxRecDepth 100000 in
theorem mR_s (R : Rm M G h g) : mR M G (some (st, h, du)) (some (st, g, du)) := fun _ _ _ e => by
  cases e
  exact ⟨g, rfl, R⟩
set_option maxRecDepth 100000 in
theorem mR_n {y : mo_T} : mR M G none y := fun _ _ _ e => by cases e
set_option maxRecDepth 100000 in
theorem mR_i {p : Prop} [Decidable p] {x y x' y' : mo_T} (h1 : p → mR M G x x') (h2 : ¬ p → mR M G y y') : mR M G (if p then x else y) (if p then x' else y') := by
  by_cases hp : p
  · rw [if_pos hp, if_pos hp]
    exact h1 hp
  · rw [if_neg hp, if_neg hp]
    exact h2 hp
set_option maxRecDepth 100000 in
theorem fl_99 : ∀ e, e ∈ fl → e.2.2.1 ≠ 99 := by decide
set_option maxRecDepth 100000 in
theorem mo_fl_m {e : fl_T} (h : mo_fl o idx = some e) : e ∈ fl := List.mem_of_find?_eq_some h
set_option maxRecDepth 100000 in
theorem gf_R (R : Rm M G h g) : mR M G (mo_gf o idx h st) (mo_gf o idx g st) := by
  unfold mo_gf
  split
  · rename_i a q
    cases hf : mo_fl o idx with
    | none => exact mR_i (fun _ => mR_s R) (fun _ => mR_n)
    | some e =>
      simp only
      cases ho : mo_obj h a with
      | none => exact mR_n
      | some c =>
        obtain ⟨ci, fs⟩ := c
        simp only
        by_cases hc : ci = e.2.2.1
        · have h99 : ci ≠ 99 := by rw [hc]; exact fl_99 e (mo_fl_m hf)
          rw [(Rm_o R ho h99).1]
          simp only
          rw [if_pos hc, if_pos hc]
          cases fs[e.2.2.2.1]? with
          | none => exact mR_n
          | some v => exact mR_s R
        · rw [if_neg hc]
          exact mR_n
  · exact mR_n
set_option maxRecDepth 100000 in
theorem pf_R {ini : Bool} (R : Rm M G h g) : mR M G (mo_pf o ini idx h st) (mo_pf o ini idx g st) := by
  unfold mo_pf
  split
  · rename_i v a q
    cases hf : mo_fl o idx with
    | none => exact mR_n
    | some e =>
      simp only
      cases ho : mo_obj h a with
      | none => exact mR_n
      | some c =>
        obtain ⟨ci, fs⟩ := c
        simp only
        cases hcl : cls[e.2.2.1]? with
        | none => exact mR_n
        | some r =>
          simp only
          cases hty : parseFieldDescriptor (r.2.1 e.2.2.2.1).2.2.1 with
          | none => exact mR_n
          | some ty =>
            simp only
            by_cases hc : ci = e.2.2.1
            · have h99 : ci ≠ 99 := by rw [hc]; exact fl_99 e (mo_fl_m hf)
              obtain ⟨e1, e2⟩ := Rm_o R ho h99
              rw [e1]
              exact mR_i (fun _ => mR_s (Rm_s R e2)) (fun _ => mR_n)
            · rw [if_neg (fun z => hc z.1)]
              exact mR_n
  · exact mR_n
set_option maxRecDepth 100000 in
theorem il_R {L : Nat} {xs : Nat → Int32} (R : Rm M G h g) : mR M G (mo_il L xs h st) (mo_il L xs g st) := by
  unfold mo_il
  split
  · rename_i i a q
    cases ha : mo_arr h a with
    | some x =>
      rw [(Rm_a R ha).1]
      try simp only
      split
      · exact mR_i (fun _ => mR_s R) (fun _ => mR_n)
      · exact mR_n
      · rename_i hh
        cases hh
    | none =>
      simp only
      by_cases h100 : a < 100
      · rw [(Rm_0 (h := g) h100).1]
        exact mR_i (fun _ => mR_s R) (fun _ => mR_i (fun _ => mR_s R) (fun _ => mR_n))
      · rw [if_neg (show ¬ (a = 61 ∧ mo_in i 59 = true) from fun z => h100 (by rw [z.1]; decide)), if_neg (show ¬ (a = 0 ∧ mo_in i L = true) from fun z => h100 (by rw [z.1]; decide))]
        exact mR_n
  · exact mR_n
set_option maxRecDepth 100000 in
theorem ll_R (R : Rm M G h g) : mR M G (mo_ll h st) (mo_ll g st) := by
  unfold mo_ll
  split
  · rename_i i a q
    cases ha : mo_arr h a with
    | some x =>
      rw [(Rm_a R ha).1]
      try simp only
      split
      · exact mR_i (fun _ => mR_s R) (fun _ => mR_n)
      · exact mR_n
    | none => exact mR_n
  · exact mR_n
set_option maxRecDepth 100000 in
theorem bl_R (R : Rm M G h g) : mR M G (mo_bl h st) (mo_bl g st) := by
  unfold mo_bl
  split
  · rename_i i a q
    cases ha : mo_arr h a with
    | some x =>
      rw [(Rm_a R ha).1]
      try simp only
      split
      · exact mR_i (fun _ => mR_s R) (fun _ => mR_n)
      · exact mR_n
    | none => exact mR_n
  · exact mR_n
set_option maxRecDepth 100000 in
theorem al_R (R : Rm M G h g) : mR M G (mo_al h st) (mo_al g st) := by
  unfold mo_al
  split
  · rename_i i a q
    cases ha : mo_arr h a with
    | some x =>
      rw [(Rm_a R ha).1]
      try simp only
      split
      · exact mR_i (fun _ => mR_s R) (fun _ => mR_n)
      · exact mR_n
      · rename_i hh
        cases hh
    | none =>
      simp only
      by_cases h100 : a < 100
      · rw [(Rm_0 (h := g) h100).1]
        exact mR_i (fun _ => mR_s R) (fun _ => mR_n)
      · rw [if_neg (show ¬ (a = 60 ∧ mo_in i 59 = true) from fun z => h100 (by rw [z.1]; decide))]
        exact mR_n
  · exact mR_n
set_option maxRecDepth 100000 in
theorem ln_R {L : Nat} (R : Rm M G h g) : mR M G (mo_ln L h st) (mo_ln L g st) := by
  unfold mo_ln
  split
  · rename_i a q
    cases ha : mo_arr h a with
    | some x =>
      rw [(Rm_a R ha).1]
      exact mR_i (fun _ => mR_s R) (fun _ => mR_n)
    | none =>
      simp only
      by_cases h100 : a < 100
      · rw [(Rm_0 (h := g) h100).1]
        exact mR_i (fun _ => mR_s R) (fun _ => mR_i (fun _ => mR_s R) (fun _ => mR_n))
      · rw [if_neg (show ¬ a = 60 from fun z => h100 (by rw [z]; decide)), if_neg (show ¬ a = 0 from fun z => h100 (by rw [z]; decide))]
        exact mR_n
  · exact mR_n
set_option maxRecDepth 100000 in
theorem is_R (R : Rm M G h g) : mR M G (mo_is h st) (mo_is g st) := by
  unfold mo_is
  split
  · rename_i x i a q
    cases ha : mo_arr h a with
    | some x =>
      obtain ⟨e1, e2⟩ := Rm_a R ha
      rw [e1]
      try simp only
      split
      · exact mR_i (fun _ => mR_s (Rm_s R e2)) (fun _ => mR_n)
      · exact mR_n
    | none => exact mR_n
  · exact mR_n
set_option maxRecDepth 100000 in
theorem ls_R (R : Rm M G h g) : mR M G (mo_ls h st) (mo_ls g st) := by
  unfold mo_ls
  split
  · rename_i x i a q
    cases ha : mo_arr h a with
    | some x =>
      obtain ⟨e1, e2⟩ := Rm_a R ha
      rw [e1]
      try simp only
      split
      · exact mR_i (fun _ => mR_s (Rm_s R e2)) (fun _ => mR_n)
      · exact mR_n
    | none => exact mR_n
  · exact mR_n
set_option maxRecDepth 100000 in
theorem bs_R (R : Rm M G h g) : mR M G (mo_bs h st) (mo_bs g st) := by
  unfold mo_bs
  split
  · rename_i x i a q
    cases ha : mo_arr h a with
    | some x =>
      obtain ⟨e1, e2⟩ := Rm_a R ha
      rw [e1]
      try simp only
      split
      · exact mR_i (fun _ => mR_s (Rm_s R e2)) (fun _ => mR_n)
      · exact mR_n
    | none => exact mR_n
  · exact mR_n
set_option maxRecDepth 100000 in
theorem el_99 : ∀ t : Nat, ab_el t ≠ some 99 := by
  intro t
  unfold ab_el
  repeat (first | split | decide | (intro z; cases z))
set_option maxRecDepth 100000 in
theorem as_R (R : Rm M G h g) : mR M G (mo_as h st) (mo_as g st) := by
  unfold mo_as
  split
  · rename_i i a q
    cases ha : mo_arr h a with
    | some x =>
      obtain ⟨e1, e2⟩ := Rm_a R ha
      rw [e1]
      try simp only
      split
      · exact mR_i (fun _ => mR_s (Rm_s R e2)) (fun _ => mR_n)
      · exact mR_n
    | none => exact mR_n
  · rename_i b i a q
    cases ha : mo_arr h a with
    | some x =>
      obtain ⟨e1, e2⟩ := Rm_a R ha
      rw [e1]
      try simp only
      split
      · cases ho : mo_obj h b with
        | some c =>
          obtain ⟨k, fs⟩ := c
          simp only
          by_cases hk : k = 99
          · rw [if_neg (fun z => el_99 _ (by rw [z.1, hk]))]
            exact mR_n
          · rw [(Rm_o R ho hk).1]
            exact mR_i (fun _ => mR_s (Rm_s R e2)) (fun _ => mR_n)
        | none =>
          simp only
          by_cases h100 : b < 100
          · rw [(Rm_0 (h := g) h100).2]
            exact mR_i (fun _ => mR_s (Rm_s R e2)) (fun _ => mR_n)
          · rw [if_neg (fun z => h100 (Nat.lt_of_le_of_lt z.2.1.2 (by decide)))]
            exact mR_n
      · exact mR_n
    | none => exact mR_n
  · exact mR_n
set_option maxRecDepth 100000 in
theorem nw_R (R : Rm M G h g) : mR M G (mo_nw o idx h st) (mo_nw o idx g st) := by
  unfold mo_nw
  split
  · split
    · rw [R.1]
      exact mR_s (Rm_p R)
    · exact mR_n
  · exact mR_n
set_option maxRecDepth 100000 in
theorem na_R {x : ArrayType} (R : Rm M G h g) : mR M G (mo_na x h st) (mo_na x g st) := by
  unfold mo_na
  split
  · split
    · rw [R.1]
      exact mR_i (fun _ => mR_s (Rm_p R)) (fun _ => mR_n)
    · exact mR_n
  · exact mR_n
set_option maxRecDepth 100000 in
theorem an_R (R : Rm M G h g) : mR M G (mo_an o idx h st) (mo_an o idx g st) := by
  unfold mo_an
  split
  · split
    · rw [R.1]
      exact mR_i (fun _ => mR_s (Rm_p R)) (fun _ => mR_n)
    · exact mR_n
  · exact mR_n
set_option maxRecDepth 100000 in
theorem mo_R {L : Nat} {xs : Nat → Int32} {ini : Bool} {i : Instr} {len : Nat} (R : Rm M G h g) : mR M G (mo L xs o ini i len h st) (mo L xs o ini i len g st) := by
  unfold mo
  split
  · exact gf_R R
  · exact pf_R R
  · exact il_R R
  · exact ll_R R
  · exact bl_R R
  · exact al_R R
  · exact ln_R R
  · exact is_R R
  · exact ls_R R
  · exact bs_R R
  · exact as_R R
  · exact nw_R R
  · exact na_R R
  · exact an_R R
  · unfold mo_gs
    split
    · exact mR_s R
    · exact mR_n
  · unfold mo_kl
    split
    · exact mR_s R
    · exact mR_n
  · exact mR_n
end RMM
