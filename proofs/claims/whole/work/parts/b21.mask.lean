
/-! CELLS THAT NO ONE LOOKS AT, 3: in the tail -/
section RMT
variable {M : Nat → Bool} {G : Nat → ab_C} {t u : ab_H} {C : co_T} {j k : Nat}
def mUp (M : Nat → Bool) (j : Nat) : Bool := decide (141 ≤ j) && M (j - 141)
set_option maxRecDepth 100000 in
theorem mUp_h : mUp M (141 + k) = M k := by
  unfold mUp
  rw [decide_eq_true (show 141 ≤ 141 + k by omega), Nat.add_sub_cancel_left, Bool.true_and]
set_option maxRecDepth 100000 in
theorem mUp_l (h : j < 141) : mUp M j = false := by
  unfold mUp
  rw [decide_eq_false (show ¬ 141 ≤ j by omega), Bool.false_and]
set_option maxRecDepth 100000 in
theorem MH_low (h : j < 141) : (MH C u)[j]? = (MH C t)[j]? := by
  have hl : (SK.mapIdx (fun k s => mk1 C k s)).length = 141 := by
    have := MH_len C []
    unfold MH at this
    rw [List.append_nil] at this
    exact this
  unfold MH
  rw [List.getElem?_append_left (by rw [hl]; exact h), List.getElem?_append_left (by rw [hl]; exact h)]
set_option maxRecDepth 100000 in
theorem Rt_up (R : Rt_m M G t u) : Rm (mUp M) (fun j => G (j - 141)) (MH C t) (MH C u) := by
  refine ⟨by rw [MH_len, MH_len, R.1], fun j => ?_⟩
  by_cases h : j < 141
  · rw [mUp_l h]
    exact ⟨fun z => (by cases z), fun _ => MH_low h⟩
  · obtain ⟨k, rfl⟩ : ∃ k, j = 141 + k := ⟨j - 141, by omega⟩
    rw [mUp_h, MH_tl, MH_tl, MH_len]
    refine ⟨fun z => ?_, (R.2 k).2⟩
    obtain ⟨h1, h2, h3⟩ := (R.2 k).1 z
    refine ⟨by omega, h2, ?_⟩
    show u[k]? = some (G (141 + k - 141))
    rw [Nat.add_sub_cancel_left]
    exact h3
set_option maxRecDepth 100000 in
theorem Rt_dn {g : ab_H} (R : Rm (mUp M) (fun j => G (j - 141)) (MH C t) g) : ∃ u, MH C u = g ∧ Rt_m M G t u := by
  have hl := R.1
  rw [MH_len] at hl
  refine ⟨g.drop 141, List.ext_getElem? (fun j => ?_), by rw [List.length_drop, hl, Nat.add_sub_cancel_left], fun k => ?_⟩
  · by_cases h : j < 141
    · rw [MH_low (t := t) h]
      exact ((R.2 j).2 (mUp_l h)).symm
    · obtain ⟨k, rfl⟩ : ∃ k, j = 141 + k := ⟨j - 141, by omega⟩
      rw [MH_tl, List.getElem?_drop]
  · have r := R.2 (141 + k)
    rw [mUp_h, MH_tl, MH_len] at r
    rw [List.getElem?_drop]
    refine ⟨fun z => ?_, r.2⟩
    obtain ⟨h1, h2, h3⟩ := r.1 z
    have h4 : g[141 + k]? = some (G (141 + k - 141)) := h3
    rw [Nat.add_sub_cancel_left] at h4
    exact ⟨by omega, h2, h4⟩
def msk (M : Nat → Bool) (t : ab_H) : ab_H := t.mapIdx (fun j c => bif M j then dC else c)
set_option maxRecDepth 100000 in
theorem msk_l : (msk M t).length = t.length := List.length_mapIdx
set_option maxRecDepth 100000 in
theorem msk_n (h : M j = false) : (msk M t)[j]? = t[j]? := by
  unfold msk
  rw [List.getElem?_mapIdx, h]
  cases t[j]? <;> rfl
set_option maxRecDepth 100000 in
theorem msk_y (h : M j = true) (hj : j < t.length) : (msk M t)[j]? = some dC := by
  unfold msk
  rw [List.getElem?_mapIdx, h, List.getElem?_eq_getElem hj]
  rfl
set_option maxRecDepth 100000 in
theorem msk_R (h : ∀ j, M j = true → j < u.length) : Rt_m M (fun j => (u[j]?).getD dC) (msk M u) u := by
  refine ⟨msk_l.symm, fun j => ⟨fun z => ⟨by rw [msk_l]; exact h j z, msk_y z (h j z), ?_⟩, fun z => (msk_n z).symm⟩⟩
  show u[j]? = some ((u[j]?).getD dC)
  rw [List.getElem?_eq_getElem (h j z)]
  rfl
set_option maxRecDepth 100000 in
theorem msk_e (R : Rt_m M G t u) : msk M u = t := by
  refine List.ext_getElem? (fun j => ?_)
  cases hm : M j with
  | true =>
    obtain ⟨h1, h2, h3⟩ := (R.2 j).1 hm
    rw [msk_y hm (by rw [R.1]; exact h1), h2]
  | false => exact (msk_n hm).trans ((R.2 j).2 hm)
/-! what is hidden stays -/
def frVm (M : Nat → Bool) (u u' : ab_H) : Prop := ∀ j, M j = true → j < u'.length ∧ u'[j]? = u[j]?
set_option maxRecDepth 100000 in
theorem frVm_t {u1 u2 u3 : ab_H} (h : frVm M u1 u2) (g : frVm M u2 u3) : frVm M u1 u3 := fun j z => ⟨(g j z).1, (g j z).2.trans (h j z).2⟩
set_option maxRecDepth 100000 in
theorem W_mk {L : Nat} {xs : Nat → Int32} {d pc sl : Nat} {y : mc_T} {al : List (Nat × Value)} {st : List Value} {P : Option Value → ab_H → Nat → Prop} {X : Nat → ab_H → Nat → Prop} {Q : Option Value → co_T → ab_H → Nat → Prop} {QX : Nat → co_T → ab_H → Nat → Prop} (w : Wd L xs d y (pc, al, st, MH C (msk M u), sl) P X) (hM : ∀ j, M j = true → j < u.length) (hP : ∀ v h m, P v h m → ∃ C' t', MH C' t' = h ∧ Q v C' t' m) (hX : ∀ a h m, X a h m → ∃ C' t', MH C' t' = h ∧ QX a C' t' m) : Wd L xs d y (pc, al, st, MH C u, sl) (fun v h m => ∃ C' u', MH C' u' = h ∧ Q v C' (msk M u') m ∧ frVm M u u') (fun a h m => ∃ C' u', MH C' u' = h ∧ QX a C' (msk M u') m ∧ frVm M u u') := by
  have key : ∀ {t' u' : ab_H}, Rt_m M (fun j => (u[j]?).getD dC) t' u' → frVm M u u' := fun {t' u'} R j z => by
    obtain ⟨h1, h2, h3⟩ := (R.2 j).1 z
    refine ⟨by rw [R.1]; exact h1, ?_⟩
    have h4 : u'[j]? = some ((u[j]?).getD dC) := h3
    rw [h4, List.getElem?_eq_getElem (hM j z)]
    rfl
  refine Wd_q (Wd_m w (Rt_up (msk_R hM))) (fun v h m ⟨h1, p, R⟩ => ?_) (fun a h m ⟨h1, p, R⟩ => ?_)
  · obtain ⟨C', t', e, q⟩ := hP v h1 m p
    rw [← e] at R
    obtain ⟨u', e', R'⟩ := Rt_dn (G := fun j => (u[j]?).getD dC) R
    refine ⟨C', u', e', ?_, key R'⟩
    rw [msk_e R']
    exact q
  · obtain ⟨C', t', e, q⟩ := hX a h1 m p
    rw [← e] at R
    obtain ⟨u', e', R'⟩ := Rt_dn (G := fun j => (u[j]?).getD dC) R
    refine ⟨C', u', e', ?_, key R'⟩
    rw [msk_e R']
    exact q
/-! blocks of five cells -/
def mBk (Ks : List Nat) (j : Nat) : Bool := Ks.any (fun k => decide (k ≤ j ∧ j < k + 5))
set_option maxRecDepth 100000 in
theorem mBk_i {Ks : List Nat} : mBk Ks j = true ↔ ∃ k, k ∈ Ks ∧ k ≤ j ∧ j < k + 5 := by
  unfold mBk
  rw [List.any_eq_true]
  exact ⟨fun ⟨k, h1, h2⟩ => ⟨k, h1, of_decide_eq_true h2⟩, fun ⟨k, h1, h2⟩ => ⟨k, h1, decide_eq_true h2⟩⟩
def bkO (Ks : List Nat) (n : Nat) : Prop := (∀ k, k ∈ Ks → k + 5 ≤ n) ∧ ∀ k k', k ∈ Ks → k' ∈ Ks → k ≠ k' → k + 5 ≤ k' ∨ k' + 5 ≤ k
set_option maxRecDepth 100000 in
theorem bkO_h {Ks : List Nat} {n : Nat} (h : bkO Ks n) : ∀ j, mBk Ks j = true → j < n := fun j z => by
  obtain ⟨k, h1, h2⟩ := mBk_i.mp z
  have := h.1 k h1
  omega
set_option maxRecDepth 100000 in
theorem bkO_u {Ks : List Nat} {n n' : Nat} (hn : n ≤ n') (h : bkO Ks n) : bkO Ks n' := ⟨fun k z => Nat.le_trans (h.1 k z) hn, h.2⟩
set_option maxRecDepth 100000 in
theorem bkO_f {Ks : List Nat} {u u' : ab_H} (h : bkO Ks u.length) (g : frVm (mBk Ks) u u') : bkO Ks u'.length := ⟨fun k z => by
  have := (g (k + 4) (mBk_i.mpr ⟨k, z, by omega, by omega⟩)).1
  omega, h.2⟩
set_option maxRecDepth 100000 in
theorem bkO_c {Ks : List Nat} {n : Nat} (h : bkO Ks n) : bkO (n :: Ks) (n + 5) := by
  refine ⟨fun k z => ?_, fun k k' z z' hk => ?_⟩
  · rcases List.mem_cons.mp z with rfl | z
    · omega
    · have := h.1 k z
      omega
  · rcases List.mem_cons.mp z with e | z
    · rcases List.mem_cons.mp z' with e' | z'
      · exact absurd (e.trans e'.symm) hk
      · exact Or.inr (by rw [e]; exact h.1 k' z')
    · rcases List.mem_cons.mp z' with e | z'
      · exact Or.inl (by rw [e]; exact h.1 k z)
      · exact h.2 k k' z z' hk
set_option maxRecDepth 100000 in
theorem RWo_g {t t' : ab_H} {ce : Nat → Int64} {id sz la : Nat → Int32} (h : ∀ j, k ≤ j → j < k + 5 → t'[j]? = t[j]?) (R : RWo t k ce id sz la) : RWo t' k ce id sz la := ⟨(h k (by omega) (by omega)).trans R.1, (h (k + 1) (by omega) (by omega)).trans R.2.1, (h (k + 2) (by omega) (by omega)).trans R.2.2.1, (h (k + 3) (by omega) (by omega)).trans R.2.2.2.1, (h (k + 4) (by omega) (by omega)).trans R.2.2.2.2⟩
set_option maxRecDepth 100000 in
theorem RWt_g {t t' : ab_H} {wd : Nat → Nat} {rs : rs_T} (h : ∀ j, k ≤ j → j < k + 5 → t'[j]? = t[j]?) (R : RWt t k wd rs) : RWt t' k wd rs := by
  obtain ⟨ce, id, sz, la, a, b⟩ := R
  exact ⟨ce, id, sz, la, RWo_g h a, b⟩
set_option maxRecDepth 100000 in
theorem RWt_M {t t' : ab_H} {Ks : List Nat} {wd : Nat → Nat} {rs : rs_T} (hk : k ∈ Ks) (h : frVm (mBk Ks) t t') (R : RWt t k wd rs) : RWt t' k wd rs := RWt_g (fun j a b => (h j (mBk_i.mpr ⟨k, hk, a, b⟩)).2) R
set_option maxRecDepth 100000 in
theorem RWt_U {t t' : ab_H} {k' : Nat} {wd : Nat → Nat} {rs : rs_T} (hk : k + 5 ≤ k' ∨ k' + 5 ≤ k) (h : frU k' t t') (R : RWt t k wd rs) : RWt t' k wd rs := RWt_g (fun j a b => h.2 j (by omega)) R
set_option maxRecDepth 100000 in
theorem RWt_a {t q : ab_H} {wd : Nat → Nat} {rs : rs_T} (R : RWt t k wd rs) : RWt (t ++ q) k wd rs := by
  obtain ⟨ce, id, sz, la, a, b⟩ := R
  exact ⟨ce, id, sz, la, ⟨tl_app a.1, tl_app a.2.1, tl_app a.2.2.1, tl_app a.2.2.2.1, tl_app a.2.2.2.2⟩, b⟩
set_option maxRecDepth 100000 in
theorem RWt_l {t : ab_H} {wd : Nat → Nat} {rs : rs_T} (R : RWt t k wd rs) : k + 5 ≤ t.length := by
  obtain ⟨ce, id, sz, la, a, b⟩ := R
  have := (List.getElem?_eq_some_iff.mp a.2.2.2.2).1
  omega
set_option maxRecDepth 100000 in
theorem msk_U {t t' : ab_H} {Ks : List Nat} (hk : k ∈ Ks) (h : frU k t t') : msk (mBk Ks) t' = msk (mBk Ks) t := by
  refine List.ext_getElem? (fun j => ?_)
  cases hm : mBk Ks j with
  | false =>
    rw [msk_n hm, msk_n hm]
    exact h.2 j (fun z => by rw [mBk_i.mpr ⟨k, hk, z⟩] at hm; cases hm)
  | true =>
    unfold msk
    rw [List.getElem?_mapIdx, List.getElem?_mapIdx, hm]
    by_cases hj : j < t.length
    · rw [List.getElem?_eq_getElem hj, List.getElem?_eq_getElem (by rw [h.1]; exact hj)]
      rfl
    · rw [List.getElem?_eq_none (l := t') (by rw [h.1]; omega), List.getElem?_eq_none (l := t) (by omega)]
set_option maxRecDepth 100000 in
theorem msk_c {t q : ab_H} {Ks : List Nat} (h : bkO Ks t.length) (hq : q.length = 5) : msk (mBk (t.length :: Ks)) (t ++ q) = msk (mBk Ks) t ++ [dC, dC, dC, dC, dC] := by
  refine List.ext_getElem? (fun j => ?_)
  by_cases hj : j < t.length
  · rw [List.getElem?_append_left (by rw [msk_l]; exact hj)]
    have e : mBk (t.length :: Ks) j = mBk Ks j := by
      unfold mBk
      rw [List.any_cons, decide_eq_false (by omega), Bool.false_or]
    unfold msk
    rw [List.getElem?_mapIdx, List.getElem?_mapIdx, e, List.getElem?_append_left hj]
  · rw [List.getElem?_append_right (by rw [msk_l]; omega), msk_l]
    by_cases h5 : j < t.length + 5
    · rw [msk_y (mBk_i.mpr ⟨t.length, List.mem_cons_self, by omega, h5⟩) (by rw [List.length_append, hq]; exact h5)]
      obtain ⟨i, hi, e⟩ : ∃ i, i < 5 ∧ j - t.length = i := ⟨_, by omega, rfl⟩
      rw [e]
      rcases (by omega : i = 0 ∨ i = 1 ∨ i = 2 ∨ i = 3 ∨ i = 4) with rfl | rfl | rfl | rfl | rfl <;> rfl
    · rw [List.getElem?_eq_none (by rw [msk_l, List.length_append, hq]; omega), List.getElem?_eq_none (by show 5 ≤ _; omega)]
set_option maxRecDepth 100000 in
theorem msk_a {t q : ab_H} {Ks : List Nat} (h : bkO Ks t.length) : msk (mBk Ks) (t ++ q) = msk (mBk Ks) t ++ q := by
  refine List.ext_getElem? (fun j => ?_)
  by_cases hj : j < t.length
  · rw [List.getElem?_append_left (by rw [msk_l]; exact hj)]
    unfold msk
    rw [List.getElem?_mapIdx, List.getElem?_mapIdx, List.getElem?_append_left hj]
  · have hm : mBk Ks j = false := by
      cases e : mBk Ks j with
      | false => rfl
      | true => exact absurd (bkO_h h j e) hj
    rw [msk_n hm, List.getElem?_append_right (by omega), List.getElem?_append_right (by rw [msk_l]; omega), msk_l]
end RMT
