/-! A RUN WITH LOCALS in another order, or with more of them -/
set_option maxRecDepth 100000 in
theorem Wd_al {L : Nat} {xs : Nat → Int32} {d pc sl : Nat} {y : mc_T} {al al' : List (Nat × Value)} {st : List Value} {h : ab_H} {P : Option Value → ab_H → Nat → Prop} {X : Nat → ab_H → Nat → Prop} (hs : sba al al') (w : Wd L xs d y (pc, al, st, h, sl) P X) : Wd L xs d y (pc, al', st, h, sl) P X := by
  intro fr lo b
  obtain ⟨r, ⟨k, hk⟩, hq⟩ := w fr lo b
  exact ⟨r, ⟨k, ev_al L xs k fr lo y pc al al' st h sl r hs hk⟩, hq⟩
set_option maxRecDepth 100000 in
theorem sba_e {a b c u v : Value} : sba [(1, a), (0, b)] [(2, c), (4, u), (3, v), (1, a), (0, b)] := by
  refine ⟨fun q hq => ?_, ?_⟩
  · simp only [List.mem_cons, List.not_mem_nil, or_false] at hq ⊢
    rcases hq with rfl | rfl <;> simp
  · unfold wfa
    simp
