/-! FORMULAS, 2: how far the reading goes; the state that one side keeps -/
set_option maxRecDepth 100000 in
theorem fle_r (s : fs_T) : fle s s := ⟨Nat.le_refl _, Nat.le_refl _, rfl⟩
set_option maxRecDepth 100000 in
theorem fle_t {a b c : fs_T} (h : fle a b) (g : fle b c) : fle a c := by
  unfold fle at h g ⊢
  omega
set_option maxRecDepth 100000 in
theorem nsm_s {E : fe_T} {s z : fs_T} (h : nsm E s = .inr z) : s.1 + 1 = z.1 ∧ z.2.1.length = s.2.1.length + 1 ∧ z.2.2.1 = s.2.2.1 := by
  unfold nsm at h
  split at h
  · cases h
    exact ⟨rfl, by show (s.2.1 ++ [_]).length = _; rw [List.length_append, List.length_singleton], rfl⟩
  · obtain ⟨y, h1, h2⟩ := bnd_s h
    have h3 := xpt_s h1
    subst h3
    cases h2
    exact ⟨rfl, by show (s.2.1 ++ [_]).length = _; rw [List.length_append, List.length_singleton], rfl⟩
/-! a sign between two that are read -/
set_option maxRecDepth 100000 in
theorem fle_o {s y x : fs_T} {a b : Int32} (h1 : spd s = .inr y) (h2 : fle (nxt y) x) : fle s (emt x a b) ∧ x.2.1.length + 1 ≤ s.2.1.length + x.1 - s.1 ∧ s.1 + 1 ≤ x.1 := by
  have h3 := spd_s h1
  have e1 : (nxt y).1 = y.1 + 1 := rfl
  have e2 : (nxt y).2 = y.2 := rfl
  have e3 : (emt x a b).2.1.length = x.2.1.length + 1 := by show (x.2.1 ++ [_]).length = _; rw [List.length_append, List.length_singleton]
  have e4 : (emt x a b).1 = x.1 := rfl
  have e5 : (emt x a b).2.2 = x.2.2 := rfl
  unfold fle at h2 ⊢
  rw [e1, e2, h3.1, h3.2.1, h3.2.2] at h2
  rw [e3, e4, e5]
  omega
set_option maxRecDepth 100000 in
theorem fle_g {s y z : fs_T} (h1 : gin s = .inr y) (h2 : fle y z) : fle s (gou z) := by
  have h3 := (gin_s h1).1
  subst h3
  have e1 : (gou z).1 = z.1 := rfl
  have e2 : (gou z).2.1 = z.2.1 := rfl
  have e3 : (gou z).2.2.1 = z.2.2.1 - 1 := rfl
  unfold fle at h2 ⊢
  rw [e1, e2, e3]
  simp only at h2
  omega
set_option maxRecDepth 100000 in
theorem fle_x {s z : fs_T} (h : fle s z) : fle s (nxt z) := by
  have e1 : (nxt z).1 = z.1 + 1 := rfl
  have e2 : (nxt z).2 = z.2 := rfl
  unfold fle at h ⊢
  rw [e1, e2]
  omega
set_option maxRecDepth 100000 in
theorem fle_gs {s y : fs_T} (h : spd s = .inr y) : fle s y := by
  have := spd_s h
  unfold fle
  rw [this.1, this.2.1, this.2.2]
  omega
set_option maxRecDepth 100000 in
theorem rd_fle {E : fe_T} : ∀ (f md : Nat) (s z : fs_T), rd E f md s = .inr z → fle s z
  | 0, _, _, _, h => by cases h
  | f + 1, md, s, z, h => by
    have ih := rd_fle (E := E) f
    unfold rd at h
    split at h
    · split at h
      · exact lef_s h
      · split at h
        · exact lef_s h
        · split at h
          · exact lfc_s h
          · split at h
            · split at h
              · obtain ⟨y, h1, h2⟩ := bnd_s h
                have := xpt_s h1
                subst this
                exact fle_n (fle_n (lfc_s h2))
              · cases h
            · split at h
              · split at h
                · obtain ⟨y, h1, h2⟩ := bnd_s h
                  have := xpt_s h1
                  subst this
                  exact fle_n (fle_n (lfc_s h2))
                · cases h
              · split at h
                · obtain ⟨y, h1, h2⟩ := bnd_s h
                  obtain ⟨x, h3, h4⟩ := bnd_s h2
                  obtain ⟨w, h5, h6⟩ := bnd_s h4
                  cases h6
                  exact fle_g h1 (fle_o h3 (ih _ _ _ h5)).1
                · split at h
                  · obtain ⟨y, h1, h2⟩ := bnd_s h
                    obtain ⟨x, h3, h4⟩ := bnd_s h2
                    obtain ⟨w, h5, h6⟩ := bnd_s h4
                    have := xpt_s h5
                    subst this
                    cases h6
                    exact fle_g h1 (fle_x (fle_n (ih _ _ _ h3)))
                  · cases h
    · obtain ⟨y, h1, h2⟩ := bnd_s h
      exact fle_t (ih _ _ _ h1) (ih _ _ _ h2)
    · split at h
      · obtain ⟨y, h1, h2⟩ := bnd_s h
        obtain ⟨x, h3, h4⟩ := bnd_s h2
        exact fle_t (fle_o h1 (ih _ _ _ h3)).1 (ih _ _ _ h4)
      · cases h
        exact fle_r _
    · obtain ⟨y, h1, h2⟩ := bnd_s h
      exact fle_t (ih _ _ _ h1) (ih _ _ _ h2)
    · split at h
      · obtain ⟨y, h1, h2⟩ := bnd_s h
        obtain ⟨x, h3, h4⟩ := bnd_s h2
        exact fle_t (fle_o h1 (ih _ _ _ h3)).1 (ih _ _ _ h4)
      · cases h
        exact fle_r _
    · split at h
      · obtain ⟨y, h1, h2⟩ := bnd_s h
        obtain ⟨x, h3, h4⟩ := bnd_s h2
        obtain ⟨w, h5, h6⟩ := bnd_s h4
        cases h6
        exact fle_g h1 (fle_o h3 (ih _ _ _ h5)).1
      · split at h
        · obtain ⟨y, h1, h2⟩ := bnd_s h
          obtain ⟨x, h3, h4⟩ := bnd_s h2
          obtain ⟨w, h5, h6⟩ := bnd_s h4
          have := xpt_s h5
          subst this
          cases h6
          exact fle_g h1 (fle_x (fle_n (ih _ _ _ h3)))
        · obtain ⟨y, h1, h2⟩ := bnd_s h
          have hy := ih _ _ _ h1
          split at h2
          · cases h2
          · obtain ⟨x, h3, h4⟩ := bnd_s h2
            have hx := spd_s h3
            split at h4
            · have := nsm_s h4
              have e1 : (nxt x).1 = x.1 + 1 := rfl
              have e2 : (nxt x).2 = x.2 := rfl
              rw [e1, e2, hx.1, hx.2.1, hx.2.2] at this
              unfold fle at hy ⊢
              omega
            · obtain ⟨w, h5, h6⟩ := bnd_s h4
              cases h6
              exact fle_t hy (fle_o h3 (ih _ _ _ h5)).1
    · obtain ⟨y, h1, h2⟩ := bnd_s h
      exact fle_t (ih _ _ _ h1) (ih _ _ _ h2)
    · split at h
      · obtain ⟨y, h1, h2⟩ := bnd_s h
        obtain ⟨x, h3, h4⟩ := bnd_s h2
        exact fle_t (fle_o h1 (ih _ _ _ h3)).1 (ih _ _ _ h4)
      · cases h
        exact fle_r _
    · obtain ⟨y, h1, h2⟩ := bnd_s h
      exact fle_t (ih _ _ _ h1) (ih _ _ _ h2)
    · split at h
      · obtain ⟨y, h1, h2⟩ := bnd_s h
        obtain ⟨x, h3, h4⟩ := bnd_s h2
        exact fle_t (fle_o h1 (ih _ _ _ h3)).1 (ih _ _ _ h4)
      · cases h
        exact fle_r _
/-! the state that one side keeps -/
section FKS
variable {B : Nat → Nat} {n m : Nat} {C0 C C' : co_T} {s : fs_T}
def frF (C C' : co_T) : Prop := (∀ k j, k ≠ 22 → k ≠ 23 → ¬ (k = 1 ∧ (j = 5 ∨ j = 7)) → ¬ (k = 21 ∧ (j = 4 ∨ j = 5 ∨ j = 6)) → C'.1 k j = C.1 k j) ∧ (∀ k j, ¬ (k = 1 ∧ j = 8) → C'.2.1 k j = C.2.1 k j) ∧ (∀ k j, ¬ (k = 1 ∧ j = 6) → C'.2.2 k j = C.2.2 k j)
set_option maxRecDepth 100000 in
theorem frF_t {C1 C2 C3 : co_T} (h : frF C1 C2) (g : frF C2 C3) : frF C1 C3 := ⟨fun k j a b c e => (g.1 k j a b c e).trans (h.1 k j a b c e), fun k j a => (g.2.1 k j a).trans (h.2.1 k j a), fun k j a => (g.2.2 k j a).trans (h.2.2 k j a)⟩
set_option maxRecDepth 100000 in
theorem frF_r : frF C C := ⟨fun _ _ _ _ _ _ => rfl, fun _ _ _ => rfl, fun _ _ _ => rfl⟩
set_option maxRecDepth 100000 in
theorem frF_I {k j : Nat} {v : Int32} (h : k = 22 ∨ k = 23 ∨ (k = 1 ∧ (j = 5 ∨ j = 7)) ∨ (k = 21 ∧ (j = 4 ∨ j = 5 ∨ j = 6))) : frF C (sI C k j v) := ⟨fun a b h1 h2 h3 h4 => by rw [sI_1, if_neg (by omega)], fun _ _ _ => rfl, fun _ _ _ => rfl⟩
set_option maxRecDepth 100000 in
theorem frF_n {i : Nat} : frF C (nxT B n C i) := by
  have h := nxT_fr (C := C) (B := B) (n := n) (i := i)
  exact ⟨fun k j _ _ h3 _ => h.1 k j h3, h.2.1, h.2.2⟩
set_option maxRecDepth 100000 in
theorem frF_e {u : Nat} {a b : Int32} : frF C (emC C u a b) := frF_t (frF_t (frF_I (by omega)) (frF_I (by omega))) (frF_I (by omega))
def lfK (x : Int32) : Option Nat → Prop
  | none => x = -1
  | some k => x = nI k ∧ k ≤ 400
def FK (B : Nat → Nat) (n m : Nat) (C0 C : co_T) (s : fs_T) : Prop := tkS B n m C s.1 ∧ s.2.1.length ≤ s.1 ∧ C.1 21 4 = nI s.2.1.length ∧ (∀ j q, s.2.1[j]? = some q → C.1 22 j = q.1 ∧ C.1 23 j = q.2) ∧ C.1 21 5 = nI s.2.2.1 ∧ s.2.2.1 ≤ 10 ∧ lfK (C.1 21 6) s.2.2.2 ∧ frF C0 C
set_option maxRecDepth 100000 in
theorem FK_n (F : FK B n m C0 C s) (h1 : kd B n s.1 ≠ 1) (h2 : kd B n s.1 ≠ 2) : FK B n m C0 (nxT B n C s.1) (nxt s) := by
  obtain ⟨S, hl, hu, ho, hq, h10, hL, hf⟩ := F
  exact ⟨nxT_S S h1 h2, Nat.le_succ_of_le hl, hu, ho, hq, h10, hL, frF_t hf frF_n⟩
set_option maxRecDepth 100000 in
theorem tkS_fr {i : Nat} (S : tkS B n m C i) (h : ∀ k j, k ≤ 5 → C'.1 k j = C.1 k j) (h2 : C'.2 = C.2) : tkS B n m C' i := by
  obtain ⟨T, h3, h4, h5, h6, h7, h8, h9⟩ := S
  refine ⟨tpK_of T (h 1 4 (by decide)) (fun j => h 2 j (by decide)), h3, fun j hj => ?_, h5, ?_, ?_, ?_, ?_⟩
  · have := h4 j hj
    rw [h2, h 4 j (by decide)]
    exact this
  · rw [h 1 5 (by decide)]
    exact h6
  · rw [h2]
    exact h7
  · rw [h 1 7 (by decide)]
    exact h8
  · rw [h2]
    exact h9
set_option maxRecDepth 100000 in
theorem emC_lo {u : Nat} {a b : Int32} : ∀ k j, k ≤ 5 → (emC C u a b).1 k j = C.1 k j := by
  intro k j hk
  unfold emC
  rw [sI_1, if_neg (by omega), sI_1, if_neg (by omega), sI_1, if_neg (by omega)]
set_option maxRecDepth 100000 in
theorem emC_op {a b : Int32} {l : List (Int32 × Int32)} (ho : ∀ j q, l[j]? = some q → C.1 22 j = q.1 ∧ C.1 23 j = q.2) : ∀ j q, (l ++ [(a, b)])[j]? = some q → (emC C l.length a b).1 22 j = q.1 ∧ (emC C l.length a b).1 23 j = q.2 := by
  intro j q hq
  have e22 : (emC C l.length a b).1 22 j = if j = l.length then a else C.1 22 j := by
    unfold emC
    rw [sI_1, if_neg (by omega), sI_1, if_neg (by omega), sI_1]
    simp
  have e23 : (emC C l.length a b).1 23 j = if j = l.length then b else C.1 23 j := by
    unfold emC
    rw [sI_1, if_neg (by omega), sI_1]
    simp only [true_and]
    split
    · rfl
    · rw [sI_1, if_neg (by omega)]
  rw [e22, e23]
  by_cases hj : j < l.length
  · rw [List.getElem?_append_left hj] at hq
    rw [if_neg (by omega), if_neg (by omega)]
    exact ho j q hq
  · by_cases hj2 : j = l.length
    · subst hj2
      rw [List.getElem?_append_right (Nat.le_refl _), Nat.sub_self] at hq
      cases hq
      rw [if_pos rfl, if_pos rfl]
      exact ⟨rfl, rfl⟩
    · rw [List.getElem?_eq_none (by rw [List.length_append, List.length_singleton]; omega)] at hq
      cases hq
set_option maxRecDepth 100000 in
theorem FK_e {a b : Int32} (F : FK B n m C0 C s) (h : s.2.1.length + 1 ≤ s.1) : FK B n m C0 (emC C s.2.1.length a b) (emt s a b) := by
  obtain ⟨S, hl, hu, ho, hq, h10, hL, hf⟩ := F
  have hlen : (emt s a b).2.1.length = s.2.1.length + 1 := by show (s.2.1 ++ [_]).length = _; rw [List.length_append, List.length_singleton]
  refine ⟨tkS_fr S emC_lo rfl, by rw [hlen]; exact h, by rw [hlen]; rfl, emC_op ho, hq, h10, hL, frF_t hf frF_e⟩
/-! an operation, then the step -/
set_option maxRecDepth 100000 in
theorem FK_en {a b : Int32} (F : FK B n m C0 C s) (h1 : kd B n s.1 ≠ 1) (h2 : kd B n s.1 ≠ 2) : tkS B n m (emC C s.2.1.length a b) s.1 ∧ FK B n m C0 (nxT B n (emC C s.2.1.length a b) s.1) (nxt (emt s a b)) := by
  obtain ⟨S, hl, hu, ho, hq, h10, hL, hf⟩ := F
  have hlen : (nxt (emt s a b)).2.1.length = s.2.1.length + 1 := by show (s.2.1 ++ [_]).length = _; rw [List.length_append, List.length_singleton]
  have S2 : tkS B n m (emC C s.2.1.length a b) s.1 := tkS_fr S emC_lo rfl
  refine ⟨S2, nxT_S S2 h1 h2, by rw [hlen]; exact Nat.succ_le_succ hl, by rw [hlen]; rfl, fun j q z => emC_op ho j q z, hq, h10, hL, frF_t hf (frF_t frF_e frF_n)⟩
set_option maxRecDepth 100000 in
theorem FK_o (F : FK B n m C0 C s) (h : s.2.2.1 < 10) : FK B n m C0 (sI C 21 5 (nI (s.2.2.1 + 1))) (s.1, s.2.1, s.2.2.1 + 1, s.2.2.2) := by
  obtain ⟨S, hl, hu, ho, hq, h10, hL, hf⟩ := F
  exact ⟨tkS_fr S (fun k j hk => by rw [sI_1, if_neg (by omega)]) rfl, hl, hu, ho, rfl, h, hL, frF_t hf (frF_I (by omega))⟩
set_option maxRecDepth 100000 in
theorem FK_c (F : FK B n m C0 C s) (h : 1 ≤ s.2.2.1) : FK B n m C0 (sI C 21 5 (nI (s.2.2.1 - 1))) (gou s) := by
  obtain ⟨S, hl, hu, ho, hq, h10, hL, hf⟩ := F
  exact ⟨tkS_fr S (fun k j hk => by rw [sI_1, if_neg (by omega)]) rfl, hl, hu, ho, rfl, Nat.le_trans (Nat.sub_le _ _) h10, hL, frF_t hf (frF_I (by omega))⟩
set_option maxRecDepth 100000 in
theorem FK_sp {k : Nat} (F : FK B n m C0 C s) (h : s.2.2.2 = some (k + 1)) : FK B n m C0 (sI C 21 6 (nI k)) (s.1, s.2.1, s.2.2.1, some k) := by
  obtain ⟨S, hl, hu, ho, hq, h10, hL, hf⟩ := F
  rw [h] at hL
  exact ⟨tkS_fr S (fun k j hk => by rw [sI_1, if_neg (by omega)]) rfl, hl, hu, ho, hq, h10, ⟨rfl, Nat.le_trans (Nat.le_succ _) hL.2⟩, frF_t hf (frF_I (by omega))⟩
end FKS
