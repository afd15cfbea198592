/-! FORMULAS, 6: factors, terms and sums -/
section TRM
variable {L : Nat} {xs : Nat → Int32} {t : ab_H} {n m : Nat} {B : Nat → Nat} {C0 C : co_T} {E : fe_T} {f : Nat}
set_option maxRecDepth 100000 in
theorem fac_r (e : eK B n C0 E) (ih0 : Gr L xs B n m C0 t E f 0 y_64 12) (ih3 : Gr L xs B n m C0 t E f 3 y_62 14) : Gr L xs B n m C0 t E (f + 1) 0 y_64 12 := by
  intro s z C h F
  obtain ⟨K, V, rt, tt, hN, hO⟩ := E
  obtain ⟨e1, e2, e3, e4, e5, e6⟩ := e
  simp only at e1 e2 e3 e4 e5 e6
  subst e1
  subst e2
  unfold rd at h
  simp only at h
  by_cases k4 : kd B n s.1 = 4
  · rw [if_pos k4] at h
    exact fn_ok F k4 h
  rw [if_neg k4] at h
  by_cases k27 : kd B n s.1 = 27
  · rw [if_pos k27] at h
    exact fu_ok F k27 h
  rw [if_neg k27] at h
  by_cases k3 : kd B n s.1 = 3
  · rw [if_pos k3] at h
    unfold lfc clm at h
    simp only [k3, if_true] at h
    cases rt with
    | none => cases h
    | some g =>
      obtain ⟨b, w, hb, hw, hx, h8, hg⟩ := e3
      subst hg
      simp only at h
      split at h
      · rename_i he
        split at he
        · cases h
        · cases he
      · rename_i c1 he
        split at he
        · cases he
        · rename_i hm
          cases he
          exact fm_ok F hb hw hx h8 k3 hm h
  rw [if_neg k3] at h
  by_cases k24 : kd B n s.1 = 24
  · rw [if_pos k24] at h
    split at h
    · rename_i hN1
      have hx := e5.mp hN1
      obtain ⟨y, h1, h2⟩ := bnd_s h
      unfold xpt at h1
      split at h1
      · rename_i kd1
        cases h1
        unfold lfc clm at h2
        cases tt with
        | none => exact absurd e4 hx.1
        | some g =>
          obtain ⟨b, w, hb, hw, hx8, h8, hg⟩ := e4
          subst hg
          simp only at h2
          split at h2
          · cases h2
          · rename_i c1 he
            split at he
            · rename_i kn
              split at he
              · cases he
              · rename_i hm
                cases he
                exact fw_ok F hb hw hx8 h8 k24 hx.1 hx.2 kd1 kn hm h2
            · cases he
      · cases h1
    · cases h
  rw [if_neg k24] at h
  by_cases k28 : kd B n s.1 = 28
  · rw [if_pos k28] at h
    split at h
    · rename_i hN1
      have hx := e6.mp hN1
      obtain ⟨y, h1, h2⟩ := bnd_s h
      unfold xpt at h1
      split at h1
      · rename_i kd1
        cases h1
        unfold lfc clm at h2
        cases tt with
        | none => exact absurd e4 hx.1
        | some g =>
          obtain ⟨b, w, hb, hw, hx8, h8, hg⟩ := e4
          subst hg
          simp only at h2
          split at h2
          · cases h2
          · rename_i c1 he
            split at he
            · rename_i kn
              split at he
              · cases he
              · rename_i hm
                cases he
                exact fd_ok F hb hw hx8 h8 k28 hx.1 hx.2 kd1 kn hm h2
            · cases he
      · cases h1
    · cases h
  rw [if_neg k28] at h
  by_cases k57 : kd B n s.1 = 57
  · rw [if_pos k57] at h
    obtain ⟨y, h1, h⟩ := bnd_s h
    obtain ⟨x, h2, h⟩ := bnd_s h
    obtain ⟨u, h3, h⟩ := bnd_s h
    cases h
    exact fz_r F k3 k4 k24 k27 k28 (i7_4 F ih0 k57 h1 h2 h3 rfl)
  rw [if_neg k57] at h
  by_cases k44 : kd B n s.1 = 44
  · rw [if_pos k44] at h
    obtain ⟨y, h1, h⟩ := bnd_s h
    obtain ⟨u, h2, h⟩ := bnd_s h
    obtain ⟨x, h3, h⟩ := bnd_s h
    unfold xpt at h3
    split at h3
    · rename_i kc
      cases h3
      cases h
      exact fz_r F k3 k4 k24 k27 k28 (i4_4 F ih3 k44 h1 h2 kc rfl)
    · cases h3
  rw [if_neg k44] at h
  cases h
set_option maxRecDepth 100000 in
theorem fac_e (e : eK B n C0 E) (ih0 : Gr L xs B n m C0 t E f 0 y_64 12) (ih3 : Gr L xs B n m C0 t E f 3 y_62 14) (jh0 : Ge L xs B n m C0 t E f 0 y_64 12) (jh3 : Ge L xs B n m C0 t E f 3 y_62 14) : Ge L xs B n m C0 t E (f + 1) 0 y_64 12 := by
  intro s c i C h hc F
  obtain ⟨K, V, rt, tt, hN, hO⟩ := E
  obtain ⟨e1, e2, e3, e4, e5, e6⟩ := e
  simp only at e1 e2 e3 e4 e5 e6
  subst e1
  subst e2
  unfold rd at h
  simp only at h
  by_cases k4 : kd B n s.1 = 4
  · rw [if_pos k4] at h
    exact fn_er F k4 h
  rw [if_neg k4] at h
  by_cases k27 : kd B n s.1 = 27
  · rw [if_pos k27] at h
    exact fu_er F k27 h
  rw [if_neg k27] at h
  by_cases k3 : kd B n s.1 = 3
  · rw [if_pos k3] at h
    unfold lfc clm at h
    simp only [k3, if_true] at h
    cases rt with
    | none =>
      cases h
      exact fm_no F k3 e3 rfl rfl
    | some g =>
      obtain ⟨b, w, hb, hw, hx, h8, hg⟩ := e3
      subst hg
      simp only at h
      split at h
      · rename_i he
        split at he
        · rename_i hm
          cases he
          cases h
          exact fm_un F hb hw hx h8 k3 hm rfl rfl
        · cases he
      · rename_i c1 he
        split at he
        · cases he
        · rename_i hm
          cases he
          exact fm_er F hb hw hx h8 k3 hm h
  rw [if_neg k3] at h
  by_cases k24 : kd B n s.1 = 24
  · rw [if_pos k24] at h
    split at h
    · rename_i hN1
      have hx := e5.mp hN1
      rcases bnd_e h with h1 | ⟨y, h1, h2⟩
      · unfold xpt at h1
        split at h1
        · cases h1
        · rename_i kd1
          cases h1
          exact fw_nd F k24 hx.1 hx.2 kd1 rfl rfl
      · unfold xpt at h1
        split at h1
        · rename_i kd1
          cases h1
          unfold lfc clm at h2
          cases tt with
          | none => exact absurd e4 hx.1
          | some g =>
            obtain ⟨b, w, hb, hw, hx8, h8, hg⟩ := e4
            subst hg
            simp only at h2
            split at h2
            · rename_i he
              split at he
              · rename_i kn
                split at he
                · rename_i hm
                  cases he
                  cases h2
                  exact fw_un F hb hw hx8 h8 k24 hx.1 hx.2 kd1 kn hm rfl rfl
                · cases he
              · rename_i kn
                cases he
                cases h2
                exact fw_nn F k24 hx.1 hx.2 kd1 kn rfl rfl
            · rename_i c1 he
              split at he
              · rename_i kn
                split at he
                · cases he
                · rename_i hm
                  cases he
                  exact fw_er F hb hw hx8 h8 k24 hx.1 hx.2 kd1 kn hm h2
              · cases he
        · cases h1
    · rename_i hN1
      cases h
      refine fw_no F k24 ?_ rfl rfl
      by_cases a : C0.1 21 8 = -1
      · exact Or.inl a
      · by_cases b : C0.1 21 9 = 2
        · exact Or.inr b
        · exact absurd (e5.mpr ⟨a, b⟩) hN1
  rw [if_neg k24] at h
  by_cases k28 : kd B n s.1 = 28
  · rw [if_pos k28] at h
    split at h
    · rename_i hN1
      have hx := e6.mp hN1
      rcases bnd_e h with h1 | ⟨y, h1, h2⟩
      · unfold xpt at h1
        split at h1
        · cases h1
        · rename_i kd1
          cases h1
          exact fd_nd F k28 hx.1 hx.2 kd1 rfl rfl
      · unfold xpt at h1
        split at h1
        · rename_i kd1
          cases h1
          unfold lfc clm at h2
          cases tt with
          | none => exact absurd e4 hx.1
          | some g =>
            obtain ⟨b, w, hb, hw, hx8, h8, hg⟩ := e4
            subst hg
            simp only at h2
            split at h2
            · rename_i he
              split at he
              · rename_i kn
                split at he
                · rename_i hm
                  cases he
                  cases h2
                  exact fd_un F hb hw hx8 h8 k28 hx.1 hx.2 kd1 kn hm rfl rfl
                · cases he
              · rename_i kn
                cases he
                cases h2
                exact fd_nn F k28 hx.1 hx.2 kd1 kn rfl rfl
            · rename_i c1 he
              split at he
              · rename_i kn
                split at he
                · cases he
                · rename_i hm
                  cases he
                  exact fd_er F hb hw hx8 h8 k28 hx.1 hx.2 kd1 kn hm h2
              · cases he
        · cases h1
    · rename_i hN1
      cases h
      refine fd_no F k28 ?_ rfl rfl
      by_cases a : C0.1 21 8 = -1
      · exact Or.inl a
      · by_cases b : C0.1 21 9 = 0
        · exact Or.inr b
        · exact absurd (e6.mpr ⟨a, b⟩) hN1
  rw [if_neg k28] at h
  by_cases k57 : kd B n s.1 = 57
  · rw [if_pos k57] at h
    refine fz_e F k3 k4 k24 k27 k28 ?_
    rcases bnd_e h with h1 | ⟨y, h1, h⟩
    · exact i7_1 F k57 h1
    rcases bnd_e h with h2 | ⟨x, h2, h⟩
    · exact i7_2 F k57 h1 h2
    rcases bnd_e h with h3 | ⟨u, h3, h⟩
    · exact i7_3 F jh0 k57 h1 h2 h3 hc
    · cases h
  rw [if_neg k57] at h
  by_cases k44 : kd B n s.1 = 44
  · rw [if_pos k44] at h
    refine fz_e F k3 k4 k24 k27 k28 ?_
    rcases bnd_e h with h1 | ⟨y, h1, h⟩
    · exact i4_1 F k44 h1
    rcases bnd_e h with h2 | ⟨u, h2, h⟩
    · exact i4_2 F jh3 k44 h1 h2 hc
    rcases bnd_e h with h3 | ⟨x, h3, h⟩
    · unfold xpt at h3
      split at h3
      · cases h3
      · rename_i kc
        cases h3
        exact i4_3 F ih3 k44 h1 h2 kc rfl rfl
    · cases h
  rw [if_neg k44] at h
  cases h
  exact fz_e F k3 k4 k24 k27 k28 (i0 F k57 k44 rfl rfl)
end TRM
