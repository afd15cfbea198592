
/-! NODES: as many are spent as there are operations -/
def nde (s z : fs_T) : Prop := (s.2.2.2 = none ∧ z.2.2.2 = none) ∨ ∃ a b, s.2.2.2 = some a ∧ z.2.2.2 = some b ∧ a + s.2.1.length = b + z.2.1.length
set_option maxRecDepth 100000 in
theorem nde_r (s : fs_T) : nde s s := by
  cases h : s.2.2.2 with
  | none => exact Or.inl ⟨h, h⟩
  | some a => exact Or.inr ⟨a, a, h, h, rfl⟩
set_option maxRecDepth 100000 in
theorem nde_t {x y z : fs_T} (h : nde x y) (g : nde y z) : nde x z := by
  rcases h with ⟨h1, h2⟩ | ⟨a, b, h1, h2, h3⟩
  · rcases g with ⟨g1, g2⟩ | ⟨c, d, g1, g2, g3⟩
    · exact Or.inl ⟨h1, g2⟩
    · rw [h2] at g1
      cases g1
  · rcases g with ⟨g1, g2⟩ | ⟨c, d, g1, g2, g3⟩
    · rw [h2] at g1
      cases g1
    · rw [h2] at g1
      cases g1
      exact Or.inr ⟨a, d, h1, g2, by omega⟩
set_option maxRecDepth 100000 in
theorem nde_n {s z : fs_T} (h : nde (nxt s) z) : nde s z := h
set_option maxRecDepth 100000 in
theorem nde_x {s z : fs_T} (h : nde s z) : nde s (nxt z) := h
set_option maxRecDepth 100000 in
theorem nde_e {s z : fs_T} {a b : Int32} (h : spd s = .inr z) : nde s (emt z a b) := by
  have e3 : (emt z a b).2.1.length = z.2.1.length + 1 := by show (z.2.1 ++ [_]).length = _; rw [List.length_append, List.length_singleton]
  have e5 : (emt z a b).2.2 = z.2.2 := rfl
  unfold nde
  rw [e3, e5]
  unfold spd at h
  split at h
  · rename_i h1
    cases h
    exact Or.inl ⟨h1, h1⟩
  · cases h
  · rename_i k h1
    cases h
    refine Or.inr ⟨k + 1, k, h1, rfl, ?_⟩
    show k + 1 + s.2.1.length = k + (s.2.1.length + 1)
    omega
set_option maxRecDepth 100000 in
theorem nde_o {s y x : fs_T} {a b : Int32} (h1 : spd s = .inr y) (h2 : nde (nxt y) x) : nde s (emt x a b) := by
  have e3 : (emt x a b).2.1.length = x.2.1.length + 1 := by show (x.2.1 ++ [_]).length = _; rw [List.length_append, List.length_singleton]
  have e5 : (emt x a b).2.2 = x.2.2 := rfl
  have e6 : (nxt y).2 = y.2 := rfl
  have hs := spd_s h1
  unfold nde at h2 ⊢
  rw [e3, e5]
  rw [e6] at h2
  unfold spd at h1
  split at h1
  · rename_i g1
    cases h1
    rcases h2 with h2 | ⟨c, d, h3, _, _⟩
    · exact Or.inl h2
    · rw [g1] at h3
      cases h3
  · cases h1
  · rename_i k g1
    cases h1
    rcases h2 with ⟨h2, _⟩ | ⟨c, d, h3, h4, h5⟩
    · cases h2
    · cases h3
      refine Or.inr ⟨k + 1, d, g1, h4, ?_⟩
      have h5 : k + s.2.1.length = d + x.2.1.length := h5
      omega
set_option maxRecDepth 100000 in
theorem nde_g {s y z : fs_T} (h1 : gin s = .inr y) (h2 : nde y z) : nde s (gou z) := by
  have h3 := (gin_s h1).1
  subst h3
  exact h2
set_option maxRecDepth 100000 in
theorem lef_d {s z : fs_T} {a b : Int32} (h : lef s a b = .inr z) : nde s z := by
  obtain ⟨y, h1, h2⟩ := bnd_s h
  cases h2
  exact nde_x (nde_e h1)
set_option maxRecDepth 100000 in
theorem lfc_d {E : fe_T} {r : Option (Int64 → Int32)} {s z : fs_T} {a : Int32} (h : lfc E r s a = .inr z) : nde s z := by
  unfold lfc at h
  split at h
  · cases h
  · exact lef_d h
set_option maxRecDepth 100000 in
theorem nsm_d {E : fe_T} {s y z : fs_T} (h1 : spd s = .inr y) (h : nsm E (nxt y) = .inr z) : nde s z := by
  unfold nsm at h
  split at h
  · cases h
    exact nde_o h1 (nde_x (nde_r _))
  · obtain ⟨x, h2, h3⟩ := bnd_s h
    have := xpt_s h2
    subst this
    cases h3
    exact nde_o h1 (nde_x (nde_r _))
set_option maxRecDepth 100000 in
theorem rd_nd {E : fe_T} : ∀ (f md : Nat) (s z : fs_T), rd E f md s = .inr z → nde s z
  | 0, _, _, _, h => by cases h
  | f + 1, md, s, z, h => by
    have ih := rd_nd (E := E) f
    unfold rd at h
    split at h
    · split at h
      · exact lef_d h
      · split at h
        · exact lef_d h
        · split at h
          · exact lfc_d h
          · split at h
            · split at h
              · obtain ⟨y, h1, h2⟩ := bnd_s h
                have := xpt_s h1
                subst this
                exact nde_n (nde_n (lfc_d h2))
              · cases h
            · split at h
              · split at h
                · obtain ⟨y, h1, h2⟩ := bnd_s h
                  have := xpt_s h1
                  subst this
                  exact nde_n (nde_n (lfc_d h2))
                · cases h
              · split at h
                · obtain ⟨y, h1, h2⟩ := bnd_s h
                  obtain ⟨x, h3, h4⟩ := bnd_s h2
                  obtain ⟨w, h5, h6⟩ := bnd_s h4
                  cases h6
                  exact nde_g h1 (nde_o h3 (ih _ _ _ h5))
                · split at h
                  · obtain ⟨y, h1, h2⟩ := bnd_s h
                    obtain ⟨x, h3, h4⟩ := bnd_s h2
                    obtain ⟨w, h5, h6⟩ := bnd_s h4
                    have := xpt_s h5
                    subst this
                    cases h6
                    exact nde_g h1 (nde_x (nde_n (ih _ _ _ h3)))
                  · cases h
    · obtain ⟨y, h1, h2⟩ := bnd_s h
      exact nde_t (ih _ _ _ h1) (ih _ _ _ h2)
    · split at h
      · obtain ⟨y, h1, h2⟩ := bnd_s h
        obtain ⟨x, h3, h4⟩ := bnd_s h2
        exact nde_t (nde_o h1 (ih _ _ _ h3)) (ih _ _ _ h4)
      · cases h
        exact nde_r _
    · obtain ⟨y, h1, h2⟩ := bnd_s h
      exact nde_t (ih _ _ _ h1) (ih _ _ _ h2)
    · split at h
      · obtain ⟨y, h1, h2⟩ := bnd_s h
        obtain ⟨x, h3, h4⟩ := bnd_s h2
        exact nde_t (nde_o h1 (ih _ _ _ h3)) (ih _ _ _ h4)
      · cases h
        exact nde_r _
    · split at h
      · obtain ⟨y, h1, h2⟩ := bnd_s h
        obtain ⟨x, h3, h4⟩ := bnd_s h2
        obtain ⟨w, h5, h6⟩ := bnd_s h4
        cases h6
        exact nde_g h1 (nde_o h3 (ih _ _ _ h5))
      · split at h
        · obtain ⟨y, h1, h2⟩ := bnd_s h
          obtain ⟨x, h3, h4⟩ := bnd_s h2
          obtain ⟨w, h5, h6⟩ := bnd_s h4
          have := xpt_s h5
          subst this
          cases h6
          exact nde_g h1 (nde_x (nde_n (ih _ _ _ h3)))
        · obtain ⟨y, h1, h2⟩ := bnd_s h
          have hy := ih _ _ _ h1
          split at h2
          · cases h2
          · obtain ⟨x, h3, h4⟩ := bnd_s h2
            split at h4
            · exact nde_t hy (nsm_d h3 h4)
            · obtain ⟨w, h5, h6⟩ := bnd_s h4
              cases h6
              exact nde_t hy (nde_o h3 (ih _ _ _ h5))
    · obtain ⟨y, h1, h2⟩ := bnd_s h
      exact nde_t (ih _ _ _ h1) (ih _ _ _ h2)
    · split at h
      · obtain ⟨y, h1, h2⟩ := bnd_s h
        obtain ⟨x, h3, h4⟩ := bnd_s h2
        exact nde_t (nde_o h1 (ih _ _ _ h3)) (ih _ _ _ h4)
      · cases h
        exact nde_r _
    · obtain ⟨y, h1, h2⟩ := bnd_s h
      exact nde_t (ih _ _ _ h1) (ih _ _ _ h2)
    · split at h
      · obtain ⟨y, h1, h2⟩ := bnd_s h
        obtain ⟨x, h3, h4⟩ := bnd_s h2
        exact nde_t (nde_o h1 (ih _ _ _ h3)) (ih _ _ _ h4)
      · cases h
        exact nde_r _
/-! THE OTHER SIDE READS STATEMENTS: what may change, where it stands -/
def sxI (U V : Nat → Prop) (k j : Nat) : Prop := (k = 76 ∧ (3 ≤ j ∧ j ≤ 9 ∨ 40 ≤ j ∧ j ≤ 49 ∧ j ≠ 43 ∨ j = 52 ∨ j = 57 ∨ j = 58 ∨ j = 60)) ∨ (k = 108 ∨ k = 114 ∨ k = 139) ∨ (k = 106 ∧ U (j / 620)) ∨ ((110 ≤ k ∧ k ≤ 113) ∧ U j) ∨ ((84 ≤ k ∧ k ≤ 94 ∧ k ≠ 88 ∧ k ≠ 89) ∧ U j) ∨ ((k = 88 ∨ k = 89) ∧ U (j / 6)) ∨ ((97 ≤ k ∧ k ≤ 105) ∧ U (32 + j)) ∨ (k = 80 ∧ V j)
def sxJ (U V : Nat → Prop) (k j : Nat) : Prop := (k = 76 ∧ j = 7) ∨ k = 109 ∨ (k = 107 ∧ U (j / 620)) ∨ ((k = 96 ∨ k = 103) ∧ U (32 + j)) ∨ (k = 79 ∧ V j) ∨ ((k = 81 ∨ k = 82) ∧ V (j / 6))
/-! bits stay bits, where only bits are written; rules that wait -/
def btO (C : co_T) : Prop := (C.1 76 48 = 0 ∨ C.1 76 48 = 1) ∧ (C.1 76 49 = 0 ∨ C.1 76 49 = 1)
def btE (C C' : co_T) : Prop := C'.2.2 = C.2.2 ∧ (btO C → btO C') ∧ ∀ j, C'.1 91 j = C.1 91 j ∨ C'.1 91 j = 0
theorem btE_r {C : co_T} : btE C C := ⟨rfl, fun h => h, fun _ => Or.inl rfl⟩
theorem btE_t {C1 C2 C3 : co_T} (h : btE C1 C2) (g : btE C2 C3) : btE C1 C3 := ⟨g.1.trans h.1, fun x => g.2.1 (h.2.1 x), fun j => by
  rcases g.2.2 j with e | e
  · rw [e]
    exact h.2.2 j
  · exact Or.inr e⟩
theorem btE_k {C C' : co_T} (h2 : C'.2.2 = C.2.2) (h8 : C'.1 76 48 = C.1 76 48) (h9 : C'.1 76 49 = C.1 76 49) (hw : ∀ j, C'.1 91 j = C.1 91 j) : btE C C' := ⟨h2, fun x => ⟨by rw [h8]; exact x.1, by rw [h9]; exact x.2⟩, fun j => Or.inl (hw j)⟩
theorem btE_I {C : co_T} {k j : Nat} {v : Int32} (h : ((k = 76 ∧ (j = 48 ∨ j = 49)) → v = 0 ∨ v = 1) ∧ (k = 91 → v = 0)) : btE C (sI C k j v) := by
  refine ⟨rfl, fun x => ⟨?_, ?_⟩, fun q => ?_⟩
  · rw [sI_1]
    split
    · next e => exact h.1 ⟨e.1.symm, Or.inl e.2.symm⟩
    · exact x.1
  · rw [sI_1]
    split
    · next e => exact h.1 ⟨e.1.symm, Or.inr e.2.symm⟩
    · exact x.2
  · rw [sI_1]
    split
    · next e => exact Or.inr (h.2 e.1.symm)
    · exact Or.inl rfl
def fS_y (U V : Nat → Prop) (C C' : co_T) : Prop := (∀ k j, ¬ sxI U V k j → C'.1 k j = C.1 k j) ∧ (∀ k j, ¬ sxJ U V k j → C'.2.1 k j = C.2.1 k j) ∧ btE C C'
section FRS
variable {U V U' V' : Nat → Prop} {C C' C1 C2 C3 : co_T}
set_option maxRecDepth 100000 in
theorem fSy_r : fS_y U V C C := ⟨fun _ _ _ => rfl, fun _ _ _ => rfl, btE_r⟩
set_option maxRecDepth 100000 in
theorem fSy_t (h : fS_y U V C1 C2) (g : fS_y U V C2 C3) : fS_y U V C1 C3 := ⟨fun k j a => (g.1 k j a).trans (h.1 k j a), fun k j a => (g.2.1 k j a).trans (h.2.1 k j a), btE_t h.2.2 g.2.2⟩
set_option maxRecDepth 100000 in
theorem fSy_u (hU : ∀ x, U x → U' x) (hV : ∀ x, V x → V' x) (h : fS_y U V C C') : fS_y U' V' C C' := ⟨fun k j a => h.1 k j (fun b => a (by
  unfold sxI at b ⊢
  rcases b with b | b | b | b | b | b | b | b
  · exact Or.inl b
  · exact Or.inr (Or.inl b)
  · exact Or.inr (Or.inr (Or.inl ⟨b.1, hU _ b.2⟩))
  · exact Or.inr (Or.inr (Or.inr (Or.inl ⟨b.1, hU _ b.2⟩)))
  · exact Or.inr (Or.inr (Or.inr (Or.inr (Or.inl ⟨b.1, hU _ b.2⟩))))
  · exact Or.inr (Or.inr (Or.inr (Or.inr (Or.inr (Or.inl ⟨b.1, hU _ b.2⟩)))))
  · exact Or.inr (Or.inr (Or.inr (Or.inr (Or.inr (Or.inr (Or.inl ⟨b.1, hU _ b.2⟩))))))
  · exact Or.inr (Or.inr (Or.inr (Or.inr (Or.inr (Or.inr (Or.inr ⟨b.1, hV _ b.2⟩)))))))), fun k j a => h.2.1 k j (fun b => a (by
  unfold sxJ at b ⊢
  rcases b with b | b | b | b | b | b
  · exact Or.inl b
  · exact Or.inr (Or.inl b)
  · exact Or.inr (Or.inr (Or.inl ⟨b.1, hU _ b.2⟩))
  · exact Or.inr (Or.inr (Or.inr (Or.inl ⟨b.1, hU _ b.2⟩)))
  · exact Or.inr (Or.inr (Or.inr (Or.inr (Or.inl ⟨b.1, hV _ b.2⟩))))
  · exact Or.inr (Or.inr (Or.inr (Or.inr (Or.inr ⟨b.1, hV _ b.2⟩)))))), h.2.2⟩
set_option maxRecDepth 100000 in
theorem fSy_I {k j : Nat} {v : Int32} (h : sxI U V k j) (hbt : ((k = 76 ∧ (j = 48 ∨ j = 49)) → v = 0 ∨ v = 1) ∧ (k = 91 → v = 0) := by first | exact ⟨fun e => by exfalso; omega, fun e => by exfalso; omega⟩ | exact ⟨fun _ => Or.inl rfl, fun e => by exfalso; omega⟩ | exact ⟨fun _ => Or.inr rfl, fun e => by exfalso; omega⟩ | exact ⟨fun e => by exfalso; omega, fun _ => rfl⟩) : fS_y U V C (sI C k j v) := ⟨fun a b g => by
  rw [sI_1, if_neg]
  rintro ⟨rfl, rfl⟩
  exact g h, fun _ _ _ => rfl, btE_I hbt⟩
set_option maxRecDepth 100000 in
theorem fSy_J {k j : Nat} {v : Int64} (h : sxJ U V k j) : fS_y U V C (sJ C k j v) := ⟨fun _ _ _ => rfl, fun a b g => by
  rw [sJ_2, if_neg]
  rintro ⟨rfl, rfl⟩
  exact g h, btE_k rfl rfl rfl (fun _ => rfl)⟩
set_option maxRecDepth 100000 in
theorem fSy_T (h : frT C C') : fS_y U V C C' := ⟨fun k j a => h.1 k j (fun b => a (Or.inl ⟨b.1, by omega⟩)), fun k j a => h.2.1 k j (fun b => a (Or.inl b)), btE_k h.2.2 (h.1 76 48 (by omega)) (h.1 76 49 (by omega)) (fun j => h.1 91 j (by omega))⟩
set_option maxRecDepth 100000 in
theorem sx_76 {j : Nat} (h : 3 ≤ j ∧ j ≤ 9 ∨ 40 ≤ j ∧ j ≤ 49 ∧ j ≠ 43 ∨ j = 52 ∨ j = 57 ∨ j = 58 ∨ j = 60) : sxI U V 76 j := Or.inl ⟨rfl, h⟩
set_option maxRecDepth 100000 in
theorem fSy_G {p b wb : Nat} (hU : U p) (h : frG p b wb C C') : fS_y U V C C' := ⟨fun k j a => h.1 k j (fun c => a (Or.inl ⟨c.1, by omega⟩)) (fun c => a (Or.inr (Or.inr (Or.inl ⟨c.1, by
  have : j / 620 = p := by omega
  rw [this]
  exact hU⟩)))) (fun c => a (Or.inr (Or.inl (Or.inl c.1)))), fun k j a => h.2.1 k j (fun c => a (Or.inl c)) (fun c => a (Or.inr (Or.inr (Or.inl ⟨c.1, by
  have : j / 620 = p := by omega
  rw [this]
  exact hU⟩)))) (fun c => a (Or.inr (Or.inl c.1))), btE_k h.2.2 (h.1 76 48 (by omega) (by omega) (by omega)) (h.1 76 49 (by omega) (by omega) (by omega)) (fun j => h.1 91 j (by omega) (by omega) (by omega))⟩
/-! what no reading touches -/
def stA (k : Nat) : Prop := k = 77 ∨ k = 78 ∨ k = 83 ∨ k = 95 ∨ (115 ≤ k ∧ k ≤ 138)
set_option maxRecDepth 100000 in
theorem fSy_a {k j : Nat} (h : fS_y U V C C') (hk : stA k) : C'.1 k j = C.1 k j := h.1 k j (fun a => by
  unfold sxI at a
  unfold stA at hk
  omega)
set_option maxRecDepth 100000 in
theorem fSy_f {j : Nat} (h : fS_y U V C C') (hj : ¬ (3 ≤ j ∧ j ≤ 9 ∨ 40 ≤ j ∧ j ≤ 49 ∧ j ≠ 43 ∨ j = 52 ∨ j = 57 ∨ j = 58 ∨ j = 60)) : C'.1 76 j = C.1 76 j := h.1 76 j (fun a => by
  unfold sxI at a
  omega)
end FRS
