
/-! TABLES THAT A CHANGE DOESN'T REACH -/
section UNR
variable {S : st_T} {b t kd n i ti ev : Nat} {σ : es_T} {O N : rw_F} {a : ac_T} {rec : sf_T} {x : List ro_T × Int32}
set_option maxRecDepth 100000 in
theorem lop_k {α β γ : Type} {f : α → β → β × Option sp_T} {pr : β → γ} (h : ∀ a s, pr (f a s).1 = pr s) : ∀ (l : List α) (s : β), pr (lop f l s).1 = pr s
  | [], s => rfl
  | a :: l, s => by
    show pr (match f a s with
      | (s1, none) => lop f l s1
      | (s1, some e) => (s1, some e)).1 = pr s
    have ha := h a s
    rcases e : f a s with ⟨s1, _ | q⟩
    · rw [e] at ha
      exact (lop_k h l s1).trans ha
    · rw [e] at ha
      exact ha
/-! no rule and no trigger reaches table b -/
def unR (S : st_T) (b : Nat) : Prop := (∀ i u, sRu S i = some u → rTb u ≠ b) ∧ ∀ i g, sTr S i = some g → aKd (gAc g) = 3 ∨ aKd (gAc g) = 4 ∨ ∃ q, aTb (gAc g) = some q ∧ q ≠ b
def rcK (rec : sf_T) (b : Nat) : Prop := ∀ kd t i O N σ, t ≠ b → (rec kd t i O N σ).1.1 b = σ.1 b
set_option maxRecDepth 100000 in
theorem chg1_k {ii : Int32} (hr : rcK rec b) {q : Nat} (ha : aTb a = some q) (hq : q ≠ b) : (chg1 rec a N O ii σ).1.1 b = σ.1 b := by
  unfold chg1
  rw [ha]
  show (match fdr ii (σ.1 q).1 0 with
    | none => (σ, none)
    | some (_, r) => if aKd a = 2 then rec 2 q ii r.2 r.2 σ else (match setS r.2 N O r.2 (aCs a) (aSs a) with
      | none => (σ, some byZ)
      | some f => rec 1 q ii r.2 f σ)).1.1 b = σ.1 b
  split
  · rfl
  · split
    · exact hr _ _ _ _ _ _ hq
    · split
      · rfl
      · exact hr _ _ _ _ _ _ hq
set_option maxRecDepth 100000 in
theorem chg_k (hr : rcK rec b) {q : Nat} (ha : aTb a = some q) (hq : q ≠ b) : (chg S rec a N O σ).1.1 b = σ.1 b := by
  unfold chg
  split
  · rw [ha]
    show (match insV (sDf S q) N O noF 0 (aSs a) with
      | none => (σ, some byZ)
      | some f => rec 0 q 0 noF f σ).1.1 b = σ.1 b
    split
    · rfl
    · exact hr _ _ _ _ _ _ hq
  · split
    · rfl
    · exact lop_k (pr := fun s : es_T => s.1 b) (fun i s => chg1_k hr ha hq) _ σ
set_option maxRecDepth 100000 in
theorem fir_k (hu : unR S b) (hr : rcK rec b) {s : rw_F × es_T} : (fir S rec t ti ev O s).1.2.1 b = s.2.1 b := by
  unfold fir
  refine lop_k (pr := fun s : rw_F × es_T => s.2.1 b) (fun g s => ?_) _ s
  unfold fir1
  split
  · rfl
  · rename_i G hG
    split
    · split
      · rfl
      · rfl
      · unfold act1
        split
        · rfl
        · split
          · split
            · rfl
            · rfl
          · rename_i h4 h3
            rcases hu.2 g G hG with z | z | ⟨q, e1, e2⟩
            · exact absurd z h3
            · exact absurd z h4
            · exact chg_k (O := O) (N := s.1) (σ := s.2) hr e1 e2
    · rfl
set_option maxRecDepth 100000 in
theorem fol_k (hu : unR S b) (hr : rcK rec b) {i0 : Int32} : (fol S rec t ev i0 O N σ).1.1 b = σ.1 b := by
  unfold fol
  refine lop_k (pr := fun s : es_T => s.1 b) (fun i s => ?_) _ σ
  unfold fol1
  split
  · rfl
  · rename_i u hU
    split
    · refine lop_k (pr := fun s : es_T => s.1 b) (fun j s => ?_) _ s
      unfold rf1
      split
      · rfl
      · rename_i r _
        cases rfg u O r with
        | false => rfl
        | true =>
          show (if dos ev u = 1 then (s, some (2, nI i, i0)) else if dos ev u = 2 ∧ ev = 2 then rec 2 (rTb u) j r.2 r.2 s else rec 1 (rTb u) j r.2 (setR (dos ev u) N (sDf S (rTb u)) r.2 (rCs u) (rOs u)) s).1.1 b = s.1 b
          split
          · rfl
          · split
            · exact hr _ _ _ _ _ _ (hu.1 i u hU)
            · exact hr _ _ _ _ _ _ (hu.1 i u hU)
    · rfl
set_option maxRecDepth 100000 in
theorem rsU_k {rs : rs_T} (h : t ≠ b) : rsU rs t x b = rs b := if_neg (fun e => h e.symm)
set_option maxRecDepth 100000 in
theorem stp_k (hu : unR S b) : ∀ n, rcK (stp S n) b
  | 0 => fun kd t i O N σ h => rfl
  | n + 1 => fun kd t i O N σ h => by
    have ih := stp_k hu n
    show (if 300 ≤ σ.2.1 then (σ, some (5, 0, 0)) else (match fir S (stp S n) t 0 kd O (N, (σ.1, σ.2.1 + 1, max σ.2.2 (12 - n))) with
      | (s, some e) => (s.2, some e)
      | (s, none) => stp2 S (stp S n) kd t i O s.1 s.2)).1.1 b = σ.1 b
    split
    · rfl
    · have hf := fir_k (t := t) (ti := 0) (ev := kd) (O := O) hu ih (s := (N, (σ.1, σ.2.1 + 1, max σ.2.2 (12 - n))))
      rcases e : fir S (stp S n) t 0 kd O (N, (σ.1, σ.2.1 + 1, max σ.2.2 (12 - n))) with ⟨s, _ | q⟩
      · rw [e] at hf
        have hf : s.2.1 b = σ.1 b := hf
        show (stp2 S (stp S n) kd t i O s.1 s.2).1.1 b = σ.1 b
        unfold stp2
        split
        · split
          · exact hf
          · have g := fir_k (t := t) (ti := 1) (ev := 0) (O := O) hu ih (s := (s.1, (rsA s.2.1 t s.1, s.2.2)))
            exact g.trans ((rsU_k h).trans hf)
        · split
          · exact hf
          · rename_i k r hk
            have g := fol_k (t := t) (ev := kd) (O := O) (N := s.1) (i0 := i) hu ih (σ := ((if kd = 1 then rsW s.2.1 t k (r.1, s.1) else rsD s.2.1 t k), s.2.2))
            have g0 : (if kd = 1 then rsW s.2.1 t k (r.1, s.1) else rsD s.2.1 t k) b = σ.1 b := by
              split
              · exact (rsU_k h).trans hf
              · exact (rsU_k h).trans hf
            rcases e2 : fol S (stp S n) t kd i O s.1 ((if kd = 1 then rsW s.2.1 t k (r.1, s.1) else rsD s.2.1 t k), s.2.2) with ⟨σ1, _ | q⟩
            · rw [e2] at g
              have g3 := fir_k (t := t) (ti := 1) (ev := kd) (O := O) hu ih (s := (s.1, σ1))
              exact g3.trans (g.trans g0)
            · rw [e2] at g
              exact g.trans g0
      · rw [e] at hf
        exact hf
set_option maxRecDepth 100000 in
theorem chgR_k (hu : unR S b) {rs : rs_T} {p : Nat → Bool} {q : Nat} (ha : aTb a = some q) (hq : q ≠ b) : (chgR S a rs p).2.1 b = rs b := by
  have h := chg_k (S := S) (rec := stp S 12) (a := a) (N := noF) (O := noF) (σ := (rs, 0, 0)) (stp_k hu 12) ha hq
  unfold chgR
  split
  · rfl
  · split
    · exact h
    · rfl
end UNR
