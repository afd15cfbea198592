/-! FORMULAS THAT WERE READ ARE WELL FORMED: each leaves one value -/
section RDT
variable {E : fe_T} {w1 w2 w3 : Nat}
def clW (r : Option (Int64 → Int32)) (w : Nat) : Prop := ∀ g, r = some g → ∀ x, g x ≠ -1 → inW (g x) w
def eW (E : fe_T) (w1 w2 w3 : Nat) : Prop := clW E.2.2.1 w1 ∧ (E.2.2.2.2.1 = true → clW E.2.2.2.1 w2) ∧ (E.2.2.2.2.2 = true → clW E.2.2.2.1 w3)
def rT (w1 w2 w3 : Nat) (md : Nat) (l : List op_T) : Prop := match md with
  | 0 => ∀ T, t_l w1 w2 w3 l T = some (false :: T)
  | 1 => ∀ T, t_l w1 w2 w3 l T = some (false :: T)
  | 2 => ∀ T, t_l w1 w2 w3 l (false :: T) = some (false :: T)
  | 3 => ∀ T, t_l w1 w2 w3 l T = some (false :: T)
  | 4 => ∀ T, t_l w1 w2 w3 l (false :: T) = some (false :: T)
  | 5 => ∀ T, t_l w1 w2 w3 l T = some (true :: T)
  | 6 => ∀ T, t_l w1 w2 w3 l T = some (true :: T)
  | 7 => ∀ T, t_l w1 w2 w3 l (true :: T) = some (true :: T)
  | 8 => ∀ T, t_l w1 w2 w3 l T = some (true :: T)
  | _ => ∀ T, t_l w1 w2 w3 l (true :: T) = some (true :: T)
set_option maxRecDepth 100000 in
theorem t_one {q : op_T} {T T' : List Bool} (h : t_1 w1 w2 w3 q T = some T') : t_l w1 w2 w3 [q] T = some T' := by
  show (t_1 w1 w2 w3 q T).bind (t_l w1 w2 w3 []) = _
  rw [h]
  rfl
set_option maxRecDepth 100000 in
theorem t_snoc {q : op_T} {l : List op_T} {T T1 T' : List Bool} (h : t_l w1 w2 w3 l T = some T1) (g : t_1 w1 w2 w3 q T1 = some T') : t_l w1 w2 w3 (l ++ [q]) T = some T' := by
  rw [t_app, h]
  exact t_one g
set_option maxRecDepth 100000 in
theorem t_two {l m : List op_T} {T T1 T' : List Bool} (h : t_l w1 w2 w3 l T = some T1) (g : t_l w1 w2 w3 m T1 = some T') : t_l w1 w2 w3 (l ++ m) T = some T' := by
  rw [t_app, h]
  exact g
set_option maxRecDepth 100000 in
theorem lef_t {s z : fs_T} {a b : Int32} (h : lef s a b = .inr z) : z.2.1 = s.2.1 ++ [(a, b)] := by
  obtain ⟨y, h1, h2⟩ := bnd_s h
  have h3 := spd_s h1
  cases h2
  show y.2.1 ++ [(a, b)] = _
  rw [h3.2.1]
set_option maxRecDepth 100000 in
theorem lfc_t {r : Option (Int64 → Int32)} {w : Nat} (hr : clW r w) {s z : fs_T} {a : Int32} (h : lfc E r s a = .inr z) : ∃ b, inW b w ∧ z.2.1 = s.2.1 ++ [(a, b)] := by
  unfold lfc at h
  split at h
  · cases h
  · rename_i c hc
    refine ⟨c, ?_, lef_t h⟩
    unfold clm at hc
    split at hc
    · split at hc
      · cases hc
      · rename_i g
        split at hc
        · cases hc
        · rename_i hne
          cases hc
          exact hr g rfl _ hne
    · cases hc
set_option maxRecDepth 100000 in
theorem cmo_v {k : Nat} (h : cmo k ≠ -1) (h7 : cmo k ≠ 7) : isB (cmo k) := by
  unfold cmo at h h7 ⊢
  unfold isB
  split at h
  · rename_i e; rw [if_pos e] at h7; exact absurd rfl h7
  rename_i e19
  rw [if_neg e19]
  split
  · exact Or.inl rfl
  split
  · exact Or.inr (Or.inl rfl)
  split
  · exact Or.inr (Or.inr (Or.inl rfl))
  split
  · exact Or.inr (Or.inr (Or.inr (Or.inl rfl)))
  split
  · exact Or.inr (Or.inr (Or.inr (Or.inr (Or.inl rfl))))
  split
  · exact Or.inr (Or.inr (Or.inr (Or.inr (Or.inr rfl))))
  · rename_i a1 a2 a3 a4 a5 a6
    rw [if_neg a1, if_neg a2, if_neg a3, if_neg a4, if_neg a5, if_neg a6] at h
    exact absurd rfl h
set_option maxRecDepth 100000 in
theorem t_1B {a b : Int32} {T : List Bool} (h : isB a) : t_1 w1 w2 w3 (a, b) (false :: false :: T) = some (true :: T) := by
  rcases h with rfl | rfl | rfl | rfl | rfl | rfl
  · exact to_13
  · exact to_14
  · exact to_15
  · exact to_16
  · exact to_17
  · exact to_18
set_option maxRecDepth 100000 in
theorem rd_ty (hE : eW E w1 w2 w3) : ∀ (f md : Nat) (s z : fs_T), md ≤ 9 → rd E f md s = .inr z → ∃ l, z.2.1 = s.2.1 ++ l ∧ rT w1 w2 w3 md l
  | 0, _, _, _, _, h => by cases h
  | f + 1, 0, s, z, _, h => by
    have ih := rd_ty hE f
    replace h : (if E.1 s.1 = 4 then lef s 0 (E.2.1 s.1).toInt32 else if E.1 s.1 = 27 then lef s 1 0 else if E.1 s.1 = 3 then lfc E E.2.2.1 s 2 else if E.1 s.1 = 24 then (if E.2.2.2.2.1 = true then bnd (xpt E 49 (nxt s)) (fun s => lfc E E.2.2.2.1 s 3) else .inl (7, s.1)) else if E.1 s.1 = 28 then (if E.2.2.2.2.2 = true then bnd (xpt E 49 (nxt s)) (fun s => lfc E E.2.2.2.1 s 4) else .inl (7, s.1)) else if E.1 s.1 = 57 then bnd (gin s) (fun s => bnd (spd s) (fun s => bnd (rd E f 0 (nxt s)) (fun s => .inr (gou (emt s 5 0))))) else if E.1 s.1 = 44 then bnd (gin s) (fun s => bnd (rd E f 3 (nxt s)) (fun s => bnd (xpt E 45 s) (fun s => .inr (gou s)))) else .inl (2, s.1)) = .inr z := h
    split at h
    · exact ⟨_, lef_t h, fun T => t_one to_0⟩
    split at h
    · exact ⟨_, lef_t h, fun T => t_one to_1⟩
    split at h
    · obtain ⟨b, hb, hz⟩ := lfc_t hE.1 h
      exact ⟨_, hz, fun T => t_one (to_2 hb)⟩
    split at h
    · split at h
      · rename_i hn
        obtain ⟨y, h1, h2⟩ := bnd_s h
        have := xpt_s h1
        subst this
        obtain ⟨b, hb, hz⟩ := lfc_t (hE.2.1 hn) h2
        exact ⟨_, hz, fun T => t_one (to_3 hb)⟩
      · cases h
    split at h
    · split at h
      · rename_i hn
        obtain ⟨y, h1, h2⟩ := bnd_s h
        have := xpt_s h1
        subst this
        obtain ⟨b, hb, hz⟩ := lfc_t (hE.2.2 hn) h2
        exact ⟨_, hz, fun T => t_one (to_4 hb)⟩
      · cases h
    split at h
    · obtain ⟨y, h1, h2⟩ := bnd_s h
      obtain ⟨x, h3, h4⟩ := bnd_s h2
      obtain ⟨w, h5, h6⟩ := bnd_s h4
      obtain ⟨l, hl, hT⟩ := ih 0 _ _ (by omega) h5
      have e1 := (gin_s h1).1
      have e2 := (spd_s h3).2.1
      subst e1
      cases h6
      refine ⟨l ++ [(5, 0)], ?_, fun T => t_snoc (hT T) to_5⟩
      show w.2.1 ++ [(5, 0)] = _
      rw [hl, ← List.append_assoc]
      show x.2.1 ++ l ++ _ = _
      rw [e2]
    split at h
    · obtain ⟨y, h1, h2⟩ := bnd_s h
      obtain ⟨x, h3, h4⟩ := bnd_s h2
      obtain ⟨w, h5, h6⟩ := bnd_s h4
      obtain ⟨l, hl, hT⟩ := ih 3 _ _ (by omega) h3
      have e1 := (gin_s h1).1
      have e2 := xpt_s h5
      subst e1
      subst e2
      cases h6
      exact ⟨l, hl, hT⟩
    · cases h
  | f + 1, 1, s, z, _, h => by
    have ih := rd_ty hE f
    replace h : bnd (rd E f 0 s) (rd E f 2) = .inr z := h
    obtain ⟨y, h1, h2⟩ := bnd_s h
    obtain ⟨l1, e1, k1⟩ := ih 0 _ _ (by omega) h1
    obtain ⟨l2, e2, k2⟩ := ih 2 _ _ (by omega) h2
    exact ⟨l1 ++ l2, by rw [e2, e1, List.append_assoc], fun T => t_two (k1 T) (k2 T)⟩
  | f + 1, 2, s, z, _, h => by
    have ih := rd_ty hE f
    replace h : (if E.1 s.1 = 58 ∨ E.1 s.1 = 59 then bnd (spd s) (fun z => bnd (rd E f 0 (nxt z)) (fun z => rd E f 2 (emt z (if E.1 s.1 = 58 then 11 else 12) 0))) else .inr s) = .inr z := h
    split at h
    · obtain ⟨y, h1, h2⟩ := bnd_s h
      obtain ⟨x, h3, h4⟩ := bnd_s h2
      obtain ⟨l1, e1, k1⟩ := ih 0 _ _ (by omega) h3
      obtain ⟨l2, e2, k2⟩ := ih 2 _ _ (by omega) h4
      have e3 := (spd_s h1).2.1
      refine ⟨l1 ++ [((if E.1 s.1 = 58 then 11 else 12), 0)] ++ l2, ?_, fun T => t_two (t_snoc (k1 (false :: T)) ?_) (k2 T)⟩
      · rw [e2]
        show x.2.1 ++ [_] ++ l2 = _
        rw [e1]
        show y.2.1 ++ l1 ++ [_] ++ l2 = _
        rw [e3, List.append_assoc, List.append_assoc, List.append_assoc]
      · split
        · exact to_11
        · exact to_12
    · cases h
      exact ⟨[], (List.append_nil _).symm, fun T => rfl⟩
  | f + 1, 3, s, z, _, h => by
    have ih := rd_ty hE f
    replace h : bnd (rd E f 1 s) (rd E f 4) = .inr z := h
    obtain ⟨y, h1, h2⟩ := bnd_s h
    obtain ⟨l1, e1, k1⟩ := ih 1 _ _ (by omega) h1
    obtain ⟨l2, e2, k2⟩ := ih 4 _ _ (by omega) h2
    exact ⟨l1 ++ l2, by rw [e2, e1, List.append_assoc], fun T => t_two (k1 T) (k2 T)⟩
  | f + 1, 4, s, z, _, h => by
    have ih := rd_ty hE f
    replace h : (if E.1 s.1 = 56 ∨ E.1 s.1 = 57 then bnd (spd s) (fun z => bnd (rd E f 1 (nxt z)) (fun z => rd E f 4 (emt z (if E.1 s.1 = 56 then 9 else 10) 0))) else .inr s) = .inr z := h
    split at h
    · obtain ⟨y, h1, h2⟩ := bnd_s h
      obtain ⟨x, h3, h4⟩ := bnd_s h2
      obtain ⟨l1, e1, k1⟩ := ih 1 _ _ (by omega) h3
      obtain ⟨l2, e2, k2⟩ := ih 4 _ _ (by omega) h4
      have e3 := (spd_s h1).2.1
      refine ⟨l1 ++ [((if E.1 s.1 = 56 then 9 else 10), 0)] ++ l2, ?_, fun T => t_two (t_snoc (k1 (false :: T)) ?_) (k2 T)⟩
      · rw [e2]
        show x.2.1 ++ [_] ++ l2 = _
        rw [e1]
        show y.2.1 ++ l1 ++ [_] ++ l2 = _
        rw [e3, List.append_assoc, List.append_assoc, List.append_assoc]
      · split
        · exact to_9
        · exact to_10
    · cases h
      exact ⟨[], (List.append_nil _).symm, fun T => rfl⟩
  | f + 1, 5, s, z, _, h => by
    have ih := rd_ty hE f
    replace h : (if E.1 s.1 = 25 then bnd (gin s) (fun s => bnd (spd s) (fun s => bnd (rd E f 5 (nxt s)) (fun s => .inr (gou (emt s 6 0))))) else if E.1 s.1 = 46 then bnd (gin s) (fun s => bnd (rd E f 8 (nxt s)) (fun s => bnd (xpt E 47 s) (fun s => .inr (gou s)))) else bnd (rd E f 3 s) (fun s => if cmo (E.1 s.1) = -1 then .inl (2, s.1) else bnd (spd s) (fun z => if cmo (E.1 s.1) = 7 then nsm E (nxt z) else bnd (rd E f 3 (nxt z)) (fun z => .inr (emt z (cmo (E.1 s.1)) 0))))) = .inr z := h
    split at h
    · obtain ⟨y, h1, h2⟩ := bnd_s h
      obtain ⟨x, h3, h4⟩ := bnd_s h2
      obtain ⟨w, h5, h6⟩ := bnd_s h4
      obtain ⟨l, hl, hT⟩ := ih 5 _ _ (by omega) h5
      have e1 := (gin_s h1).1
      have e2 := (spd_s h3).2.1
      subst e1
      cases h6
      refine ⟨l ++ [(6, 0)], ?_, fun T => t_snoc (hT T) to_6⟩
      show w.2.1 ++ [(6, 0)] = _
      rw [hl, ← List.append_assoc]
      show x.2.1 ++ l ++ _ = _
      rw [e2]
    split at h
    · obtain ⟨y, h1, h2⟩ := bnd_s h
      obtain ⟨x, h3, h4⟩ := bnd_s h2
      obtain ⟨w, h5, h6⟩ := bnd_s h4
      obtain ⟨l, hl, hT⟩ := ih 8 _ _ (by omega) h3
      have e1 := (gin_s h1).1
      have e2 := xpt_s h5
      subst e1
      subst e2
      cases h6
      exact ⟨l, hl, hT⟩
    · obtain ⟨y, h1, h2⟩ := bnd_s h
      obtain ⟨l1, e1, k1⟩ := ih 3 _ _ (by omega) h1
      split at h2
      · cases h2
      rename_i hm
      obtain ⟨x, h3, h4⟩ := bnd_s h2
      have e3 := (spd_s h3).2.1
      split at h4
      · unfold nsm at h4
        split at h4
        · cases h4
          refine ⟨l1 ++ [(7, 0)], ?_, fun T => t_snoc (k1 T) to_7⟩
          show x.2.1 ++ [(7, 0)] = _
          rw [e3, e1, List.append_assoc]
        · obtain ⟨w, h5, h6⟩ := bnd_s h4
          have e2 := xpt_s h5
          subst e2
          cases h6
          refine ⟨l1 ++ [(8, 0)], ?_, fun T => t_snoc (k1 T) to_8⟩
          show x.2.1 ++ [(8, 0)] = _
          rw [e3, e1, List.append_assoc]
      · rename_i h7
        obtain ⟨w, h5, h6⟩ := bnd_s h4
        obtain ⟨l2, e2, k2⟩ := ih 3 _ _ (by omega) h5
        cases h6
        refine ⟨l1 ++ l2 ++ [(cmo (E.1 y.1), 0)], ?_, fun T => t_snoc (t_two (k1 T) (k2 (false :: T))) (t_1B (cmo_v hm h7))⟩
        show w.2.1 ++ [_] = _
        rw [e2]
        show x.2.1 ++ l2 ++ [_] = _
        rw [e3, e1, List.append_assoc, List.append_assoc, List.append_assoc]
  | f + 1, 6, s, z, _, h => by
    have ih := rd_ty hE f
    replace h : bnd (rd E f 5 s) (rd E f 7) = .inr z := h
    obtain ⟨y, h1, h2⟩ := bnd_s h
    obtain ⟨l1, e1, k1⟩ := ih 5 _ _ (by omega) h1
    obtain ⟨l2, e2, k2⟩ := ih 7 _ _ (by omega) h2
    exact ⟨l1 ++ l2, by rw [e2, e1, List.append_assoc], fun T => t_two (k1 T) (k2 T)⟩
  | f + 1, 7, s, z, _, h => by
    have ih := rd_ty hE f
    replace h : (if E.1 s.1 = 7 then bnd (spd s) (fun z => bnd (rd E f 5 (nxt z)) (fun z => rd E f 7 (emt z 19 0))) else .inr s) = .inr z := h
    split at h
    · obtain ⟨y, h1, h2⟩ := bnd_s h
      obtain ⟨x, h3, h4⟩ := bnd_s h2
      obtain ⟨l1, e1, k1⟩ := ih 5 _ _ (by omega) h3
      obtain ⟨l2, e2, k2⟩ := ih 7 _ _ (by omega) h4
      have e3 := (spd_s h1).2.1
      refine ⟨l1 ++ [(19, 0)] ++ l2, ?_, fun T => t_two (t_snoc (k1 (true :: T)) to_19) (k2 T)⟩
      rw [e2]
      show x.2.1 ++ [_] ++ l2 = _
      rw [e1]
      show y.2.1 ++ l1 ++ [_] ++ l2 = _
      rw [e3, List.append_assoc, List.append_assoc, List.append_assoc]
    · cases h
      exact ⟨[], (List.append_nil _).symm, fun T => rfl⟩
  | f + 1, 8, s, z, _, h => by
    have ih := rd_ty hE f
    replace h : bnd (rd E f 6 s) (rd E f 9) = .inr z := h
    obtain ⟨y, h1, h2⟩ := bnd_s h
    obtain ⟨l1, e1, k1⟩ := ih 6 _ _ (by omega) h1
    obtain ⟨l2, e2, k2⟩ := ih 9 _ _ (by omega) h2
    exact ⟨l1 ++ l2, by rw [e2, e1, List.append_assoc], fun T => t_two (k1 T) (k2 T)⟩
  | f + 1, 9, s, z, _, h => by
    have ih := rd_ty hE f
    replace h : (if E.1 s.1 = 30 then bnd (spd s) (fun z => bnd (rd E f 6 (nxt z)) (fun z => rd E f 9 (emt z 20 0))) else .inr s) = .inr z := h
    split at h
    · obtain ⟨y, h1, h2⟩ := bnd_s h
      obtain ⟨x, h3, h4⟩ := bnd_s h2
      obtain ⟨l1, e1, k1⟩ := ih 6 _ _ (by omega) h3
      obtain ⟨l2, e2, k2⟩ := ih 9 _ _ (by omega) h4
      have e3 := (spd_s h1).2.1
      refine ⟨l1 ++ [(20, 0)] ++ l2, ?_, fun T => t_two (t_snoc (k1 (true :: T)) to_20) (k2 T)⟩
      rw [e2]
      show x.2.1 ++ [_] ++ l2 = _
      rw [e1]
      show y.2.1 ++ l1 ++ [_] ++ l2 = _
      rw [e3, List.append_assoc, List.append_assoc, List.append_assoc]
    · cases h
      exact ⟨[], (List.append_nil _).symm, fun T => rfl⟩
  | f + 1, md + 10, s, z, hm, h => by omega
end RDT
