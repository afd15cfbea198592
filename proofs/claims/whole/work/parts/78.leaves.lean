/-! FORMULAS, 3: leaves -/
section FLF
variable {L : Nat} {xs : Nat → Int32} {t : ab_H} {d sl n m : Nat} {B : Nat → Nat} {C0 C : co_T} {s z : fs_T} {E : fe_T}
def PFK (B : Nat → Nat) (n m : Nat) (C0 : co_T) (t : ab_H) (sl : Nat) (z : fs_T) : Option Value → ab_H → Nat → Prop := fun v h k => none = v ∧ (∃ C', FK B n m C0 C' z ∧ MH C' t = h) ∧ sl = k
def XFK (B : Nat → Nat) (n m : Nat) (C0 : co_T) (t : ab_H) (sl : Nat) (c : Int32) (i : Nat) : Nat → ab_H → Nat → Prop := fun a h k => ∃ C', frF C0 C' ∧ tkS B n m C' i ∧ Xk 12 (rfC B n C' i c) t sl a h k
def colK (C0 : co_T) (x : Int32) : Option (Int64 → Int32) → Prop
  | none => x = -1
  | some g => ∃ b w, b < 6 ∧ w ≤ 6 ∧ x = nI b ∧ C0.1 8 b = nI w ∧ g = fun v => fnd (fun j => decide (C0.2.1 9 (b * 6 + j) = v)) w 0
def eK (B : Nat → Nat) (n : Nat) (C0 : co_T) (E : fe_T) : Prop := E.1 = kd B n ∧ E.2.1 = vl B n ∧ colK C0 (C0.1 21 7) E.2.2.1 ∧ colK C0 (C0.1 21 8) E.2.2.2.1 ∧ (E.2.2.2.2.1 = true ↔ C0.1 21 8 ≠ -1 ∧ C0.1 21 9 ≠ 2) ∧ (E.2.2.2.2.2 = true ↔ C0.1 21 8 ≠ -1 ∧ C0.1 21 9 ≠ 0)
set_option maxRecDepth 100000 in
theorem FK_600 (F : FK B n m C0 C s) (h1 : kd B n s.1 ≠ 1) (h2 : kd B n s.1 ≠ 2) : s.2.1.length < 600 := by
  have a := tkS_lt F.1 h1 h2
  have b := tkS_600 F.1
  have c := F.2.1
  omega
set_option maxRecDepth 100000 in
theorem X_up {C1 : co_T} {c : Int32} {i a k : Nat} {h : ab_H} (f : frF C0 C1) (S : tkS B n m C1 i) (x : Xk 12 (rfC B n C1 i c) t sl a h k) : XFK B n m C0 t sl c i a h k := ⟨C1, f, S, x⟩
/-! a switch by the token's number -/
set_option maxRecDepth 100000 in
theorem h_sw {o k : Nat} {ini : Bool} {h : ab_H} {q : List Value} (hk : 1 ≤ k ∧ k ≤ 59) : mo L xs o ini .iaload 1 h (.int (nI (k - 1)) :: .ref 61 :: q) = some (.int (tk_s.getD (k - 1) 0) :: q, h, 0) := by
  show mo_il L xs h (.int (nI (k - 1)) :: .ref 61 :: q) = _
  unfold mo_il
  simp only
  rw [show mo_arr h 61 = none from rfl]
  simp only
  rw [if_pos ⟨trivial, in_nI (by omega) (by decide)⟩, nK_nat (by omega)]
set_option maxRecDepth 100000 in
theorem lf_ok1 {a b : Int32} (F : FK B n m C0 C s) (h1 : kd B n s.1 ≠ 1) (h2 : kd B n s.1 ≠ 2) (h : lef s a b = .inr z) : Wd L xs (d + 1) y_64 (152, [(2, .int b), (1, .int a), (0, .ref 121)], [], MH C t, sl) (PFK B n m C0 t sl z) nX := by
  obtain ⟨y, hy, hz⟩ := bnd_s h
  cases hz
  have hu := FK_600 F h1 h2
  unfold spd at hy
  split at hy
  · rename_i hl
    cases hy
    have hm : C.1 21 6 = -1 := by have := F.2.2.2.2.2.2.1; rw [hl] at this; exact this
    refine w_p (pc1 := 153) rfl rfl ?_
    refine w_je (pc1 := 156) (vs := [.ref 121]) (rest := []) (st1 := []) (m_60m (d := _) (sl := 0) hm) rfl rfl rfl (fun _ _ => rfl) rfl (by exact cl_v my_60 rfl rfl rfl (Nat.le_of_ble_eq_true rfl) rfl (MH_obj rfl rfl) rfl (by decide) rfl rfl) (by rfl) (Nat.le_of_ble_eq_true rfl) (Nat.le_of_ble_eq_true rfl) rfl (by rfl) ?_
    refine w_p (pc1 := 157) rfl rfl ?_
    refine w_p (pc1 := 158) rfl rfl ?_
    refine w_p (pc1 := 159) rfl rfl ?_
    refine w_je (pc1 := 162) (vs := [.ref 121, .int (a), .int (b)]) (rest := []) (st1 := []) (m_61 (d := _) (sl := 0) (F).2.2.1 hu) rfl rfl rfl (fun _ _ => rfl) rfl (by exact cl_v my_61 rfl rfl rfl (Nat.le_of_ble_eq_true rfl) rfl (MH_obj rfl rfl) rfl (by decide) rfl rfl) (by rfl) (Nat.le_of_ble_eq_true rfl) (Nat.le_of_ble_eq_true rfl) rfl (by rfl) ?_
    refine w_p (pc1 := 163) rfl rfl ?_
    refine w_m0 (pc1 := 166) rfl rfl (h_gC rfl rfl rfl rfl) rfl ?_
    refine w_je (pc1 := 169) (vs := [.ref 101]) (rest := []) (st1 := []) (m_21s (d := _) (sl := 0) (FK_en (F) h1 h2).1 h1 h2) rfl rfl rfl (fun _ _ => rfl) rfl (by exact cl_v my_21 rfl rfl rfl (Nat.le_of_ble_eq_true rfl) rfl (MH_obj rfl rfl) rfl (by decide) rfl rfl) (by rfl) (Nat.le_of_ble_eq_true rfl) (Nat.le_of_ble_eq_true rfl) rfl (by rfl) ?_
    refine w_r rfl rfl rfl (fun _ _ => rfl) rfl ?_
    exact ⟨rfl, ⟨_, (FK_en (F) h1 h2).2, rfl⟩, rfl⟩
  · cases hy
  · rename_i k hl
    cases hy
    have hm := F.2.2.2.2.2.2.1
    rw [hl] at hm
    have hk : k < 1000 := by have := hm.2; omega
    refine w_p (pc1 := 153) rfl rfl ?_
    refine w_je (pc1 := 156) (vs := [.ref 121]) (rest := []) (st1 := []) (m_60s (d := _) (sl := 0) hm.1 hk) rfl rfl rfl (fun _ _ => rfl) rfl (by exact cl_v my_60 rfl rfl rfl (Nat.le_of_ble_eq_true rfl) rfl (MH_obj rfl rfl) rfl (by decide) rfl rfl) (by rfl) (Nat.le_of_ble_eq_true rfl) (Nat.le_of_ble_eq_true rfl) rfl (by rfl) ?_
    refine w_p (pc1 := 157) rfl rfl ?_
    refine w_p (pc1 := 158) rfl rfl ?_
    refine w_p (pc1 := 159) rfl rfl ?_
    refine w_je (pc1 := 162) (vs := [.ref 121, .int (a), .int (b)]) (rest := []) (st1 := []) (m_61 (d := _) (sl := 0) (FK_sp F hl).2.2.1 hu) rfl rfl rfl (fun _ _ => rfl) rfl (by exact cl_v my_61 rfl rfl rfl (Nat.le_of_ble_eq_true rfl) rfl (MH_obj rfl rfl) rfl (by decide) rfl rfl) (by rfl) (Nat.le_of_ble_eq_true rfl) (Nat.le_of_ble_eq_true rfl) rfl (by rfl) ?_
    refine w_p (pc1 := 163) rfl rfl ?_
    refine w_m0 (pc1 := 166) rfl rfl (h_gC rfl rfl rfl rfl) rfl ?_
    refine w_je (pc1 := 169) (vs := [.ref 101]) (rest := []) (st1 := []) (m_21s (d := _) (sl := 0) (FK_en (FK_sp F hl) h1 h2).1 h1 h2) rfl rfl rfl (fun _ _ => rfl) rfl (by exact cl_v my_21 rfl rfl rfl (Nat.le_of_ble_eq_true rfl) rfl (MH_obj rfl rfl) rfl (by decide) rfl rfl) (by rfl) (Nat.le_of_ble_eq_true rfl) (Nat.le_of_ble_eq_true rfl) rfl (by rfl) ?_
    refine w_r rfl rfl rfl (fun _ _ => rfl) rfl ?_
    exact ⟨rfl, ⟨_, (FK_en (FK_sp F hl) h1 h2).2, rfl⟩, rfl⟩
set_option maxRecDepth 100000 in
theorem lf_er1 {a b c : Int32} {i : Nat} (F : FK B n m C0 C s) (h : lef s a b = .inl (c, i)) : Wd L xs (d + 8) y_64 (152, [(2, .int b), (1, .int a), (0, .ref 121)], [], MH C t, sl) nP (XFK B n m C0 t sl c i) := by
  unfold lef spd bnd at h
  split at h
  · rename_i e he
    split at he
    · cases he
    · rename_i hl
      cases he
      cases h
      have hm : C.1 21 6 = 0 := by have := F.2.2.2.2.2.2.1; rw [hl] at this; exact this.1
      refine w_p (pc1 := 153) rfl rfl ?_
      refine w_ji (pc1 := 156) (vs := [.ref 121]) (rest := []) (m_60z (d := _) (sl := 0) F.1 hm) rfl rfl rfl (fun _ _ => rfl) rfl (by exact cl_v my_60 rfl rfl rfl (Nat.le_of_ble_eq_true rfl) rfl (MH_obj rfl rfl) rfl (by decide) rfl rfl) (by rfl) (Nat.le_of_ble_eq_true rfl) (Nat.le_of_ble_eq_true rfl) rfl (fun v h1 d1 hq => ?_) (fun a h1 d1 hq => ?_)
      · exact hq.elim
      · rcases hq with ⟨ha, hh, hn⟩
        · subst ha; subst hh; subst hn
          refine Or.inl ⟨ch_new (by decide) rfl, ?_⟩
          exact X_up F.2.2.2.2.2.2.2 F.1 ⟨rfl, rfl, rfl⟩
    · cases he
  · cases h
set_option maxRecDepth 100000 in
theorem lf_ok2 {a b : Int32} (F : FK B n m C0 C s) (h1 : kd B n s.1 ≠ 1) (h2 : kd B n s.1 ≠ 2) (h : lef s a b = .inr z) : Wd L xs (d + 1) y_64 (152, [(1, .int a), (2, .int b), (0, .ref 121)], [], MH C t, sl) (PFK B n m C0 t sl z) nX := by
  obtain ⟨y, hy, hz⟩ := bnd_s h
  cases hz
  have hu := FK_600 F h1 h2
  unfold spd at hy
  split at hy
  · rename_i hl
    cases hy
    have hm : C.1 21 6 = -1 := by have := F.2.2.2.2.2.2.1; rw [hl] at this; exact this
    refine w_p (pc1 := 153) rfl rfl ?_
    refine w_je (pc1 := 156) (vs := [.ref 121]) (rest := []) (st1 := []) (m_60m (d := _) (sl := 0) hm) rfl rfl rfl (fun _ _ => rfl) rfl (by exact cl_v my_60 rfl rfl rfl (Nat.le_of_ble_eq_true rfl) rfl (MH_obj rfl rfl) rfl (by decide) rfl rfl) (by rfl) (Nat.le_of_ble_eq_true rfl) (Nat.le_of_ble_eq_true rfl) rfl (by rfl) ?_
    refine w_p (pc1 := 157) rfl rfl ?_
    refine w_p (pc1 := 158) rfl rfl ?_
    refine w_p (pc1 := 159) rfl rfl ?_
    refine w_je (pc1 := 162) (vs := [.ref 121, .int (a), .int (b)]) (rest := []) (st1 := []) (m_61 (d := _) (sl := 0) (F).2.2.1 hu) rfl rfl rfl (fun _ _ => rfl) rfl (by exact cl_v my_61 rfl rfl rfl (Nat.le_of_ble_eq_true rfl) rfl (MH_obj rfl rfl) rfl (by decide) rfl rfl) (by rfl) (Nat.le_of_ble_eq_true rfl) (Nat.le_of_ble_eq_true rfl) rfl (by rfl) ?_
    refine w_p (pc1 := 163) rfl rfl ?_
    refine w_m0 (pc1 := 166) rfl rfl (h_gC rfl rfl rfl rfl) rfl ?_
    refine w_je (pc1 := 169) (vs := [.ref 101]) (rest := []) (st1 := []) (m_21s (d := _) (sl := 0) (FK_en (F) h1 h2).1 h1 h2) rfl rfl rfl (fun _ _ => rfl) rfl (by exact cl_v my_21 rfl rfl rfl (Nat.le_of_ble_eq_true rfl) rfl (MH_obj rfl rfl) rfl (by decide) rfl rfl) (by rfl) (Nat.le_of_ble_eq_true rfl) (Nat.le_of_ble_eq_true rfl) rfl (by rfl) ?_
    refine w_r rfl rfl rfl (fun _ _ => rfl) rfl ?_
    exact ⟨rfl, ⟨_, (FK_en (F) h1 h2).2, rfl⟩, rfl⟩
  · cases hy
  · rename_i k hl
    cases hy
    have hm := F.2.2.2.2.2.2.1
    rw [hl] at hm
    have hk : k < 1000 := by have := hm.2; omega
    refine w_p (pc1 := 153) rfl rfl ?_
    refine w_je (pc1 := 156) (vs := [.ref 121]) (rest := []) (st1 := []) (m_60s (d := _) (sl := 0) hm.1 hk) rfl rfl rfl (fun _ _ => rfl) rfl (by exact cl_v my_60 rfl rfl rfl (Nat.le_of_ble_eq_true rfl) rfl (MH_obj rfl rfl) rfl (by decide) rfl rfl) (by rfl) (Nat.le_of_ble_eq_true rfl) (Nat.le_of_ble_eq_true rfl) rfl (by rfl) ?_
    refine w_p (pc1 := 157) rfl rfl ?_
    refine w_p (pc1 := 158) rfl rfl ?_
    refine w_p (pc1 := 159) rfl rfl ?_
    refine w_je (pc1 := 162) (vs := [.ref 121, .int (a), .int (b)]) (rest := []) (st1 := []) (m_61 (d := _) (sl := 0) (FK_sp F hl).2.2.1 hu) rfl rfl rfl (fun _ _ => rfl) rfl (by exact cl_v my_61 rfl rfl rfl (Nat.le_of_ble_eq_true rfl) rfl (MH_obj rfl rfl) rfl (by decide) rfl rfl) (by rfl) (Nat.le_of_ble_eq_true rfl) (Nat.le_of_ble_eq_true rfl) rfl (by rfl) ?_
    refine w_p (pc1 := 163) rfl rfl ?_
    refine w_m0 (pc1 := 166) rfl rfl (h_gC rfl rfl rfl rfl) rfl ?_
    refine w_je (pc1 := 169) (vs := [.ref 101]) (rest := []) (st1 := []) (m_21s (d := _) (sl := 0) (FK_en (FK_sp F hl) h1 h2).1 h1 h2) rfl rfl rfl (fun _ _ => rfl) rfl (by exact cl_v my_21 rfl rfl rfl (Nat.le_of_ble_eq_true rfl) rfl (MH_obj rfl rfl) rfl (by decide) rfl rfl) (by rfl) (Nat.le_of_ble_eq_true rfl) (Nat.le_of_ble_eq_true rfl) rfl (by rfl) ?_
    refine w_r rfl rfl rfl (fun _ _ => rfl) rfl ?_
    exact ⟨rfl, ⟨_, (FK_en (FK_sp F hl) h1 h2).2, rfl⟩, rfl⟩
set_option maxRecDepth 100000 in
theorem lf_er2 {a b c : Int32} {i : Nat} (F : FK B n m C0 C s) (h : lef s a b = .inl (c, i)) : Wd L xs (d + 8) y_64 (152, [(1, .int a), (2, .int b), (0, .ref 121)], [], MH C t, sl) nP (XFK B n m C0 t sl c i) := by
  unfold lef spd bnd at h
  split at h
  · rename_i e he
    split at he
    · cases he
    · rename_i hl
      cases he
      cases h
      have hm : C.1 21 6 = 0 := by have := F.2.2.2.2.2.2.1; rw [hl] at this; exact this.1
      refine w_p (pc1 := 153) rfl rfl ?_
      refine w_ji (pc1 := 156) (vs := [.ref 121]) (rest := []) (m_60z (d := _) (sl := 0) F.1 hm) rfl rfl rfl (fun _ _ => rfl) rfl (by exact cl_v my_60 rfl rfl rfl (Nat.le_of_ble_eq_true rfl) rfl (MH_obj rfl rfl) rfl (by decide) rfl rfl) (by rfl) (Nat.le_of_ble_eq_true rfl) (Nat.le_of_ble_eq_true rfl) rfl (fun v h1 d1 hq => ?_) (fun a h1 d1 hq => ?_)
      · exact hq.elim
      · rcases hq with ⟨ha, hh, hn⟩
        · subst ha; subst hh; subst hn
          refine Or.inl ⟨ch_new (by decide) rfl, ?_⟩
          exact X_up F.2.2.2.2.2.2.2 F.1 ⟨rfl, rfl, rfl⟩
    · cases he
  · cases h
end FLF
