/-! THE OTHER SIDE'S TOKEN: its registers, its questions, its step -/
section MTK
variable {L : Nat} {xs : Nat → Int32} {C : co_T} {t : ab_H} {d sl n i k : Nat} {B : Nat → Nat}
set_option maxRecDepth 100000 in
theorem spt_get {v : Int64} : ∀ (f j : Nat), spt v f j ≠ 3 → tk_l.getD (spt v f j - 1) 0 = v
  | 0, _, h => absurd rfl h
  | f + 1, j, h => by
    rw [spt] at h ⊢
    by_cases e : tk_l.getD j 0 = v
    · rw [decide_eq_true e, cond_true] at h ⊢
      rw [Nat.add_sub_cancel_left]
      exact e
    · rw [decide_eq_false e, cond_false] at h ⊢
      exact spt_get f (j + 1) h
set_option maxRecDepth 100000 in
theorem kd_get (h : 5 ≤ kd B n i) : tk_l.getD (kd B n i - 1) 0 = vl B n i := by
  have g : kd B n i = spt (vl B n i) 59 0 := by
    unfold kd tkK at h ⊢
    split at h
    · omega
    · rename_i hn
      rw [if_neg hn]
      cases hF : atF B n (tkA B n i) with
      | true =>
        rw [hF, cond_true] at h
        split at h <;> omega
      | false =>
        rw [hF, cond_false] at h
        rw [cond_false]
        cases hL : atL B n (tkA B n i) with
        | true =>
          rw [hL, cond_true] at h
          rw [cond_true]
          split at h
          · omega
          · rename_i h8
            rw [if_neg h8]
        | false =>
          rw [hL, cond_false] at h
          rw [cond_false]
          split at h
          · omega
          · rename_i h3
            rw [if_neg h3]
  rw [g]
  exact spt_get 59 0 (by rw [← g]; omega)
/-! the registers of the token i, no fault -/
def rgT (B : Nat → Nat) (n : Nat) (C : co_T) (i : Nat) : Prop := kd B n i ≠ 1 ∧ C.1 76 8 = 0 ∧ C.1 76 4 = mTk (kd B n i) ∧ C.2.1 76 7 = mIs (kd B n i) (vl B n i) ∧ C.1 76 5 = nI (tkA B n i) ∧ C.1 76 6 = nI (tkZ B n i)
/-! a fault at the token i -/
def faT (B : Nat → Nat) (n : Nat) (C : co_T) (c : Int32) (i : Nat) : Prop := c ≠ 0 ∧ C.1 76 8 = c ∧ C.1 76 9 = nI (tkA B n i)
/-! is it this word, this sign -/
set_option maxRecDepth 100000 in
theorem wd_tab : ∀ a b : Fin 39, decide (tk_l.getD (a.1 + 4) 0 = tk_l.getD (b.1 + 4) 0) = decide (a.1 = b.1) := by decide +kernel
set_option maxRecDepth 100000 in
theorem wd_k (R : rgT B n C i) (h5 : 5 ≤ k) (h43 : k ≤ 43) : wdC C (tk_l.getD (k - 1) 0) = decide (kd B n i = k) := by
  have hk := kd_ok (B := B) (n := n) i
  unfold wdC
  rw [R.2.2.1, R.2.2.2.1]
  by_cases h : 5 ≤ kd B n i ∧ kd B n i ≤ 43
  · have e1 : mTk (kd B n i) = 3 := by unfold mTk; rw [if_neg (by omega), if_neg (by omega), if_neg (by omega), if_pos (by omega)]
    have e2 : mIs (kd B n i) (vl B n i) = tk_l.getD (kd B n i - 1) 0 := by unfold mIs; rw [if_neg (by omega), if_neg (by omega), if_neg (by omega), kd_get h.1]
    rw [e1, e2]
    have ht := wd_tab ⟨kd B n i - 5, by omega⟩ ⟨k - 5, by omega⟩
    simp only at ht
    rw [show kd B n i - 5 + 4 = kd B n i - 1 by omega, show k - 5 + 4 = k - 1 by omega] at ht
    rw [ht]
    have : decide ((3 : Int32) = 3) = true := rfl
    rw [this, Bool.true_and]
    by_cases e : kd B n i = k
    · rw [decide_eq_true e, decide_eq_true (by omega)]
    · rw [decide_eq_false e, decide_eq_false (by omega)]
  · have e1 : mTk (kd B n i) ≠ 3 := by
      unfold mTk
      by_cases a : kd B n i = 2
      · rw [if_pos a]; decide
      rw [if_neg a]
      by_cases b : kd B n i = 3
      · rw [if_pos b]; decide
      rw [if_neg b]
      by_cases c : kd B n i = 4
      · rw [if_pos c]; decide
      rw [if_neg c]
      have := R.1
      rw [if_neg (by omega)]
      decide
    rw [decide_eq_false e1, Bool.false_and, decide_eq_false (by omega)]
def sgc : List Nat := [40, 41, 91, 93, 44, 46, 61, 35, 60, 160, 62, 162, 43, 45, 42, 47]
set_option maxRecDepth 100000 in
theorem sg_tab2 : ∀ a b : Fin 16, decide (mIs (a.1 + 44) (tk_l.getD (a.1 + 43) 0) = (nI (sgc.getD b.1 0)).toInt64) = decide (a.1 = b.1) := by decide +kernel
set_option maxRecDepth 100000 in
theorem sg_k (R : rgT B n C i) (h44 : 44 ≤ k) (h59 : k ≤ 59) : sgC C (nI (sgc.getD (k - 44) 0)) = decide (kd B n i = k) := by
  have hk := kd_ok (B := B) (n := n) i
  unfold sgC
  rw [R.2.2.1, R.2.2.2.1]
  by_cases h : 44 ≤ kd B n i
  · have e1 : mTk (kd B n i) = 4 := by unfold mTk; rw [if_neg (by omega), if_neg (by omega), if_neg (by omega), if_neg (by omega)]
    rw [e1, ← kd_get (by omega)]
    have ht := sg_tab2 ⟨kd B n i - 44, by omega⟩ ⟨k - 44, by omega⟩
    simp only at ht
    rw [show kd B n i - 44 + 44 = kd B n i by omega, show kd B n i - 44 + 43 = kd B n i - 1 by omega] at ht
    rw [ht]
    have : decide ((4 : Int32) = 4) = true := rfl
    rw [this, Bool.true_and]
    by_cases e : kd B n i = k
    · rw [decide_eq_true e, decide_eq_true (by omega)]
    · rw [decide_eq_false e, decide_eq_false (by omega)]
  · have e1 : mTk (kd B n i) ≠ 4 := by
      unfold mTk
      by_cases a : kd B n i = 2
      · rw [if_pos a]; decide
      rw [if_neg a]
      by_cases b : kd B n i = 3
      · rw [if_pos b]; decide
      rw [if_neg b]
      by_cases c : kd B n i = 4
      · rw [if_pos c]; decide
      rw [if_neg c, if_pos (by omega)]
      decide
    rw [decide_eq_false e1, Bool.false_and, decide_eq_false (by omega)]
set_option maxRecDepth 100000 in
theorem nm_k (R : rgT B n C i) : (C.1 76 4 = 1 ↔ kd B n i = 3) ∧ (C.1 76 4 = 2 ↔ kd B n i = 4) ∧ (C.1 76 4 = 0 ↔ kd B n i = 2) := by
  have hk := kd_ok (B := B) (n := n) i
  rw [R.2.2.1]
  unfold mTk
  by_cases a : kd B n i = 2
  · rw [if_pos a]
    refine ⟨⟨fun e => absurd e (by decide), fun e => by omega⟩, ⟨fun e => absurd e (by decide), fun e => by omega⟩, ⟨fun _ => a, fun _ => rfl⟩⟩
  rw [if_neg a]
  by_cases b : kd B n i = 3
  · rw [if_pos b]
    refine ⟨⟨fun _ => b, fun _ => rfl⟩, ⟨fun e => absurd e (by decide), fun e => by omega⟩, ⟨fun e => absurd e (by decide), fun e => by omega⟩⟩
  rw [if_neg b]
  by_cases c : kd B n i = 4
  · rw [if_pos c]
    refine ⟨⟨fun e => absurd e (by decide), fun e => by omega⟩, ⟨fun _ => c, fun _ => rfl⟩, ⟨fun e => absurd e (by decide), fun e => by omega⟩⟩
  rw [if_neg c]
  split
  · refine ⟨⟨fun e => absurd e (by decide), fun e => by omega⟩, ⟨fun e => absurd e (by decide), fun e => by omega⟩, ⟨fun e => absurd e (by decide), fun e => by omega⟩⟩
  · refine ⟨⟨fun e => absurd e (by decide), fun e => by omega⟩, ⟨fun e => absurd e (by decide), fun e => by omega⟩, ⟨fun e => absurd e (by decide), fun e => by omega⟩⟩
/-! the step -/
def nxR (B : Nat → Nat) (n : Nat) (C : co_T) (i : Nat) : co_T := nxM B n C (tkA B n (i + 1))
set_option maxRecDepth 100000 in
theorem m_195R (T : tpM C B n) (R : rgT B n C i) : Wd L xs (d + 3) y_195 (0, [(0, .ref 176)], [], MH C t, sl) (Rt none (MH (nxR B n C i) t) sl) nX := m_195 T R.2.2.2.2.2 (tkZ_le i).2 (fun h => absurd R.2.1 h)
set_option maxRecDepth 100000 in
theorem nxR_ok (T : tpM C B n) (R : rgT B n C i) (h : kd B n (i + 1) ≠ 1) : rgT B n (nxR B n C i) (i + 1) := by
  have g := (nx_tok (C := C) (B := B) (n := n) (i := i + 1) (fun j hj => (T.2.2 j hj).1)).2 h
  exact ⟨h, g.2.2.2.2.1.trans R.2.1, g.1, g.2.1, g.2.2.1, g.2.2.2.1⟩
set_option maxRecDepth 100000 in
theorem nxR_bad (T : tpM C B n) (R : rgT B n C i) (h : kd B n (i + 1) = 1) : faT B n (nxR B n C i) 1 (i + 1) := by
  have g := (nx_tok (C := C) (B := B) (n := n) (i := i + 1) (fun j hj => (T.2.2 j hj).1)).1 h
  exact ⟨by decide, (g.2.2.1 R.2.1).1, (g.2.2.1 R.2.1).2⟩
set_option maxRecDepth 100000 in
theorem nxR_fr : frT C (nxR B n C i) := frT_nx
/-! a fault where there was none -/
set_option maxRecDepth 100000 in
theorem fl_new {c : Int32} (R : rgT B n C i) (hc : c ≠ 0) : faT B n (fl_ C c (C.1 76 5)) c i := by
  have g := (fl_f (C := C) (c := c) (q := C.1 76 5)).1 R.2.1
  exact ⟨hc, g.1, by rw [g.2]; exact R.2.2.2.2.1⟩
end MTK
