/-! THE OTHER SIDE'S FORMULAS, 4: what waits is done, up to a rank -/
section DTO
variable {L : Nat} {xs : Nat → Int32} {t : ab_H} {d n p b wb e : Nat} {B : Nat → Nat} {C0 : co_T}
def opO (v : Int64) : Int32 := if v = 43 then 9 else if v = 45 then 10 else if v = 42 then 11 else 12
def dn (x : Nat × Int64) (s : fs_T) : fs_T := if x.1 = 3 then gou (emt s 5 0) else if x.1 = 4 then gou (emt s 6 0) else if x.1 = 8 then emt s 19 0 else if x.1 = 9 then emt s 20 0 else emt s (opO x.2) 0
/-! it can be done, and ranks no higher -/
def okX (h : Nat) (x : Nat × Int64) : Prop := 3 ≤ x.1 ∧ x.1 ≤ h ∧ (x.1 = 3 ∨ x.1 = 4 ∨ x.1 = 8 ∨ x.1 = 9 ∨ ((x.1 = 5 ∨ x.1 = 6) ∧ (x.2 = 43 ∨ x.2 = 45 ∨ x.2 = 42 ∨ x.2 = 47)))
def enX (x : Nat × Int64) : Int32 × Int64 := (nI x.1, x.2)
def c34 (R : List (Nat × Int64)) : Nat := (R.filter (fun x => decide (x.1 = 3 ∨ x.1 = 4))).length
set_option maxRecDepth 100000 in
theorem opO_s {v : Int64} (h : v = 43 ∨ v = 45 ∨ v = 42 ∨ v = 47) : sgO (opO v) v := by
  rcases h with rfl | rfl | rfl | rfl
  · exact Or.inl ⟨rfl, rfl⟩
  · exact Or.inr (Or.inl ⟨rfl, rfl⟩)
  · exact Or.inr (Or.inr (Or.inl ⟨rfl, rfl⟩))
  · exact Or.inr (Or.inr (Or.inr (Or.inl ⟨rfl, rfl⟩)))
set_option maxRecDepth 100000 in
theorem wM {C : co_T} {s : fs_T} {V : List (Int32 × Int64)} {x : Nat × Int64} {h : Nat} (M : MK B n C0 C p b wb (e + 1) s (V ++ [enX x])) (hx : okX h x) (hq : (x.1 = 3 ∨ x.1 = 4) → 1 ≤ s.2.2.1) : Wd L xs (d + 1) y_234 (0, [(0, .ref 176)], [], MH C t, 0) (PMK B n C0 t p b wb (e + 1) none (dn x s) V) nX := by
  obtain ⟨c, v⟩ := x
  obtain ⟨-, -, hx⟩ := hx
  simp only at hx hq
  unfold dn
  rcases hx with rfl | rfl | rfl | rfl | ⟨rfl | rfl, hv⟩
  · exact wM3 M (hq (Or.inl rfl))
  · exact wM4 M (hq (Or.inr rfl))
  · exact wM8 M
  · exact wM9 M
  · exact wM5 M (opO_s hv)
  · exact wM6 M (opO_s hv)
set_option maxRecDepth 100000 in
theorem tM {C : co_T} {s : fs_T} {V : List (Int32 × Int64)} {x : Nat × Int64} (M : MK B n C0 C p b wb e s (V ++ [enX x])) : Wd L xs d y_233 (0, [(0, .ref 176)], [], MH C t, 0) (Rt (some (.int (nI x.1))) (MH C t) 0) nX := by
  have ht := MK_top M
  have g := m_233 (L := L) (xs := xs) (C := C) (t := t) (d := d) (sl := 0) ht.1 ht.2.1
  rw [ht.2.2.1] at g
  exact g
set_option maxRecDepth 100000 in
theorem dn_q {x : Nat × Int64} {s : fs_T} : (dn x s).2.2.1 = if x.1 = 3 ∨ x.1 = 4 then s.2.2.1 - 1 else s.2.2.1 := by
  unfold dn
  by_cases h3 : x.1 = 3
  · rw [if_pos h3, if_pos (Or.inl h3)]
    rfl
  rw [if_neg h3]
  by_cases h4 : x.1 = 4
  · rw [if_pos h4, if_pos (Or.inr h4)]
    rfl
  have hz : ¬ (x.1 = 3 ∨ x.1 = 4) := fun z => z.elim h3 h4
  rw [if_neg h4, if_neg hz]
  split
  · rfl
  · split <;> rfl
def stX (h : Nat) (x : Nat × Int64) : Prop := x.1 < 3 ∨ h < x.1 ∨ x.1 = 10
set_option maxRecDepth 100000 in
theorem dTo {h : Nat} (hh : h ≤ 9) {V : List (Int32 × Int64)} {x0 : Nat × Int64} (h0 : stX h x0) (h10 : x0.1 ≤ 10) : ∀ (R : List (Nat × Int64)) (s : fs_T) (C : co_T), (∀ x, x ∈ R → okX h x) → c34 R ≤ s.2.2.1 → MK B n C0 C p b wb (e + 1) s (V ++ [enX x0] ++ (R.map enX).reverse) → Wd L xs (d + 2) y_232 (0, [(0, .ref 176), (1, .int (nI h))], [], MH C t, 0) (PMK B n C0 t p b wb (e + 1) none (R.foldl (fun s x => dn x s) s) (V ++ [enX x0])) nX
  | [], s, C, hR, hc, M => by
    have M : MK B n C0 C p b wb (e + 1) s (V ++ [enX x0]) := by simpa using M
    have X0 : ∀ d, Wd L xs d y_233 (0, [(0, .ref 176)], [], MH C t, 0) (Rt (some (.int (nI x0.1))) (MH C t) 0) nX := fun d => tM M
    rcases h0 with h0 | h0 | h0
    · skip
      refine w_p (pc1 := 1) rfl rfl ?_
      refine w_je (pc1 := 4) (vs := [.ref 176]) (rest := []) (st1 := [.int (nI (x0.1))]) (X0 _) rfl rfl rfl (fun _ _ => rfl) rfl (by exact cl_v my_233 rfl rfl rfl (Nat.le_of_ble_eq_true rfl) rfl (MH_obj rfl rfl) rfl (by decide) rfl rfl) (by rfl) (Nat.le_of_ble_eq_true rfl) (Nat.le_of_ble_eq_true rfl) rfl (by rfl) ?_
      refine w_p (pc1 := 5) (st1 := .int 3 :: _) rfl rfl ?_
      refine w_t (a := 32) (b := 8) (bN_lt_t (a := x0.1) (b := 3) (by omega) (by omega) (by omega)) rfl rfl ?_
      refine w_r rfl rfl rfl (fun _ _ => rfl) rfl ?_
      exact PM_i M
    · by_cases h3 : x0.1 < 3
      · skip
        refine w_p (pc1 := 1) rfl rfl ?_
        refine w_je (pc1 := 4) (vs := [.ref 176]) (rest := []) (st1 := [.int (nI (x0.1))]) (X0 _) rfl rfl rfl (fun _ _ => rfl) rfl (by exact cl_v my_233 rfl rfl rfl (Nat.le_of_ble_eq_true rfl) rfl (MH_obj rfl rfl) rfl (by decide) rfl rfl) (by rfl) (Nat.le_of_ble_eq_true rfl) (Nat.le_of_ble_eq_true rfl) rfl (by rfl) ?_
        refine w_p (pc1 := 5) (st1 := .int 3 :: _) rfl rfl ?_
        refine w_t (a := 32) (b := 8) (bN_lt_t (a := x0.1) (b := 3) (by omega) (by omega) (by omega)) rfl rfl ?_
        refine w_r rfl rfl rfl (fun _ _ => rfl) rfl ?_
        exact PM_i M
      · skip
        refine w_p (pc1 := 1) rfl rfl ?_
        refine w_je (pc1 := 4) (vs := [.ref 176]) (rest := []) (st1 := [.int (nI (x0.1))]) (X0 _) rfl rfl rfl (fun _ _ => rfl) rfl (by exact cl_v my_233 rfl rfl rfl (Nat.le_of_ble_eq_true rfl) rfl (MH_obj rfl rfl) rfl (by decide) rfl rfl) (by rfl) (Nat.le_of_ble_eq_true rfl) (Nat.le_of_ble_eq_true rfl) rfl (by rfl) ?_
        refine w_p (pc1 := 5) (st1 := .int 3 :: _) rfl rfl ?_
        refine w_f (a := 32) (b := 8) (bN_lt_f (a := x0.1) (b := 3) (by omega) (by omega) (by omega)) rfl rfl ?_
        refine w_p (pc1 := 9) rfl rfl ?_
        refine w_je (pc1 := 12) (vs := [.ref 176]) (rest := []) (st1 := [.int (nI (x0.1))]) (X0 _) rfl rfl rfl (fun _ _ => rfl) rfl (by exact cl_v my_233 rfl rfl rfl (Nat.le_of_ble_eq_true rfl) rfl (MH_obj rfl rfl) rfl (by decide) rfl rfl) (by rfl) (Nat.le_of_ble_eq_true rfl) (Nat.le_of_ble_eq_true rfl) rfl (by rfl) ?_
        refine w_p (pc1 := 13) rfl rfl ?_
        refine w_t (a := 32) (b := 16) (bN_gt_t (a := x0.1) (b := h) (by omega) (by omega) (by omega)) rfl rfl ?_
        refine w_r rfl rfl rfl (fun _ _ => rfl) rfl ?_
        exact PM_i M
    · skip
      refine w_p (pc1 := 1) rfl rfl ?_
      refine w_je (pc1 := 4) (vs := [.ref 176]) (rest := []) (st1 := [.int (nI (x0.1))]) (X0 _) rfl rfl rfl (fun _ _ => rfl) rfl (by exact cl_v my_233 rfl rfl rfl (Nat.le_of_ble_eq_true rfl) rfl (MH_obj rfl rfl) rfl (by decide) rfl rfl) (by rfl) (Nat.le_of_ble_eq_true rfl) (Nat.le_of_ble_eq_true rfl) rfl (by rfl) ?_
      refine w_p (pc1 := 5) (st1 := .int 3 :: _) rfl rfl ?_
      refine w_f (a := 32) (b := 8) (bN_lt_f (a := x0.1) (b := 3) (by omega) (by omega) (by omega)) rfl rfl ?_
      refine w_p (pc1 := 9) rfl rfl ?_
      refine w_je (pc1 := 12) (vs := [.ref 176]) (rest := []) (st1 := [.int (nI (x0.1))]) (X0 _) rfl rfl rfl (fun _ _ => rfl) rfl (by exact cl_v my_233 rfl rfl rfl (Nat.le_of_ble_eq_true rfl) rfl (MH_obj rfl rfl) rfl (by decide) rfl rfl) (by rfl) (Nat.le_of_ble_eq_true rfl) (Nat.le_of_ble_eq_true rfl) rfl (by rfl) ?_
      refine w_p (pc1 := 13) rfl rfl ?_
      refine w_t (a := 32) (b := 16) (bN_gt_t (a := x0.1) (b := h) (by omega) (by omega) (by omega)) rfl rfl ?_
      refine w_r rfl rfl rfl (fun _ _ => rfl) rfl ?_
      exact PM_i M
  | x :: R, s, C, hR, hc, M => by
    have M : MK B n C0 C p b wb (e + 1) s (V ++ [enX x0] ++ (R.map enX).reverse ++ [enX x]) := by simpa using M
    have hx := hR x (List.mem_cons_self ..)
    have X0 : ∀ d, Wd L xs d y_233 (0, [(0, .ref 176)], [], MH C t, 0) (Rt (some (.int (nI x.1))) (MH C t) 0) nX := fun d => tM M
    have h3 := hx.1
    have h4 := hx.2.1
    have hq : (x.1 = 3 ∨ x.1 = 4) → 1 ≤ s.2.2.1 := fun z => by
      have : c34 (x :: R) = c34 R + 1 := by unfold c34; rw [List.filter_cons, if_pos (decide_eq_true z)]; rfl
      omega
    have hc2 : c34 R ≤ (dn x s).2.2.1 := by
      rw [dn_q]
      by_cases z : x.1 = 3 ∨ x.1 = 4
      · have : c34 (x :: R) = c34 R + 1 := by unfold c34; rw [List.filter_cons, if_pos (decide_eq_true z)]; rfl
        rw [if_pos z]
        omega
      · have : c34 (x :: R) = c34 R := by unfold c34; rw [List.filter_cons, if_neg (by simpa using z)]
        rw [if_neg z]
        omega
    refine w_p (pc1 := 1) rfl rfl ?_
    refine w_je (pc1 := 4) (vs := [.ref 176]) (rest := []) (st1 := [.int (nI (x.1))]) (X0 _) rfl rfl rfl (fun _ _ => rfl) rfl (by exact cl_v my_233 rfl rfl rfl (Nat.le_of_ble_eq_true rfl) rfl (MH_obj rfl rfl) rfl (by decide) rfl rfl) (by rfl) (Nat.le_of_ble_eq_true rfl) (Nat.le_of_ble_eq_true rfl) rfl (by rfl) ?_
    refine w_p (pc1 := 5) (st1 := .int 3 :: _) rfl rfl ?_
    refine w_f (a := 32) (b := 8) (bN_lt_f (a := x.1) (b := 3) (by omega) (by omega) (by omega)) rfl rfl ?_
    refine w_p (pc1 := 9) rfl rfl ?_
    refine w_je (pc1 := 12) (vs := [.ref 176]) (rest := []) (st1 := [.int (nI (x.1))]) (X0 _) rfl rfl rfl (fun _ _ => rfl) rfl (by exact cl_v my_233 rfl rfl rfl (Nat.le_of_ble_eq_true rfl) rfl (MH_obj rfl rfl) rfl (by decide) rfl rfl) (by rfl) (Nat.le_of_ble_eq_true rfl) (Nat.le_of_ble_eq_true rfl) rfl (by rfl) ?_
    refine w_p (pc1 := 13) rfl rfl ?_
    refine w_f (a := 32) (b := 16) (bN_gt_f (a := x.1) (b := h) (by omega) (by omega) (by omega)) rfl rfl ?_
    refine w_p (pc1 := 17) rfl rfl ?_
    refine w_je (pc1 := 20) (vs := [.ref 176]) (rest := []) (st1 := [.int (nI (x.1))]) (X0 _) rfl rfl rfl (fun _ _ => rfl) rfl (by exact cl_v my_233 rfl rfl rfl (Nat.le_of_ble_eq_true rfl) rfl (MH_obj rfl rfl) rfl (by decide) rfl rfl) (by rfl) (Nat.le_of_ble_eq_true rfl) (Nat.le_of_ble_eq_true rfl) rfl (by rfl) ?_
    refine w_p (pc1 := 22) (st1 := .int 10 :: _) rfl rfl ?_
    refine w_f (a := 32) (b := 25) (bN_eq_f (a := x.1) (b := 10) (by omega) (by omega) (by omega)) rfl rfl ?_
    refine w_p (pc1 := 26) rfl rfl ?_
    refine w_ji (pc1 := 29) (vs := [.ref 176]) (rest := []) (wM (d := _) M hx hq) rfl rfl rfl (fun _ _ => rfl) rfl (by exact cl_v my_234 rfl rfl rfl (Nat.le_of_ble_eq_true rfl) rfl (MH_obj rfl rfl) rfl (by decide) rfl rfl) (by rfl) (Nat.le_of_ble_eq_true rfl) (Nat.le_of_ble_eq_true rfl) rfl (fun v h1 d1 hq => ?_) (fun _ _ _ e => e.elim)
    rcases hq with ⟨hv, ⟨C1, M1, hh1⟩, hn⟩
    · subst hv; subst hh1; subst hn
      refine w_p (pc1 := 0) rfl rfl ?_
      exact dTo hh h0 h10 R (dn x s) C1 (fun z hz => hR z (List.mem_cons_of_mem _ hz)) hc2 M1
end DTO
