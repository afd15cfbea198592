/-! THE OTHER SIDE'S FORMULAS, 13: readUnit -/
section MUN
variable {L : Nat} {xs : Nat → Int32} {t : ab_H} {d n p b wb e f : Nat} {B : Nat → Nat} {C0 C : co_T} {s y z : fs_T} {W : List (Int32 × Int64)} {c : Int32} {i : Nat} {E : fe_T} {g g' : fs_T → Prop} {k k' : Int32 → Nat → Prop} {r : fr_T} {q : fs_T → fr_T} {P : Option Value → ab_H → Nat → Prop} {X : Nat → ab_H → Nat → Prop}
/-! no code is below 0 -/
def cdP (r : fr_T) : Prop := ∀ c i, r = .inl (c, i) → 0 ≤ c.toInt
set_option maxRecDepth 100000 in
theorem cdP_i : cdP (.inr z) := fun _ _ h => by cases h
set_option maxRecDepth 100000 in
theorem cdP_l {a : Int32} {j : Nat} (h : 0 ≤ a.toInt) : cdP (.inl (a, j)) := fun _ _ e => by cases e; exact h
set_option maxRecDepth 100000 in
theorem cdP_b (h : cdP r) (hq : ∀ z, cdP (q z)) : cdP (bnd r q) := by
  cases r with
  | inl u => exact fun c i e => h c i e
  | inr z => exact hq z
set_option maxRecDepth 100000 in
theorem cdP_sp : cdP (spd s) := fun c i h => by rw [(spd_i h).1]; decide
set_option maxRecDepth 100000 in
theorem cdP_gi : cdP (gin s) := fun c i h => by rw [(gin_i h).1]; decide
set_option maxRecDepth 100000 in
theorem cdP_x {w : Nat} : cdP (xpt E w s) := by
  unfold xpt
  split
  · exact cdP_i
  · exact cdP_l (by decide)
set_option maxRecDepth 100000 in
theorem cdP_le {a b : Int32} : cdP (lef s a b) := cdP_b cdP_sp (fun _ => cdP_i)
set_option maxRecDepth 100000 in
theorem cdP_lf {a : Int32} {o : Option (Int64 → Int32)} : cdP (lfc E o s a) := by
  unfold lfc clm
  split
  · rename_i h
    split at h
    · split at h
      · cases h
        exact cdP_l (by decide)
      · split at h
        · cases h
          exact cdP_l (by decide)
        · cases h
    · cases h
      exact cdP_l (by decide)
  · exact cdP_le
set_option maxRecDepth 100000 in
theorem cdP_n : cdP (nsm E s) := by
  unfold nsm
  split
  · exact cdP_i
  · exact cdP_b cdP_x (fun _ => cdP_i)
set_option maxRecDepth 100000 in
theorem rd_cd : ∀ (f md : Nat) (s : fs_T), cdP (rd E f md s)
  | 0, _, _ => cdP_l (by decide)
  | f + 1, md, s => by
    have ih := rd_cd f
    unfold rd
    split
    · split
      · exact cdP_le
      · split
        · exact cdP_le
        · split
          · exact cdP_lf
          · split
            · split
              · exact cdP_b cdP_x (fun _ => cdP_lf)
              · exact cdP_l (by decide)
            · split
              · split
                · exact cdP_b cdP_x (fun _ => cdP_lf)
                · exact cdP_l (by decide)
              · split
                · exact cdP_b cdP_gi (fun _ => cdP_b cdP_sp (fun _ => cdP_b (ih _ _) (fun _ => cdP_i)))
                · split
                  · exact cdP_b cdP_gi (fun _ => cdP_b (ih _ _) (fun _ => cdP_b cdP_x (fun _ => cdP_i)))
                  · exact cdP_l (by decide)
    · exact cdP_b (ih _ _) (fun _ => ih _ _)
    · split
      · exact cdP_b cdP_sp (fun _ => cdP_b (ih _ _) (fun _ => ih _ _))
      · exact cdP_i
    · exact cdP_b (ih _ _) (fun _ => ih _ _)
    · split
      · exact cdP_b cdP_sp (fun _ => cdP_b (ih _ _) (fun _ => ih _ _))
      · exact cdP_i
    · split
      · exact cdP_b cdP_gi (fun _ => cdP_b cdP_sp (fun _ => cdP_b (ih _ _) (fun _ => cdP_i)))
      · split
        · exact cdP_b cdP_gi (fun _ => cdP_b (ih _ _) (fun _ => cdP_b cdP_x (fun _ => cdP_i)))
        · refine cdP_b (ih _ _) (fun _ => ?_)
          split
          · exact cdP_l (by decide)
          · refine cdP_b cdP_sp (fun _ => ?_)
            split
            · exact cdP_n
            · exact cdP_b (ih _ _) (fun _ => cdP_i)
    · exact cdP_b (ih _ _) (fun _ => ih _ _)
    · split
      · exact cdP_b cdP_sp (fun _ => cdP_b (ih _ _) (fun _ => ih _ _))
      · exact cdP_i
    · exact cdP_b (ih _ _) (fun _ => ih _ _)
    · split
      · exact cdP_b cdP_sp (fun _ => cdP_b (ih _ _) (fun _ => ih _ _))
      · exact cdP_i
set_option maxRecDepth 100000 in
theorem ct_p (hr : cdP r) (h : ct B n r g k) : ct B n r g (fun c i => 0 < c.toInt ∧ k c i) := by
  cases r with
  | inr z => exact ⟨fun hb => ⟨by decide, h.1 hb⟩, h.2⟩
  | inl u =>
    obtain ⟨c, i⟩ := u
    refine ⟨h.1, ?_, h.2⟩
    have h1 := hr c i rfl
    have h2 : c ≠ 0 := h.1
    by_cases hb : kd B n i = 1
    · simp only [hb, if_pos]
      decide
    · simp only [if_neg hb]
      rcases Int.lt_or_eq_of_le h1 with h3 | h3
      · exact h3
      · exact absurd (Int32.toInt_inj.mp (show c.toInt = (0 : Int32).toInt from h3.symm)) h2
/-! what is left, with so many steps behind a fault -/
def SU (B : Nat → Nat) (n : Nat) (C0 : co_T) (t : ab_H) (p b wb e a : Nat) (W : List (Int32 × Int64)) (g : fs_T → Prop) (k : Int32 → Nat → Prop) : Option Value → ab_H → Nat → Prop := fun v' h m => none = v' ∧ (∃ C', ((∃ z, g z ∧ MT B n C0 C' p b wb e z W) ∨ (∃ c i, k c i ∧ FM B n C0 C' p b wb a c i)) ∧ MH C' t = h) ∧ 0 = m
set_option maxRecDepth 100000 in
theorem cmN (hk : kd B n s.1 < 50 ∨ 55 < kd B n s.1) (M : MK B n C0 C p b wb e s W) : Wd L xs (d + 1) y_235 (0, [(0, .ref 176)], [], MH C t, 0) (Rt (some (.int 0)) (MH C t) 0) nX := by
  refine w_p (pc1 := 1) rfl rfl ?_
  refine w_p (pc1 := 3) (st1 := .int 61 :: _) rfl rfl ?_
  refine w_je (pc1 := 6) (vs := [.ref 176, .int 61]) (rest := []) (st1 := [.int 0]) (m_210f (d := _) (sl := 0) (c := 61) ((sg_k (k := 50) M.2.1 (by decide) (by decide)).trans (decide_eq_false (by omega)))) rfl rfl rfl (fun _ _ => rfl) rfl (by exact cl_v my_210 rfl rfl rfl (Nat.le_of_ble_eq_true rfl) rfl (MH_obj rfl rfl) rfl (by decide) rfl rfl) (by rfl) (Nat.le_of_ble_eq_true rfl) (Nat.le_of_ble_eq_true rfl) rfl (by rfl) ?_
  refine w_f (a := 56) (b := 9) rfl rfl rfl ?_
  refine w_p (pc1 := 10) rfl rfl ?_
  refine w_p (pc1 := 12) (st1 := .int 35 :: _) rfl rfl ?_
  refine w_je (pc1 := 15) (vs := [.ref 176, .int 35]) (rest := []) (st1 := [.int 0]) (m_210f (d := _) (sl := 0) (c := 35) ((sg_k (k := 51) M.2.1 (by decide) (by decide)).trans (decide_eq_false (by omega)))) rfl rfl rfl (fun _ _ => rfl) rfl (by exact cl_v my_210 rfl rfl rfl (Nat.le_of_ble_eq_true rfl) rfl (MH_obj rfl rfl) rfl (by decide) rfl rfl) (by rfl) (Nat.le_of_ble_eq_true rfl) (Nat.le_of_ble_eq_true rfl) rfl (by rfl) ?_
  refine w_f (a := 56) (b := 18) rfl rfl rfl ?_
  refine w_p (pc1 := 19) rfl rfl ?_
  refine w_p (pc1 := 21) (st1 := .int 60 :: _) rfl rfl ?_
  refine w_je (pc1 := 24) (vs := [.ref 176, .int 60]) (rest := []) (st1 := [.int 0]) (m_210f (d := _) (sl := 0) (c := 60) ((sg_k (k := 52) M.2.1 (by decide) (by decide)).trans (decide_eq_false (by omega)))) rfl rfl rfl (fun _ _ => rfl) rfl (by exact cl_v my_210 rfl rfl rfl (Nat.le_of_ble_eq_true rfl) rfl (MH_obj rfl rfl) rfl (by decide) rfl rfl) (by rfl) (Nat.le_of_ble_eq_true rfl) (Nat.le_of_ble_eq_true rfl) rfl (by rfl) ?_
  refine w_f (a := 56) (b := 27) rfl rfl rfl ?_
  refine w_p (pc1 := 28) rfl rfl ?_
  refine w_p (pc1 := 30) (st1 := .int 62 :: _) rfl rfl ?_
  refine w_je (pc1 := 33) (vs := [.ref 176, .int 62]) (rest := []) (st1 := [.int 0]) (m_210f (d := _) (sl := 0) (c := 62) ((sg_k (k := 54) M.2.1 (by decide) (by decide)).trans (decide_eq_false (by omega)))) rfl rfl rfl (fun _ _ => rfl) rfl (by exact cl_v my_210 rfl rfl rfl (Nat.le_of_ble_eq_true rfl) rfl (MH_obj rfl rfl) rfl (by decide) rfl rfl) (by rfl) (Nat.le_of_ble_eq_true rfl) (Nat.le_of_ble_eq_true rfl) rfl (by rfl) ?_
  refine w_f (a := 56) (b := 36) rfl rfl rfl ?_
  refine w_p (pc1 := 37) rfl rfl ?_
  refine w_p (pc1 := 40) (st1 := .int 160 :: _) rfl rfl ?_
  refine w_je (pc1 := 43) (vs := [.ref 176, .int 160]) (rest := []) (st1 := [.int 0]) (m_210f (d := _) (sl := 0) (c := 160) ((sg_k (k := 53) M.2.1 (by decide) (by decide)).trans (decide_eq_false (by omega)))) rfl rfl rfl (fun _ _ => rfl) rfl (by exact cl_v my_210 rfl rfl rfl (Nat.le_of_ble_eq_true rfl) rfl (MH_obj rfl rfl) rfl (by decide) rfl rfl) (by rfl) (Nat.le_of_ble_eq_true rfl) (Nat.le_of_ble_eq_true rfl) rfl (by rfl) ?_
  refine w_f (a := 56) (b := 46) rfl rfl rfl ?_
  refine w_p (pc1 := 47) rfl rfl ?_
  refine w_p (pc1 := 50) (st1 := .int 162 :: _) rfl rfl ?_
  refine w_je (pc1 := 53) (vs := [.ref 176, .int 162]) (rest := []) (st1 := [.int 0]) (m_210f (d := _) (sl := 0) (c := 162) ((sg_k (k := 55) M.2.1 (by decide) (by decide)).trans (decide_eq_false (by omega)))) rfl rfl rfl (fun _ _ => rfl) rfl (by exact cl_v my_210 rfl rfl rfl (Nat.le_of_ble_eq_true rfl) rfl (MH_obj rfl rfl) rfl (by decide) rfl rfl) (by rfl) (Nat.le_of_ble_eq_true rfl) (Nat.le_of_ble_eq_true rfl) rfl (by rfl) ?_
  refine w_t (a := 60) (b := 56) rfl rfl rfl ?_
  refine w_p (pc1 := 61) (st1 := .int 0 :: _) rfl rfl ?_
  refine w_r rfl rfl rfl (fun _ _ => rfl) rfl ?_
  exact ⟨rfl, rfl, rfl⟩
set_option maxRecDepth 100000 in
theorem cmY (h1 : 50 ≤ kd B n s.1) (h2 : kd B n s.1 ≤ 55) (M : MK B n C0 C p b wb e s W) : Wd L xs (d + 1) y_235 (0, [(0, .ref 176)], [], MH C t, 0) (Rt (some (.int 1)) (MH C t) 0) nX := by
  have h0 : kd B n s.1 = 50 ∨ kd B n s.1 = 51 ∨ kd B n s.1 = 52 ∨ kd B n s.1 = 54 ∨ kd B n s.1 = 53 ∨ kd B n s.1 = 55 := by omega
  rcases h0 with hk | hk | hk | hk | hk | hk
  · skip
    refine w_p (pc1 := 1) rfl rfl ?_
    refine w_p (pc1 := 3) (st1 := .int 61 :: _) rfl rfl ?_
    refine w_je (pc1 := 6) (vs := [.ref 176, .int 61]) (rest := []) (st1 := [.int 1]) (m_210t (d := _) (sl := 0) (c := 61) ((sg_k (k := 50) M.2.1 (by decide) (by decide)).trans (decide_eq_true hk))) rfl rfl rfl (fun _ _ => rfl) rfl (by exact cl_v my_210 rfl rfl rfl (Nat.le_of_ble_eq_true rfl) rfl (MH_obj rfl rfl) rfl (by decide) rfl rfl) (by rfl) (Nat.le_of_ble_eq_true rfl) (Nat.le_of_ble_eq_true rfl) rfl (by rfl) ?_
    refine w_t (a := 56) (b := 9) rfl rfl rfl ?_
    refine w_p (pc1 := 57) (st1 := .int 1 :: _) rfl rfl ?_
    refine w_p (pc1 := 61) rfl rfl ?_
    refine w_r rfl rfl rfl (fun _ _ => rfl) rfl ?_
    exact ⟨rfl, rfl, rfl⟩
  · skip
    refine w_p (pc1 := 1) rfl rfl ?_
    refine w_p (pc1 := 3) (st1 := .int 61 :: _) rfl rfl ?_
    refine w_je (pc1 := 6) (vs := [.ref 176, .int 61]) (rest := []) (st1 := [.int 0]) (m_210f (d := _) (sl := 0) (c := 61) ((sg_k (k := 50) M.2.1 (by decide) (by decide)).trans (decide_eq_false (by rw [hk]; decide)))) rfl rfl rfl (fun _ _ => rfl) rfl (by exact cl_v my_210 rfl rfl rfl (Nat.le_of_ble_eq_true rfl) rfl (MH_obj rfl rfl) rfl (by decide) rfl rfl) (by rfl) (Nat.le_of_ble_eq_true rfl) (Nat.le_of_ble_eq_true rfl) rfl (by rfl) ?_
    refine w_f (a := 56) (b := 9) rfl rfl rfl ?_
    refine w_p (pc1 := 10) rfl rfl ?_
    refine w_p (pc1 := 12) (st1 := .int 35 :: _) rfl rfl ?_
    refine w_je (pc1 := 15) (vs := [.ref 176, .int 35]) (rest := []) (st1 := [.int 1]) (m_210t (d := _) (sl := 0) (c := 35) ((sg_k (k := 51) M.2.1 (by decide) (by decide)).trans (decide_eq_true hk))) rfl rfl rfl (fun _ _ => rfl) rfl (by exact cl_v my_210 rfl rfl rfl (Nat.le_of_ble_eq_true rfl) rfl (MH_obj rfl rfl) rfl (by decide) rfl rfl) (by rfl) (Nat.le_of_ble_eq_true rfl) (Nat.le_of_ble_eq_true rfl) rfl (by rfl) ?_
    refine w_t (a := 56) (b := 18) rfl rfl rfl ?_
    refine w_p (pc1 := 57) (st1 := .int 1 :: _) rfl rfl ?_
    refine w_p (pc1 := 61) rfl rfl ?_
    refine w_r rfl rfl rfl (fun _ _ => rfl) rfl ?_
    exact ⟨rfl, rfl, rfl⟩
  · skip
    refine w_p (pc1 := 1) rfl rfl ?_
    refine w_p (pc1 := 3) (st1 := .int 61 :: _) rfl rfl ?_
    refine w_je (pc1 := 6) (vs := [.ref 176, .int 61]) (rest := []) (st1 := [.int 0]) (m_210f (d := _) (sl := 0) (c := 61) ((sg_k (k := 50) M.2.1 (by decide) (by decide)).trans (decide_eq_false (by rw [hk]; decide)))) rfl rfl rfl (fun _ _ => rfl) rfl (by exact cl_v my_210 rfl rfl rfl (Nat.le_of_ble_eq_true rfl) rfl (MH_obj rfl rfl) rfl (by decide) rfl rfl) (by rfl) (Nat.le_of_ble_eq_true rfl) (Nat.le_of_ble_eq_true rfl) rfl (by rfl) ?_
    refine w_f (a := 56) (b := 9) rfl rfl rfl ?_
    refine w_p (pc1 := 10) rfl rfl ?_
    refine w_p (pc1 := 12) (st1 := .int 35 :: _) rfl rfl ?_
    refine w_je (pc1 := 15) (vs := [.ref 176, .int 35]) (rest := []) (st1 := [.int 0]) (m_210f (d := _) (sl := 0) (c := 35) ((sg_k (k := 51) M.2.1 (by decide) (by decide)).trans (decide_eq_false (by rw [hk]; decide)))) rfl rfl rfl (fun _ _ => rfl) rfl (by exact cl_v my_210 rfl rfl rfl (Nat.le_of_ble_eq_true rfl) rfl (MH_obj rfl rfl) rfl (by decide) rfl rfl) (by rfl) (Nat.le_of_ble_eq_true rfl) (Nat.le_of_ble_eq_true rfl) rfl (by rfl) ?_
    refine w_f (a := 56) (b := 18) rfl rfl rfl ?_
    refine w_p (pc1 := 19) rfl rfl ?_
    refine w_p (pc1 := 21) (st1 := .int 60 :: _) rfl rfl ?_
    refine w_je (pc1 := 24) (vs := [.ref 176, .int 60]) (rest := []) (st1 := [.int 1]) (m_210t (d := _) (sl := 0) (c := 60) ((sg_k (k := 52) M.2.1 (by decide) (by decide)).trans (decide_eq_true hk))) rfl rfl rfl (fun _ _ => rfl) rfl (by exact cl_v my_210 rfl rfl rfl (Nat.le_of_ble_eq_true rfl) rfl (MH_obj rfl rfl) rfl (by decide) rfl rfl) (by rfl) (Nat.le_of_ble_eq_true rfl) (Nat.le_of_ble_eq_true rfl) rfl (by rfl) ?_
    refine w_t (a := 56) (b := 27) rfl rfl rfl ?_
    refine w_p (pc1 := 57) (st1 := .int 1 :: _) rfl rfl ?_
    refine w_p (pc1 := 61) rfl rfl ?_
    refine w_r rfl rfl rfl (fun _ _ => rfl) rfl ?_
    exact ⟨rfl, rfl, rfl⟩
  · skip
    refine w_p (pc1 := 1) rfl rfl ?_
    refine w_p (pc1 := 3) (st1 := .int 61 :: _) rfl rfl ?_
    refine w_je (pc1 := 6) (vs := [.ref 176, .int 61]) (rest := []) (st1 := [.int 0]) (m_210f (d := _) (sl := 0) (c := 61) ((sg_k (k := 50) M.2.1 (by decide) (by decide)).trans (decide_eq_false (by rw [hk]; decide)))) rfl rfl rfl (fun _ _ => rfl) rfl (by exact cl_v my_210 rfl rfl rfl (Nat.le_of_ble_eq_true rfl) rfl (MH_obj rfl rfl) rfl (by decide) rfl rfl) (by rfl) (Nat.le_of_ble_eq_true rfl) (Nat.le_of_ble_eq_true rfl) rfl (by rfl) ?_
    refine w_f (a := 56) (b := 9) rfl rfl rfl ?_
    refine w_p (pc1 := 10) rfl rfl ?_
    refine w_p (pc1 := 12) (st1 := .int 35 :: _) rfl rfl ?_
    refine w_je (pc1 := 15) (vs := [.ref 176, .int 35]) (rest := []) (st1 := [.int 0]) (m_210f (d := _) (sl := 0) (c := 35) ((sg_k (k := 51) M.2.1 (by decide) (by decide)).trans (decide_eq_false (by rw [hk]; decide)))) rfl rfl rfl (fun _ _ => rfl) rfl (by exact cl_v my_210 rfl rfl rfl (Nat.le_of_ble_eq_true rfl) rfl (MH_obj rfl rfl) rfl (by decide) rfl rfl) (by rfl) (Nat.le_of_ble_eq_true rfl) (Nat.le_of_ble_eq_true rfl) rfl (by rfl) ?_
    refine w_f (a := 56) (b := 18) rfl rfl rfl ?_
    refine w_p (pc1 := 19) rfl rfl ?_
    refine w_p (pc1 := 21) (st1 := .int 60 :: _) rfl rfl ?_
    refine w_je (pc1 := 24) (vs := [.ref 176, .int 60]) (rest := []) (st1 := [.int 0]) (m_210f (d := _) (sl := 0) (c := 60) ((sg_k (k := 52) M.2.1 (by decide) (by decide)).trans (decide_eq_false (by rw [hk]; decide)))) rfl rfl rfl (fun _ _ => rfl) rfl (by exact cl_v my_210 rfl rfl rfl (Nat.le_of_ble_eq_true rfl) rfl (MH_obj rfl rfl) rfl (by decide) rfl rfl) (by rfl) (Nat.le_of_ble_eq_true rfl) (Nat.le_of_ble_eq_true rfl) rfl (by rfl) ?_
    refine w_f (a := 56) (b := 27) rfl rfl rfl ?_
    refine w_p (pc1 := 28) rfl rfl ?_
    refine w_p (pc1 := 30) (st1 := .int 62 :: _) rfl rfl ?_
    refine w_je (pc1 := 33) (vs := [.ref 176, .int 62]) (rest := []) (st1 := [.int 1]) (m_210t (d := _) (sl := 0) (c := 62) ((sg_k (k := 54) M.2.1 (by decide) (by decide)).trans (decide_eq_true hk))) rfl rfl rfl (fun _ _ => rfl) rfl (by exact cl_v my_210 rfl rfl rfl (Nat.le_of_ble_eq_true rfl) rfl (MH_obj rfl rfl) rfl (by decide) rfl rfl) (by rfl) (Nat.le_of_ble_eq_true rfl) (Nat.le_of_ble_eq_true rfl) rfl (by rfl) ?_
    refine w_t (a := 56) (b := 36) rfl rfl rfl ?_
    refine w_p (pc1 := 57) (st1 := .int 1 :: _) rfl rfl ?_
    refine w_p (pc1 := 61) rfl rfl ?_
    refine w_r rfl rfl rfl (fun _ _ => rfl) rfl ?_
    exact ⟨rfl, rfl, rfl⟩
  · skip
    refine w_p (pc1 := 1) rfl rfl ?_
    refine w_p (pc1 := 3) (st1 := .int 61 :: _) rfl rfl ?_
    refine w_je (pc1 := 6) (vs := [.ref 176, .int 61]) (rest := []) (st1 := [.int 0]) (m_210f (d := _) (sl := 0) (c := 61) ((sg_k (k := 50) M.2.1 (by decide) (by decide)).trans (decide_eq_false (by rw [hk]; decide)))) rfl rfl rfl (fun _ _ => rfl) rfl (by exact cl_v my_210 rfl rfl rfl (Nat.le_of_ble_eq_true rfl) rfl (MH_obj rfl rfl) rfl (by decide) rfl rfl) (by rfl) (Nat.le_of_ble_eq_true rfl) (Nat.le_of_ble_eq_true rfl) rfl (by rfl) ?_
    refine w_f (a := 56) (b := 9) rfl rfl rfl ?_
    refine w_p (pc1 := 10) rfl rfl ?_
    refine w_p (pc1 := 12) (st1 := .int 35 :: _) rfl rfl ?_
    refine w_je (pc1 := 15) (vs := [.ref 176, .int 35]) (rest := []) (st1 := [.int 0]) (m_210f (d := _) (sl := 0) (c := 35) ((sg_k (k := 51) M.2.1 (by decide) (by decide)).trans (decide_eq_false (by rw [hk]; decide)))) rfl rfl rfl (fun _ _ => rfl) rfl (by exact cl_v my_210 rfl rfl rfl (Nat.le_of_ble_eq_true rfl) rfl (MH_obj rfl rfl) rfl (by decide) rfl rfl) (by rfl) (Nat.le_of_ble_eq_true rfl) (Nat.le_of_ble_eq_true rfl) rfl (by rfl) ?_
    refine w_f (a := 56) (b := 18) rfl rfl rfl ?_
    refine w_p (pc1 := 19) rfl rfl ?_
    refine w_p (pc1 := 21) (st1 := .int 60 :: _) rfl rfl ?_
    refine w_je (pc1 := 24) (vs := [.ref 176, .int 60]) (rest := []) (st1 := [.int 0]) (m_210f (d := _) (sl := 0) (c := 60) ((sg_k (k := 52) M.2.1 (by decide) (by decide)).trans (decide_eq_false (by rw [hk]; decide)))) rfl rfl rfl (fun _ _ => rfl) rfl (by exact cl_v my_210 rfl rfl rfl (Nat.le_of_ble_eq_true rfl) rfl (MH_obj rfl rfl) rfl (by decide) rfl rfl) (by rfl) (Nat.le_of_ble_eq_true rfl) (Nat.le_of_ble_eq_true rfl) rfl (by rfl) ?_
    refine w_f (a := 56) (b := 27) rfl rfl rfl ?_
    refine w_p (pc1 := 28) rfl rfl ?_
    refine w_p (pc1 := 30) (st1 := .int 62 :: _) rfl rfl ?_
    refine w_je (pc1 := 33) (vs := [.ref 176, .int 62]) (rest := []) (st1 := [.int 0]) (m_210f (d := _) (sl := 0) (c := 62) ((sg_k (k := 54) M.2.1 (by decide) (by decide)).trans (decide_eq_false (by rw [hk]; decide)))) rfl rfl rfl (fun _ _ => rfl) rfl (by exact cl_v my_210 rfl rfl rfl (Nat.le_of_ble_eq_true rfl) rfl (MH_obj rfl rfl) rfl (by decide) rfl rfl) (by rfl) (Nat.le_of_ble_eq_true rfl) (Nat.le_of_ble_eq_true rfl) rfl (by rfl) ?_
    refine w_f (a := 56) (b := 36) rfl rfl rfl ?_
    refine w_p (pc1 := 37) rfl rfl ?_
    refine w_p (pc1 := 40) (st1 := .int 160 :: _) rfl rfl ?_
    refine w_je (pc1 := 43) (vs := [.ref 176, .int 160]) (rest := []) (st1 := [.int 1]) (m_210t (d := _) (sl := 0) (c := 160) ((sg_k (k := 53) M.2.1 (by decide) (by decide)).trans (decide_eq_true hk))) rfl rfl rfl (fun _ _ => rfl) rfl (by exact cl_v my_210 rfl rfl rfl (Nat.le_of_ble_eq_true rfl) rfl (MH_obj rfl rfl) rfl (by decide) rfl rfl) (by rfl) (Nat.le_of_ble_eq_true rfl) (Nat.le_of_ble_eq_true rfl) rfl (by rfl) ?_
    refine w_t (a := 56) (b := 46) rfl rfl rfl ?_
    refine w_p (pc1 := 57) (st1 := .int 1 :: _) rfl rfl ?_
    refine w_p (pc1 := 61) rfl rfl ?_
    refine w_r rfl rfl rfl (fun _ _ => rfl) rfl ?_
    exact ⟨rfl, rfl, rfl⟩
  · skip
    refine w_p (pc1 := 1) rfl rfl ?_
    refine w_p (pc1 := 3) (st1 := .int 61 :: _) rfl rfl ?_
    refine w_je (pc1 := 6) (vs := [.ref 176, .int 61]) (rest := []) (st1 := [.int 0]) (m_210f (d := _) (sl := 0) (c := 61) ((sg_k (k := 50) M.2.1 (by decide) (by decide)).trans (decide_eq_false (by rw [hk]; decide)))) rfl rfl rfl (fun _ _ => rfl) rfl (by exact cl_v my_210 rfl rfl rfl (Nat.le_of_ble_eq_true rfl) rfl (MH_obj rfl rfl) rfl (by decide) rfl rfl) (by rfl) (Nat.le_of_ble_eq_true rfl) (Nat.le_of_ble_eq_true rfl) rfl (by rfl) ?_
    refine w_f (a := 56) (b := 9) rfl rfl rfl ?_
    refine w_p (pc1 := 10) rfl rfl ?_
    refine w_p (pc1 := 12) (st1 := .int 35 :: _) rfl rfl ?_
    refine w_je (pc1 := 15) (vs := [.ref 176, .int 35]) (rest := []) (st1 := [.int 0]) (m_210f (d := _) (sl := 0) (c := 35) ((sg_k (k := 51) M.2.1 (by decide) (by decide)).trans (decide_eq_false (by rw [hk]; decide)))) rfl rfl rfl (fun _ _ => rfl) rfl (by exact cl_v my_210 rfl rfl rfl (Nat.le_of_ble_eq_true rfl) rfl (MH_obj rfl rfl) rfl (by decide) rfl rfl) (by rfl) (Nat.le_of_ble_eq_true rfl) (Nat.le_of_ble_eq_true rfl) rfl (by rfl) ?_
    refine w_f (a := 56) (b := 18) rfl rfl rfl ?_
    refine w_p (pc1 := 19) rfl rfl ?_
    refine w_p (pc1 := 21) (st1 := .int 60 :: _) rfl rfl ?_
    refine w_je (pc1 := 24) (vs := [.ref 176, .int 60]) (rest := []) (st1 := [.int 0]) (m_210f (d := _) (sl := 0) (c := 60) ((sg_k (k := 52) M.2.1 (by decide) (by decide)).trans (decide_eq_false (by rw [hk]; decide)))) rfl rfl rfl (fun _ _ => rfl) rfl (by exact cl_v my_210 rfl rfl rfl (Nat.le_of_ble_eq_true rfl) rfl (MH_obj rfl rfl) rfl (by decide) rfl rfl) (by rfl) (Nat.le_of_ble_eq_true rfl) (Nat.le_of_ble_eq_true rfl) rfl (by rfl) ?_
    refine w_f (a := 56) (b := 27) rfl rfl rfl ?_
    refine w_p (pc1 := 28) rfl rfl ?_
    refine w_p (pc1 := 30) (st1 := .int 62 :: _) rfl rfl ?_
    refine w_je (pc1 := 33) (vs := [.ref 176, .int 62]) (rest := []) (st1 := [.int 0]) (m_210f (d := _) (sl := 0) (c := 62) ((sg_k (k := 54) M.2.1 (by decide) (by decide)).trans (decide_eq_false (by rw [hk]; decide)))) rfl rfl rfl (fun _ _ => rfl) rfl (by exact cl_v my_210 rfl rfl rfl (Nat.le_of_ble_eq_true rfl) rfl (MH_obj rfl rfl) rfl (by decide) rfl rfl) (by rfl) (Nat.le_of_ble_eq_true rfl) (Nat.le_of_ble_eq_true rfl) rfl (by rfl) ?_
    refine w_f (a := 56) (b := 36) rfl rfl rfl ?_
    refine w_p (pc1 := 37) rfl rfl ?_
    refine w_p (pc1 := 40) (st1 := .int 160 :: _) rfl rfl ?_
    refine w_je (pc1 := 43) (vs := [.ref 176, .int 160]) (rest := []) (st1 := [.int 0]) (m_210f (d := _) (sl := 0) (c := 160) ((sg_k (k := 53) M.2.1 (by decide) (by decide)).trans (decide_eq_false (by rw [hk]; decide)))) rfl rfl rfl (fun _ _ => rfl) rfl (by exact cl_v my_210 rfl rfl rfl (Nat.le_of_ble_eq_true rfl) rfl (MH_obj rfl rfl) rfl (by decide) rfl rfl) (by rfl) (Nat.le_of_ble_eq_true rfl) (Nat.le_of_ble_eq_true rfl) rfl (by rfl) ?_
    refine w_f (a := 56) (b := 46) rfl rfl rfl ?_
    refine w_p (pc1 := 47) rfl rfl ?_
    refine w_p (pc1 := 50) (st1 := .int 162 :: _) rfl rfl ?_
    refine w_je (pc1 := 53) (vs := [.ref 176, .int 162]) (rest := []) (st1 := [.int 1]) (m_210t (d := _) (sl := 0) (c := 162) ((sg_k (k := 55) M.2.1 (by decide) (by decide)).trans (decide_eq_true hk))) rfl rfl rfl (fun _ _ => rfl) rfl (by exact cl_v my_210 rfl rfl rfl (Nat.le_of_ble_eq_true rfl) rfl (MH_obj rfl rfl) rfl (by decide) rfl rfl) (by rfl) (Nat.le_of_ble_eq_true rfl) (Nat.le_of_ble_eq_true rfl) rfl (by rfl) ?_
    refine w_f (a := 60) (b := 56) rfl rfl rfl ?_
    refine w_p (pc1 := 57) (st1 := .int 1 :: _) rfl rfl ?_
    refine w_p (pc1 := 61) rfl rfl ?_
    refine w_r rfl rfl rfl (fun _ _ => rfl) rfl ?_
    exact ⟨rfl, rfl, rfl⟩
set_option maxRecDepth 100000 in
theorem u4F (F : FM B n C0 C p b wb f c i) (hc : 0 < c.toInt) (H : P none (MH C t) 0) : Wd L xs (d + 4) y_227 (4, [(0, .ref 176)], [], MH C t, 0) P X := by
  refine w_p (pc1 := 5) rfl rfl ?_
  refine w_m0 (pc1 := 8) rfl rfl (h_gI (j := 8) rfl rfl rfl rfl rfl) rfl ?_
  refine w_f (a := 12) (b := 11) (cb_le_f (by rw [F.1.2.1]; exact hc)) rfl rfl ?_
  refine w_r rfl rfl rfl (fun _ _ => rfl) rfl ?_
  exact H
set_option maxRecDepth 100000 in
theorem u4n (hk : kd B n s.1 ≠ 19) (hk2 : kd B n s.1 < 50 ∨ 55 < kd B n s.1) (M : MK B n C0 C p b wb e s W) (H : ∀ C', FM B n C0 C' p b wb 0 2 s.1 → P none (MH C' t) 0): Wd L xs (d + 4) y_227 (4, [(0, .ref 176)], [], MH C t, 0) P X := by
  have hF := FM_new (c := 2) M (by decide)
  refine w_p (pc1 := 5) rfl rfl ?_
  refine w_m0 (pc1 := 8) (st1 := .int 0 :: _) rfl rfl (h_gIe (j := 8) rfl rfl rfl rfl rfl (M.2.1.2.1)) rfl ?_
  refine w_t (a := 12) (b := 11) rfl rfl rfl ?_
  refine w_p (pc1 := 13) rfl rfl ?_
  refine w_m0 (pc1 := 16) (st1 := .long 26995 :: _) rfl rfl rfl rfl ?_
  refine w_je (pc1 := 19) (vs := [.ref 176, .long 26995]) (rest := []) (st1 := [.int 0]) (m_205f (d := _) (sl := 0) ((wd_k (k := 19) M.2.1 (by decide) (by decide)).trans (decide_eq_false hk))) rfl rfl rfl (fun _ _ => rfl) rfl (by exact cl_v my_205 rfl rfl rfl (Nat.le_of_ble_eq_true rfl) rfl (MH_obj rfl rfl) rfl (by decide) rfl rfl) (by rfl) (Nat.le_of_ble_eq_true rfl) (Nat.le_of_ble_eq_true rfl) rfl (by rfl) ?_
  refine w_t (a := 98) (b := 22) rfl rfl rfl ?_
  refine w_p (pc1 := 99) rfl rfl ?_
  refine w_je (pc1 := 102) (vs := [.ref 176]) (rest := []) (st1 := [.int 0]) (cmN (d := _) hk2 M) rfl rfl rfl (fun _ _ => rfl) rfl (by exact cl_v my_235 rfl rfl rfl (Nat.le_of_ble_eq_true rfl) rfl (MH_obj rfl rfl) rfl (by decide) rfl rfl) (by rfl) (Nat.le_of_ble_eq_true rfl) (Nat.le_of_ble_eq_true rfl) rfl (by rfl) ?_
  refine w_t (a := 139) (b := 105) rfl rfl rfl ?_
  refine w_p (pc1 := 140) rfl rfl ?_
  refine w_p (pc1 := 141) (st1 := .int 2 :: _) rfl rfl ?_
  refine w_je (pc1 := 144) (vs := [.ref 176, .int 2]) (rest := []) (st1 := []) (m_200 (d := _) (sl := 0) (fun z => absurd M.2.1.2.1 z)) rfl rfl rfl (fun _ _ => rfl) rfl (by exact cl_v my_200 rfl rfl rfl (Nat.le_of_ble_eq_true rfl) rfl (MH_obj rfl rfl) rfl (by decide) rfl rfl) (by rfl) (Nat.le_of_ble_eq_true rfl) (Nat.le_of_ble_eq_true rfl) rfl (by rfl) ?_
  refine w_r rfl rfl rfl (fun _ _ => rfl) rfl ?_
  exact H _ hF
set_option maxRecDepth 100000 in
theorem u4ie (hk : kd B n s.1 = 19) (M : MK B n C0 C p b wb (e + 1) s W) (he : e < 11) (h1 : spd s = .inl (c, i)) (H : ∀ C', FM B n C0 C' p b wb 2 c i → P none (MH C' t) 0): Wd L xs (d + 4) y_227 (4, [(0, .ref 176)], [], MH C t, 0) P X := by
  refine w_p (pc1 := 5) rfl rfl ?_
  refine w_m0 (pc1 := 8) (st1 := .int 0 :: _) rfl rfl (h_gIe (j := 8) rfl rfl rfl rfl rfl (M.2.1.2.1)) rfl ?_
  refine w_t (a := 12) (b := 11) rfl rfl rfl ?_
  refine w_p (pc1 := 13) rfl rfl ?_
  refine w_m0 (pc1 := 16) (st1 := .long 26995 :: _) rfl rfl rfl rfl ?_
  refine w_je (pc1 := 19) (vs := [.ref 176, .long 26995]) (rest := []) (st1 := [.int 1]) (m_205t (d := _) (sl := 0) ((wd_k (k := 19) M.2.1 (by decide) (by decide)).trans (decide_eq_true hk))) rfl rfl rfl (fun _ _ => rfl) rfl (by exact cl_v my_205 rfl rfl rfl (Nat.le_of_ble_eq_true rfl) rfl (MH_obj rfl rfl) rfl (by decide) rfl rfl) (by rfl) (Nat.le_of_ble_eq_true rfl) (Nat.le_of_ble_eq_true rfl) rfl (by rfl) ?_
  refine w_f (a := 98) (b := 22) rfl rfl rfl ?_
  refine w_p (pc1 := 23) rfl rfl ?_
  refine w_ji (pc1 := 26) (vs := [.ref 176]) (rest := []) (dE (d := _) M h1) rfl rfl rfl (fun _ _ => rfl) rfl (by exact cl_v my_226 rfl rfl rfl (Nat.le_of_ble_eq_true rfl) rfl (MH_obj rfl rfl) rfl (by decide) rfl rfl) (by rfl) (Nat.le_of_ble_eq_true rfl) (Nat.le_of_ble_eq_true rfl) rfl (fun v h1 d1 hq => ?_) (fun _ _ _ e => e.elim)
  rcases hq with ⟨hv, ⟨C1, F1, hh⟩, hn⟩
  · subst hv; subst hh; subst hn
    refine w_p (pc1 := 27) rfl rfl ?_
    refine w_ji (pc1 := 30) (vs := [.ref 176]) (rest := []) (nF (d := _) F1) rfl rfl rfl (fun _ _ => rfl) rfl (by exact cl_v my_195 rfl rfl rfl (Nat.le_of_ble_eq_true rfl) rfl (MH_obj rfl rfl) rfl (by decide) rfl rfl) (by rfl) (Nat.le_of_ble_eq_true rfl) (Nat.le_of_ble_eq_true rfl) rfl (fun v h1 d1 hq => ?_) (fun _ _ _ e => e.elim)
    rcases hq with ⟨hv, ⟨C2, F2, hh⟩, hn⟩
    · subst hv; subst hh; subst hn
      refine w_p (pc1 := 31) rfl rfl ?_
      refine w_m0 (pc1 := 34) rfl rfl (h_gI (j := 8) rfl rfl rfl rfl rfl) rfl ?_
      refine w_t (a := 62) (b := 37) (cb_ne_t (by rw [F2.1.2.1]; exact F2.1.1)) rfl rfl ?_
      refine w_p (pc1 := 63) rfl rfl ?_
      refine w_p (pc1 := 64) rfl rfl ?_
      refine w_m0 (pc1 := 67) (st1 := .long 1853189228 :: _) rfl rfl rfl rfl ?_
      refine w_je (pc1 := 70) (vs := [.ref 176, .long 1853189228]) (rest := [.ref 176]) (st1 := [.int (bif wdC C2 1853189228 then 1 else 0), .ref 176]) (m_205 (d := _) (sl := 0) (C := C2) (w := 1853189228)) rfl rfl rfl (fun _ _ => rfl) rfl (by exact cl_v my_205 rfl rfl rfl (Nat.le_of_ble_eq_true rfl) rfl (MH_obj rfl rfl) rfl (by decide) rfl rfl) (by rfl) (Nat.le_of_ble_eq_true rfl) (Nat.le_of_ble_eq_true rfl) rfl (by rfl) ?_
      refine w_b (a := 78) (b := 73) rfl rfl (fun c70 => ?_) (fun c70 => ?_)
      · replace c70 := cc_eq_t c70
        refine w_p (pc1 := 80) (st1 := .int 9 :: _) rfl rfl ?_
        refine w_p (pc1 := 81) (st1 := .long 0 :: _) rfl rfl ?_
        refine w_ji (pc1 := 84) (vs := [.ref 176, .int 9, .long 0]) (rest := []) (sF (d := _) F2 (by omega)) rfl rfl rfl (fun _ _ => rfl) rfl (by exact cl_v my_230 rfl rfl rfl (Nat.le_of_ble_eq_true rfl) rfl (MH_obj rfl rfl) rfl (by decide) rfl rfl) (by rfl) (Nat.le_of_ble_eq_true rfl) (Nat.le_of_ble_eq_true rfl) rfl (fun v h1 d1 hq => ?_) (fun _ _ _ e => e.elim)
        rcases hq with ⟨hv, ⟨C3, F3, hh⟩, hn⟩
        · subst hv; subst hh; subst hn
          refine w_p (pc1 := 85) rfl rfl ?_
          refine w_m0 (pc1 := 88) rfl rfl (h_gI (j := 8) rfl rfl rfl rfl rfl) rfl ?_
          refine w_t (a := 144) (b := 91) (cb_ne_t (by rw [F3.1.2.1]; exact F3.1.1)) rfl rfl ?_
          refine w_r rfl rfl rfl (fun _ _ => rfl) rfl ?_
          exact H _ F3
      · replace c70 := cc_eq_f c70
        refine w_p (pc1 := 75) (st1 := .int 8 :: _) rfl rfl ?_
        refine w_p (pc1 := 80) rfl rfl ?_
        refine w_p (pc1 := 81) (st1 := .long 0 :: _) rfl rfl ?_
        refine w_ji (pc1 := 84) (vs := [.ref 176, .int 8, .long 0]) (rest := []) (sF (d := _) F2 (by omega)) rfl rfl rfl (fun _ _ => rfl) rfl (by exact cl_v my_230 rfl rfl rfl (Nat.le_of_ble_eq_true rfl) rfl (MH_obj rfl rfl) rfl (by decide) rfl rfl) (by rfl) (Nat.le_of_ble_eq_true rfl) (Nat.le_of_ble_eq_true rfl) rfl (fun v h1 d1 hq => ?_) (fun _ _ _ e => e.elim)
        rcases hq with ⟨hv, ⟨C3, F3, hh⟩, hn⟩
        · subst hv; subst hh; subst hn
          refine w_p (pc1 := 85) rfl rfl ?_
          refine w_m0 (pc1 := 88) rfl rfl (h_gI (j := 8) rfl rfl rfl rfl rfl) rfl ?_
          refine w_t (a := 144) (b := 91) (cb_ne_t (by rw [F3.1.2.1]; exact F3.1.1)) rfl rfl ?_
          refine w_r rfl rfl rfl (fun _ _ => rfl) rfl ?_
          exact H _ F3
set_option maxRecDepth 100000 in
theorem u4ib (hk : kd B n s.1 = 19) (M : MK B n C0 C p b wb (e + 1) s W) (he : e < 11) (h1 : spd s = .inr y) (hb : kd B n (s.1 + 1) = 1) (H : ∀ C', FM B n C0 C' p b wb 1 1 (s.1 + 1) → P none (MH C' t) 0): Wd L xs (d + 4) y_227 (4, [(0, .ref 176)], [], MH C t, 0) P X := by
  have hy := (spd_s h1).1
  refine w_p (pc1 := 5) rfl rfl ?_
  refine w_m0 (pc1 := 8) (st1 := .int 0 :: _) rfl rfl (h_gIe (j := 8) rfl rfl rfl rfl rfl (M.2.1.2.1)) rfl ?_
  refine w_t (a := 12) (b := 11) rfl rfl rfl ?_
  refine w_p (pc1 := 13) rfl rfl ?_
  refine w_m0 (pc1 := 16) (st1 := .long 26995 :: _) rfl rfl rfl rfl ?_
  refine w_je (pc1 := 19) (vs := [.ref 176, .long 26995]) (rest := []) (st1 := [.int 1]) (m_205t (d := _) (sl := 0) ((wd_k (k := 19) M.2.1 (by decide) (by decide)).trans (decide_eq_true hk))) rfl rfl rfl (fun _ _ => rfl) rfl (by exact cl_v my_205 rfl rfl rfl (Nat.le_of_ble_eq_true rfl) rfl (MH_obj rfl rfl) rfl (by decide) rfl rfl) (by rfl) (Nat.le_of_ble_eq_true rfl) (Nat.le_of_ble_eq_true rfl) rfl (by rfl) ?_
  refine w_f (a := 98) (b := 22) rfl rfl rfl ?_
  refine w_p (pc1 := 23) rfl rfl ?_
  refine w_ji (pc1 := 26) (vs := [.ref 176]) (rest := []) (dM (d := _) M h1) rfl rfl rfl (fun _ _ => rfl) rfl (by exact cl_v my_226 rfl rfl rfl (Nat.le_of_ble_eq_true rfl) rfl (MH_obj rfl rfl) rfl (by decide) rfl rfl) (by rfl) (Nat.le_of_ble_eq_true rfl) (Nat.le_of_ble_eq_true rfl) rfl (fun v h1 d1 hq => ?_) (fun _ _ _ e => e.elim)
  rcases hq with ⟨hv, ⟨C1, M1, hh⟩, hn⟩
  · subst hv; subst hh; subst hn
    refine w_p (pc1 := 27) rfl rfl ?_
    refine w_ji (pc1 := 30) (vs := [.ref 176]) (rest := []) (nB (d := _) M1 (by rw [hy]; exact hb)) rfl rfl rfl (fun _ _ => rfl) rfl (by exact cl_v my_195 rfl rfl rfl (Nat.le_of_ble_eq_true rfl) rfl (MH_obj rfl rfl) rfl (by decide) rfl rfl) (by rfl) (Nat.le_of_ble_eq_true rfl) (Nat.le_of_ble_eq_true rfl) rfl (fun v h1 d1 hq => ?_) (fun _ _ _ e => e.elim)
    rcases hq with ⟨hv, ⟨C2, F2, hh⟩, hn⟩
    · subst hv; subst hh; subst hn
      refine w_p (pc1 := 31) rfl rfl ?_
      refine w_m0 (pc1 := 34) rfl rfl (h_gI (j := 8) rfl rfl rfl rfl rfl) rfl ?_
      refine w_t (a := 62) (b := 37) (cb_ne_t (by rw [F2.1.2.1]; exact F2.1.1)) rfl rfl ?_
      refine w_p (pc1 := 63) rfl rfl ?_
      refine w_p (pc1 := 64) rfl rfl ?_
      refine w_m0 (pc1 := 67) (st1 := .long 1853189228 :: _) rfl rfl rfl rfl ?_
      refine w_je (pc1 := 70) (vs := [.ref 176, .long 1853189228]) (rest := [.ref 176]) (st1 := [.int (bif wdC C2 1853189228 then 1 else 0), .ref 176]) (m_205 (d := _) (sl := 0) (C := C2) (w := 1853189228)) rfl rfl rfl (fun _ _ => rfl) rfl (by exact cl_v my_205 rfl rfl rfl (Nat.le_of_ble_eq_true rfl) rfl (MH_obj rfl rfl) rfl (by decide) rfl rfl) (by rfl) (Nat.le_of_ble_eq_true rfl) (Nat.le_of_ble_eq_true rfl) rfl (by rfl) ?_
      refine w_b (a := 78) (b := 73) rfl rfl (fun c70 => ?_) (fun c70 => ?_)
      · replace c70 := cc_eq_t c70
        refine w_p (pc1 := 80) (st1 := .int 9 :: _) rfl rfl ?_
        refine w_p (pc1 := 81) (st1 := .long 0 :: _) rfl rfl ?_
        refine w_ji (pc1 := 84) (vs := [.ref 176, .int 9, .long 0]) (rest := []) (sF (d := _) F2 (by omega)) rfl rfl rfl (fun _ _ => rfl) rfl (by exact cl_v my_230 rfl rfl rfl (Nat.le_of_ble_eq_true rfl) rfl (MH_obj rfl rfl) rfl (by decide) rfl rfl) (by rfl) (Nat.le_of_ble_eq_true rfl) (Nat.le_of_ble_eq_true rfl) rfl (fun v h1 d1 hq => ?_) (fun _ _ _ e => e.elim)
        rcases hq with ⟨hv, ⟨C3, F3, hh⟩, hn⟩
        · subst hv; subst hh; subst hn
          refine w_p (pc1 := 85) rfl rfl ?_
          refine w_m0 (pc1 := 88) rfl rfl (h_gI (j := 8) rfl rfl rfl rfl rfl) rfl ?_
          refine w_t (a := 144) (b := 91) (cb_ne_t (by rw [F3.1.2.1]; exact F3.1.1)) rfl rfl ?_
          refine w_r rfl rfl rfl (fun _ _ => rfl) rfl ?_
          rw [hy] at F3; exact H _ F3
      · replace c70 := cc_eq_f c70
        refine w_p (pc1 := 75) (st1 := .int 8 :: _) rfl rfl ?_
        refine w_p (pc1 := 80) rfl rfl ?_
        refine w_p (pc1 := 81) (st1 := .long 0 :: _) rfl rfl ?_
        refine w_ji (pc1 := 84) (vs := [.ref 176, .int 8, .long 0]) (rest := []) (sF (d := _) F2 (by omega)) rfl rfl rfl (fun _ _ => rfl) rfl (by exact cl_v my_230 rfl rfl rfl (Nat.le_of_ble_eq_true rfl) rfl (MH_obj rfl rfl) rfl (by decide) rfl rfl) (by rfl) (Nat.le_of_ble_eq_true rfl) (Nat.le_of_ble_eq_true rfl) rfl (fun v h1 d1 hq => ?_) (fun _ _ _ e => e.elim)
        rcases hq with ⟨hv, ⟨C3, F3, hh⟩, hn⟩
        · subst hv; subst hh; subst hn
          refine w_p (pc1 := 85) rfl rfl ?_
          refine w_m0 (pc1 := 88) rfl rfl (h_gI (j := 8) rfl rfl rfl rfl rfl) rfl ?_
          refine w_t (a := 144) (b := 91) (cb_ne_t (by rw [F3.1.2.1]; exact F3.1.1)) rfl rfl ?_
          refine w_r rfl rfl rfl (fun _ _ => rfl) rfl ?_
          rw [hy] at F3; exact H _ F3
set_option maxRecDepth 100000 in
theorem u4ix (hk : kd B n s.1 = 19) (M : MK B n C0 C p b wb (e + 1) s W) (he : e < 11) (h1 : spd s = .inr y) (h6 : s.1 < 600) (hb : kd B n (s.1 + 1) ≠ 1) (h27 : kd B n (s.1 + 1) ≠ 27) (h35 : kd B n (s.1 + 1) ≠ 35) (H : ∀ C', FM B n C0 C' p b wb 1 2 (s.1 + 1) → P none (MH C' t) 0): Wd L xs (d + 4) y_227 (4, [(0, .ref 176)], [], MH C t, 0) P X := by
  have hy := (spd_s h1).1
  have hy2 : (nxt y).1 = s.1 + 1 := by show y.1 + 1 = _; rw [hy]
  refine w_p (pc1 := 5) rfl rfl ?_
  refine w_m0 (pc1 := 8) (st1 := .int 0 :: _) rfl rfl (h_gIe (j := 8) rfl rfl rfl rfl rfl (M.2.1.2.1)) rfl ?_
  refine w_t (a := 12) (b := 11) rfl rfl rfl ?_
  refine w_p (pc1 := 13) rfl rfl ?_
  refine w_m0 (pc1 := 16) (st1 := .long 26995 :: _) rfl rfl rfl rfl ?_
  refine w_je (pc1 := 19) (vs := [.ref 176, .long 26995]) (rest := []) (st1 := [.int 1]) (m_205t (d := _) (sl := 0) ((wd_k (k := 19) M.2.1 (by decide) (by decide)).trans (decide_eq_true hk))) rfl rfl rfl (fun _ _ => rfl) rfl (by exact cl_v my_205 rfl rfl rfl (Nat.le_of_ble_eq_true rfl) rfl (MH_obj rfl rfl) rfl (by decide) rfl rfl) (by rfl) (Nat.le_of_ble_eq_true rfl) (Nat.le_of_ble_eq_true rfl) rfl (by rfl) ?_
  refine w_f (a := 98) (b := 22) rfl rfl rfl ?_
  refine w_p (pc1 := 23) rfl rfl ?_
  refine w_ji (pc1 := 26) (vs := [.ref 176]) (rest := []) (dM (d := _) M h1) rfl rfl rfl (fun _ _ => rfl) rfl (by exact cl_v my_226 rfl rfl rfl (Nat.le_of_ble_eq_true rfl) rfl (MH_obj rfl rfl) rfl (by decide) rfl rfl) (by rfl) (Nat.le_of_ble_eq_true rfl) (Nat.le_of_ble_eq_true rfl) rfl (fun v h1 d1 hq => ?_) (fun _ _ _ e => e.elim)
  rcases hq with ⟨hv, ⟨C1, M1, hh⟩, hn⟩
  · subst hv; subst hh; subst hn
    refine w_p (pc1 := 27) rfl rfl ?_
    refine w_ji (pc1 := 30) (vs := [.ref 176]) (rest := []) (nM (d := _) M1 (by rw [hy]; exact hb) (by rw [hy]; exact h6)) rfl rfl rfl (fun _ _ => rfl) rfl (by exact cl_v my_195 rfl rfl rfl (Nat.le_of_ble_eq_true rfl) rfl (MH_obj rfl rfl) rfl (by decide) rfl rfl) (by rfl) (Nat.le_of_ble_eq_true rfl) (Nat.le_of_ble_eq_true rfl) rfl (fun v h1 d1 hq => ?_) (fun _ _ _ e => e.elim)
    rcases hq with ⟨hv, ⟨C2, M2, hh⟩, hn⟩
    · subst hv; subst hh; subst hn
      refine w_p (pc1 := 31) rfl rfl ?_
      refine w_m0 (pc1 := 34) (st1 := .int 0 :: _) rfl rfl (h_gIe (j := 8) rfl rfl rfl rfl rfl (M2.2.1.2.1)) rfl ?_
      refine w_f (a := 62) (b := 37) rfl rfl rfl ?_
      refine w_p (pc1 := 38) rfl rfl ?_
      refine w_m0 (pc1 := 41) (st1 := .long 1853189228 :: _) rfl rfl rfl rfl ?_
      refine w_je (pc1 := 44) (vs := [.ref 176, .long 1853189228]) (rest := []) (st1 := [.int 0]) (m_205f (d := _) (sl := 0) ((wd_k (k := 27) M2.2.1 (by decide) (by decide)).trans (decide_eq_false (by rw [hy2]; exact h27)))) rfl rfl rfl (fun _ _ => rfl) rfl (by exact cl_v my_205 rfl rfl rfl (Nat.le_of_ble_eq_true rfl) rfl (MH_obj rfl rfl) rfl (by decide) rfl rfl) (by rfl) (Nat.le_of_ble_eq_true rfl) (Nat.le_of_ble_eq_true rfl) rfl (by rfl) ?_
      refine w_f (a := 62) (b := 47) rfl rfl rfl ?_
      refine w_p (pc1 := 48) rfl rfl ?_
      refine w_m0 (pc1 := 51) (st1 := .long 1936682341 :: _) rfl rfl rfl rfl ?_
      refine w_je (pc1 := 54) (vs := [.ref 176, .long 1936682341]) (rest := []) (st1 := [.int 0]) (m_205f (d := _) (sl := 0) ((wd_k (k := 35) M2.2.1 (by decide) (by decide)).trans (decide_eq_false (by rw [hy2]; exact h35)))) rfl rfl rfl (fun _ _ => rfl) rfl (by exact cl_v my_205 rfl rfl rfl (Nat.le_of_ble_eq_true rfl) rfl (MH_obj rfl rfl) rfl (by decide) rfl rfl) (by rfl) (Nat.le_of_ble_eq_true rfl) (Nat.le_of_ble_eq_true rfl) rfl (by rfl) ?_
      refine w_f (a := 62) (b := 57) rfl rfl rfl ?_
      refine w_p (pc1 := 58) rfl rfl ?_
      refine w_p (pc1 := 59) (st1 := .int 2 :: _) rfl rfl ?_
      refine w_je (pc1 := 62) (vs := [.ref 176, .int 2]) (rest := []) (st1 := []) (m_200 (d := _) (sl := 0) (fun z => absurd M2.2.1.2.1 z)) rfl rfl rfl (fun _ _ => rfl) rfl (by exact cl_v my_200 rfl rfl rfl (Nat.le_of_ble_eq_true rfl) rfl (MH_obj rfl rfl) rfl (by decide) rfl rfl) (by rfl) (Nat.le_of_ble_eq_true rfl) (Nat.le_of_ble_eq_true rfl) rfl (by rfl) ?_
      refine w_p (pc1 := 63) rfl rfl ?_
      refine w_p (pc1 := 64) rfl rfl ?_
      refine w_m0 (pc1 := 67) (st1 := .long 1853189228 :: _) rfl rfl rfl rfl ?_
      refine w_je (pc1 := 70) (vs := [.ref 176, .long 1853189228]) (rest := [.ref 176]) (st1 := [.int (bif wdC (fl_ C2 2 (C2.1 76 5)) 1853189228 then 1 else 0), .ref 176]) (m_205 (d := _) (sl := 0) (w := 1853189228)) rfl rfl rfl (fun _ _ => rfl) rfl (by exact cl_v my_205 rfl rfl rfl (Nat.le_of_ble_eq_true rfl) rfl (MH_obj rfl rfl) rfl (by decide) rfl rfl) (by rfl) (Nat.le_of_ble_eq_true rfl) (Nat.le_of_ble_eq_true rfl) rfl (by rfl) ?_
      refine w_b (a := 78) (b := 73) rfl rfl (fun c70 => ?_) (fun c70 => ?_)
      · replace c70 := cc_eq_t c70
        refine w_p (pc1 := 80) (st1 := .int 9 :: _) rfl rfl ?_
        refine w_p (pc1 := 81) (st1 := .long 0 :: _) rfl rfl ?_
        refine w_ji (pc1 := 84) (vs := [.ref 176, .int 9, .long 0]) (rest := []) (sF (d := _) (FM_new (c := 2) M2 (by decide)) (by omega)) rfl rfl rfl (fun _ _ => rfl) rfl (by exact cl_v my_230 rfl rfl rfl (Nat.le_of_ble_eq_true rfl) rfl (MH_obj rfl rfl) rfl (by decide) rfl rfl) (by rfl) (Nat.le_of_ble_eq_true rfl) (Nat.le_of_ble_eq_true rfl) rfl (fun v h1 d1 hq => ?_) (fun _ _ _ e => e.elim)
        rcases hq with ⟨hv, ⟨C3, F3, hh⟩, hn⟩
        · subst hv; subst hh; subst hn
          refine w_p (pc1 := 85) rfl rfl ?_
          refine w_m0 (pc1 := 88) rfl rfl (h_gI (j := 8) rfl rfl rfl rfl rfl) rfl ?_
          refine w_t (a := 144) (b := 91) (cb_ne_t (by rw [F3.1.2.1]; exact F3.1.1)) rfl rfl ?_
          refine w_r rfl rfl rfl (fun _ _ => rfl) rfl ?_
          rw [hy2] at F3; exact H _ F3
      · replace c70 := cc_eq_f c70
        refine w_p (pc1 := 75) (st1 := .int 8 :: _) rfl rfl ?_
        refine w_p (pc1 := 80) rfl rfl ?_
        refine w_p (pc1 := 81) (st1 := .long 0 :: _) rfl rfl ?_
        refine w_ji (pc1 := 84) (vs := [.ref 176, .int 8, .long 0]) (rest := []) (sF (d := _) (FM_new (c := 2) M2 (by decide)) (by omega)) rfl rfl rfl (fun _ _ => rfl) rfl (by exact cl_v my_230 rfl rfl rfl (Nat.le_of_ble_eq_true rfl) rfl (MH_obj rfl rfl) rfl (by decide) rfl rfl) (by rfl) (Nat.le_of_ble_eq_true rfl) (Nat.le_of_ble_eq_true rfl) rfl (fun v h1 d1 hq => ?_) (fun _ _ _ e => e.elim)
        rcases hq with ⟨hv, ⟨C3, F3, hh⟩, hn⟩
        · subst hv; subst hh; subst hn
          refine w_p (pc1 := 85) rfl rfl ?_
          refine w_m0 (pc1 := 88) rfl rfl (h_gI (j := 8) rfl rfl rfl rfl rfl) rfl ?_
          refine w_t (a := 144) (b := 91) (cb_ne_t (by rw [F3.1.2.1]; exact F3.1.1)) rfl rfl ?_
          refine w_r rfl rfl rfl (fun _ _ => rfl) rfl ?_
          rw [hy2] at F3; exact H _ F3
set_option maxRecDepth 100000 in
theorem u4iu (hk : kd B n s.1 = 19) (M : MK B n C0 C p b wb (e + 1) s W) (he : e < 11) (h1 : spd s = .inr y) (h6 : s.1 < 600) (h7 : s.1 + 1 < 600) (hk2 : kd B n (s.1 + 1) = 27) (H : ∀ C', ((kd B n (s.1 + 2) ≠ 1 ∧ MK B n C0 C' p b wb e (nxt (emt (nxt y) 7 0)) W) ∨ (kd B n (s.1 + 2) = 1 ∧ FM B n C0 C' p b wb 0 1 (s.1 + 2))) → P none (MH C' t) 0) : Wd L xs (d + 4) y_227 (4, [(0, .ref 176)], [], MH C t, 0) P X := by
  have hy := (spd_s h1).1
  have hy2 : (nxt y).1 = s.1 + 1 := by show y.1 + 1 = _; rw [hy]
  have hb : kd B n (s.1 + 1) ≠ 1 := by rw [hk2]; decide
  have hy3 : (nxt (emt (nxt y) 7 0)).1 = s.1 + 2 := by show y.1 + 1 + 1 = _; rw [hy]
  refine w_p (pc1 := 5) rfl rfl ?_
  refine w_m0 (pc1 := 8) (st1 := .int 0 :: _) rfl rfl (h_gIe (j := 8) rfl rfl rfl rfl rfl (M.2.1.2.1)) rfl ?_
  refine w_t (a := 12) (b := 11) rfl rfl rfl ?_
  refine w_p (pc1 := 13) rfl rfl ?_
  refine w_m0 (pc1 := 16) (st1 := .long 26995 :: _) rfl rfl rfl rfl ?_
  refine w_je (pc1 := 19) (vs := [.ref 176, .long 26995]) (rest := []) (st1 := [.int 1]) (m_205t (d := _) (sl := 0) ((wd_k (k := 19) M.2.1 (by decide) (by decide)).trans (decide_eq_true hk))) rfl rfl rfl (fun _ _ => rfl) rfl (by exact cl_v my_205 rfl rfl rfl (Nat.le_of_ble_eq_true rfl) rfl (MH_obj rfl rfl) rfl (by decide) rfl rfl) (by rfl) (Nat.le_of_ble_eq_true rfl) (Nat.le_of_ble_eq_true rfl) rfl (by rfl) ?_
  refine w_f (a := 98) (b := 22) rfl rfl rfl ?_
  refine w_p (pc1 := 23) rfl rfl ?_
  refine w_ji (pc1 := 26) (vs := [.ref 176]) (rest := []) (dM (d := _) M h1) rfl rfl rfl (fun _ _ => rfl) rfl (by exact cl_v my_226 rfl rfl rfl (Nat.le_of_ble_eq_true rfl) rfl (MH_obj rfl rfl) rfl (by decide) rfl rfl) (by rfl) (Nat.le_of_ble_eq_true rfl) (Nat.le_of_ble_eq_true rfl) rfl (fun v h1 d1 hq => ?_) (fun _ _ _ e => e.elim)
  rcases hq with ⟨hv, ⟨C1, M1, hh⟩, hn⟩
  · subst hv; subst hh; subst hn
    refine w_p (pc1 := 27) rfl rfl ?_
    refine w_ji (pc1 := 30) (vs := [.ref 176]) (rest := []) (nM (d := _) M1 (by rw [hy]; exact hb) (by rw [hy]; exact h6)) rfl rfl rfl (fun _ _ => rfl) rfl (by exact cl_v my_195 rfl rfl rfl (Nat.le_of_ble_eq_true rfl) rfl (MH_obj rfl rfl) rfl (by decide) rfl rfl) (by rfl) (Nat.le_of_ble_eq_true rfl) (Nat.le_of_ble_eq_true rfl) rfl (fun v h1 d1 hq => ?_) (fun _ _ _ e => e.elim)
    rcases hq with ⟨hv, ⟨C2, M2, hh⟩, hn⟩
    · subst hv; subst hh; subst hn
      refine w_p (pc1 := 31) rfl rfl ?_
      refine w_m0 (pc1 := 34) (st1 := .int 0 :: _) rfl rfl (h_gIe (j := 8) rfl rfl rfl rfl rfl (M2.2.1.2.1)) rfl ?_
      refine w_f (a := 62) (b := 37) rfl rfl rfl ?_
      refine w_p (pc1 := 38) rfl rfl ?_
      refine w_m0 (pc1 := 41) (st1 := .long 1853189228 :: _) rfl rfl rfl rfl ?_
      refine w_je (pc1 := 44) (vs := [.ref 176, .long 1853189228]) (rest := []) (st1 := [.int 1]) (m_205t (d := _) (sl := 0) ((wd_k (k := 27) M2.2.1 (by decide) (by decide)).trans (decide_eq_true (by rw [hy2]; exact hk2)))) rfl rfl rfl (fun _ _ => rfl) rfl (by exact cl_v my_205 rfl rfl rfl (Nat.le_of_ble_eq_true rfl) rfl (MH_obj rfl rfl) rfl (by decide) rfl rfl) (by rfl) (Nat.le_of_ble_eq_true rfl) (Nat.le_of_ble_eq_true rfl) rfl (by rfl) ?_
      refine w_t (a := 62) (b := 47) rfl rfl rfl ?_
      refine w_p (pc1 := 63) rfl rfl ?_
      refine w_p (pc1 := 64) rfl rfl ?_
      refine w_m0 (pc1 := 67) (st1 := .long 1853189228 :: _) rfl rfl rfl rfl ?_
      refine w_je (pc1 := 70) (vs := [.ref 176, .long 1853189228]) (rest := [.ref 176]) (st1 := [.int 1, .ref 176]) (m_205t (d := _) (sl := 0) ((wd_k (k := 27) M2.2.1 (by decide) (by decide)).trans (decide_eq_true (by rw [hy2]; exact hk2)))) rfl rfl rfl (fun _ _ => rfl) rfl (by exact cl_v my_205 rfl rfl rfl (Nat.le_of_ble_eq_true rfl) rfl (MH_obj rfl rfl) rfl (by decide) rfl rfl) (by rfl) (Nat.le_of_ble_eq_true rfl) (Nat.le_of_ble_eq_true rfl) rfl (by rfl) ?_
      refine w_f (a := 78) (b := 73) rfl rfl rfl ?_
      refine w_p (pc1 := 75) (st1 := .int 8 :: _) rfl rfl ?_
      refine w_p (pc1 := 80) rfl rfl ?_
      refine w_p (pc1 := 81) (st1 := .long 0 :: _) rfl rfl ?_
      refine w_ji (pc1 := 84) (vs := [.ref 176, .int 8, .long 0]) (rest := []) (sM (a := 7) (c := 0) (w := 8) (v := 0) (d := _) M2 (by omega) (Or.inr (Or.inr (Or.inr (Or.inr (Or.inr (Or.inr (Or.inr (Or.inl ⟨rfl, rfl⟩))))))))) rfl rfl rfl (fun _ _ => rfl) rfl (by exact cl_v my_230 rfl rfl rfl (Nat.le_of_ble_eq_true rfl) rfl (MH_obj rfl rfl) rfl (by decide) rfl rfl) (by rfl) (Nat.le_of_ble_eq_true rfl) (Nat.le_of_ble_eq_true rfl) rfl (fun v h1 d1 hq => ?_) (fun _ _ _ e => e.elim)
      rcases hq with ⟨hv, ⟨C3, M3, hh⟩, hn⟩
      · subst hv; subst hh; subst hn
        refine w_p (pc1 := 85) rfl rfl ?_
        refine w_m0 (pc1 := 88) (st1 := .int 0 :: _) rfl rfl (h_gIe (j := 8) rfl rfl rfl rfl rfl (M3.2.1.2.1)) rfl ?_
        refine w_f (a := 144) (b := 91) rfl rfl rfl ?_
        refine w_p (pc1 := 92) rfl rfl ?_
        refine w_ji (pc1 := 95) (vs := [.ref 176]) (rest := []) (nA (d := _) M3 (show y.1 + 1 < 600 by rw [hy]; exact h7)) rfl rfl rfl (fun _ _ => rfl) rfl (by exact cl_v my_195 rfl rfl rfl (Nat.le_of_ble_eq_true rfl) rfl (MH_obj rfl rfl) rfl (by decide) rfl rfl) (by rfl) (Nat.le_of_ble_eq_true rfl) (Nat.le_of_ble_eq_true rfl) rfl (fun v h1 d1 hq => ?_) (fun _ _ _ e => e.elim)
        rcases hq with ⟨hv, ⟨C4, Q4, hh⟩, hn⟩
        · subst hv; subst hh; subst hn
          refine w_p (pc1 := 144) rfl rfl ?_
          refine w_r rfl rfl rfl (fun _ _ => rfl) rfl ?_
          rw [hy3] at Q4
          exact H _ Q4
set_option maxRecDepth 100000 in
theorem u4is (hk : kd B n s.1 = 19) (M : MK B n C0 C p b wb (e + 1) s W) (he : e < 11) (h1 : spd s = .inr y) (h6 : s.1 < 600) (h7 : s.1 + 1 < 600) (hk2 : kd B n (s.1 + 1) = 35) (H : ∀ C', ((kd B n (s.1 + 2) ≠ 1 ∧ MK B n C0 C' p b wb e (nxt (emt (nxt y) 8 0)) W) ∨ (kd B n (s.1 + 2) = 1 ∧ FM B n C0 C' p b wb 0 1 (s.1 + 2))) → P none (MH C' t) 0) : Wd L xs (d + 4) y_227 (4, [(0, .ref 176)], [], MH C t, 0) P X := by
  have hy := (spd_s h1).1
  have hy2 : (nxt y).1 = s.1 + 1 := by show y.1 + 1 = _; rw [hy]
  have hb : kd B n (s.1 + 1) ≠ 1 := by rw [hk2]; decide
  have hy3 : (nxt (emt (nxt y) 8 0)).1 = s.1 + 2 := by show y.1 + 1 + 1 = _; rw [hy]
  refine w_p (pc1 := 5) rfl rfl ?_
  refine w_m0 (pc1 := 8) (st1 := .int 0 :: _) rfl rfl (h_gIe (j := 8) rfl rfl rfl rfl rfl (M.2.1.2.1)) rfl ?_
  refine w_t (a := 12) (b := 11) rfl rfl rfl ?_
  refine w_p (pc1 := 13) rfl rfl ?_
  refine w_m0 (pc1 := 16) (st1 := .long 26995 :: _) rfl rfl rfl rfl ?_
  refine w_je (pc1 := 19) (vs := [.ref 176, .long 26995]) (rest := []) (st1 := [.int 1]) (m_205t (d := _) (sl := 0) ((wd_k (k := 19) M.2.1 (by decide) (by decide)).trans (decide_eq_true hk))) rfl rfl rfl (fun _ _ => rfl) rfl (by exact cl_v my_205 rfl rfl rfl (Nat.le_of_ble_eq_true rfl) rfl (MH_obj rfl rfl) rfl (by decide) rfl rfl) (by rfl) (Nat.le_of_ble_eq_true rfl) (Nat.le_of_ble_eq_true rfl) rfl (by rfl) ?_
  refine w_f (a := 98) (b := 22) rfl rfl rfl ?_
  refine w_p (pc1 := 23) rfl rfl ?_
  refine w_ji (pc1 := 26) (vs := [.ref 176]) (rest := []) (dM (d := _) M h1) rfl rfl rfl (fun _ _ => rfl) rfl (by exact cl_v my_226 rfl rfl rfl (Nat.le_of_ble_eq_true rfl) rfl (MH_obj rfl rfl) rfl (by decide) rfl rfl) (by rfl) (Nat.le_of_ble_eq_true rfl) (Nat.le_of_ble_eq_true rfl) rfl (fun v h1 d1 hq => ?_) (fun _ _ _ e => e.elim)
  rcases hq with ⟨hv, ⟨C1, M1, hh⟩, hn⟩
  · subst hv; subst hh; subst hn
    refine w_p (pc1 := 27) rfl rfl ?_
    refine w_ji (pc1 := 30) (vs := [.ref 176]) (rest := []) (nM (d := _) M1 (by rw [hy]; exact hb) (by rw [hy]; exact h6)) rfl rfl rfl (fun _ _ => rfl) rfl (by exact cl_v my_195 rfl rfl rfl (Nat.le_of_ble_eq_true rfl) rfl (MH_obj rfl rfl) rfl (by decide) rfl rfl) (by rfl) (Nat.le_of_ble_eq_true rfl) (Nat.le_of_ble_eq_true rfl) rfl (fun v h1 d1 hq => ?_) (fun _ _ _ e => e.elim)
    rcases hq with ⟨hv, ⟨C2, M2, hh⟩, hn⟩
    · subst hv; subst hh; subst hn
      refine w_p (pc1 := 31) rfl rfl ?_
      refine w_m0 (pc1 := 34) (st1 := .int 0 :: _) rfl rfl (h_gIe (j := 8) rfl rfl rfl rfl rfl (M2.2.1.2.1)) rfl ?_
      refine w_f (a := 62) (b := 37) rfl rfl rfl ?_
      refine w_p (pc1 := 38) rfl rfl ?_
      refine w_m0 (pc1 := 41) (st1 := .long 1853189228 :: _) rfl rfl rfl rfl ?_
      refine w_je (pc1 := 44) (vs := [.ref 176, .long 1853189228]) (rest := []) (st1 := [.int 0]) (m_205f (d := _) (sl := 0) ((wd_k (k := 27) M2.2.1 (by decide) (by decide)).trans (decide_eq_false (by rw [hy2, hk2]; decide)))) rfl rfl rfl (fun _ _ => rfl) rfl (by exact cl_v my_205 rfl rfl rfl (Nat.le_of_ble_eq_true rfl) rfl (MH_obj rfl rfl) rfl (by decide) rfl rfl) (by rfl) (Nat.le_of_ble_eq_true rfl) (Nat.le_of_ble_eq_true rfl) rfl (by rfl) ?_
      refine w_f (a := 62) (b := 47) rfl rfl rfl ?_
      refine w_p (pc1 := 48) rfl rfl ?_
      refine w_m0 (pc1 := 51) (st1 := .long 1936682341 :: _) rfl rfl rfl rfl ?_
      refine w_je (pc1 := 54) (vs := [.ref 176, .long 1936682341]) (rest := []) (st1 := [.int 1]) (m_205t (d := _) (sl := 0) ((wd_k (k := 35) M2.2.1 (by decide) (by decide)).trans (decide_eq_true (by rw [hy2]; exact hk2)))) rfl rfl rfl (fun _ _ => rfl) rfl (by exact cl_v my_205 rfl rfl rfl (Nat.le_of_ble_eq_true rfl) rfl (MH_obj rfl rfl) rfl (by decide) rfl rfl) (by rfl) (Nat.le_of_ble_eq_true rfl) (Nat.le_of_ble_eq_true rfl) rfl (by rfl) ?_
      refine w_t (a := 62) (b := 57) rfl rfl rfl ?_
      refine w_p (pc1 := 63) rfl rfl ?_
      refine w_p (pc1 := 64) rfl rfl ?_
      refine w_m0 (pc1 := 67) (st1 := .long 1853189228 :: _) rfl rfl rfl rfl ?_
      refine w_je (pc1 := 70) (vs := [.ref 176, .long 1853189228]) (rest := [.ref 176]) (st1 := [.int 0, .ref 176]) (m_205f (d := _) (sl := 0) ((wd_k (k := 27) M2.2.1 (by decide) (by decide)).trans (decide_eq_false (by rw [hy2, hk2]; decide)))) rfl rfl rfl (fun _ _ => rfl) rfl (by exact cl_v my_205 rfl rfl rfl (Nat.le_of_ble_eq_true rfl) rfl (MH_obj rfl rfl) rfl (by decide) rfl rfl) (by rfl) (Nat.le_of_ble_eq_true rfl) (Nat.le_of_ble_eq_true rfl) rfl (by rfl) ?_
      refine w_t (a := 78) (b := 73) rfl rfl rfl ?_
      refine w_p (pc1 := 80) (st1 := .int 9 :: _) rfl rfl ?_
      refine w_p (pc1 := 81) (st1 := .long 0 :: _) rfl rfl ?_
      refine w_ji (pc1 := 84) (vs := [.ref 176, .int 9, .long 0]) (rest := []) (sM (a := 8) (c := 0) (w := 9) (v := 0) (d := _) M2 (by omega) (Or.inr (Or.inr (Or.inr (Or.inr (Or.inr (Or.inr (Or.inr (Or.inr (Or.inl ⟨rfl, rfl⟩)))))))))) rfl rfl rfl (fun _ _ => rfl) rfl (by exact cl_v my_230 rfl rfl rfl (Nat.le_of_ble_eq_true rfl) rfl (MH_obj rfl rfl) rfl (by decide) rfl rfl) (by rfl) (Nat.le_of_ble_eq_true rfl) (Nat.le_of_ble_eq_true rfl) rfl (fun v h1 d1 hq => ?_) (fun _ _ _ e => e.elim)
      rcases hq with ⟨hv, ⟨C3, M3, hh⟩, hn⟩
      · subst hv; subst hh; subst hn
        refine w_p (pc1 := 85) rfl rfl ?_
        refine w_m0 (pc1 := 88) (st1 := .int 0 :: _) rfl rfl (h_gIe (j := 8) rfl rfl rfl rfl rfl (M3.2.1.2.1)) rfl ?_
        refine w_f (a := 144) (b := 91) rfl rfl rfl ?_
        refine w_p (pc1 := 92) rfl rfl ?_
        refine w_ji (pc1 := 95) (vs := [.ref 176]) (rest := []) (nA (d := _) M3 (show y.1 + 1 < 600 by rw [hy]; exact h7)) rfl rfl rfl (fun _ _ => rfl) rfl (by exact cl_v my_195 rfl rfl rfl (Nat.le_of_ble_eq_true rfl) rfl (MH_obj rfl rfl) rfl (by decide) rfl rfl) (by rfl) (Nat.le_of_ble_eq_true rfl) (Nat.le_of_ble_eq_true rfl) rfl (fun v h1 d1 hq => ?_) (fun _ _ _ e => e.elim)
        rcases hq with ⟨hv, ⟨C4, Q4, hh⟩, hn⟩
        · subst hv; subst hh; subst hn
          refine w_p (pc1 := 144) rfl rfl ?_
          refine w_r rfl rfl rfl (fun _ _ => rfl) rfl ?_
          rw [hy3] at Q4
          exact H _ Q4
set_option maxRecDepth 100000 in
theorem u4ce (h50 : 50 ≤ kd B n s.1) (h55 : kd B n s.1 ≤ 55) (M : MK B n C0 C p b wb (e + 1) s W) (he : e < 11) (h1 : spd s = .inl (c, i)) (H : ∀ C', FM B n C0 C' p b wb 2 c i → P none (MH C' t) 0): Wd L xs (d + 4) y_227 (4, [(0, .ref 176)], [], MH C t, 0) P X := by
  refine w_p (pc1 := 5) rfl rfl ?_
  refine w_m0 (pc1 := 8) (st1 := .int 0 :: _) rfl rfl (h_gIe (j := 8) rfl rfl rfl rfl rfl (M.2.1.2.1)) rfl ?_
  refine w_t (a := 12) (b := 11) rfl rfl rfl ?_
  refine w_p (pc1 := 13) rfl rfl ?_
  refine w_m0 (pc1 := 16) (st1 := .long 26995 :: _) rfl rfl rfl rfl ?_
  refine w_je (pc1 := 19) (vs := [.ref 176, .long 26995]) (rest := []) (st1 := [.int 0]) (m_205f (d := _) (sl := 0) ((wd_k (k := 19) M.2.1 (by decide) (by decide)).trans (decide_eq_false (by omega)))) rfl rfl rfl (fun _ _ => rfl) rfl (by exact cl_v my_205 rfl rfl rfl (Nat.le_of_ble_eq_true rfl) rfl (MH_obj rfl rfl) rfl (by decide) rfl rfl) (by rfl) (Nat.le_of_ble_eq_true rfl) (Nat.le_of_ble_eq_true rfl) rfl (by rfl) ?_
  refine w_t (a := 98) (b := 22) rfl rfl rfl ?_
  refine w_p (pc1 := 99) rfl rfl ?_
  refine w_je (pc1 := 102) (vs := [.ref 176]) (rest := []) (st1 := [.int 1]) (cmY (d := _) h50 h55 M) rfl rfl rfl (fun _ _ => rfl) rfl (by exact cl_v my_235 rfl rfl rfl (Nat.le_of_ble_eq_true rfl) rfl (MH_obj rfl rfl) rfl (by decide) rfl rfl) (by rfl) (Nat.le_of_ble_eq_true rfl) (Nat.le_of_ble_eq_true rfl) rfl (by rfl) ?_
  refine w_f (a := 139) (b := 105) rfl rfl rfl ?_
  refine w_p (pc1 := 106) rfl rfl ?_
  refine w_m0 (pc1 := 109) rfl rfl (h_gJ (j := 7) rfl rfl rfl rfl rfl) rfl ?_
  refine w_p (pc1 := 110) (al1 := [(1, _), (0, .ref 176)]) rfl rfl ?_
  refine w_p (pc1 := 111) rfl rfl ?_
  refine w_ji (pc1 := 114) (vs := [.ref 176]) (rest := []) (dE (d := _) M h1) rfl rfl rfl (fun _ _ => rfl) rfl (by exact cl_v my_226 rfl rfl rfl (Nat.le_of_ble_eq_true rfl) rfl (MH_obj rfl rfl) rfl (by decide) rfl rfl) (by rfl) (Nat.le_of_ble_eq_true rfl) (Nat.le_of_ble_eq_true rfl) rfl (fun v h1 d1 hq => ?_) (fun _ _ _ e => e.elim)
  rcases hq with ⟨hv, ⟨C1, F1, hh⟩, hn⟩
  · subst hv; subst hh; subst hn
    refine w_p (pc1 := 115) rfl rfl ?_
    refine w_ji (pc1 := 118) (vs := [.ref 176]) (rest := []) (nF (d := _) F1) rfl rfl rfl (fun _ _ => rfl) rfl (by exact cl_v my_195 rfl rfl rfl (Nat.le_of_ble_eq_true rfl) rfl (MH_obj rfl rfl) rfl (by decide) rfl rfl) (by rfl) (Nat.le_of_ble_eq_true rfl) (Nat.le_of_ble_eq_true rfl) rfl (fun v h1 d1 hq => ?_) (fun _ _ _ e => e.elim)
    rcases hq with ⟨hv, ⟨C2, F2, hh⟩, hn⟩
    · subst hv; subst hh; subst hn
      refine w_p (pc1 := 119) rfl rfl ?_
      refine w_m0 (pc1 := 122) rfl rfl (h_gI (j := 8) rfl rfl rfl rfl rfl) rfl ?_
      refine w_t (a := 129) (b := 125) (cb_ne_t (by rw [F2.1.2.1]; exact F2.1.1)) rfl rfl ?_
      refine w_p (pc1 := 130) rfl rfl ?_
      refine w_p (pc1 := 132) (st1 := .int 12 :: _) rfl rfl ?_
      refine w_p (pc1 := 133) rfl rfl ?_
      refine w_ji (pc1 := 136) (vs := [.ref 176, .int 12, _]) (rest := []) (sF (d := _) F2 (by omega)) rfl rfl rfl (fun _ _ => rfl) rfl (by exact cl_v my_230 rfl rfl rfl (Nat.le_of_ble_eq_true rfl) rfl (MH_obj rfl rfl) rfl (by decide) rfl rfl) (by rfl) (Nat.le_of_ble_eq_true rfl) (Nat.le_of_ble_eq_true rfl) rfl (fun v h1 d1 hq => ?_) (fun _ _ _ e => e.elim)
      rcases hq with ⟨hv, ⟨C3, F3, hh⟩, hn⟩
      · subst hv; subst hh; subst hn
        refine w_p (pc1 := 144) rfl rfl ?_
        refine w_r rfl rfl rfl (fun _ _ => rfl) rfl ?_
        exact H _ F3
set_option maxRecDepth 100000 in
theorem u4cb (h50 : 50 ≤ kd B n s.1) (h55 : kd B n s.1 ≤ 55) (M : MK B n C0 C p b wb (e + 1) s W) (he : e < 11) (h1 : spd s = .inr y) (hb : kd B n (s.1 + 1) = 1) (H : ∀ C', FM B n C0 C' p b wb 1 1 (s.1 + 1) → P none (MH C' t) 0): Wd L xs (d + 4) y_227 (4, [(0, .ref 176)], [], MH C t, 0) P X := by
  have hy := (spd_s h1).1
  refine w_p (pc1 := 5) rfl rfl ?_
  refine w_m0 (pc1 := 8) (st1 := .int 0 :: _) rfl rfl (h_gIe (j := 8) rfl rfl rfl rfl rfl (M.2.1.2.1)) rfl ?_
  refine w_t (a := 12) (b := 11) rfl rfl rfl ?_
  refine w_p (pc1 := 13) rfl rfl ?_
  refine w_m0 (pc1 := 16) (st1 := .long 26995 :: _) rfl rfl rfl rfl ?_
  refine w_je (pc1 := 19) (vs := [.ref 176, .long 26995]) (rest := []) (st1 := [.int 0]) (m_205f (d := _) (sl := 0) ((wd_k (k := 19) M.2.1 (by decide) (by decide)).trans (decide_eq_false (by omega)))) rfl rfl rfl (fun _ _ => rfl) rfl (by exact cl_v my_205 rfl rfl rfl (Nat.le_of_ble_eq_true rfl) rfl (MH_obj rfl rfl) rfl (by decide) rfl rfl) (by rfl) (Nat.le_of_ble_eq_true rfl) (Nat.le_of_ble_eq_true rfl) rfl (by rfl) ?_
  refine w_t (a := 98) (b := 22) rfl rfl rfl ?_
  refine w_p (pc1 := 99) rfl rfl ?_
  refine w_je (pc1 := 102) (vs := [.ref 176]) (rest := []) (st1 := [.int 1]) (cmY (d := _) h50 h55 M) rfl rfl rfl (fun _ _ => rfl) rfl (by exact cl_v my_235 rfl rfl rfl (Nat.le_of_ble_eq_true rfl) rfl (MH_obj rfl rfl) rfl (by decide) rfl rfl) (by rfl) (Nat.le_of_ble_eq_true rfl) (Nat.le_of_ble_eq_true rfl) rfl (by rfl) ?_
  refine w_f (a := 139) (b := 105) rfl rfl rfl ?_
  refine w_p (pc1 := 106) rfl rfl ?_
  refine w_m0 (pc1 := 109) rfl rfl (h_gJ (j := 7) rfl rfl rfl rfl rfl) rfl ?_
  refine w_p (pc1 := 110) (al1 := [(1, _), (0, .ref 176)]) rfl rfl ?_
  refine w_p (pc1 := 111) rfl rfl ?_
  refine w_ji (pc1 := 114) (vs := [.ref 176]) (rest := []) (dM (d := _) M h1) rfl rfl rfl (fun _ _ => rfl) rfl (by exact cl_v my_226 rfl rfl rfl (Nat.le_of_ble_eq_true rfl) rfl (MH_obj rfl rfl) rfl (by decide) rfl rfl) (by rfl) (Nat.le_of_ble_eq_true rfl) (Nat.le_of_ble_eq_true rfl) rfl (fun v h1 d1 hq => ?_) (fun _ _ _ e => e.elim)
  rcases hq with ⟨hv, ⟨C1, M1, hh⟩, hn⟩
  · subst hv; subst hh; subst hn
    refine w_p (pc1 := 115) rfl rfl ?_
    refine w_ji (pc1 := 118) (vs := [.ref 176]) (rest := []) (nB (d := _) M1 (by rw [hy]; exact hb)) rfl rfl rfl (fun _ _ => rfl) rfl (by exact cl_v my_195 rfl rfl rfl (Nat.le_of_ble_eq_true rfl) rfl (MH_obj rfl rfl) rfl (by decide) rfl rfl) (by rfl) (Nat.le_of_ble_eq_true rfl) (Nat.le_of_ble_eq_true rfl) rfl (fun v h1 d1 hq => ?_) (fun _ _ _ e => e.elim)
    rcases hq with ⟨hv, ⟨C2, F2, hh⟩, hn⟩
    · subst hv; subst hh; subst hn
      refine w_p (pc1 := 119) rfl rfl ?_
      refine w_m0 (pc1 := 122) rfl rfl (h_gI (j := 8) rfl rfl rfl rfl rfl) rfl ?_
      refine w_t (a := 129) (b := 125) (cb_ne_t (by rw [F2.1.2.1]; exact F2.1.1)) rfl rfl ?_
      refine w_p (pc1 := 130) rfl rfl ?_
      refine w_p (pc1 := 132) (st1 := .int 12 :: _) rfl rfl ?_
      refine w_p (pc1 := 133) rfl rfl ?_
      refine w_ji (pc1 := 136) (vs := [.ref 176, .int 12, _]) (rest := []) (sF (d := _) F2 (by omega)) rfl rfl rfl (fun _ _ => rfl) rfl (by exact cl_v my_230 rfl rfl rfl (Nat.le_of_ble_eq_true rfl) rfl (MH_obj rfl rfl) rfl (by decide) rfl rfl) (by rfl) (Nat.le_of_ble_eq_true rfl) (Nat.le_of_ble_eq_true rfl) rfl (fun v h1 d1 hq => ?_) (fun _ _ _ e => e.elim)
      rcases hq with ⟨hv, ⟨C3, F3, hh⟩, hn⟩
      · subst hv; subst hh; subst hn
        refine w_p (pc1 := 144) rfl rfl ?_
        refine w_r rfl rfl rfl (fun _ _ => rfl) rfl ?_
        rw [hy] at F3; exact H _ F3
set_option maxRecDepth 100000 in
theorem cm_e {v : Int64} (hv : v = mIs (kd B n i) (vl B n i)) (h50 : 50 ≤ kd B n i) (h55 : kd B n i ≤ 55) : eqO (cmo (kd B n i), 0) 12 v := by
  have h := kd_get (B := B) (n := n) (i := i) (by omega)
  refine Or.inr (Or.inr (Or.inr (Or.inr (Or.inr (Or.inr (Or.inr (Or.inr (Or.inr (Or.inr (Or.inr ⟨rfl, ?_⟩))))))))))
  rw [hv, ← h]
  have h0 : kd B n i = 50 ∨ kd B n i = 51 ∨ kd B n i = 52 ∨ kd B n i = 53 ∨ kd B n i = 54 ∨ kd B n i = 55 := by omega
  unfold sgO
  rcases h0 with hk | hk | hk | hk | hk | hk <;> rw [hk] <;> decide
set_option maxRecDepth 100000 in
theorem u4c (h50 : 50 ≤ kd B n s.1) (h55 : kd B n s.1 ≤ 55) (M : MK B n C0 C p b wb (e + 1) s W) (he : e < 11) (h1 : spd s = .inr y) (h6 : s.1 < 600) (hb : kd B n (s.1 + 1) ≠ 1) {Q : Option Value → ab_H → Nat → Prop} (hS : ∀ C', MK B n C0 C' p b wb e (nxt y) W → Wd L xs (d + 7) y_228 (0, [(0, .ref 176)], [], MH C' t, 0) Q nX) (H : ∀ v h m, Q v h m → Wd L xs (d + 8) y_227 (129, [(1, .long (mIs (kd B n s.1) (vl B n s.1))), (0, .ref 176)], v.toList ++ [], h, 0 + m) P X) : Wd L xs (d + 8) y_227 (4, [(0, .ref 176)], [], MH C t, 0) P X := by
  have hy := (spd_s h1).1
  refine w_p (pc1 := 5) rfl rfl ?_
  refine w_m0 (pc1 := 8) (st1 := .int 0 :: _) rfl rfl (h_gIe (j := 8) rfl rfl rfl rfl rfl (M.2.1.2.1)) rfl ?_
  refine w_t (a := 12) (b := 11) rfl rfl rfl ?_
  refine w_p (pc1 := 13) rfl rfl ?_
  refine w_m0 (pc1 := 16) (st1 := .long 26995 :: _) rfl rfl rfl rfl ?_
  refine w_je (pc1 := 19) (vs := [.ref 176, .long 26995]) (rest := []) (st1 := [.int 0]) (m_205f (d := _) (sl := 0) ((wd_k (k := 19) M.2.1 (by decide) (by decide)).trans (decide_eq_false (by omega)))) rfl rfl rfl (fun _ _ => rfl) rfl (by exact cl_v my_205 rfl rfl rfl (Nat.le_of_ble_eq_true rfl) rfl (MH_obj rfl rfl) rfl (by decide) rfl rfl) (by rfl) (Nat.le_of_ble_eq_true rfl) (Nat.le_of_ble_eq_true rfl) rfl (by rfl) ?_
  refine w_t (a := 98) (b := 22) rfl rfl rfl ?_
  refine w_p (pc1 := 99) rfl rfl ?_
  refine w_je (pc1 := 102) (vs := [.ref 176]) (rest := []) (st1 := [.int 1]) (cmY (d := _) h50 h55 M) rfl rfl rfl (fun _ _ => rfl) rfl (by exact cl_v my_235 rfl rfl rfl (Nat.le_of_ble_eq_true rfl) rfl (MH_obj rfl rfl) rfl (by decide) rfl rfl) (by rfl) (Nat.le_of_ble_eq_true rfl) (Nat.le_of_ble_eq_true rfl) rfl (by rfl) ?_
  refine w_f (a := 139) (b := 105) rfl rfl rfl ?_
  refine w_p (pc1 := 106) rfl rfl ?_
  refine w_m0 (pc1 := 109) (st1 := .long (mIs (kd B n s.1) (vl B n s.1)) :: _) rfl rfl (h_gJe (j := 7) rfl rfl rfl rfl rfl (M.2.1.2.2.2.1)) rfl ?_
  refine w_p (pc1 := 110) (al1 := [(1, .long (mIs (kd B n s.1) (vl B n s.1))), (0, .ref 176)]) rfl rfl ?_
  refine w_p (pc1 := 111) rfl rfl ?_
  refine w_ji (pc1 := 114) (vs := [.ref 176]) (rest := []) (dM (d := _) M h1) rfl rfl rfl (fun _ _ => rfl) rfl (by exact cl_v my_226 rfl rfl rfl (Nat.le_of_ble_eq_true rfl) rfl (MH_obj rfl rfl) rfl (by decide) rfl rfl) (by rfl) (Nat.le_of_ble_eq_true rfl) (Nat.le_of_ble_eq_true rfl) rfl (fun v h1 d1 hq => ?_) (fun _ _ _ e => e.elim)
  rcases hq with ⟨hv, ⟨C1, M1, hh⟩, hn⟩
  · subst hv; subst hh; subst hn
    refine w_p (pc1 := 115) rfl rfl ?_
    refine w_ji (pc1 := 118) (vs := [.ref 176]) (rest := []) (nM (d := _) M1 (by rw [hy]; exact hb) (by rw [hy]; exact h6)) rfl rfl rfl (fun _ _ => rfl) rfl (by exact cl_v my_195 rfl rfl rfl (Nat.le_of_ble_eq_true rfl) rfl (MH_obj rfl rfl) rfl (by decide) rfl rfl) (by rfl) (Nat.le_of_ble_eq_true rfl) (Nat.le_of_ble_eq_true rfl) rfl (fun v h1 d1 hq => ?_) (fun _ _ _ e => e.elim)
    rcases hq with ⟨hv, ⟨C2, M2, hh⟩, hn⟩
    · subst hv; subst hh; subst hn
      refine w_p (pc1 := 119) rfl rfl ?_
      refine w_m0 (pc1 := 122) (st1 := .int 0 :: _) rfl rfl (h_gIe (j := 8) rfl rfl rfl rfl rfl (M2.2.1.2.1)) rfl ?_
      refine w_f (a := 129) (b := 125) rfl rfl rfl ?_
      refine w_p (pc1 := 126) rfl rfl ?_
      refine w_ji (pc1 := 129) (vs := [.ref 176]) (rest := []) (hS C2 M2) rfl rfl rfl (fun _ _ => rfl) rfl (by exact cl_v my_228 rfl rfl rfl (Nat.le_of_ble_eq_true rfl) rfl (MH_obj rfl rfl) rfl (by decide) rfl rfl) (by rfl) (Nat.le_of_ble_eq_true rfl) (Nat.le_of_ble_eq_true rfl) rfl (fun v h m hq => H v h m hq) (fun _ _ _ e => e.elim)
set_option maxRecDepth 100000 in
theorem u129M (h50 : 50 ≤ kd B n i) (h55 : kd B n i ≤ 55) (M : MK B n C0 C p b wb e z W) (he : e < 12) (H : ∀ C', MK B n C0 C' p b wb (e + 1) (emt z (cmo (kd B n i)) 0) W → P none (MH C' t) 0) : Wd L xs (d + 1) y_227 (129, [(1, .long (mIs (kd B n i) (vl B n i))), (0, .ref 176)], [], MH C t, 0) P X := by
  refine w_p (pc1 := 130) rfl rfl ?_
  refine w_p (pc1 := 132) (st1 := .int 12 :: _) rfl rfl ?_
  refine w_p (pc1 := 133) rfl rfl ?_
  refine w_ji (pc1 := 136) (vs := [.ref 176, .int 12, .long (mIs (kd B n i) (vl B n i))]) (rest := []) (sM (d := _) M he (cm_e rfl h50 h55)) rfl rfl rfl (fun _ _ => rfl) rfl (by exact cl_v my_230 rfl rfl rfl (Nat.le_of_ble_eq_true rfl) rfl (MH_obj rfl rfl) rfl (by decide) rfl rfl) (by rfl) (Nat.le_of_ble_eq_true rfl) (Nat.le_of_ble_eq_true rfl) rfl (fun v h1 d1 hq => ?_) (fun _ _ _ e => e.elim)
  rcases hq with ⟨hv, ⟨C1, M1, hh⟩, hn⟩
  · subst hv; subst hh; subst hn
    refine w_p (pc1 := 144) rfl rfl ?_
    refine w_r rfl rfl rfl (fun _ _ => rfl) rfl ?_
    exact H _ M1
set_option maxRecDepth 100000 in
theorem u129F {j : Nat} (F : FM B n C0 C p b wb f c j) (hf : f < 6) (H : ∀ C', FM B n C0 C' p b wb (f + 1) c j → P none (MH C' t) 0) : Wd L xs (d + 1) y_227 (129, [(1, .long (mIs (kd B n i) (vl B n i))), (0, .ref 176)], [], MH C t, 0) P X := by
  refine w_p (pc1 := 130) rfl rfl ?_
  refine w_p (pc1 := 132) (st1 := .int 12 :: _) rfl rfl ?_
  refine w_p (pc1 := 133) rfl rfl ?_
  refine w_ji (pc1 := 136) (vs := [.ref 176, .int 12, .long (mIs (kd B n i) (vl B n i))]) (rest := []) (sF (d := _) F hf) rfl rfl rfl (fun _ _ => rfl) rfl (by exact cl_v my_230 rfl rfl rfl (Nat.le_of_ble_eq_true rfl) rfl (MH_obj rfl rfl) rfl (by decide) rfl rfl) (by rfl) (Nat.le_of_ble_eq_true rfl) (Nat.le_of_ble_eq_true rfl) rfl (fun v h1 d1 hq => ?_) (fun _ _ _ e => e.elim)
  rcases hq with ⟨hv, ⟨C1, F1, hh⟩, hn⟩
  · subst hv; subst hh; subst hn
    refine w_p (pc1 := 144) rfl rfl ?_
    refine w_r rfl rfl rfl (fun _ _ => rfl) rfl ?_
    exact H _ F1
set_option maxRecDepth 100000 in
theorem u0 {Q : Option Value → ab_H → Nat → Prop} (hS : Wd L xs (d + 7) y_228 (0, [(0, .ref 176)], [], MH C t, 0) Q nX) (H : ∀ v h m, Q v h m → Wd L xs (d + 8) y_227 (4, [(0, .ref 176)], v.toList ++ [], h, 0 + m) P X) : Wd L xs (d + 8) y_227 (0, [(0, .ref 176)], [], MH C t, 0) P X := by
  refine w_p (pc1 := 1) rfl rfl ?_
  refine w_ji (pc1 := 4) (vs := [.ref 176]) (rest := []) (hS) rfl rfl rfl (fun _ _ => rfl) rfl (by exact cl_v my_228 rfl rfl rfl (Nat.le_of_ble_eq_true rfl) rfl (MH_obj rfl rfl) rfl (by decide) rfl rfl) (by rfl) (Nat.le_of_ble_eq_true rfl) (Nat.le_of_ble_eq_true rfl) rfl (fun v h m hq => H v h m hq) (fun _ _ _ e => e.elim)
/-! a unit that is neither NOT nor a bracket -/
def rdU (E : fe_T) (f : Nat) (s : fs_T) : fr_T := bnd (rd E f 3 s) (fun s => if cmo (E.1 s.1) = -1 then .inl (2, s.1) else bnd (spd s) (fun z => if cmo (E.1 s.1) = 7 then nsm E (nxt z) else bnd (rd E f 3 (nxt z)) (fun z => .inr (emt z (cmo (E.1 s.1)) 0))))
set_option maxRecDepth 100000 in
theorem cmo_1 : ∀ k : Fin 60, cmo k.1 = -1 → k.1 ≠ 19 ∧ (k.1 < 50 ∨ 55 < k.1) := by decide +kernel
set_option maxRecDepth 100000 in
theorem cmo_2 : ∀ k : Fin 60, cmo k.1 ≠ -1 → cmo k.1 ≠ 7 → 50 ≤ k.1 ∧ k.1 ≤ 55 := by decide +kernel
set_option maxRecDepth 100000 in
theorem cmo_3 : ∀ k : Fin 60, cmo k.1 = 7 → k.1 = 19 := by decide +kernel
set_option maxRecDepth 100000 in
theorem unitM (hE : eM B n C0 E) (he : e < 7) (M : MT B n C0 C p b wb (e + 2) s W) (hc : ct B n (rdU E f s) g k) : Wd L xs (d + 8) y_227 (0, [(0, .ref 176)], [], MH C t, 0) (SU B n C0 t p b wb (e + 2) 3 W g k) nX := by
  have hk1 := hE.1
  have h1 : ct B n (rd E f 3 s) _ k := ct_b hc (fun z hb h => by
    rw [hk1, hb, if_pos (show cmo 1 = -1 from rfl)] at h
    exact kd_ip (i := z.1) hb h.2)
  refine u0 (sumM (e := e + 1) hE (by omega) M (ct_p (rd_cd _ _ _) h1)) (fun v h m hq => ?_)
  obtain ⟨hv, ⟨C1, h2, hh⟩, hm⟩ := hq
  subst hv
  subst hh
  subst hm
  rcases h2 with ⟨z, hz, M1⟩ | ⟨c, i, ⟨hp, hk⟩, F⟩
  · have hz1 := M1.1.2.1.1
    have hk59 := (kd_ok (B := B) (n := n) z.1).2
    rw [hk1] at hz
    by_cases hm1 : cmo (kd B n z.1) = -1
    · rw [if_pos hm1] at hz
      have h3 := cmo_1 ⟨kd B n z.1, by omega⟩ hm1
      exact u4n h3.1 h3.2 M1.1 (fun C2 F => ⟨rfl, ⟨C2, Or.inr ⟨2, z.1, kd_if hz1 hz.2, FM_u F (by omega)⟩, rfl⟩, rfl⟩)
    rw [if_neg hm1] at hz
    by_cases h7 : cmo (kd B n z.1) = 7
    · have hk := cmo_3 ⟨kd B n z.1, by omega⟩ h7
      simp only at hk
      have h6 := MT_6 M1 (by rw [hk]; decide)
      cases e1 : spd z with
      | inl u =>
        obtain ⟨c, i⟩ := u
        rw [e1] at hz
        have hi := (spd_i e1).2
        exact u4ie hk M1.1 (by omega) e1 (fun C2 F => ⟨rfl, ⟨C2, Or.inr ⟨c, i, kd_if (by rw [hi]; exact hz1) hz.2, FM_u F (by omega)⟩, rfl⟩, rfl⟩)
      | inr y =>
        rw [e1] at hz
        have hy := (spd_s e1).1
        have hy2 : (nxt y).1 = z.1 + 1 := by show y.1 + 1 = _; rw [hy]
        replace hz : ct B n (if cmo (kd B n z.1) = 7 then nsm E (nxt y) else bnd (rd E f 3 (nxt y)) (fun s => .inr (emt s (cmo (kd B n z.1)) 0))) g k := hz
        rw [if_pos h7] at hz
        unfold nsm xpt at hz
        rw [hk1, hy2] at hz
        by_cases hb : kd B n (z.1 + 1) = 1
        · rw [if_neg (by omega), if_neg (by omega)] at hz
          exact u4ib hk M1.1 (by omega) e1 hb (fun C2 F => ⟨rfl, ⟨C2, Or.inr ⟨1, z.1 + 1, kd_ip (i := z.1 + 1) hb hz.2, FM_u F (by omega)⟩, rfl⟩, rfl⟩)
        by_cases h27 : kd B n (z.1 + 1) = 27
        · have h8 := tk_600 M1.1 h6.2 (by rw [h27]; decide)
          have h9 := tk_up h6.2 (by rw [h27]; decide)
          rw [if_pos h27] at hz
          have hz3 : (emt (nxt (nxt y)) 7 0).1 = z.1 + 2 := by show y.1 + 1 + 1 = _; rw [hy]
          have hz := ct_i hz
          rw [hz3] at hz
          refine u4iu hk M1.1 (by omega) e1 h6.1 h8 h27 (fun C2 hq => ?_)
          rcases hq with ⟨hb2, M2⟩ | ⟨hb2, F⟩
          · exact ⟨rfl, ⟨C2, Or.inl ⟨_, hz.2 hb2, MK_le M2 (by omega) (by omega), by rw [hz3]; exact h9⟩, rfl⟩, rfl⟩
          · exact ⟨rfl, ⟨C2, Or.inr ⟨1, _, hz.1 hb2, FM_u F (by omega)⟩, rfl⟩, rfl⟩
        rw [if_neg h27] at hz
        by_cases h35 : kd B n (z.1 + 1) = 35
        · have h8 := tk_600 M1.1 h6.2 (by rw [h35]; decide)
          have h9 := tk_up h6.2 (by rw [h35]; decide)
          rw [if_pos h35] at hz
          have hz3 : (emt (nxt (nxt y)) 8 0).1 = z.1 + 2 := by show y.1 + 1 + 1 = _; rw [hy]
          have hz := ct_i hz
          rw [hz3] at hz
          refine u4is hk M1.1 (by omega) e1 h6.1 h8 h35 (fun C2 hq => ?_)
          rcases hq with ⟨hb2, M2⟩ | ⟨hb2, F⟩
          · exact ⟨rfl, ⟨C2, Or.inl ⟨_, hz.2 hb2, MK_le M2 (by omega) (by omega), by rw [hz3]; exact h9⟩, rfl⟩, rfl⟩
          · exact ⟨rfl, ⟨C2, Or.inr ⟨1, _, hz.1 hb2, FM_u F (by omega)⟩, rfl⟩, rfl⟩
        rw [if_neg h35] at hz
        exact u4ix hk M1.1 (by omega) e1 h6.1 hb h27 h35 (fun C2 F => ⟨rfl, ⟨C2, Or.inr ⟨2, z.1 + 1, kd_if (i := z.1 + 1) hb hz.2, FM_u F (by omega)⟩, rfl⟩, rfl⟩)
    · have h50 := cmo_2 ⟨kd B n z.1, by omega⟩ hm1 h7
      simp only at h50
      have h6 := MT_6 M1 (by omega)
      cases e1 : spd z with
      | inl u =>
        obtain ⟨c, i⟩ := u
        rw [e1] at hz
        have hi := (spd_i e1).2
        exact u4ce h50.1 h50.2 M1.1 (by omega) e1 (fun C2 F => ⟨rfl, ⟨C2, Or.inr ⟨c, i, kd_if (by rw [hi]; exact hz1) hz.2, FM_u F (by omega)⟩, rfl⟩, rfl⟩)
      | inr y =>
        rw [e1] at hz
        have hy := (spd_s e1).1
        have hy2 : (nxt y).1 = z.1 + 1 := by show y.1 + 1 = _; rw [hy]
        replace hz : ct B n (if cmo (kd B n z.1) = 7 then nsm E (nxt y) else bnd (rd E f 3 (nxt y)) (fun s => .inr (emt s (cmo (kd B n z.1)) 0))) g k := hz
        rw [if_neg h7] at hz
        by_cases hb : kd B n (z.1 + 1) = 1
        · have h3 := cb_r hk1 (Or.inr (Or.inr (Or.inl rfl))) (by rw [hy2]; exact hb) hz
          rw [hy2] at h3
          exact u4cb h50.1 h50.2 M1.1 (by omega) e1 hb (fun C2 F => ⟨rfl, ⟨C2, Or.inr ⟨1, z.1 + 1, h3, FM_u F (by omega)⟩, rfl⟩, rfl⟩)
        · refine u4c h50.1 h50.2 M1.1 (by omega) e1 h6.1 hb (fun C2 M2 => sumM (e := e) hE (by omega) ⟨M2, by rw [hy2]; exact h6.2⟩ (ct_b hz (fun w hb h => cb_i (u := fun z => emt z _ 0) rfl hb h))) (fun v h m hq => ?_)
          obtain ⟨hv, ⟨C3, h2, hh⟩, hm⟩ := hq
          subst hv
          subst hh
          subst hm
          rcases h2 with ⟨w, hw, M3⟩ | ⟨c, i, hk, F⟩
          · exact u129M h50.1 h50.2 M3.1 (by omega) (fun C4 M4 => ⟨rfl, ⟨C4, Or.inl ⟨_, (ct_i hw).2 M3.1.2.1.1, M4, M3.2⟩, rfl⟩, rfl⟩)
          · exact u129F F (by omega) (fun C4 F4 => ⟨rfl, ⟨C4, Or.inr ⟨c, i, hk, F4⟩, rfl⟩, rfl⟩)
  · exact u4F F hp ⟨rfl, ⟨C1, Or.inr ⟨c, i, hk, FM_u F (by omega)⟩, rfl⟩, rfl⟩
end MUN
