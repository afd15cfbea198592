/-! FORMULAS, 5: the small steps over the state; what stands behind a sign or in brackets -/
section INN
variable {L : Nat} {xs : Nat → Int32} {t : ab_H} {d n m w : Nat} {B : Nat → Nat} {C0 C : co_T} {s y z : fs_T} {c : Int32} {i : Nat} {E : fe_T}
set_option maxRecDepth 100000 in
theorem PF_i {C1 : co_T} (F : FK B n m C0 C1 z) : PFK B n m C0 t 0 z none (MH C1 t) 0 := ⟨rfl, ⟨C1, F, rfl⟩, rfl⟩
set_option maxRecDepth 100000 in
theorem rR (F : FK B n m C0 C s) (h : spd s = .inr y) : Wd L xs d y_60 (0, [(0, .ref 121)], [], MH C t, 0) (PFK B n m C0 t 0 y) nX := by
  unfold spd at h
  split at h
  · rename_i hl
    cases h
    have hm : C.1 21 6 = -1 := by have := F.2.2.2.2.2.2.1; rw [hl] at this; exact this
    exact Wd_r (m_60m hm) (PF_i F)
  · cases h
  · rename_i k hl
    cases h
    have hm := F.2.2.2.2.2.2.1
    rw [hl] at hm
    exact Wd_r (m_60s hm.1 (by have := hm.2; omega)) (PF_i (FK_sp F hl))
set_option maxRecDepth 100000 in
theorem rE (F : FK B n m C0 C s) (h : spd s = .inl (c, i)) : Wd L xs (d + 7) y_60 (0, [(0, .ref 121)], [], MH C t, 0) nP (XFK B n m C0 t 0 c i) := by
  unfold spd at h
  split at h
  · cases h
  · rename_i hl
    cases h
    have hm : C.1 21 6 = 0 := by have := F.2.2.2.2.2.2.1; rw [hl] at this; exact this.1
    exact Wd_q (m_60z F.1 hm) (fun _ _ _ e => e) (fun _ _ _ e => X_up F.2.2.2.2.2.2.2 F.1 e)
  · cases h
set_option maxRecDepth 100000 in
theorem gR (F : FK B n m C0 C s) (h : gin s = .inr y) : Wd L xs d y_59 (0, [(0, .ref 121)], [], MH C t, 0) (PFK B n m C0 t 0 y) nX := by
  obtain ⟨rfl, hq⟩ := gin_s h
  exact Wd_r (m_59y F.2.2.2.2.1 hq) (PF_i (FK_o F hq))
set_option maxRecDepth 100000 in
theorem gE (F : FK B n m C0 C s) (h : gin s = .inl (c, i)) : Wd L xs (d + 7) y_59 (0, [(0, .ref 121)], [], MH C t, 0) nP (XFK B n m C0 t 0 c i) := by
  unfold gin at h
  split at h
  · rename_i hq
    cases h
    exact Wd_q (m_59n F.1 F.2.2.2.2.1 hq F.2.2.2.2.2.1) (fun _ _ _ e => e) (fun _ _ _ e => X_up F.2.2.2.2.2.2.2 F.1 e)
  · cases h
set_option maxRecDepth 100000 in
theorem nR (F : FK B n m C0 C s) (h1 : kd B n s.1 ≠ 1 ∧ kd B n s.1 ≠ 2) : Wd L xs d y_21 (0, [(0, .ref 101)], [], MH C t, 0) (PFK B n m C0 t 0 (nxt s)) nX := Wd_r (m_21s F.1 h1.1 h1.2) (PF_i (FK_n F h1.1 h1.2))
set_option maxRecDepth 100000 in
theorem eR {a b : Int32} (F : FK B n m C0 C s) (h : s.2.1.length + 1 ≤ s.1) : Wd L xs d y_61 (0, [(0, .ref 121), (1, .int a), (2, .int b)], [], MH C t, 0) (PFK B n m C0 t 0 (emt s a b)) nX := by
  have h6 := tkS_600 F.1
  have hm := F.1.2.2.2.1
  exact Wd_r (m_61 F.2.2.1 (by omega)) (PF_i (FK_e F h))
set_option maxRecDepth 100000 in
theorem xR (F : FK B n m C0 C s) (hw : ab_ok w = true) (hk : kd B n s.1 = w) (h1 : w ≠ 1) (h2 : w ≠ 2) : Wd L xs (d + 1) y_38 (0, [(0, .ref 101), (1, .ref w)], [], MH C t, 0) (PFK B n m C0 t 0 (nxt s)) nX := Wd_r (m_38y F.1 hw hk h1 h2) (PF_i (FK_n F (by rw [hk]; exact h1) (by rw [hk]; exact h2)))
set_option maxRecDepth 100000 in
theorem xE (F : FK B n m C0 C s) (hw : ab_ok w = true) (hk : kd B n s.1 ≠ w) : Wd L xs (d + 7) y_38 (0, [(0, .ref 101), (1, .ref w)], [], MH C t, 0) nP (XFK B n m C0 t 0 2 s.1) := Wd_q (m_38n F.1 hw hk) (fun _ _ _ e => e) (fun _ _ _ e => X_up F.2.2.2.2.2.2.2 F.1 e)
/-! a method of the reader does what is told -/
def Gr (L : Nat) (xs : Nat → Int32) (B : Nat → Nat) (n m : Nat) (C0 : co_T) (t : ab_H) (E : fe_T) (f md : Nat) (y : mc_T) (D : Nat) : Prop := ∀ (s z : fs_T) (C : co_T), rd E f md s = .inr z → FK B n m C0 C s → Wd L xs (4 * (10 - s.2.2.1) + D) y (0, [(0, .ref 121)], [], MH C t, 0) (PFK B n m C0 t 0 z) nX
def Ge (L : Nat) (xs : Nat → Int32) (B : Nat → Nat) (n m : Nat) (C0 : co_T) (t : ab_H) (E : fe_T) (f md : Nat) (y : mc_T) (D : Nat) : Prop := ∀ (s : fs_T) (c : Int32) (i : Nat) (C : co_T), rd E f md s = .inl (c, i) → c ≠ 0 → FK B n m C0 C s → Wd L xs (4 * (10 - s.2.2.1) + D) y (0, [(0, .ref 121)], [], MH C t, 0) nP (XFK B n m C0 t 0 c i)
set_option maxRecDepth 100000 in
theorem bnd_e {r : fr_T} {g : fs_T → fr_T} {e : Int32 × Nat} (h : bnd r g = .inl e) : r = .inl e ∨ ∃ s, r = .inr s ∧ g s = .inl e := by
  unfold bnd at h
  split at h
  · cases h
    exact Or.inl rfl
  · exact Or.inr ⟨_, rfl, h⟩
set_option maxRecDepth 100000 in
theorem i7_1 (F : FK B n m C0 C s) (hk : kd B n s.1 = 57) (h1 : gin s = .inl (c, i)) : Wd L xs (4 * (10 - s.2.2.1) + 11) y_67 (0, [(0, .ref 121)], [], MH C t, 0) nP (XFK B n m C0 t 0 c i) := by
  refine w_p (pc1 := 1) rfl rfl ?_
  refine w_m0 (pc1 := 4) rfl rfl (h_gC rfl rfl rfl rfl) rfl ?_
  refine w_m0 (pc1 := 7) (st1 := .ref (kd B n s.1) :: _) rfl rfl (h_gRs (j := 6) rfl rfl rfl rfl rfl (tkS_tok F.1)) rfl ?_
  refine w_m0 (pc1 := 10) (st1 := .ref 57 :: _) rfl rfl rfl rfl ?_
  refine w_an_y (A := 51) (Bn := 13) (ok_kd) (by decide) (hk) rfl rfl rfl ?_
  refine w_p (pc1 := 14) rfl rfl ?_
  refine w_ji (pc1 := 17) (vs := [.ref 121]) (rest := []) (gE (d := _) F h1) rfl rfl rfl (fun _ _ => rfl) rfl (by exact cl_v my_59 rfl rfl rfl (Nat.le_of_ble_eq_true rfl) rfl (MH_obj rfl rfl) rfl (by decide) rfl rfl) (by rfl) (Nat.le_of_ble_eq_true rfl) (Nat.le_of_ble_eq_true rfl) rfl (fun v h1 d1 hq => ?_) (fun a h1 d1 hq => ?_)
  · exact hq.elim
  · rcases hq with ⟨C9, f9, S9, ha, hh, hn⟩
    · subst ha; subst hh; subst hn
      refine Or.inl ⟨ch_new (by decide) rfl, ?_⟩
      exact ⟨C9, f9, S9, rfl, rfl, rfl⟩
set_option maxRecDepth 100000 in
theorem i7_2 (F : FK B n m C0 C s) (hk : kd B n s.1 = 57) (h1 : gin s = .inr y) (h2 : spd y = .inl (c, i)) : Wd L xs (4 * (10 - s.2.2.1) + 11) y_67 (0, [(0, .ref 121)], [], MH C t, 0) nP (XFK B n m C0 t 0 c i) := by
  have hy := (gin_s h1).1
  refine w_p (pc1 := 1) rfl rfl ?_
  refine w_m0 (pc1 := 4) rfl rfl (h_gC rfl rfl rfl rfl) rfl ?_
  refine w_m0 (pc1 := 7) (st1 := .ref (kd B n s.1) :: _) rfl rfl (h_gRs (j := 6) rfl rfl rfl rfl rfl (tkS_tok F.1)) rfl ?_
  refine w_m0 (pc1 := 10) (st1 := .ref 57 :: _) rfl rfl rfl rfl ?_
  refine w_an_y (A := 51) (Bn := 13) (ok_kd) (by decide) (hk) rfl rfl rfl ?_
  refine w_p (pc1 := 14) rfl rfl ?_
  refine w_ji (pc1 := 17) (vs := [.ref 121]) (rest := []) (gR (d := _) F h1) rfl rfl rfl (fun _ _ => rfl) rfl (by exact cl_v my_59 rfl rfl rfl (Nat.le_of_ble_eq_true rfl) rfl (MH_obj rfl rfl) rfl (by decide) rfl rfl) (by rfl) (Nat.le_of_ble_eq_true rfl) (Nat.le_of_ble_eq_true rfl) rfl (fun v h1 d1 hq => ?_) (fun _ _ _ e => e.elim)
  rcases hq with ⟨hv, ⟨C1, F1, hh⟩, hn⟩
  · subst hv; subst hh; subst hn
    refine w_p (pc1 := 18) rfl rfl ?_
    refine w_ji (pc1 := 21) (vs := [.ref 121]) (rest := []) (rE (d := _) F1 h2) rfl rfl rfl (fun _ _ => rfl) rfl (by exact cl_v my_60 rfl rfl rfl (Nat.le_of_ble_eq_true rfl) rfl (MH_obj rfl rfl) rfl (by decide) rfl rfl) (by rfl) (Nat.le_of_ble_eq_true rfl) (Nat.le_of_ble_eq_true rfl) rfl (fun v h1 d1 hq => ?_) (fun a h1 d1 hq => ?_)
    · exact hq.elim
    · rcases hq with ⟨C9, f9, S9, ha, hh, hn⟩
      · subst ha; subst hh; subst hn
        refine Or.inl ⟨ch_new (by decide) rfl, ?_⟩
        exact ⟨C9, f9, S9, rfl, rfl, rfl⟩
set_option maxRecDepth 100000 in
theorem i7_3 (F : FK B n m C0 C s) {x : fs_T} {f : Nat} (ih : Ge L xs B n m C0 t E f 0 y_64 12) (hk : kd B n s.1 = 57) (h1 : gin s = .inr y) (h2 : spd y = .inr x) (h3 : rd E f 0 (nxt x) = .inl (c, i)) (hc : c ≠ 0) : Wd L xs (4 * (10 - s.2.2.1) + 11) y_67 (0, [(0, .ref 121)], [], MH C t, 0) nP (XFK B n m C0 t 0 c i) := by
  have hy := gin_s h1
  have hx := spd_s h2
  have hx1 : x.1 = s.1 := by rw [hx.1, hy.1]
  have hxq : x.2.2.1 = s.2.2.1 + 1 := by rw [hx.2.2, hy.1]
  have hkx : kd B n x.1 ≠ 1 ∧ kd B n x.1 ≠ 2 := by rw [hx1]; exact kne hk (by decide) (by decide)
  refine w_p (pc1 := 1) rfl rfl ?_
  refine w_m0 (pc1 := 4) rfl rfl (h_gC rfl rfl rfl rfl) rfl ?_
  refine w_m0 (pc1 := 7) (st1 := .ref (kd B n s.1) :: _) rfl rfl (h_gRs (j := 6) rfl rfl rfl rfl rfl (tkS_tok F.1)) rfl ?_
  refine w_m0 (pc1 := 10) (st1 := .ref 57 :: _) rfl rfl rfl rfl ?_
  refine w_an_y (A := 51) (Bn := 13) (ok_kd) (by decide) (hk) rfl rfl rfl ?_
  refine w_p (pc1 := 14) rfl rfl ?_
  refine w_ji (pc1 := 17) (vs := [.ref 121]) (rest := []) (gR (d := _) F h1) rfl rfl rfl (fun _ _ => rfl) rfl (by exact cl_v my_59 rfl rfl rfl (Nat.le_of_ble_eq_true rfl) rfl (MH_obj rfl rfl) rfl (by decide) rfl rfl) (by rfl) (Nat.le_of_ble_eq_true rfl) (Nat.le_of_ble_eq_true rfl) rfl (fun v h1 d1 hq => ?_) (fun _ _ _ e => e.elim)
  rcases hq with ⟨hv, ⟨C1, F1, hh⟩, hn⟩
  · subst hv; subst hh; subst hn
    refine w_p (pc1 := 18) rfl rfl ?_
    refine w_ji (pc1 := 21) (vs := [.ref 121]) (rest := []) (rR (d := _) F1 h2) rfl rfl rfl (fun _ _ => rfl) rfl (by exact cl_v my_60 rfl rfl rfl (Nat.le_of_ble_eq_true rfl) rfl (MH_obj rfl rfl) rfl (by decide) rfl rfl) (by rfl) (Nat.le_of_ble_eq_true rfl) (Nat.le_of_ble_eq_true rfl) rfl (fun v h1 d1 hq => ?_) (fun _ _ _ e => e.elim)
    rcases hq with ⟨hv, ⟨C2, F2, hh⟩, hn⟩
    · subst hv; subst hh; subst hn
      refine w_p (pc1 := 22) rfl rfl ?_
      refine w_m0 (pc1 := 25) rfl rfl (h_gC rfl rfl rfl rfl) rfl ?_
      refine w_ji (pc1 := 28) (vs := [.ref 101]) (rest := []) (nR (d := _) F2 hkx) rfl rfl rfl (fun _ _ => rfl) rfl (by exact cl_v my_21 rfl rfl rfl (Nat.le_of_ble_eq_true rfl) rfl (MH_obj rfl rfl) rfl (by decide) rfl rfl) (by rfl) (Nat.le_of_ble_eq_true rfl) (Nat.le_of_ble_eq_true rfl) rfl (fun v h1 d1 hq => ?_) (fun _ _ _ e => e.elim)
      rcases hq with ⟨hv, ⟨C3, F3, hh⟩, hn⟩
      · subst hv; subst hh; subst hn
        refine w_p (pc1 := 29) rfl rfl ?_
        refine w_ji (pc1 := 32) (vs := [.ref 121]) (rest := []) (Wd_up (by have e : (nxt x).2.2.1 = s.2.2.1 + 1 := hxq; rw [e]; omega) (ih (nxt x) c i _ h3 hc F3)) rfl rfl rfl (fun _ _ => rfl) rfl (by exact cl_v my_64 rfl rfl rfl (Nat.le_of_ble_eq_true rfl) rfl (MH_obj rfl rfl) rfl (by decide) rfl rfl) (by rfl) (Nat.le_of_ble_eq_true rfl) (Nat.le_of_ble_eq_true rfl) rfl (fun v h1 d1 hq => ?_) (fun a h1 d1 hq => ?_)
        · exact hq.elim
        · rcases hq with ⟨C9, f9, S9, ha, hh, hn⟩
          · subst ha; subst hh; subst hn
            refine Or.inl ⟨ch_new (by decide) rfl, ?_⟩
            exact ⟨C9, f9, S9, rfl, rfl, rfl⟩
set_option maxRecDepth 100000 in
theorem i7_4 (F : FK B n m C0 C s) {x u : fs_T} {f : Nat} (ih : Gr L xs B n m C0 t E f 0 y_64 12) (hk : kd B n s.1 = 57) (h1 : gin s = .inr y) (h2 : spd y = .inr x) (h3 : rd E f 0 (nxt x) = .inr u) (hz : z = gou (emt u 5 0)) : Wd L xs (4 * (10 - s.2.2.1) + 11) y_67 (0, [(0, .ref 121)], [], MH C t, 0) (PFK B n m C0 t 0 z) nX := by
  have hy := gin_s h1
  have hx := spd_s h2
  have hx1 : x.1 = s.1 := by rw [hx.1, hy.1]
  have hxq : x.2.2.1 = s.2.2.1 + 1 := by rw [hx.2.2, hy.1]
  have hkx : kd B n x.1 ≠ 1 ∧ kd B n x.1 ≠ 2 := by rw [hx1]; exact kne hk (by decide) (by decide)
  have ho := fle_o (a := 5) (b := 0) h2 (rd_fle _ _ _ _ h3)
  have hul : u.2.1.length + 1 ≤ u.1 := by
    have e1 : y.1 = s.1 := by rw [hy.1]
    have e2 : y.2.1.length = s.2.1.length := by rw [hy.1]
    have e3 := F.2.1
    have := ho.2.1
    omega
  have huq : u.2.2.1 = s.2.2.1 + 1 := by
    have := (rd_fle _ _ _ _ h3).2.2
    rw [this]
    exact hxq
  subst hz
  refine w_p (pc1 := 1) rfl rfl ?_
  refine w_m0 (pc1 := 4) rfl rfl (h_gC rfl rfl rfl rfl) rfl ?_
  refine w_m0 (pc1 := 7) (st1 := .ref (kd B n s.1) :: _) rfl rfl (h_gRs (j := 6) rfl rfl rfl rfl rfl (tkS_tok F.1)) rfl ?_
  refine w_m0 (pc1 := 10) (st1 := .ref 57 :: _) rfl rfl rfl rfl ?_
  refine w_an_y (A := 51) (Bn := 13) (ok_kd) (by decide) (hk) rfl rfl rfl ?_
  refine w_p (pc1 := 14) rfl rfl ?_
  refine w_ji (pc1 := 17) (vs := [.ref 121]) (rest := []) (gR (d := _) F h1) rfl rfl rfl (fun _ _ => rfl) rfl (by exact cl_v my_59 rfl rfl rfl (Nat.le_of_ble_eq_true rfl) rfl (MH_obj rfl rfl) rfl (by decide) rfl rfl) (by rfl) (Nat.le_of_ble_eq_true rfl) (Nat.le_of_ble_eq_true rfl) rfl (fun v h1 d1 hq => ?_) (fun _ _ _ e => e.elim)
  rcases hq with ⟨hv, ⟨C1, F1, hh⟩, hn⟩
  · subst hv; subst hh; subst hn
    refine w_p (pc1 := 18) rfl rfl ?_
    refine w_ji (pc1 := 21) (vs := [.ref 121]) (rest := []) (rR (d := _) F1 h2) rfl rfl rfl (fun _ _ => rfl) rfl (by exact cl_v my_60 rfl rfl rfl (Nat.le_of_ble_eq_true rfl) rfl (MH_obj rfl rfl) rfl (by decide) rfl rfl) (by rfl) (Nat.le_of_ble_eq_true rfl) (Nat.le_of_ble_eq_true rfl) rfl (fun v h1 d1 hq => ?_) (fun _ _ _ e => e.elim)
    rcases hq with ⟨hv, ⟨C2, F2, hh⟩, hn⟩
    · subst hv; subst hh; subst hn
      refine w_p (pc1 := 22) rfl rfl ?_
      refine w_m0 (pc1 := 25) rfl rfl (h_gC rfl rfl rfl rfl) rfl ?_
      refine w_ji (pc1 := 28) (vs := [.ref 101]) (rest := []) (nR (d := _) F2 hkx) rfl rfl rfl (fun _ _ => rfl) rfl (by exact cl_v my_21 rfl rfl rfl (Nat.le_of_ble_eq_true rfl) rfl (MH_obj rfl rfl) rfl (by decide) rfl rfl) (by rfl) (Nat.le_of_ble_eq_true rfl) (Nat.le_of_ble_eq_true rfl) rfl (fun v h1 d1 hq => ?_) (fun _ _ _ e => e.elim)
      rcases hq with ⟨hv, ⟨C3, F3, hh⟩, hn⟩
      · subst hv; subst hh; subst hn
        refine w_p (pc1 := 29) rfl rfl ?_
        refine w_ji (pc1 := 32) (vs := [.ref 121]) (rest := []) (Wd_up (by have e : (nxt x).2.2.1 = s.2.2.1 + 1 := hxq; rw [e]; omega) (ih (nxt x) u _ h3 F3)) rfl rfl rfl (fun _ _ => rfl) rfl (by exact cl_v my_64 rfl rfl rfl (Nat.le_of_ble_eq_true rfl) rfl (MH_obj rfl rfl) rfl (by decide) rfl rfl) (by rfl) (Nat.le_of_ble_eq_true rfl) (Nat.le_of_ble_eq_true rfl) rfl (fun v h1 d1 hq => ?_) (fun _ _ _ e => e.elim)
        rcases hq with ⟨hv, ⟨C4, F4, hh⟩, hn⟩
        · subst hv; subst hh; subst hn
          refine w_p (pc1 := 33) rfl rfl ?_
          refine w_p (pc1 := 34) (st1 := .int 5 :: _) rfl rfl ?_
          refine w_p (pc1 := 35) (st1 := .int 0 :: _) rfl rfl ?_
          refine w_ji (pc1 := 38) (vs := [.ref 121, .int 5, .int 0]) (rest := []) (eR (d := _) F4 hul) rfl rfl rfl (fun _ _ => rfl) rfl (by exact cl_v my_61 rfl rfl rfl (Nat.le_of_ble_eq_true rfl) rfl (MH_obj rfl rfl) rfl (by decide) rfl rfl) (by rfl) (Nat.le_of_ble_eq_true rfl) (Nat.le_of_ble_eq_true rfl) rfl (fun v h1 d1 hq => ?_) (fun _ _ _ e => e.elim)
          rcases hq with ⟨hv, ⟨C5, F5, hh⟩, hn⟩
          · subst hv; subst hh; subst hn
            refine w_p (pc1 := 39) rfl rfl ?_
            refine w_p (pc1 := 40) rfl rfl ?_
            refine w_m0 (pc1 := 43) (st1 := .int (nI ((emt u 5 0).2.2.1)) :: _) rfl rfl (h_gIe (j := 5) rfl rfl rfl rfl rfl (F5.2.2.2.2.1)) rfl ?_
            refine w_p (pc1 := 44) (st1 := .int 1 :: _) rfl rfl ?_
            refine w_isub (pc1 := 45) (u := nI ((emt u 5 0).2.2.1)) (v := nI (1)) (z := nI ((emt u 5 0).2.2.1 - 1)) rfl (nK_sub (by show 1 ≤ u.2.2.1; omega)) rfl ?_
            refine w_m0 (pc1 := 48) rfl rfl (h_pI (j := 5) rfl rfl rfl rfl rfl rfl rfl ⟨rfl, rfl⟩ rfl) rfl ?_
            refine w_p (pc1 := 102) rfl rfl ?_
            refine w_r rfl rfl rfl (fun _ _ => rfl) rfl ?_
            exact PF_i (FK_c F5 (show 1 ≤ u.2.2.1 by omega))
set_option maxRecDepth 100000 in
theorem i4_1 (F : FK B n m C0 C s) (hk : kd B n s.1 = 44) (h1 : gin s = .inl (c, i)) : Wd L xs (4 * (10 - s.2.2.1) + 11) y_67 (0, [(0, .ref 121)], [], MH C t, 0) nP (XFK B n m C0 t 0 c i) := by
  refine w_p (pc1 := 1) rfl rfl ?_
  refine w_m0 (pc1 := 4) rfl rfl (h_gC rfl rfl rfl rfl) rfl ?_
  refine w_m0 (pc1 := 7) (st1 := .ref (kd B n s.1) :: _) rfl rfl (h_gRs (j := 6) rfl rfl rfl rfl rfl (tkS_tok F.1)) rfl ?_
  refine w_m0 (pc1 := 10) (st1 := .ref 57 :: _) rfl rfl rfl rfl ?_
  refine w_an_n (A := 51) (ok_kd) (by decide) (by rw [hk]; decide) rfl rfl ?_
  refine w_p (pc1 := 52) rfl rfl ?_
  refine w_m0 (pc1 := 55) rfl rfl (h_gC rfl rfl rfl rfl) rfl ?_
  refine w_m0 (pc1 := 58) (st1 := .ref (kd B n s.1) :: _) rfl rfl (h_gRs (j := 6) rfl rfl rfl rfl rfl (tkS_tok F.1)) rfl ?_
  refine w_m0 (pc1 := 61) (st1 := .ref 44 :: _) rfl rfl rfl rfl ?_
  refine w_an_y (A := 68) (Bn := 64) (ok_kd) (by decide) (hk) rfl rfl rfl ?_
  refine w_p (pc1 := 65) rfl rfl ?_
  refine w_ji (pc1 := 68) (vs := [.ref 121]) (rest := []) (gE (d := _) F h1) rfl rfl rfl (fun _ _ => rfl) rfl (by exact cl_v my_59 rfl rfl rfl (Nat.le_of_ble_eq_true rfl) rfl (MH_obj rfl rfl) rfl (by decide) rfl rfl) (by rfl) (Nat.le_of_ble_eq_true rfl) (Nat.le_of_ble_eq_true rfl) rfl (fun v h1 d1 hq => ?_) (fun a h1 d1 hq => ?_)
  · exact hq.elim
  · rcases hq with ⟨C9, f9, S9, ha, hh, hn⟩
    · subst ha; subst hh; subst hn
      refine Or.inl ⟨ch_new (by decide) rfl, ?_⟩
      exact ⟨C9, f9, S9, rfl, rfl, rfl⟩
set_option maxRecDepth 100000 in
theorem i4_2 (F : FK B n m C0 C s) {f : Nat} (ih : Ge L xs B n m C0 t E f 3 y_62 14) (hk : kd B n s.1 = 44) (h1 : gin s = .inr y) (h2 : rd E f 3 (nxt y) = .inl (c, i)) (hc : c ≠ 0) : Wd L xs (4 * (10 - s.2.2.1) + 11) y_67 (0, [(0, .ref 121)], [], MH C t, 0) nP (XFK B n m C0 t 0 c i) := by
  have hy := gin_s h1
  have hyq : y.2.2.1 = s.2.2.1 + 1 := by rw [hy.1]
  have hky : kd B n y.1 = 44 := by rw [hy.1]; exact hk
  refine w_p (pc1 := 1) rfl rfl ?_
  refine w_m0 (pc1 := 4) rfl rfl (h_gC rfl rfl rfl rfl) rfl ?_
  refine w_m0 (pc1 := 7) (st1 := .ref (kd B n s.1) :: _) rfl rfl (h_gRs (j := 6) rfl rfl rfl rfl rfl (tkS_tok F.1)) rfl ?_
  refine w_m0 (pc1 := 10) (st1 := .ref 57 :: _) rfl rfl rfl rfl ?_
  refine w_an_n (A := 51) (ok_kd) (by decide) (by rw [hk]; decide) rfl rfl ?_
  refine w_p (pc1 := 52) rfl rfl ?_
  refine w_m0 (pc1 := 55) rfl rfl (h_gC rfl rfl rfl rfl) rfl ?_
  refine w_m0 (pc1 := 58) (st1 := .ref (kd B n s.1) :: _) rfl rfl (h_gRs (j := 6) rfl rfl rfl rfl rfl (tkS_tok F.1)) rfl ?_
  refine w_m0 (pc1 := 61) (st1 := .ref 44 :: _) rfl rfl rfl rfl ?_
  refine w_an_y (A := 68) (Bn := 64) (ok_kd) (by decide) (hk) rfl rfl rfl ?_
  refine w_p (pc1 := 65) rfl rfl ?_
  refine w_ji (pc1 := 68) (vs := [.ref 121]) (rest := []) (gR (d := _) F h1) rfl rfl rfl (fun _ _ => rfl) rfl (by exact cl_v my_59 rfl rfl rfl (Nat.le_of_ble_eq_true rfl) rfl (MH_obj rfl rfl) rfl (by decide) rfl rfl) (by rfl) (Nat.le_of_ble_eq_true rfl) (Nat.le_of_ble_eq_true rfl) rfl (fun v h1 d1 hq => ?_) (fun _ _ _ e => e.elim)
  rcases hq with ⟨hv, ⟨C1, F1, hh⟩, hn⟩
  · subst hv; subst hh; subst hn
    refine w_p (pc1 := 69) rfl rfl ?_
    refine w_m0 (pc1 := 72) rfl rfl (h_gC rfl rfl rfl rfl) rfl ?_
    refine w_m0 (pc1 := 75) (st1 := .ref 44 :: _) rfl rfl rfl rfl ?_
    refine w_ji (pc1 := 78) (vs := [.ref 101, .ref 44]) (rest := []) (xR (d := _) F1 (by decide) hky (by decide) (by decide)) rfl rfl rfl (fun _ _ => rfl) rfl (by exact cl_v my_38 rfl rfl rfl (Nat.le_of_ble_eq_true rfl) rfl (MH_obj rfl rfl) rfl (by decide) rfl rfl) (by rfl) (Nat.le_of_ble_eq_true rfl) (Nat.le_of_ble_eq_true rfl) rfl (fun v h1 d1 hq => ?_) (fun _ _ _ e => e.elim)
    rcases hq with ⟨hv, ⟨C2, F2, hh⟩, hn⟩
    · subst hv; subst hh; subst hn
      refine w_p (pc1 := 79) rfl rfl ?_
      refine w_ji (pc1 := 82) (vs := [.ref 121]) (rest := []) (Wd_up (by have e : (nxt y).2.2.1 = s.2.2.1 + 1 := hyq; rw [e]; omega) (ih (nxt y) c i _ h2 hc F2)) rfl rfl rfl (fun _ _ => rfl) rfl (by exact cl_v my_62 rfl rfl rfl (Nat.le_of_ble_eq_true rfl) rfl (MH_obj rfl rfl) rfl (by decide) rfl rfl) (by rfl) (Nat.le_of_ble_eq_true rfl) (Nat.le_of_ble_eq_true rfl) rfl (fun v h1 d1 hq => ?_) (fun a h1 d1 hq => ?_)
      · exact hq.elim
      · rcases hq with ⟨C9, f9, S9, ha, hh, hn⟩
        · subst ha; subst hh; subst hn
          refine Or.inl ⟨ch_new (by decide) rfl, ?_⟩
          exact ⟨C9, f9, S9, rfl, rfl, rfl⟩
set_option maxRecDepth 100000 in
theorem i4_3 (F : FK B n m C0 C s) {u : fs_T} {f : Nat} (ih : Gr L xs B n m C0 t E f 3 y_62 14) (hk : kd B n s.1 = 44) (h1 : gin s = .inr y) (h2 : rd E f 3 (nxt y) = .inr u) (h3 : kd B n u.1 ≠ 45) (hc : c = 2) (hi : i = u.1) : Wd L xs (4 * (10 - s.2.2.1) + 11) y_67 (0, [(0, .ref 121)], [], MH C t, 0) nP (XFK B n m C0 t 0 c i) := by
  have hy := gin_s h1
  have hyq : y.2.2.1 = s.2.2.1 + 1 := by rw [hy.1]
  have hky : kd B n y.1 = 44 := by rw [hy.1]; exact hk
  subst hc
  subst hi
  refine w_p (pc1 := 1) rfl rfl ?_
  refine w_m0 (pc1 := 4) rfl rfl (h_gC rfl rfl rfl rfl) rfl ?_
  refine w_m0 (pc1 := 7) (st1 := .ref (kd B n s.1) :: _) rfl rfl (h_gRs (j := 6) rfl rfl rfl rfl rfl (tkS_tok F.1)) rfl ?_
  refine w_m0 (pc1 := 10) (st1 := .ref 57 :: _) rfl rfl rfl rfl ?_
  refine w_an_n (A := 51) (ok_kd) (by decide) (by rw [hk]; decide) rfl rfl ?_
  refine w_p (pc1 := 52) rfl rfl ?_
  refine w_m0 (pc1 := 55) rfl rfl (h_gC rfl rfl rfl rfl) rfl ?_
  refine w_m0 (pc1 := 58) (st1 := .ref (kd B n s.1) :: _) rfl rfl (h_gRs (j := 6) rfl rfl rfl rfl rfl (tkS_tok F.1)) rfl ?_
  refine w_m0 (pc1 := 61) (st1 := .ref 44 :: _) rfl rfl rfl rfl ?_
  refine w_an_y (A := 68) (Bn := 64) (ok_kd) (by decide) (hk) rfl rfl rfl ?_
  refine w_p (pc1 := 65) rfl rfl ?_
  refine w_ji (pc1 := 68) (vs := [.ref 121]) (rest := []) (gR (d := _) F h1) rfl rfl rfl (fun _ _ => rfl) rfl (by exact cl_v my_59 rfl rfl rfl (Nat.le_of_ble_eq_true rfl) rfl (MH_obj rfl rfl) rfl (by decide) rfl rfl) (by rfl) (Nat.le_of_ble_eq_true rfl) (Nat.le_of_ble_eq_true rfl) rfl (fun v h1 d1 hq => ?_) (fun _ _ _ e => e.elim)
  rcases hq with ⟨hv, ⟨C1, F1, hh⟩, hn⟩
  · subst hv; subst hh; subst hn
    refine w_p (pc1 := 69) rfl rfl ?_
    refine w_m0 (pc1 := 72) rfl rfl (h_gC rfl rfl rfl rfl) rfl ?_
    refine w_m0 (pc1 := 75) (st1 := .ref 44 :: _) rfl rfl rfl rfl ?_
    refine w_ji (pc1 := 78) (vs := [.ref 101, .ref 44]) (rest := []) (xR (d := _) F1 (by decide) hky (by decide) (by decide)) rfl rfl rfl (fun _ _ => rfl) rfl (by exact cl_v my_38 rfl rfl rfl (Nat.le_of_ble_eq_true rfl) rfl (MH_obj rfl rfl) rfl (by decide) rfl rfl) (by rfl) (Nat.le_of_ble_eq_true rfl) (Nat.le_of_ble_eq_true rfl) rfl (fun v h1 d1 hq => ?_) (fun _ _ _ e => e.elim)
    rcases hq with ⟨hv, ⟨C2, F2, hh⟩, hn⟩
    · subst hv; subst hh; subst hn
      refine w_p (pc1 := 79) rfl rfl ?_
      refine w_ji (pc1 := 82) (vs := [.ref 121]) (rest := []) (Wd_up (by have e : (nxt y).2.2.1 = s.2.2.1 + 1 := hyq; rw [e]; omega) (ih (nxt y) u _ h2 F2)) rfl rfl rfl (fun _ _ => rfl) rfl (by exact cl_v my_62 rfl rfl rfl (Nat.le_of_ble_eq_true rfl) rfl (MH_obj rfl rfl) rfl (by decide) rfl rfl) (by rfl) (Nat.le_of_ble_eq_true rfl) (Nat.le_of_ble_eq_true rfl) rfl (fun v h1 d1 hq => ?_) (fun _ _ _ e => e.elim)
      rcases hq with ⟨hv, ⟨C3, F3, hh⟩, hn⟩
      · subst hv; subst hh; subst hn
        refine w_p (pc1 := 83) rfl rfl ?_
        refine w_m0 (pc1 := 86) rfl rfl (h_gC rfl rfl rfl rfl) rfl ?_
        refine w_m0 (pc1 := 89) (st1 := .ref 45 :: _) rfl rfl rfl rfl ?_
        refine w_ji (pc1 := 92) (vs := [.ref 101, .ref 45]) (rest := []) (xE (d := _) F3 (by decide) h3) rfl rfl rfl (fun _ _ => rfl) rfl (by exact cl_v my_38 rfl rfl rfl (Nat.le_of_ble_eq_true rfl) rfl (MH_obj rfl rfl) rfl (by decide) rfl rfl) (by rfl) (Nat.le_of_ble_eq_true rfl) (Nat.le_of_ble_eq_true rfl) rfl (fun v h1 d1 hq => ?_) (fun a h1 d1 hq => ?_)
        · exact hq.elim
        · rcases hq with ⟨C9, f9, S9, ha, hh, hn⟩
          · subst ha; subst hh; subst hn
            refine Or.inl ⟨ch_new (by decide) rfl, ?_⟩
            exact ⟨C9, f9, S9, rfl, rfl, rfl⟩
set_option maxRecDepth 100000 in
theorem i4_4 (F : FK B n m C0 C s) {u : fs_T} {f : Nat} (ih : Gr L xs B n m C0 t E f 3 y_62 14) (hk : kd B n s.1 = 44) (h1 : gin s = .inr y) (h2 : rd E f 3 (nxt y) = .inr u) (h3 : kd B n u.1 = 45) (hz : z = gou (nxt u)) : Wd L xs (4 * (10 - s.2.2.1) + 11) y_67 (0, [(0, .ref 121)], [], MH C t, 0) (PFK B n m C0 t 0 z) nX := by
  have hy := gin_s h1
  have hyq : y.2.2.1 = s.2.2.1 + 1 := by rw [hy.1]
  have hky : kd B n y.1 = 44 := by rw [hy.1]; exact hk
  have huq : u.2.2.1 = s.2.2.1 + 1 := by
    have := (rd_fle _ _ _ _ h2).2.2
    rw [this]
    exact hyq
  subst hz
  refine w_p (pc1 := 1) rfl rfl ?_
  refine w_m0 (pc1 := 4) rfl rfl (h_gC rfl rfl rfl rfl) rfl ?_
  refine w_m0 (pc1 := 7) (st1 := .ref (kd B n s.1) :: _) rfl rfl (h_gRs (j := 6) rfl rfl rfl rfl rfl (tkS_tok F.1)) rfl ?_
  refine w_m0 (pc1 := 10) (st1 := .ref 57 :: _) rfl rfl rfl rfl ?_
  refine w_an_n (A := 51) (ok_kd) (by decide) (by rw [hk]; decide) rfl rfl ?_
  refine w_p (pc1 := 52) rfl rfl ?_
  refine w_m0 (pc1 := 55) rfl rfl (h_gC rfl rfl rfl rfl) rfl ?_
  refine w_m0 (pc1 := 58) (st1 := .ref (kd B n s.1) :: _) rfl rfl (h_gRs (j := 6) rfl rfl rfl rfl rfl (tkS_tok F.1)) rfl ?_
  refine w_m0 (pc1 := 61) (st1 := .ref 44 :: _) rfl rfl rfl rfl ?_
  refine w_an_y (A := 68) (Bn := 64) (ok_kd) (by decide) (hk) rfl rfl rfl ?_
  refine w_p (pc1 := 65) rfl rfl ?_
  refine w_ji (pc1 := 68) (vs := [.ref 121]) (rest := []) (gR (d := _) F h1) rfl rfl rfl (fun _ _ => rfl) rfl (by exact cl_v my_59 rfl rfl rfl (Nat.le_of_ble_eq_true rfl) rfl (MH_obj rfl rfl) rfl (by decide) rfl rfl) (by rfl) (Nat.le_of_ble_eq_true rfl) (Nat.le_of_ble_eq_true rfl) rfl (fun v h1 d1 hq => ?_) (fun _ _ _ e => e.elim)
  rcases hq with ⟨hv, ⟨C1, F1, hh⟩, hn⟩
  · subst hv; subst hh; subst hn
    refine w_p (pc1 := 69) rfl rfl ?_
    refine w_m0 (pc1 := 72) rfl rfl (h_gC rfl rfl rfl rfl) rfl ?_
    refine w_m0 (pc1 := 75) (st1 := .ref 44 :: _) rfl rfl rfl rfl ?_
    refine w_ji (pc1 := 78) (vs := [.ref 101, .ref 44]) (rest := []) (xR (d := _) F1 (by decide) hky (by decide) (by decide)) rfl rfl rfl (fun _ _ => rfl) rfl (by exact cl_v my_38 rfl rfl rfl (Nat.le_of_ble_eq_true rfl) rfl (MH_obj rfl rfl) rfl (by decide) rfl rfl) (by rfl) (Nat.le_of_ble_eq_true rfl) (Nat.le_of_ble_eq_true rfl) rfl (fun v h1 d1 hq => ?_) (fun _ _ _ e => e.elim)
    rcases hq with ⟨hv, ⟨C2, F2, hh⟩, hn⟩
    · subst hv; subst hh; subst hn
      refine w_p (pc1 := 79) rfl rfl ?_
      refine w_ji (pc1 := 82) (vs := [.ref 121]) (rest := []) (Wd_up (by have e : (nxt y).2.2.1 = s.2.2.1 + 1 := hyq; rw [e]; omega) (ih (nxt y) u _ h2 F2)) rfl rfl rfl (fun _ _ => rfl) rfl (by exact cl_v my_62 rfl rfl rfl (Nat.le_of_ble_eq_true rfl) rfl (MH_obj rfl rfl) rfl (by decide) rfl rfl) (by rfl) (Nat.le_of_ble_eq_true rfl) (Nat.le_of_ble_eq_true rfl) rfl (fun v h1 d1 hq => ?_) (fun _ _ _ e => e.elim)
      rcases hq with ⟨hv, ⟨C3, F3, hh⟩, hn⟩
      · subst hv; subst hh; subst hn
        refine w_p (pc1 := 83) rfl rfl ?_
        refine w_m0 (pc1 := 86) rfl rfl (h_gC rfl rfl rfl rfl) rfl ?_
        refine w_m0 (pc1 := 89) (st1 := .ref 45 :: _) rfl rfl rfl rfl ?_
        refine w_ji (pc1 := 92) (vs := [.ref 101, .ref 45]) (rest := []) (xR (d := _) F3 (by decide) h3 (by decide) (by decide)) rfl rfl rfl (fun _ _ => rfl) rfl (by exact cl_v my_38 rfl rfl rfl (Nat.le_of_ble_eq_true rfl) rfl (MH_obj rfl rfl) rfl (by decide) rfl rfl) (by rfl) (Nat.le_of_ble_eq_true rfl) (Nat.le_of_ble_eq_true rfl) rfl (fun v h1 d1 hq => ?_) (fun _ _ _ e => e.elim)
        rcases hq with ⟨hv, ⟨C4, F4, hh⟩, hn⟩
        · subst hv; subst hh; subst hn
          refine w_p (pc1 := 93) rfl rfl ?_
          refine w_p (pc1 := 94) rfl rfl ?_
          refine w_m0 (pc1 := 97) (st1 := .int (nI ((nxt u).2.2.1)) :: _) rfl rfl (h_gIe (j := 5) rfl rfl rfl rfl rfl (F4.2.2.2.2.1)) rfl ?_
          refine w_p (pc1 := 98) (st1 := .int 1 :: _) rfl rfl ?_
          refine w_isub (pc1 := 99) (u := nI ((nxt u).2.2.1)) (v := nI (1)) (z := nI ((nxt u).2.2.1 - 1)) rfl (nK_sub (by show 1 ≤ u.2.2.1; omega)) rfl ?_
          refine w_m0 (pc1 := 102) rfl rfl (h_pI (j := 5) rfl rfl rfl rfl rfl rfl rfl ⟨rfl, rfl⟩ rfl) rfl ?_
          refine w_r rfl rfl rfl (fun _ _ => rfl) rfl ?_
          exact PF_i (FK_c F4 (show 1 ≤ u.2.2.1 by omega))
set_option maxRecDepth 100000 in
theorem i0 (F : FK B n m C0 C s) (hk : kd B n s.1 ≠ 57) (hk2 : kd B n s.1 ≠ 44) (hc : c = 2) (hi : i = s.1) : Wd L xs (4 * (10 - s.2.2.1) + 11) y_67 (0, [(0, .ref 121)], [], MH C t, 0) nP (XFK B n m C0 t 0 c i) := by
  subst hc
  subst hi
  refine w_p (pc1 := 1) rfl rfl ?_
  refine w_m0 (pc1 := 4) rfl rfl (h_gC rfl rfl rfl rfl) rfl ?_
  refine w_m0 (pc1 := 7) (st1 := .ref (kd B n s.1) :: _) rfl rfl (h_gRs (j := 6) rfl rfl rfl rfl rfl (tkS_tok F.1)) rfl ?_
  refine w_m0 (pc1 := 10) (st1 := .ref 57 :: _) rfl rfl rfl rfl ?_
  refine w_an_n (A := 51) (ok_kd) (by decide) (hk) rfl rfl ?_
  refine w_p (pc1 := 52) rfl rfl ?_
  refine w_m0 (pc1 := 55) rfl rfl (h_gC rfl rfl rfl rfl) rfl ?_
  refine w_m0 (pc1 := 58) (st1 := .ref (kd B n s.1) :: _) rfl rfl (h_gRs (j := 6) rfl rfl rfl rfl rfl (tkS_tok F.1)) rfl ?_
  refine w_m0 (pc1 := 61) (st1 := .ref 44 :: _) rfl rfl rfl rfl ?_
  refine w_an_n (A := 68) (ok_kd) (by decide) (hk2) rfl rfl ?_
  refine w_p (pc1 := 69) rfl rfl ?_
  refine w_m0 (pc1 := 72) rfl rfl (h_gC rfl rfl rfl rfl) rfl ?_
  refine w_m0 (pc1 := 75) (st1 := .ref 44 :: _) rfl rfl rfl rfl ?_
  refine w_ji (pc1 := 78) (vs := [.ref 101, .ref 44]) (rest := []) (xE (d := _) F (by decide) hk2) rfl rfl rfl (fun _ _ => rfl) rfl (by exact cl_v my_38 rfl rfl rfl (Nat.le_of_ble_eq_true rfl) rfl (MH_obj rfl rfl) rfl (by decide) rfl rfl) (by rfl) (Nat.le_of_ble_eq_true rfl) (Nat.le_of_ble_eq_true rfl) rfl (fun v h1 d1 hq => ?_) (fun a h1 d1 hq => ?_)
  · exact hq.elim
  · rcases hq with ⟨C9, f9, S9, ha, hh, hn⟩
    · subst ha; subst hh; subst hn
      refine Or.inl ⟨ch_new (by decide) rfl, ?_⟩
      exact ⟨C9, f9, S9, rfl, rfl, rfl⟩
set_option maxRecDepth 100000 in
theorem sw_no : ∀ k : Fin 60, 1 ≤ k.1 → k.1 ≠ 3 → k.1 ≠ 4 → k.1 ≠ 24 → k.1 ≠ 27 → k.1 ≠ 28 → (tk_s.getD (k.1 - 1) 0).toInt < 20 ∨ 24 < (tk_s.getD (k.1 - 1) 0).toInt := by decide +kernel
set_option maxRecDepth 100000 in
theorem sw_n (h1 : kd B n i ≠ 3) (h2 : kd B n i ≠ 4) (h3 : kd B n i ≠ 24) (h4 : kd B n i ≠ 27) (h5 : kd B n i ≠ 28) : (tk_s.getD (kd B n i - 1) 0).toInt < 20 ∨ 24 < (tk_s.getD (kd B n i - 1) 0).toInt := sw_no ⟨kd B n i, by have := (kd_ok (B := B) (n := n) i).2; omega⟩ (kd_ok i).1 h1 h2 h3 h4 h5
set_option maxRecDepth 100000 in
theorem fz_r (F : FK B n m C0 C s) (h1 : kd B n s.1 ≠ 3) (h2 : kd B n s.1 ≠ 4) (h3 : kd B n s.1 ≠ 24) (h4 : kd B n s.1 ≠ 27) (h5 : kd B n s.1 ≠ 28) (hin : Wd L xs (4 * (10 - s.2.2.1) + 11) y_67 (0, [(0, .ref 121)], [], MH C t, 0) (PFK B n m C0 t 0 z) nX) : Wd L xs (4 * (10 - s.2.2.1) + 12) y_64 (0, [(0, .ref 121)], [], MH C t, 0) (PFK B n m C0 t 0 z) nX := by
  refine w_p (pc1 := 1) (st1 := .int 0 :: _) rfl rfl ?_
  refine w_p (pc1 := 2) (al1 := [(2, .int 0), (0, .ref 121)]) rfl rfl ?_
  refine w_m0 (pc1 := 5) (st1 := .ref 61 :: _) rfl rfl rfl rfl ?_
  refine w_p (pc1 := 6) rfl rfl ?_
  refine w_m0 (pc1 := 9) rfl rfl (h_gC rfl rfl rfl rfl) rfl ?_
  refine w_m0 (pc1 := 12) (st1 := .ref (kd B n s.1) :: _) rfl rfl (h_gRs (j := 6) rfl rfl rfl rfl rfl (tkS_tok F.1)) rfl ?_
  refine w_c (pc1 := 15) rfl rfl rfl (fun fr lo h1 h2 => n_or rfl (kd_ok _) (by decide) h1 h2) rfl ?_
  refine w_m0 (pc1 := 16) rfl rfl (h_sw (kd_ok _)) rfl ?_
  refine w_sd (a := 147) rfl rfl (by exact sw_n h1 h2 h3 h4 h5) ?_
  refine w_p (pc1 := 148) rfl rfl ?_
  refine w_ji (pc1 := 151) (vs := [.ref 121]) (rest := []) (hin) rfl rfl rfl (fun _ _ => rfl) rfl (by exact cl_v my_67 rfl rfl rfl (Nat.le_of_ble_eq_true rfl) rfl (MH_obj rfl rfl) rfl (by decide) rfl rfl) (by rfl) (Nat.le_of_ble_eq_true rfl) (Nat.le_of_ble_eq_true rfl) rfl (fun v h1 d1 hq => ?_) (fun _ _ _ e => e.elim)
  rcases hq with ⟨hv, ⟨C1, F1, hh⟩, hn⟩
  · subst hv; subst hh; subst hn
    refine w_r rfl rfl rfl (fun _ _ => rfl) rfl ?_
    exact PF_i F1
set_option maxRecDepth 100000 in
theorem fz_e (F : FK B n m C0 C s) (h1 : kd B n s.1 ≠ 3) (h2 : kd B n s.1 ≠ 4) (h3 : kd B n s.1 ≠ 24) (h4 : kd B n s.1 ≠ 27) (h5 : kd B n s.1 ≠ 28) (hin : Wd L xs (4 * (10 - s.2.2.1) + 11) y_67 (0, [(0, .ref 121)], [], MH C t, 0) nP (XFK B n m C0 t 0 c i)) : Wd L xs (4 * (10 - s.2.2.1) + 12) y_64 (0, [(0, .ref 121)], [], MH C t, 0) nP (XFK B n m C0 t 0 c i) := by
  refine w_p (pc1 := 1) (st1 := .int 0 :: _) rfl rfl ?_
  refine w_p (pc1 := 2) (al1 := [(2, .int 0), (0, .ref 121)]) rfl rfl ?_
  refine w_m0 (pc1 := 5) (st1 := .ref 61 :: _) rfl rfl rfl rfl ?_
  refine w_p (pc1 := 6) rfl rfl ?_
  refine w_m0 (pc1 := 9) rfl rfl (h_gC rfl rfl rfl rfl) rfl ?_
  refine w_m0 (pc1 := 12) (st1 := .ref (kd B n s.1) :: _) rfl rfl (h_gRs (j := 6) rfl rfl rfl rfl rfl (tkS_tok F.1)) rfl ?_
  refine w_c (pc1 := 15) rfl rfl rfl (fun fr lo h1 h2 => n_or rfl (kd_ok _) (by decide) h1 h2) rfl ?_
  refine w_m0 (pc1 := 16) rfl rfl (h_sw (kd_ok _)) rfl ?_
  refine w_sd (a := 147) rfl rfl (by exact sw_n h1 h2 h3 h4 h5) ?_
  refine w_p (pc1 := 148) rfl rfl ?_
  refine w_ji (pc1 := 151) (vs := [.ref 121]) (rest := []) (hin) rfl rfl rfl (fun _ _ => rfl) rfl (by exact cl_v my_67 rfl rfl rfl (Nat.le_of_ble_eq_true rfl) rfl (MH_obj rfl rfl) rfl (by decide) rfl rfl) (by rfl) (Nat.le_of_ble_eq_true rfl) (Nat.le_of_ble_eq_true rfl) rfl (fun v h1 d1 hq => ?_) (fun a h1 d1 hq => ?_)
  · exact hq.elim
  · rcases hq with ⟨C9, f9, S9, ha, hh, hn⟩
    · subst ha; subst hh; subst hn
      refine Or.inl ⟨ch_new (by decide) rfl, ?_⟩
      exact ⟨C9, f9, S9, rfl, rfl, rfl⟩
end INN
