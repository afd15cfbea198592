
/-! THE OTHER SIDE READS STATEMENTS, 19: a statement -/
section MSQ2
variable {L : Nat} {xs : Nat → Int32} {B : Nat → Nat} {n : Nat} {C C' C0 C1 : co_T} {t : ab_H} {d i i0 i1 j b e p k w q : Nat} {U V : Nat → Prop} {c : Int32} {sc : sc_T} {row : Option Nat} {tg : Option (Nat × Nat)} {nl : Option Nat} {E : fe_T} {tr : Nat → Option tr_T}
variable {ru : Nat → Option ru_T} {P : Option Value → ab_H → Nat → Prop} {s a : Int32} {mk : Nat × (Nat → Int64)} {Tb : tb_S}
def fX (U V : Nat → Prop) (C C' : co_T) : Prop := (∀ k j, ¬ sxI U V k j → ¬ (k = 76 ∧ (j = 97 ∨ j = 98 ∨ j = 43)) → C'.1 k j = C.1 k j) ∧ (∀ k j, ¬ sxJ U V k j → ¬ (k = 76 ∧ j = 99) → C'.2.1 k j = C.2.1 k j) ∧ btE C C'
set_option maxRecDepth 100000 in
theorem fX_t {C1 C2 C3 : co_T} (h : fX U V C1 C2) (g : fX U V C2 C3) : fX U V C1 C3 := ⟨fun k j a b => (g.1 k j a b).trans (h.1 k j a b), fun k j a b => (g.2.1 k j a b).trans (h.2.1 k j a b), btE_t h.2.2 g.2.2⟩
set_option maxRecDepth 100000 in
theorem fX_S (h : fS_y U V C C') : fX U V C C' := ⟨fun k j a _ => h.1 k j a, fun k j a _ => h.2.1 k j a, h.2.2⟩
set_option maxRecDepth 100000 in
theorem fX_I {v : Int32} (h : j = 97 ∨ j = 98) : fX U V C (sI C 76 j v) := ⟨fun k q _ b => by rw [sI_1, if_neg (by omega)], fun _ _ _ _ => rfl, btE_I ⟨fun e => by exfalso; omega, fun e => by exfalso; omega⟩⟩
set_option maxRecDepth 100000 in
theorem fX_W (h : fW C C') : fX nN nN C C' := ⟨fun k j a b => h.1 k j a (by omega), h.2⟩
/-! which refusal it is, at the end -/
def fltR {α : Type} (B : Nat → Nat) (n : Nat) (x : pz_T (α × Nat × Option Nat)) (c : Int32) (j : Nat) : Prop := x = .inl (c, j) ∨ (∃ a nl', x = .inr (a, j, nl') ∧ kd B n j ≠ 2 ∧ c = 2)
set_option maxRecDepth 100000 in
theorem flR {α : Type} {x : pz_T (α × Nat × Option Nat)} {c : Int32} (h : flS B n (fun y : α × Nat × Option Nat => y.2.1) x c i) : ∃ q, fltR B n x q i ∧ c = (if kd B n i = 1 then 1 else q) := by
  cases x with
  | inl q =>
    obtain ⟨h1, h2⟩ := h
    refine ⟨q.1, Or.inl ?_, by rw [h1]; exact h2⟩
    rw [h1]
  | inr y =>
    obtain ⟨h1, h2, h3⟩ := h
    refine ⟨2, Or.inr ⟨y.1, y.2.2, ?_, ?_, rfl⟩, ?_⟩
    · rw [h1]
    · rw [h1, h2]
      decide
    · rw [h3, h1, if_pos h2]
def PRS {α : Type} (B : Nat → Nat) (n : Nat) (U V : Nat → Prop) (C : co_T) (t : ab_H) (x : pz_T (α × Nat × Option Nat)) (Q : α → co_T → Prop) : Option Value → ab_H → Nat → Prop := fun v h m => (none = v ∧ (∃ C', (∃ a i' nl', x = .inr (a, i', nl') ∧ kd B n i' = 2 ∧ lfM C' nl' ∧ Q a C' ∧ fX U V C C' ∧ C'.1 76 8 = 0) ∧ MH C' t = h) ∧ 0 = m) ∨ (none = v ∧ (∃ C', (∃ c j, fltR B n x c j ∧ (C'.1 76 8 = (if kd B n j = 1 then 1 else c) ∧ 0 < (C'.1 76 8).toInt ∧ C'.1 76 9 = nI (tkA B n j)) ∧ fX U V C C') ∧ MH C' t = h) ∧ 0 = m)
set_option maxRecDepth 100000 in
theorem PRS_f {α : Type} {x : pz_T (α × Nat × Option Nat)} {Q : α → co_T → Prop} (F : FS B n U V C0 C' c i) (h : flS B n (fun y : α × Nat × Option Nat => y.2.1) x c i) (f : fX U V C C') : PRS B n U V C t x Q none (MH C' t) 0 := by
  obtain ⟨q, h1, h2⟩ := flR h
  exact Or.inr ⟨rfl, ⟨C', ⟨q, i, h1, ⟨F.1.2.1.trans h2, by rw [F.1.2.1]; exact F.2.2.2.2, F.1.2.2⟩, f⟩, rfl⟩, rfl⟩
set_option maxRecDepth 100000 in
theorem e174f {U0 V0 : Nat → Prop} (F : FS B n U0 V0 C0 C c i) (H : P none (MH C t) 0) : Wd L xs d y_193 (174, [(0, .ref 176)], [], MH C t, 0) P nX := by
  have h0 := FS_0 F
  refine w_p (pc1 := 175) rfl rfl ?_
  refine w_m0 (pc1 := 178) rfl rfl (h_gI (j := 8) rfl rfl rfl rfl rfl) rfl ?_
  refine w_t (a := 193) (b := 181) (cb_ne_t (by exact h0)) rfl rfl ?_
  refine w_r rfl rfl rfl (fun _ _ => rfl) rfl ?_
  exact H
set_option maxRecDepth 100000 in
theorem e174 {α : Type} {x : pz_T (α × Nat × Option Nat)} {Q : α → co_T → Prop} {y : α} {U0 V0 : Nat → Prop} (M : MS B n U0 V0 C0 C1 i nl) (hx : x = .inr (y, i, nl)) (hQ : Q y C1) (f : fX U V C C1) : Wd L xs (d + 2) y_193 (174, [(0, .ref 176)], [], MH C1 t, 0) (PRS B n U V C t x Q) nX := by
  have hk1 : kd B n i ≠ 1 := M.2.1.1
  by_cases hk : kd B n i = 2
  · skip
    refine w_p (pc1 := 175) rfl rfl ?_
    refine w_m0 (pc1 := 178) (st1 := .int 0 :: _) rfl rfl (h_gIe (j := 8) rfl rfl rfl rfl rfl (M.2.1.2.1)) rfl ?_
    refine w_f (a := 193) (b := 181) rfl rfl rfl ?_
    refine w_p (pc1 := 182) rfl rfl ?_
    refine w_m0 (pc1 := 185) (st1 := .int 0 :: _) rfl rfl (h_gIe (j := 4) rfl rfl rfl rfl rfl ((nm_k M.2.1).2.2.mpr hk)) rfl ?_
    refine w_t (a := 193) (b := 188) rfl rfl rfl ?_
    refine w_r rfl rfl rfl (fun _ _ => rfl) rfl ?_
    exact Or.inl ⟨rfl, ⟨_, ⟨_, _, _, hx, hk, M.2.2.1, hQ, f, M.2.1.2.1⟩, rfl⟩, rfl⟩
  · have F := FS_new (c := 2) M (by decide)
    refine w_p (pc1 := 175) rfl rfl ?_
    refine w_m0 (pc1 := 178) (st1 := .int 0 :: _) rfl rfl (h_gIe (j := 8) rfl rfl rfl rfl rfl (M.2.1.2.1)) rfl ?_
    refine w_f (a := 193) (b := 181) rfl rfl rfl ?_
    refine w_p (pc1 := 182) rfl rfl ?_
    refine w_m0 (pc1 := 185) rfl rfl (h_gI (j := 4) rfl rfl rfl rfl rfl) rfl ?_
    refine w_f (a := 193) (b := 188) (cb_eq_f (by exact fun e => hk ((nm_k M.2.1).2.2.mp e))) rfl rfl ?_
    refine w_p (pc1 := 189) rfl rfl ?_
    refine w_p (pc1 := 190) (st1 := .int 2 :: _) rfl rfl ?_
    refine w_je (pc1 := 193) (vs := [.ref 176, .int 2]) (rest := []) (st1 := []) (m_200 (d := _) (sl := 0) (fun z => absurd M.2.1.2.1 z)) rfl rfl rfl (fun _ _ => rfl) rfl (by exact cl_v my_200 rfl rfl rfl (Nat.le_of_ble_eq_true rfl) rfl (MH_obj rfl rfl) rfl (by decide) rfl rfl) (by rfl) (Nat.le_of_ble_eq_true rfl) (Nat.le_of_ble_eq_true rfl) rfl (by rfl) ?_
    refine w_r rfl rfl rfl (fun _ _ => rfl) rfl ?_
    exact Or.inr ⟨rfl, ⟨_, ⟨2, i, Or.inr ⟨_, _, hx, hk, rfl⟩, ⟨by rw [F.1.2.1, if_neg hk1], by rw [F.1.2.1]; decide, F.1.2.2⟩, fX_t f (fX_S (fSy_T frT_f))⟩, rfl⟩, rfl⟩
/-! its beginning -/
def rsC (C : co_T) (x : Int32) : co_T := sI (sI (sI (sI (sI (sI (sI (sI (sI (sI C 76 8 0) 76 6 0) 76 52 0) 76 45 0) 76 42 0) 76 44 0) 76 46 (-1)) 76 47 (-1)) 76 58 0) 76 43 x
def fD1 (C C' : co_T) : Prop := (∀ k j, ¬ (k = 76 ∧ (3 ≤ j ∧ j ≤ 9 ∨ 42 ≤ j ∧ j ≤ 47 ∨ j = 52 ∨ j = 58)) → C'.1 k j = C.1 k j) ∧ (∀ k j, ¬ (k = 76 ∧ j = 7) → C'.2.1 k j = C.2.1 k j) ∧ C'.2.2 = C.2.2
set_option maxRecDepth 100000 in
theorem rs_D {x : Int32} : fD1 C (rsC C x) := ⟨fun k j h => by
  unfold rsC
  rw [sI_1, if_neg (by omega), sI_1, if_neg (by omega), sI_1, if_neg (by omega), sI_1, if_neg (by omega), sI_1, if_neg (by omega), sI_1, if_neg (by omega), sI_1, if_neg (by omega), sI_1, if_neg (by omega), sI_1, if_neg (by omega), sI_1, if_neg (by omega)], fun _ _ _ => rfl, rfl⟩
set_option maxRecDepth 100000 in
theorem fD_X (h : fD1 C C') : fX U V C C' := ⟨fun k j a b => h.1 k j (fun c => a (Or.inl ⟨c.1, by omega⟩)), fun k j a _ => h.2.1 k j (fun b => a (Or.inl b)), btE_k h.2.2 (h.1 76 48 (by omega)) (h.1 76 49 (by omega)) (fun j => h.1 91 j (by omega))⟩
set_option maxRecDepth 100000 in
theorem fD_t {C1 C2 C3 : co_T} (h : fD1 C1 C2) (g : fD1 C2 C3) : fD1 C1 C3 := ⟨fun k j a => (g.1 k j a).trans (h.1 k j a), fun k j a => (g.2.1 k j a).trans (h.2.1 k j a), g.2.2.trans h.2.2⟩
set_option maxRecDepth 100000 in
theorem fD_T (h : frT C C') : fD1 C C' := ⟨fun k j a => h.1 k j (by omega), h.2⟩
set_option maxRecDepth 100000 in
theorem m_193s (T : tpM C B n) (N : NDM C ru tr) (HX : kd B n 0 = 1 → ∀ C1, FBy B n C1 1 0 → fD1 C C1 → P none (MH C1 t) 0) (HG : kd B n 0 ≠ 1 → ∀ C1, MB B n C1 0 none → fD1 C C1 → (C1.1 76 43 = nI (ndS ru tr) ∧ C1.1 76 42 = 0 ∧ C1.1 76 46 = -1 ∧ C1.1 76 47 = -1) → Wd L xs (d + 4) y_193 (65, [(0, .ref 176)], [], MH C1 t, 0) P nX) : Wd L xs (d + 4) y_193 (0, [(0, .ref 176)], [], MH C t, 0) P nX := by
  have D := rs_D (C := C) (x := nI (ndS ru tr))
  have T1 : tpM (rsC C (nI (ndS ru tr))) B n := tpM_of T (D.1 76 2 (by omega)) (fun j => D.1 77 j (by omega))
  have v : ∀ j v, (j = 8 ∧ v = 0) ∨ (j = 6 ∧ v = 0) ∨ (j = 52 ∧ v = 0) ∨ (j = 45 ∧ v = 0) ∨ (j = 42 ∧ v = 0) ∨ (j = 44 ∧ v = 0) ∨ (j = 46 ∧ v = -1) ∨ (j = 47 ∧ v = -1) ∨ (j = 43 ∧ v = nI (ndS ru tr)) → (rsC C (nI (ndS ru tr))).1 76 j = v := by
    intro j v h
    unfold rsC
    rcases h with ⟨rfl, rfl⟩ | ⟨rfl, rfl⟩ | ⟨rfl, rfl⟩ | ⟨rfl, rfl⟩ | ⟨rfl, rfl⟩ | ⟨rfl, rfl⟩ | ⟨rfl, rfl⟩ | ⟨rfl, rfl⟩ | ⟨rfl, rfl⟩ <;> simp [sI_1]
  have N1 : NDM (sI (sI (sI (sI (sI (sI (sI (sI (sI C 76 8 0) 76 6 0) 76 52 0) 76 45 0) 76 42 0) 76 44 0) 76 46 (-1)) 76 47 (-1)) 76 58 0) ru tr := by
    have e : ∀ k j, k ≠ 76 → (sI (sI (sI (sI (sI (sI (sI (sI (sI C 76 8 0) 76 6 0) 76 52 0) 76 45 0) 76 42 0) 76 44 0) 76 46 (-1)) 76 47 (-1)) 76 58 0).1 k j = C.1 k j := fun k j h => by rw [sI_1, if_neg (by omega), sI_1, if_neg (by omega), sI_1, if_neg (by omega), sI_1, if_neg (by omega), sI_1, if_neg (by omega), sI_1, if_neg (by omega), sI_1, if_neg (by omega), sI_1, if_neg (by omega), sI_1, if_neg (by omega)]
    refine ⟨fun r hr => ?_, fun g hg => ?_⟩
    · rw [e 83 r (by omega), e 94 r (by omega)]
      exact N.1 r hr
    · rw [e 95 g (by omega), e 105 g (by omega)]
      exact N.2 g hg
  have nx := m_195 (L := L) (xs := xs) (d := d) (t := t) (sl := 0) (z := 0) T1 (v 6 0 (by simp)) (Nat.zero_le _) (fun h => absurd (v 8 0 (by simp)) h)
  have fr := frT_nx (C := rsC C (nI (ndS ru tr))) (B := B) (n := n) (a := blk B n 0)
  have tok := nx_tok (C := rsC C (nI (ndS ru tr))) (B := B) (n := n) (i := 0) (fun j hj => (T1.2.2 j hj).1)
  have T2 : tpM (nxM B n (rsC C (nI (ndS ru tr))) (blk B n 0)) B n := tpM_of T1 (fr.1 76 2 (by omega)) (fun j => fr.1 77 j (by omega))
  by_cases hk : kd B n 0 = 1
  · have g := tok.1 hk
    obtain ⟨z, g1, g2, g3⟩ := g.2.1
    have F : FBy B n (nxM B n (rsC C (nI (ndS ru tr))) (blk B n 0)) 1 0 := ⟨⟨by decide, (g.2.2.1 (v 8 0 (by simp))).1, (g.2.2.1 (v 8 0 (by simp))).2⟩, T2, ⟨z, tkA B n 0, g1, g3, Or.inl g2, g.1, Nat.le_refl _, tkA_le _⟩, fSy_r, by decide⟩
    refine w_p (pc1 := 1) rfl rfl ?_
    refine w_p (pc1 := 2) (st1 := .int 0 :: _) rfl rfl ?_
    refine w_m0 (pc1 := 5) rfl rfl (h_pI (j := 8) rfl rfl rfl rfl rfl rfl rfl ⟨rfl, rfl⟩ rfl) rfl ?_
    refine w_p (pc1 := 6) rfl rfl ?_
    refine w_p (pc1 := 7) (st1 := .int 0 :: _) rfl rfl ?_
    refine w_m0 (pc1 := 10) rfl rfl (h_pI (j := 6) rfl rfl rfl rfl rfl rfl rfl ⟨rfl, rfl⟩ rfl) rfl ?_
    refine w_p (pc1 := 11) rfl rfl ?_
    refine w_p (pc1 := 12) (st1 := .int 0 :: _) rfl rfl ?_
    refine w_m0 (pc1 := 15) rfl rfl (h_pI (j := 52) rfl rfl rfl rfl rfl rfl rfl ⟨rfl, rfl⟩ rfl) rfl ?_
    refine w_p (pc1 := 16) rfl rfl ?_
    refine w_p (pc1 := 17) (st1 := .int 0 :: _) rfl rfl ?_
    refine w_m0 (pc1 := 20) rfl rfl (h_pI (j := 45) rfl rfl rfl rfl rfl rfl rfl ⟨rfl, rfl⟩ rfl) rfl ?_
    refine w_p (pc1 := 21) rfl rfl ?_
    refine w_p (pc1 := 22) (st1 := .int 0 :: _) rfl rfl ?_
    refine w_m0 (pc1 := 25) rfl rfl (h_pI (j := 42) rfl rfl rfl rfl rfl rfl rfl ⟨rfl, rfl⟩ rfl) rfl ?_
    refine w_p (pc1 := 26) rfl rfl ?_
    refine w_p (pc1 := 27) (st1 := .int 0 :: _) rfl rfl ?_
    refine w_m0 (pc1 := 30) rfl rfl (h_pI (j := 44) rfl rfl rfl rfl rfl rfl rfl ⟨rfl, rfl⟩ rfl) rfl ?_
    refine w_p (pc1 := 31) rfl rfl ?_
    refine w_p (pc1 := 32) (st1 := .int (-1) :: _) rfl rfl ?_
    refine w_m0 (pc1 := 35) rfl rfl (h_pI (j := 46) rfl rfl rfl rfl rfl rfl rfl ⟨rfl, rfl⟩ rfl) rfl ?_
    refine w_p (pc1 := 36) rfl rfl ?_
    refine w_p (pc1 := 37) (st1 := .int (-1) :: _) rfl rfl ?_
    refine w_m0 (pc1 := 40) rfl rfl (h_pI (j := 47) rfl rfl rfl rfl rfl rfl rfl ⟨rfl, rfl⟩ rfl) rfl ?_
    refine w_p (pc1 := 41) rfl rfl ?_
    refine w_p (pc1 := 42) (st1 := .int 0 :: _) rfl rfl ?_
    refine w_m0 (pc1 := 45) rfl rfl (h_pI (j := 58) rfl rfl rfl rfl rfl rfl rfl ⟨rfl, rfl⟩ rfl) rfl ?_
    refine w_p (pc1 := 46) rfl rfl ?_
    refine w_p (pc1 := 47) rfl rfl ?_
    refine w_je (pc1 := 50) (vs := [.ref 176]) (rest := [.ref 176]) (st1 := [.int (nI (ndS ru tr)), .ref 176]) (m_194 (d := _) N1) rfl rfl rfl (fun _ _ => rfl) rfl (by exact cl_v my_194 rfl rfl rfl (Nat.le_of_ble_eq_true rfl) rfl (MH_obj rfl rfl) rfl (by decide) rfl rfl) (by rfl) (Nat.le_of_ble_eq_true rfl) (Nat.le_of_ble_eq_true rfl) rfl (by rfl) ?_
    refine w_m0 (pc1 := 53) rfl rfl (h_pI (j := 43) rfl rfl rfl rfl rfl rfl rfl ⟨rfl, rfl⟩ rfl) rfl ?_
    refine w_p (pc1 := 54) rfl rfl ?_
    refine w_je (pc1 := 57) (vs := [.ref 176]) (rest := []) (st1 := []) (nx) rfl rfl rfl (fun _ _ => rfl) rfl (by exact cl_v my_195 rfl rfl rfl (Nat.le_of_ble_eq_true rfl) rfl (MH_obj rfl rfl) rfl (by decide) rfl rfl) (by rfl) (Nat.le_of_ble_eq_true rfl) (Nat.le_of_ble_eq_true rfl) rfl (by rfl) ?_
    refine w_p (pc1 := 58) rfl rfl ?_
    refine w_m0 (pc1 := 61) (st1 := .int 1 :: _) rfl rfl (h_gIe (j := 8) rfl rfl rfl rfl rfl (F.1.2.1)) rfl ?_
    refine w_f (a := 65) (b := 64) rfl rfl rfl ?_
    refine w_r rfl rfl rfl (fun _ _ => rfl) rfl ?_
    exact HX hk _ F (fD_t D (fD_T fr))
  · have g := tok.2 hk
    obtain ⟨m, hm⟩ := lst_ex (B := B) (n := n)
    have M : MB B n (nxM B n (rsC C (nI (ndS ru tr))) (blk B n 0)) 0 none := ⟨T2, ⟨hk, g.2.2.2.2.1.trans (v 8 0 (by simp)), g.1, g.2.1, g.2.2.1, g.2.2.2.1⟩, (fr.1 76 44 (by omega)).trans (v 44 0 (by simp)), ⟨(fr.1 76 45 (by omega)).trans (v 45 0 (by simp)), (fr.1 76 52 (by omega)).trans (v 52 0 (by simp))⟩, ⟨Nat.zero_le _, m, hm, Nat.le_trans (lst_le hm) T.2.1, Nat.zero_le _⟩, fSy_r⟩
    refine w_p (pc1 := 1) rfl rfl ?_
    refine w_p (pc1 := 2) (st1 := .int 0 :: _) rfl rfl ?_
    refine w_m0 (pc1 := 5) rfl rfl (h_pI (j := 8) rfl rfl rfl rfl rfl rfl rfl ⟨rfl, rfl⟩ rfl) rfl ?_
    refine w_p (pc1 := 6) rfl rfl ?_
    refine w_p (pc1 := 7) (st1 := .int 0 :: _) rfl rfl ?_
    refine w_m0 (pc1 := 10) rfl rfl (h_pI (j := 6) rfl rfl rfl rfl rfl rfl rfl ⟨rfl, rfl⟩ rfl) rfl ?_
    refine w_p (pc1 := 11) rfl rfl ?_
    refine w_p (pc1 := 12) (st1 := .int 0 :: _) rfl rfl ?_
    refine w_m0 (pc1 := 15) rfl rfl (h_pI (j := 52) rfl rfl rfl rfl rfl rfl rfl ⟨rfl, rfl⟩ rfl) rfl ?_
    refine w_p (pc1 := 16) rfl rfl ?_
    refine w_p (pc1 := 17) (st1 := .int 0 :: _) rfl rfl ?_
    refine w_m0 (pc1 := 20) rfl rfl (h_pI (j := 45) rfl rfl rfl rfl rfl rfl rfl ⟨rfl, rfl⟩ rfl) rfl ?_
    refine w_p (pc1 := 21) rfl rfl ?_
    refine w_p (pc1 := 22) (st1 := .int 0 :: _) rfl rfl ?_
    refine w_m0 (pc1 := 25) rfl rfl (h_pI (j := 42) rfl rfl rfl rfl rfl rfl rfl ⟨rfl, rfl⟩ rfl) rfl ?_
    refine w_p (pc1 := 26) rfl rfl ?_
    refine w_p (pc1 := 27) (st1 := .int 0 :: _) rfl rfl ?_
    refine w_m0 (pc1 := 30) rfl rfl (h_pI (j := 44) rfl rfl rfl rfl rfl rfl rfl ⟨rfl, rfl⟩ rfl) rfl ?_
    refine w_p (pc1 := 31) rfl rfl ?_
    refine w_p (pc1 := 32) (st1 := .int (-1) :: _) rfl rfl ?_
    refine w_m0 (pc1 := 35) rfl rfl (h_pI (j := 46) rfl rfl rfl rfl rfl rfl rfl ⟨rfl, rfl⟩ rfl) rfl ?_
    refine w_p (pc1 := 36) rfl rfl ?_
    refine w_p (pc1 := 37) (st1 := .int (-1) :: _) rfl rfl ?_
    refine w_m0 (pc1 := 40) rfl rfl (h_pI (j := 47) rfl rfl rfl rfl rfl rfl rfl ⟨rfl, rfl⟩ rfl) rfl ?_
    refine w_p (pc1 := 41) rfl rfl ?_
    refine w_p (pc1 := 42) (st1 := .int 0 :: _) rfl rfl ?_
    refine w_m0 (pc1 := 45) rfl rfl (h_pI (j := 58) rfl rfl rfl rfl rfl rfl rfl ⟨rfl, rfl⟩ rfl) rfl ?_
    refine w_p (pc1 := 46) rfl rfl ?_
    refine w_p (pc1 := 47) rfl rfl ?_
    refine w_je (pc1 := 50) (vs := [.ref 176]) (rest := [.ref 176]) (st1 := [.int (nI (ndS ru tr)), .ref 176]) (m_194 (d := _) N1) rfl rfl rfl (fun _ _ => rfl) rfl (by exact cl_v my_194 rfl rfl rfl (Nat.le_of_ble_eq_true rfl) rfl (MH_obj rfl rfl) rfl (by decide) rfl rfl) (by rfl) (Nat.le_of_ble_eq_true rfl) (Nat.le_of_ble_eq_true rfl) rfl (by rfl) ?_
    refine w_m0 (pc1 := 53) rfl rfl (h_pI (j := 43) rfl rfl rfl rfl rfl rfl rfl ⟨rfl, rfl⟩ rfl) rfl ?_
    refine w_p (pc1 := 54) rfl rfl ?_
    refine w_je (pc1 := 57) (vs := [.ref 176]) (rest := []) (st1 := []) (nx) rfl rfl rfl (fun _ _ => rfl) rfl (by exact cl_v my_195 rfl rfl rfl (Nat.le_of_ble_eq_true rfl) rfl (MH_obj rfl rfl) rfl (by decide) rfl rfl) (by rfl) (Nat.le_of_ble_eq_true rfl) (Nat.le_of_ble_eq_true rfl) rfl (by rfl) ?_
    refine w_p (pc1 := 58) rfl rfl ?_
    refine w_m0 (pc1 := 61) (st1 := .int 0 :: _) rfl rfl (h_gIe (j := 8) rfl rfl rfl rfl rfl (M.2.1.2.1)) rfl ?_
    refine w_t (a := 65) (b := 64) rfl rfl rfl ?_
    exact HG hk _ M (fD_t D (fD_T fr)) ⟨(fr.1 76 43 (by omega)).trans (v 43 _ (by simp)), (fr.1 76 42 (by omega)).trans (v 42 _ (by simp)), (fr.1 76 46 (by omega)).trans (v 46 _ (by simp)), (fr.1 76 47 (by omega)).trans (v 47 _ (by simp))⟩
end MSQ2
