
/-! THE OTHER SIDE READS A TABLE, 11: the whole of it -/
section MTK2
variable {L : Nat} {xs : Nat → Int32} {B : Nat → Nat} {n : Nat} {C C' C0 C1 : co_T} {t : ab_H} {d i i0 i1 j b e p k w q : Nat} {U V : Nat → Prop} {c : Int32} {sc : sc_T} {row : Option Nat} {tg : Option (Nat × Nat)} {nl : Option Nat} {E : fe_T} {tr : Nat → Option tr_T}
variable {r a : Nat} {l : List Nat} {o : Option Nat} {Tb : tb_S} {u : ru_T} {P : Option Value → ab_H → Nat → Prop} {x : Int32}
def TM0 (C : co_T) (Tb : tb_S) : Prop := (∀ q, q < 6 → Tb.1.1 q ≠ 0 → C.1 78 q = 1 ∧ C.2.1 79 q = Tb.1.1 q ∧ TBM C Tb.1 q ∧ ∀ c, c < Tb.1.2.1 q → C.2.1 82 (6 * q + c) = e_V (Tb.2.1 q c)) ∧ (∀ q, q < 6 → Tb.1.1 q = 0 → C.1 78 q = 0) ∧ (∀ q, q < 24 → (Tb.2.2 q = none ∧ C.1 83 q = 0) ∨ (∃ u, Tb.2.2 q = some u ∧ RUM C q u ∧ okq u ∧ C.1 83 q = 1)) ∧ ((C.1 76 48 = 0 ∨ C.1 76 48 = 1) ∧ (C.1 76 49 = 0 ∨ C.1 76 49 = 1))
set_option maxRecDepth 100000 in
theorem TM0_o (H : TM0 C Tb) (h1 : ∀ k j, ¬ (k = 76 ∧ j ≠ 48 ∧ j ≠ 49) → k ≤ 114 → C'.1 k j = C.1 k j) (h2 : ∀ k j, k ≠ 76 → k ≤ 107 → C'.2.1 k j = C.2.1 k j) : TM0 C' Tb := by
  obtain ⟨b1, c1, e1, bo⟩ := H
  refine ⟨fun q hq hz => ?_, fun q hq hz => (h1 78 q (by omega) (by omega)).trans (c1 q hq hz), fun q hq => ?_, by rw [h1 76 48 (by omega) (by omega), h1 76 49 (by omega) (by omega)]; exact bo⟩
  · obtain ⟨g1, g2, g3, g4⟩ := b1 q hq hz
    exact ⟨(h1 78 q (by omega) (by omega)).trans g1, (h2 79 q (by omega) (by omega)).trans g2, TBM_o g3 (fun j => h1 80 j (by omega) (by omega)) (fun j => h2 81 j (by omega) (by omega)), fun c hc => (h2 82 _ (by omega) (by omega)).trans (g4 c hc)⟩
  · rcases e1 q hq with ⟨g1, g2⟩ | ⟨u, g1, g2, g3, g4⟩
    · exact Or.inl ⟨g1, (h1 83 q (by omega) (by omega)).trans g2⟩
    · exact Or.inr ⟨u, g1, RUM_x g2 (fun x y a b => h1 x y (by omega) (by omega)) (fun y => h2 107 y (by omega) (by omega)), g3, (h1 83 q (by omega) (by omega)).trans g4⟩
set_option maxRecDepth 100000 in
theorem TM0_T (H : TM0 C Tb) (f : frT C C') : TM0 C' Tb := TM0_o H (fun k j h _ => f.1 k j (by omega)) (fun k j h _ => f.2.1 k j (by omega))
set_option maxRecDepth 100000 in
theorem TM0_S (H : TM0 C Tb) : SCM C Tb.1 := fun b hb => by
  by_cases hz : Tb.1.1 b = 0
  · rw [H.2.1 b hb hz, decide_eq_false (not_not_intro hz)]
    exact ⟨rfl, fun h => absurd hz h⟩
  · obtain ⟨g1, g2, g3, _⟩ := H.1 b hb hz
    rw [g1, decide_eq_true hz]
    exact ⟨rfl, fun _ => ⟨g2, g3.2⟩⟩
def nwM (C : co_T) (b : Nat) (v : Int64) : co_T := sI (sI (sI (sJ (sI C 76 57 (nI b)) 79 b v) 80 b 0) 76 58 0) 76 44 1
set_option maxRecDepth 100000 in
theorem TM0_w {v : Int64} (H : TM0 C Tb) (hb : b < 6) (hz : Tb.1.1 b = 0) (hw : Tb.1.2.1 b = 0) (hv : v ≠ 0) : TMo (nwM C b v) b (nwT Tb b v) [] none := by
  obtain ⟨b1, c1, e1, bo⟩ := H
  have s1 : ∀ k j, k ≠ 76 → ¬ (k = 80 ∧ j = b) → (nwM C b v).1 k j = C.1 k j := fun k j h h2 => by
    unfold nwM
    rw [sI_1, if_neg (by omega), sI_1, if_neg (by omega), sI_1, if_neg (by omega), sJ_1, sI_1, if_neg (by omega)]
  have s6 : ∀ j, j = 48 ∨ j = 49 → (nwM C b v).1 76 j = C.1 76 j := fun j h => by
    unfold nwM
    rw [sI_1, if_neg (by omega), sI_1, if_neg (by omega), sI_1, if_neg (by omega), sJ_1, sI_1, if_neg (by omega)]
  have s2 : ∀ k j, ¬ (k = 79 ∧ j = b) → (nwM C b v).2.1 k j = C.2.1 k j := fun k j h => by
    show (sJ _ 79 b v).2.1 k j = _
    rw [sJ_2, if_neg h]
    rfl
  have s3 : (nwM C b v).2.1 79 b = v := by
    show (sJ _ 79 b v).2.1 79 b = v
    rw [sJ_2, if_pos ⟨rfl, rfl⟩]
  have n1 : (nwT Tb b v).1.1 b = v := if_pos rfl
  have n2 : ∀ q, q ≠ b → (nwT Tb b v).1.1 q = Tb.1.1 q := fun q h => if_neg h
  refine ⟨⟨?_, hb, (s1 78 b (by omega) (by omega)).trans (c1 b hb hz), by rw [n1]; exact hv⟩, fun q hq hq0 => ?_, fun q hq hq0 => ?_, ⟨?_, fun x h => (by cases h), List.nodup_nil, fun k x h => (by cases h)⟩, fun q hq _ => ?_, fun x h => (by cases h), by rw [s6 48 (by omega), s6 49 (by omega)]; exact bo⟩
  · unfold nwM
    rw [sI_1, if_neg (by omega), sI_1, if_neg (by omega), sI_1, if_neg (by omega), sJ_1, sI_1, if_pos ⟨rfl, rfl⟩]
  · by_cases hqb : q = b
    · subst hqb
      refine ⟨fun h => absurd rfl h, by rw [s3, n1], ⟨hb, ?_, by show Tb.1.2.1 q ≤ 6; omega, fun c hc => ?_⟩, fun c hc => ?_⟩
      · show _ = nI (Tb.1.2.1 q)
        rw [hw]
        unfold nwM
        rw [sI_1, if_neg (by omega), sI_1, if_neg (by omega), sI_1, if_pos ⟨rfl, rfl⟩]
        rfl
      · have hc : c < Tb.1.2.1 q := hc
        omega
      · have hc : c < Tb.1.2.1 q := hc
        omega
    · rw [n2 q hqb] at hq0
      obtain ⟨g1, g2, g3, g4⟩ := b1 q hq hq0
      exact ⟨fun _ => (s1 78 q (by omega) (by omega)).trans g1, by rw [n2 q hqb]; exact (s2 79 q (by omega)).trans g2, ⟨g3.1, (s1 80 q (by omega) (by omega)).trans g3.2.1, g3.2.2.1, fun c hc => (s2 81 _ (by omega)).trans (g3.2.2.2 c hc)⟩, fun c hc => (s2 82 _ (by omega)).trans (g4 c hc)⟩
  · by_cases hqb : q = b
    · subst hqb
      rw [n1] at hq0
      exact absurd hq0 hv
    · rw [n2 q hqb] at hq0
      exact (s1 78 q (by omega) (by omega)).trans (c1 q hq hq0)
  · unfold nwM
    rw [sI_1, if_neg (by omega), sI_1, if_pos ⟨rfl, rfl⟩]
    rfl
  · rcases e1 q hq with ⟨g1, g2⟩ | ⟨u, g1, g2, g3, g4⟩
    · exact Or.inl ⟨g1, (s1 83 q (by omega) (by omega)).trans g2, fun h => (by cases h)⟩
    · exact Or.inr ⟨u, g1, RUM_x g2 (fun x y a b => s1 x y (by omega) (by omega)) (fun y => s2 107 y (by omega)), g3, Or.inl ((s1 83 q (by omega) (by omega)).trans g4)⟩
set_option maxRecDepth 100000 in
theorem hU_o (hU0 : ∀ r, r < 24 → C0.1 83 r = 0 → U r) (M : MS B n U V C0 C i nl) (H : TMo C b Tb l none) : ∀ r, r < 24 → Tb.2.2 r = none → U r := fun r hr hn => by
  refine hU0 r hr ?_
  rcases H.2.2.2.2.1 r hr (by intro e; cases e) with ⟨_, h2, _⟩ | ⟨u, h1, _⟩
  · exact (fSy_a M.2.2.2.2.2 (Or.inr (Or.inr (Or.inl rfl)))).symm.trans h2
  · rw [hn] at h1
    cases h1
/-! its end -/
set_option maxRecDepth 100000 in
theorem t175f (F : FS B n U V C0 C c i) (H : P none (MH C t) 0) : Wd L xs (d + 1) y_206 (175, [(2, .int x), (1, .int (nI b)), (0, .ref 176)], [], MH C t, 0) P nX := by
  have h0 := FS_0 F
  refine w_p (pc1 := 176) rfl rfl ?_
  refine w_m0 (pc1 := 179) rfl rfl (h_gI (j := 8) rfl rfl rfl rfl rfl) rfl ?_
  refine w_t (a := 206) (b := 182) (cb_ne_t (by exact h0)) rfl rfl ?_
  refine w_p (pc1 := 207) rfl rfl ?_
  refine w_p (pc1 := 209) (st1 := .int 41 :: _) rfl rfl ?_
  refine w_je (pc1 := 212) (vs := [.ref 176, .int 41]) (rest := []) (st1 := []) (m_209f (d := _) F) rfl rfl rfl (fun _ _ => rfl) rfl (by exact cl_v my_209 rfl rfl rfl (Nat.le_of_ble_eq_true rfl) rfl (MH_obj rfl rfl) rfl (by decide) rfl rfl) (by rfl) (Nat.le_of_ble_eq_true rfl) (Nat.le_of_ble_eq_true rfl) rfl (by rfl) ?_
  refine w_r rfl rfl rfl (fun _ _ => rfl) rfl ?_
  exact H
set_option maxRecDepth 100000 in
theorem t127f (F : FS B n U V C0 C c i) (H : P none (MH C t) 0) : Wd L xs (d + 1) y_206 (127, [(2, .int x), (1, .int (nI b)), (0, .ref 176)], [], MH C t, 0) P nX := by
  have h0 := FS_0 F
  refine w_p (pc1 := 128) rfl rfl ?_
  refine w_b (a := 175) (b := 131) rfl rfl (fun c128 => ?_) (fun c128 => ?_)
  · replace c128 := cc_eq_t c128
    exact t175f F H
  · replace c128 := cc_eq_f c128
    refine w_p (pc1 := 132) rfl rfl ?_
    refine w_m0 (pc1 := 135) rfl rfl (h_gI (j := 8) rfl rfl rfl rfl rfl) rfl ?_
    refine w_t (a := 175) (b := 138) (cb_ne_t (by exact h0)) rfl rfl ?_
    exact t175f F H
set_option maxRecDepth 100000 in
theorem t175 (M : MS B n U V C0 C i nl) (H : TMo C b Tb l none) : Wd L xs (d + 5) y_206 (175, [(2, .int x), (1, .int (nI b)), (0, .ref 176)], [], MH C t, 0) (PTI B n U V C0 t b (rEnd (tkP B n) Tb b i nl)) nX := by
  have hk1 : kd B n i ≠ 1 := M.2.1.1
  have hb := H.1.2.1
  have hB := TMo_B H
  have hw6 := hB.2.2.1
  by_cases hk : kd B n i = 45
  · by_cases hw : Tb.1.2.1 b = 0
    · have hx : rEnd (tkP B n) Tb b i nl = .inl (7, i) := by
        unfold rEnd
        rw [if_pos (show (tkP B n).1 i = 45 from hk), if_neg (by omega)]
      have F := FS_new (c := 7) M (by decide)
      refine w_p (pc1 := 176) rfl rfl ?_
      refine w_m0 (pc1 := 179) (st1 := .int 0 :: _) rfl rfl (h_gIe (j := 8) rfl rfl rfl rfl rfl (M.2.1.2.1)) rfl ?_
      refine w_f (a := 206) (b := 182) rfl rfl rfl ?_
      refine w_p (pc1 := 183) rfl rfl ?_
      refine w_p (pc1 := 185) (st1 := .int 41 :: _) rfl rfl ?_
      refine w_je (pc1 := 188) (vs := [.ref 176, .int 41]) (rest := []) (st1 := [.int 1]) (m_210t (d := _) (sl := 0) (c := 41) ((sg_k (k := 45) M.2.1 (by decide) (by decide)).trans (decide_eq_true hk))) rfl rfl rfl (fun _ _ => rfl) rfl (by exact cl_v my_210 rfl rfl rfl (Nat.le_of_ble_eq_true rfl) rfl (MH_obj rfl rfl) rfl (by decide) rfl rfl) (by rfl) (Nat.le_of_ble_eq_true rfl) (Nat.le_of_ble_eq_true rfl) rfl (by rfl) ?_
      refine w_f (a := 206) (b := 191) rfl rfl rfl ?_
      refine w_p (pc1 := 192) rfl rfl ?_
      refine w_m0 (pc1 := 195) rfl rfl (h_gC rfl rfl rfl rfl) rfl ?_
      refine w_p (pc1 := 196) rfl rfl ?_
      refine w_m0 (pc1 := 197) (st1 := .int (nI (Tb.1.2.1 b)) :: _) rfl rfl (n_ile (e := b) rfl rfl rfl (by omega) (hB.2.1)) rfl ?_
      refine w_f (a := 206) (b := 200) (bN_ne_f (a := Tb.1.2.1 b) (b := 0) (by omega) (by omega) (by omega)) rfl rfl ?_
      refine w_p (pc1 := 201) rfl rfl ?_
      refine w_p (pc1 := 203) (st1 := .int 7 :: _) rfl rfl ?_
      refine w_je (pc1 := 206) (vs := [.ref 176, .int 7]) (rest := []) (st1 := []) (m_200 (d := _) (sl := 0) (fun z => absurd M.2.1.2.1 z)) rfl rfl rfl (fun _ _ => rfl) rfl (by exact cl_v my_200 rfl rfl rfl (Nat.le_of_ble_eq_true rfl) rfl (MH_obj rfl rfl) rfl (by decide) rfl rfl) (by rfl) (Nat.le_of_ble_eq_true rfl) (Nat.le_of_ble_eq_true rfl) rfl (by rfl) ?_
      refine w_p (pc1 := 207) rfl rfl ?_
      refine w_p (pc1 := 209) (st1 := .int 41 :: _) rfl rfl ?_
      refine w_je (pc1 := 212) (vs := [.ref 176, .int 41]) (rest := []) (st1 := []) (m_209f (d := _) F) rfl rfl rfl (fun _ _ => rfl) rfl (by exact cl_v my_209 rfl rfl rfl (Nat.le_of_ble_eq_true rfl) rfl (MH_obj rfl rfl) rfl (by decide) rfl rfl) (by rfl) (Nat.le_of_ble_eq_true rfl) (Nat.le_of_ble_eq_true rfl) rfl (by rfl) ?_
      refine w_r rfl rfl rfl (fun _ _ => rfl) rfl ?_
      exact Or.inr ⟨rfl, ⟨_, ⟨7, i, flS_n hx hk1, F⟩, rfl⟩, rfl⟩
    · have hx : rEnd (tkP B n) Tb b i nl = .inr (Tb, i + 1, nl) := by
        unfold rEnd
        rw [if_pos (show (tkP B n).1 i = 45 from hk), if_pos (by omega)]
      refine w_p (pc1 := 176) rfl rfl ?_
      refine w_m0 (pc1 := 179) (st1 := .int 0 :: _) rfl rfl (h_gIe (j := 8) rfl rfl rfl rfl rfl (M.2.1.2.1)) rfl ?_
      refine w_f (a := 206) (b := 182) rfl rfl rfl ?_
      refine w_p (pc1 := 183) rfl rfl ?_
      refine w_p (pc1 := 185) (st1 := .int 41 :: _) rfl rfl ?_
      refine w_je (pc1 := 188) (vs := [.ref 176, .int 41]) (rest := []) (st1 := [.int 1]) (m_210t (d := _) (sl := 0) (c := 41) ((sg_k (k := 45) M.2.1 (by decide) (by decide)).trans (decide_eq_true hk))) rfl rfl rfl (fun _ _ => rfl) rfl (by exact cl_v my_210 rfl rfl rfl (Nat.le_of_ble_eq_true rfl) rfl (MH_obj rfl rfl) rfl (by decide) rfl rfl) (by rfl) (Nat.le_of_ble_eq_true rfl) (Nat.le_of_ble_eq_true rfl) rfl (by rfl) ?_
      refine w_f (a := 206) (b := 191) rfl rfl rfl ?_
      refine w_p (pc1 := 192) rfl rfl ?_
      refine w_m0 (pc1 := 195) rfl rfl (h_gC rfl rfl rfl rfl) rfl ?_
      refine w_p (pc1 := 196) rfl rfl ?_
      refine w_m0 (pc1 := 197) (st1 := .int (nI (Tb.1.2.1 b)) :: _) rfl rfl (n_ile (e := b) rfl rfl rfl (by omega) (hB.2.1)) rfl ?_
      refine w_t (a := 206) (b := 200) (bN_ne_t (a := Tb.1.2.1 b) (b := 0) (by omega) (by omega) (by omega)) rfl rfl ?_
      refine w_p (pc1 := 207) rfl rfl ?_
      refine w_p (pc1 := 209) (st1 := .int 41 :: _) rfl rfl ?_
      refine w_ji (pc1 := 212) (vs := [.ref 176, .int 41]) (rest := []) (m_209 (k := 45) (d := _) (by decide) (by decide) rfl M) rfl rfl rfl (fun _ _ => rfl) rfl (by exact cl_v my_209 rfl rfl rfl (Nat.le_of_ble_eq_true rfl) rfl (MH_obj rfl rfl) rfl (by decide) rfl rfl) (by rfl) (Nat.le_of_ble_eq_true rfl) (Nat.le_of_ble_eq_true rfl) rfl (fun v h1 d1 hq => ?_) (fun _ _ _ e => e.elim)
      rcases hq with ⟨hv, ⟨C5, ⟨g5, g5b, M5, f5⟩, hh⟩, hn⟩ | ⟨hv, ⟨C5, ⟨c5, j5, g5, F5, f5⟩, hh⟩, hn⟩
      · subst hv; subst hh; subst hn
        refine w_r rfl rfl rfl (fun _ _ => rfl) rfl ?_
        exact Or.inl ⟨rfl, ⟨_, ⟨_, _, _, _, hx, g5b, M5, TMo_T H f5⟩, rfl⟩, rfl⟩
      · subst hv; subst hh; subst hn
        refine w_r rfl rfl rfl (fun _ _ => rfl) rfl ?_
        rw [show xpP (tkP B n) 45 i = .inr (i + 1) from if_pos hk] at g5
        rw [hx]
        exact Or.inr ⟨rfl, ⟨_, ⟨c5, j5, g5, F5⟩, rfl⟩, rfl⟩
  · have hx : rEnd (tkP B n) Tb b i nl = .inl (2, i) := if_neg hk
    refine w_p (pc1 := 176) rfl rfl ?_
    refine w_m0 (pc1 := 179) (st1 := .int 0 :: _) rfl rfl (h_gIe (j := 8) rfl rfl rfl rfl rfl (M.2.1.2.1)) rfl ?_
    refine w_f (a := 206) (b := 182) rfl rfl rfl ?_
    refine w_p (pc1 := 183) rfl rfl ?_
    refine w_p (pc1 := 185) (st1 := .int 41 :: _) rfl rfl ?_
    refine w_je (pc1 := 188) (vs := [.ref 176, .int 41]) (rest := []) (st1 := [.int 0]) (m_210f (d := _) (sl := 0) (c := 41) ((sg_k (k := 45) M.2.1 (by decide) (by decide)).trans (decide_eq_false hk))) rfl rfl rfl (fun _ _ => rfl) rfl (by exact cl_v my_210 rfl rfl rfl (Nat.le_of_ble_eq_true rfl) rfl (MH_obj rfl rfl) rfl (by decide) rfl rfl) (by rfl) (Nat.le_of_ble_eq_true rfl) (Nat.le_of_ble_eq_true rfl) rfl (by rfl) ?_
    refine w_t (a := 206) (b := 191) rfl rfl rfl ?_
    refine w_p (pc1 := 207) rfl rfl ?_
    refine w_p (pc1 := 209) (st1 := .int 41 :: _) rfl rfl ?_
    refine w_ji (pc1 := 212) (vs := [.ref 176, .int 41]) (rest := []) (m_209 (k := 45) (d := _) (by decide) (by decide) rfl M) rfl rfl rfl (fun _ _ => rfl) rfl (by exact cl_v my_209 rfl rfl rfl (Nat.le_of_ble_eq_true rfl) rfl (MH_obj rfl rfl) rfl (by decide) rfl rfl) (by rfl) (Nat.le_of_ble_eq_true rfl) (Nat.le_of_ble_eq_true rfl) rfl (fun v h1 d1 hq => ?_) (fun _ _ _ e => e.elim)
    rcases hq with ⟨hv, ⟨C5, ⟨g5, g5b, M5, f5⟩, hh⟩, hn⟩ | ⟨hv, ⟨C5, ⟨c5, j5, g5, F5, f5⟩, hh⟩, hn⟩
    · subst hv; subst hh; subst hn
      refine w_r rfl rfl rfl (fun _ _ => rfl) rfl ?_
      exact absurd g5 hk
    · subst hv; subst hh; subst hn
      refine w_r rfl rfl rfl (fun _ _ => rfl) rfl ?_
      rw [show xpP (tkP B n) 45 i = .inl (2, i) from if_neg hk] at g5
      rw [hx]
      exact Or.inr ⟨rfl, ⟨_, ⟨c5, j5, g5, F5⟩, rfl⟩, rfl⟩
set_option maxRecDepth 100000 in
theorem bd_itm (h : kd B n i = 1) : bdS (rItm (tkP B n) Tb b i nl) i := by
  refine ⟨2, ?_⟩
  unfold rItm
  rw [if_neg (by show ¬ kd B n i = 3; rw [h]; decide), if_neg (by show ¬ kd B n i = 31; rw [h]; decide), if_neg (by show ¬ kd B n i = 40; rw [h]; decide), if_neg (by show ¬ kd B n i = 12; rw [h]; decide), if_neg (by show ¬ kd B n i = 33; rw [h]; decide)]
set_option maxRecDepth 100000 in
theorem rIts_n {f : Nat} (h : kd B n i ≠ 48) : rIts (tkP B n) b f Tb i nl = rEnd (tkP B n) Tb b i nl := by
  cases f with
  | zero => rfl
  | succ f => exact if_neg h
set_option maxRecDepth 100000 in
theorem bd_its {f : Nat} (h : kd B n i = 1) : bdS (rIts (tkP B n) b f Tb i nl) i := by
  rw [rIts_n (by rw [h]; decide)]
  exact ⟨2, if_neg (by show ¬ kd B n i = 45; rw [h]; decide)⟩
set_option maxRecDepth 100000 in
theorem lp_206 (hU0 : ∀ r, r < 24 → C0.1 83 r = 0 → U r) (hV : V b) {m : Nat} (hm : lst B n m) (h6 : m ≤ 600) : ∀ (f i k : Nat) (C : co_T) (Tb : tb_S) (l : List Nat), MS B n U V C0 C i (some k) → TMo C b Tb l none → (∀ i u, Tb.2.2 i = some u → okRu u) → (∀ q, q < 6 → q ≠ b → Tb.1.1 q ≠ Tb.1.1 b) → wok Tb → i ≤ m → m ≤ i + f → Wd L xs (d + 11) y_206 (127, [(2, .int 1), (1, .int (nI b)), (0, .ref 176)], [], MH C t, 0) (PTI B n U V C0 t b (pb (rItm (tkP B n) Tb b i (some k)) (fun x => rIts (tkP B n) b f x.1 x.2.1 x.2.2))) nX := by
  intro f
  induction f with
  | zero =>
    intro i k C Tb l M H hok hNm hW him hmf
    have him : i = m := by omega
    have hk2 : kd B n i = 2 := by
      rcases hm.2 with h | h
      · rw [← him] at h
        exact absurd h M.2.1.1
      · rw [him]
        exact h
    have hx : rItm (tkP B n) Tb b i (some k) = .inl (2, i) := by
      unfold rItm
      rw [if_neg (by show ¬ kd B n i = 3; rw [hk2]; decide), if_neg (by show ¬ kd B n i = 31; rw [hk2]; decide), if_neg (by show ¬ kd B n i = 40; rw [hk2]; decide), if_neg (by show ¬ kd B n i = 12; rw [hk2]; decide), if_neg (by show ¬ kd B n i = 33; rw [hk2]; decide)]
    refine w_p (pc1 := 128) rfl rfl ?_
    refine w_f (a := 175) (b := 131) rfl rfl rfl ?_
    refine w_p (pc1 := 132) rfl rfl ?_
    refine w_m0 (pc1 := 135) (st1 := .int 0 :: _) rfl rfl (h_gIe (j := 8) rfl rfl rfl rfl rfl (M.2.1.2.1)) rfl ?_
    refine w_f (a := 175) (b := 138) rfl rfl rfl ?_
    refine w_p (pc1 := 139) rfl rfl ?_
    refine w_ji (pc1 := 142) (vs := [.ref 176]) (rest := []) (m_211 (d := _) (hU_o hU0 M H) hV M H hok hNm) rfl rfl rfl (fun _ _ => rfl) rfl (by exact cl_v my_211 rfl rfl rfl (Nat.le_of_ble_eq_true rfl) rfl (MH_obj rfl rfl) rfl (by decide) rfl rfl) (by rfl) (Nat.le_of_ble_eq_true rfl) (Nat.le_of_ble_eq_true rfl) rfl (fun v h1 d1 hq => ?_) (fun _ _ _ e => e.elim)
    rcases hq with ⟨hv, ⟨C1, ⟨T1, l1, i1, nl1, g1, g2, M1, H1⟩, hh⟩, hn⟩ | ⟨hv, ⟨C1, ⟨c1, j1, g1, F1⟩, hh⟩, hn⟩
    · subst hv; subst hh; subst hn
      rw [hx] at g1
      cases g1
    · subst hv; subst hh; subst hn
      refine w_p (pc1 := 143) rfl rfl ?_
      refine w_m0 (pc1 := 146) rfl rfl (h_gI (j := 8) rfl rfl rfl rfl rfl) rfl ?_
      refine w_t (a := 162) (b := 149) (cb_ne_t (by exact FS_0 F1)) rfl rfl ?_
      refine w_p (pc1 := 163) (st1 := .int 0 :: _) rfl rfl ?_
      refine w_p (pc1 := 164) (al1 := [(2, .int 0), (1, .int (nI (b))), (0, .ref 176)]) rfl rfl ?_
      refine w_p (pc1 := 165) rfl rfl ?_
      refine w_t (a := 127) (b := 168) rfl rfl rfl ?_
      exact t127f F1 (Or.inr ⟨rfl, ⟨_, ⟨c1, j1, flS_b g1 (fun q _ hk => bd_its hk), F1⟩, rfl⟩, rfl⟩)
  | succ f ih =>
    intro i k C Tb l M H hok hNm hW him hmf
    have hN := rItm_n (K := tkP B n) (Tb := Tb) (b := b) (i := i) (nl := some k)
    have hG := rItm_g (nl := some k) hm h6 him hW H.1.2.1
    refine w_p (pc1 := 128) rfl rfl ?_
    refine w_f (a := 175) (b := 131) rfl rfl rfl ?_
    refine w_p (pc1 := 132) rfl rfl ?_
    refine w_m0 (pc1 := 135) (st1 := .int 0 :: _) rfl rfl (h_gIe (j := 8) rfl rfl rfl rfl rfl (M.2.1.2.1)) rfl ?_
    refine w_f (a := 175) (b := 138) rfl rfl rfl ?_
    refine w_p (pc1 := 139) rfl rfl ?_
    refine w_ji (pc1 := 142) (vs := [.ref 176]) (rest := []) (m_211 (d := _) (hU_o hU0 M H) hV M H hok hNm) rfl rfl rfl (fun _ _ => rfl) rfl (by exact cl_v my_211 rfl rfl rfl (Nat.le_of_ble_eq_true rfl) rfl (MH_obj rfl rfl) rfl (by decide) rfl rfl) (by rfl) (Nat.le_of_ble_eq_true rfl) (Nat.le_of_ble_eq_true rfl) rfl (fun v h1 d1 hq => ?_) (fun _ _ _ e => e.elim)
    rcases hq with ⟨hv, ⟨C1, ⟨T1, l1, i1, nl1, g1, g2, M1, H1⟩, hh⟩, hn⟩ | ⟨hv, ⟨C1, ⟨c1, j1, g1, F1⟩, hh⟩, hn⟩
    · subst hv; subst hh; subst hn
      obtain ⟨p1, p2⟩ := hN T1 i1 nl1 g1
      obtain ⟨k1, hk1, _⟩ := p2 k rfl
      subst hk1
      have p3 := hG.2 _ g1
      have p4 := rItm_k (T0 := Tb) ⟨rfl, hok⟩ H.1.2.1 hW g1
      rw [pb_r g1]
      by_cases h48 : kd B n i1 = 48
      · rw [show rIts (tkP B n) b (f + 1) T1 i1 (some k1) = pb (rItm (tkP B n) T1 b (i1 + 1) (some k1)) (fun x => rIts (tkP B n) b f x.1 x.2.1 x.2.2) from if_pos h48]
        refine w_p (pc1 := 143) rfl rfl ?_
        refine w_m0 (pc1 := 146) (st1 := .int 0 :: _) rfl rfl (h_gIe (j := 8) rfl rfl rfl rfl rfl (M1.2.1.2.1)) rfl ?_
        refine w_f (a := 162) (b := 149) rfl rfl rfl ?_
        refine w_p (pc1 := 150) rfl rfl ?_
        refine w_p (pc1 := 152) (st1 := .int 44 :: _) rfl rfl ?_
        refine w_je (pc1 := 155) (vs := [.ref 176, .int 44]) (rest := []) (st1 := [.int 1]) (m_210t (d := _) (sl := 0) (c := 44) ((sg_k (k := 48) M1.2.1 (by decide) (by decide)).trans (decide_eq_true h48))) rfl rfl rfl (fun _ _ => rfl) rfl (by exact cl_v my_210 rfl rfl rfl (Nat.le_of_ble_eq_true rfl) rfl (MH_obj rfl rfl) rfl (by decide) rfl rfl) (by rfl) (Nat.le_of_ble_eq_true rfl) (Nat.le_of_ble_eq_true rfl) rfl (by rfl) ?_
        refine w_f (a := 162) (b := 158) rfl rfl rfl ?_
        refine w_p (pc1 := 159) (st1 := .int 1 :: _) rfl rfl ?_
        refine w_p (pc1 := 163) rfl rfl ?_
        refine w_p (pc1 := 164) (al1 := [(2, .int 1), (1, .int (nI (b))), (0, .ref 176)]) rfl rfl ?_
        refine w_p (pc1 := 165) rfl rfl ?_
        refine w_f (a := 127) (b := 168) rfl rfl rfl ?_
        refine w_p (pc1 := 169) rfl rfl ?_
        refine w_ji (pc1 := 172) (vs := [.ref 176]) (rest := []) (nS (d := _) M1 (by rw [h48]; decide)) rfl rfl rfl (fun _ _ => rfl) rfl (by exact cl_v my_195 rfl rfl rfl (Nat.le_of_ble_eq_true rfl) rfl (MH_obj rfl rfl) rfl (by decide) rfl rfl) (by rfl) (Nat.le_of_ble_eq_true rfl) (Nat.le_of_ble_eq_true rfl) rfl (fun v h1 d1 hq => ?_) (fun _ _ _ e => e.elim)
        rcases hq with ⟨hv, ⟨C2, ⟨g3, M2, f2⟩, hh⟩, hn⟩ | ⟨hv, ⟨C2, ⟨g3, F2, f2⟩, hh⟩, hn⟩
        · subst hv; subst hh; subst hn
          refine w_p (pc1 := 127) rfl rfl ?_
          exact ih (i1 + 1) k1 C2 T1 l1 M2 (TMo_T H1 f2) p4.2 (fun q h1 h2 => by rw [p4.1]; exact hNm q h1 h2) p3.1 (st1 hm p3.2 h48 (by decide) (by decide)) (by omega)
        · subst hv; subst hh; subst hn
          refine w_p (pc1 := 127) rfl rfl ?_
          exact t127f F2 (Or.inr ⟨rfl, ⟨_, ⟨1, i1 + 1, flS_1 (bdS_b (bd_itm g3)) g3, F2⟩, rfl⟩, rfl⟩)
      · rw [rIts_n h48]
        refine w_p (pc1 := 143) rfl rfl ?_
        refine w_m0 (pc1 := 146) (st1 := .int 0 :: _) rfl rfl (h_gIe (j := 8) rfl rfl rfl rfl rfl (M1.2.1.2.1)) rfl ?_
        refine w_f (a := 162) (b := 149) rfl rfl rfl ?_
        refine w_p (pc1 := 150) rfl rfl ?_
        refine w_p (pc1 := 152) (st1 := .int 44 :: _) rfl rfl ?_
        refine w_je (pc1 := 155) (vs := [.ref 176, .int 44]) (rest := []) (st1 := [.int 0]) (m_210f (d := _) (sl := 0) (c := 44) ((sg_k (k := 48) M1.2.1 (by decide) (by decide)).trans (decide_eq_false h48))) rfl rfl rfl (fun _ _ => rfl) rfl (by exact cl_v my_210 rfl rfl rfl (Nat.le_of_ble_eq_true rfl) rfl (MH_obj rfl rfl) rfl (by decide) rfl rfl) (by rfl) (Nat.le_of_ble_eq_true rfl) (Nat.le_of_ble_eq_true rfl) rfl (by rfl) ?_
        refine w_t (a := 162) (b := 158) rfl rfl rfl ?_
        refine w_p (pc1 := 163) (st1 := .int 0 :: _) rfl rfl ?_
        refine w_p (pc1 := 164) (al1 := [(2, .int 0), (1, .int (nI (b))), (0, .ref 176)]) rfl rfl ?_
        refine w_p (pc1 := 165) rfl rfl ?_
        refine w_t (a := 127) (b := 168) rfl rfl rfl ?_
        refine w_p (pc1 := 128) rfl rfl ?_
        refine w_t (a := 175) (b := 131) rfl rfl rfl ?_
        exact Wd_up (by omega) (t175 (d := d) M1 H1)
    · subst hv; subst hh; subst hn
      refine w_p (pc1 := 143) rfl rfl ?_
      refine w_m0 (pc1 := 146) rfl rfl (h_gI (j := 8) rfl rfl rfl rfl rfl) rfl ?_
      refine w_t (a := 162) (b := 149) (cb_ne_t (by exact FS_0 F1)) rfl rfl ?_
      refine w_p (pc1 := 163) (st1 := .int 0 :: _) rfl rfl ?_
      refine w_p (pc1 := 164) (al1 := [(2, .int 0), (1, .int (nI (b))), (0, .ref 176)]) rfl rfl ?_
      refine w_p (pc1 := 165) rfl rfl ?_
      refine w_t (a := 127) (b := 168) rfl rfl rfl ?_
      exact t127f F1 (Or.inr ⟨rfl, ⟨_, ⟨c1, j1, flS_b g1 (fun q _ hk => bd_its hk), F1⟩, rfl⟩, rfl⟩)
end MTK2
