
/-! THE OTHER SIDE READS STATEMENTS, 16: DROP -/
section MSN
variable {L : Nat} {xs : Nat → Int32} {B : Nat → Nat} {n : Nat} {C C' C0 C1 : co_T} {t : ab_H} {d i i0 i1 j b e p k w q : Nat} {U V : Nat → Prop} {c : Int32} {sc : sc_T} {row : Option Nat} {tg : Option (Nat × Nat)} {nl : Option Nat} {E : fe_T} {tr : Nat → Option tr_T}
variable {mk : Nat × (Nat → Int64)} {P : Option Value → ab_H → Nat → Prop} {x y : Int32}
/-! behind a fault -/
set_option maxRecDepth 100000 in
theorem d68f (F : FBy B n C c i) (H : ∀ C', FBy B n C' c i → fW C C' → P none (MH C' t) 0) : Wd L xs (d + 1) y_243 (68, [(1, .int x), (0, .ref 176)], [], MH C t, 0) P nX := by
  have h0 := FS_0 F
  refine w_p (pc1 := 69) rfl rfl ?_
  refine w_b (a := 92) (b := 72) rfl rfl (fun c69 => ?_) (fun c69 => ?_)
  · replace c69 := cc_eq_t c69
    refine w_p (pc1 := 93) rfl rfl ?_
    refine w_je (pc1 := 96) (vs := [.ref 176]) (rest := []) (st1 := [.int 0]) (m_207f (d := _) F) rfl rfl rfl (fun _ _ => rfl) rfl (by exact cl_v my_207 rfl rfl rfl (Nat.le_of_ble_eq_true rfl) rfl (MH_obj rfl rfl) rfl (by decide) rfl rfl) (by rfl) (Nat.le_of_ble_eq_true rfl) (Nat.le_of_ble_eq_true rfl) rfl (by rfl) ?_
    refine w_f (a := 100) (b := 99) rfl rfl rfl ?_
    refine w_r rfl rfl rfl (fun _ _ => rfl) rfl ?_
    exact H _ F fW_r
  · replace c69 := cc_eq_f c69
    refine w_p (pc1 := 73) rfl rfl ?_
    refine w_p (pc1 := 74) rfl rfl ?_
    refine w_m0 (pc1 := 77) rfl rfl (h_gI (j := 8) rfl rfl rfl rfl rfl) rfl ?_
    refine w_t (a := 87) (b := 80) (cb_ne_t (by exact h0)) rfl rfl ?_
    refine w_p (pc1 := 88) (st1 := .int 0 :: _) rfl rfl ?_
    refine w_m0 (pc1 := 91) rfl rfl (h_pI (j := 98) rfl rfl rfl rfl rfl rfl rfl ⟨rfl, rfl⟩ rfl) rfl ?_
    refine w_r rfl rfl rfl (fun _ _ => rfl) rfl ?_
    exact H _ (FB_I F (Or.inr rfl)) (fW_I (Or.inr rfl))
set_option maxRecDepth 100000 in
theorem d36f (F : FBy B n C c i) (H : ∀ C', FBy B n C' c i → fW C C' → P none (MH C' t) 0) : Wd L xs (d + 1) y_243 (36, [(0, .ref 176)], [], MH C t, 0) P nX := by
  refine w_p (pc1 := 37) rfl rfl ?_
  refine w_m0 (pc1 := 40) (st1 := .long 499850046565 :: _) rfl rfl rfl rfl ?_
  refine w_je (pc1 := 43) (vs := [.ref 176, .long 499850046565]) (rest := []) (st1 := [.int (bif wdC _ _ then 1 else 0)]) (m_205 (d := _) (sl := 0)) rfl rfl rfl (fun _ _ => rfl) rfl (by exact cl_v my_205 rfl rfl rfl (Nat.le_of_ble_eq_true rfl) rfl (MH_obj rfl rfl) rfl (by decide) rfl rfl) (by rfl) (Nat.le_of_ble_eq_true rfl) (Nat.le_of_ble_eq_true rfl) rfl (by rfl) ?_
  refine w_p (pc1 := 44) (al1 := [(1, .int (bif wdC _ _ then 1 else 0)), (0, .ref 176)]) rfl rfl ?_
  refine w_p (pc1 := 45) rfl rfl ?_
  refine w_p (pc1 := 46) rfl rfl ?_
  refine w_b (a := 53) (b := 49) rfl rfl (fun c46 => ?_) (fun c46 => ?_)
  · replace c46 := cc_eq_t c46
    refine w_p (pc1 := 54) (st1 := .int 4 :: _) rfl rfl ?_
    refine w_m0 (pc1 := 57) rfl rfl (h_pI (j := 97) rfl rfl rfl rfl rfl rfl rfl ⟨rfl, rfl⟩ rfl) rfl ?_
    refine w_p (pc1 := 58) rfl rfl ?_
    refine w_m0 (pc1 := 61) rfl rfl (h_gI (j := 8) rfl rfl rfl rfl rfl) rfl ?_
    refine w_t (a := 68) (b := 64) (cb_ne_t (by exact FS_0 (FB_I F (Or.inl rfl)))) rfl rfl ?_
    exact d68f (FB_I F (Or.inl rfl)) (fun C9 F9 f9 => H C9 F9 (fW_t (fW_I (Or.inl rfl)) f9))
  · replace c46 := cc_eq_f c46
    refine w_p (pc1 := 50) (st1 := .int 3 :: _) rfl rfl ?_
    refine w_p (pc1 := 54) rfl rfl ?_
    refine w_m0 (pc1 := 57) rfl rfl (h_pI (j := 97) rfl rfl rfl rfl rfl rfl rfl ⟨rfl, rfl⟩ rfl) rfl ?_
    refine w_p (pc1 := 58) rfl rfl ?_
    refine w_m0 (pc1 := 61) rfl rfl (h_gI (j := 8) rfl rfl rfl rfl rfl) rfl ?_
    refine w_t (a := 68) (b := 64) (cb_ne_t (by exact FS_0 (FB_I F (Or.inl rfl)))) rfl rfl ?_
    exact d68f (FB_I F (Or.inl rfl)) (fun C9 F9 f9 => H C9 F9 (fW_t (fW_I (Or.inl rfl)) f9))
set_option maxRecDepth 100000 in
theorem TGM_1 {v : Int32} (H : TGM C tr) : TGM (sI C 76 j v) tr := fun i hi => opM_m (fun u hu => TRM_o hu (fun k q hk => by rw [sI_1, if_neg (by omega)]) (fun k q hk => rfl)) (by rw [sI_1, if_neg (by omega)]) (H i hi)
set_option maxRecDepth 100000 in
theorem m_243 (M : MB B n C i nl) (S : SCM C sc) (G : TGM C tr) (h2 : kd B n i = 17) : Wd L xs (d + 6) y_243 (0, [(0, .ref 176)], [], MH C t, 0) (PSH B n C t (rDrp (tkP B n) sc tr i nl) (fun a C' => C'.1 76 97 = (if a.1 = 37 then 3 else 4) ∧ C'.1 76 98 = a.2)) nX := by
  by_cases h37 : kd B n (i + 1) = 37
  · have hx : rDrp (tkP B n) sc tr i nl = pb (rTab (tkP B n) sc (i + 1 + 1)) (fun b => .inr ((37, nI b.1), b.2, nl)) := if_pos h37
    rw [hx]
    refine w_p (pc1 := 1) rfl rfl ?_
    refine w_ji (pc1 := 4) (vs := [.ref 176]) (rest := []) (nS (d := _) M (by rw [h2]; decide)) rfl rfl rfl (fun _ _ => rfl) rfl (by exact cl_v my_195 rfl rfl rfl (Nat.le_of_ble_eq_true rfl) rfl (MH_obj rfl rfl) rfl (by decide) rfl rfl) (by rfl) (Nat.le_of_ble_eq_true rfl) (Nat.le_of_ble_eq_true rfl) rfl (fun v h1 d1 hq => ?_) (fun _ _ _ e => e.elim)
    rcases hq with ⟨hv, ⟨C1, ⟨g1, M1, f1⟩, hh⟩, hn⟩ | ⟨hv, ⟨C1, ⟨g1, F1, f1⟩, hh⟩, hn⟩
    · subst hv; subst hh; subst hn
      refine w_p (pc1 := 5) rfl rfl ?_
      refine w_m0 (pc1 := 8) (st1 := .int 0 :: _) rfl rfl (h_gIe (j := 8) rfl rfl rfl rfl rfl (M1.2.1.2.1)) rfl ?_
      refine w_f (a := 36) (b := 11) rfl rfl rfl ?_
      refine w_p (pc1 := 12) rfl rfl ?_
      refine w_m0 (pc1 := 15) (st1 := .long 499850046565 :: _) rfl rfl rfl rfl ?_
      refine w_je (pc1 := 18) (vs := [.ref 176, .long 499850046565]) (rest := []) (st1 := [.int 1]) (m_205t (d := _) (sl := 0) ((wd_k (k := 37) M1.2.1 (by decide) (by decide)).trans (decide_eq_true h37))) rfl rfl rfl (fun _ _ => rfl) rfl (by exact cl_v my_205 rfl rfl rfl (Nat.le_of_ble_eq_true rfl) rfl (MH_obj rfl rfl) rfl (by decide) rfl rfl) (by rfl) (Nat.le_of_ble_eq_true rfl) (Nat.le_of_ble_eq_true rfl) rfl (by rfl) ?_
      refine w_t (a := 36) (b := 21) rfl rfl rfl ?_
      refine w_p (pc1 := 37) rfl rfl ?_
      refine w_m0 (pc1 := 40) (st1 := .long 499850046565 :: _) rfl rfl rfl rfl ?_
      refine w_je (pc1 := 43) (vs := [.ref 176, .long 499850046565]) (rest := []) (st1 := [.int 1]) (m_205t (d := _) (sl := 0) ((wd_k (k := 37) M1.2.1 (by decide) (by decide)).trans (decide_eq_true h37))) rfl rfl rfl (fun _ _ => rfl) rfl (by exact cl_v my_205 rfl rfl rfl (Nat.le_of_ble_eq_true rfl) rfl (MH_obj rfl rfl) rfl (by decide) rfl rfl) (by rfl) (Nat.le_of_ble_eq_true rfl) (Nat.le_of_ble_eq_true rfl) rfl (by rfl) ?_
      refine w_p (pc1 := 44) (al1 := [(1, .int 1), (0, .ref 176)]) rfl rfl ?_
      refine w_p (pc1 := 45) rfl rfl ?_
      refine w_p (pc1 := 46) rfl rfl ?_
      refine w_f (a := 53) (b := 49) rfl rfl rfl ?_
      refine w_p (pc1 := 50) (st1 := .int 3 :: _) rfl rfl ?_
      refine w_p (pc1 := 54) rfl rfl ?_
      refine w_m0 (pc1 := 57) rfl rfl (h_pI (j := 97) rfl rfl rfl rfl rfl rfl rfl ⟨rfl, rfl⟩ rfl) rfl ?_
      refine w_p (pc1 := 58) rfl rfl ?_
      refine w_m0 (pc1 := 61) (st1 := .int 0 :: _) rfl rfl (h_gIe (j := 8) rfl rfl rfl rfl rfl ((MB_I (v := 3) (MS_rb M1) (Or.inl rfl)).2.1.2.1)) rfl ?_
      refine w_f (a := 68) (b := 64) rfl rfl rfl ?_
      refine w_p (pc1 := 65) rfl rfl ?_
      refine w_ji (pc1 := 68) (vs := [.ref 176]) (rest := []) (nS (d := _) (MB_I (v := 3) (MS_rb M1) (Or.inl rfl)) (by rw [h37]; decide)) rfl rfl rfl (fun _ _ => rfl) rfl (by exact cl_v my_195 rfl rfl rfl (Nat.le_of_ble_eq_true rfl) rfl (MH_obj rfl rfl) rfl (by decide) rfl rfl) (by rfl) (Nat.le_of_ble_eq_true rfl) (Nat.le_of_ble_eq_true rfl) rfl (fun v h1 d1 hq => ?_) (fun _ _ _ e => e.elim)
      rcases hq with ⟨hv, ⟨C3, ⟨g3, M3, f3⟩, hh⟩, hn⟩ | ⟨hv, ⟨C3, ⟨g3, F3, f3⟩, hh⟩, hn⟩
      · subst hv; subst hh; subst hn
        refine w_p (pc1 := 69) rfl rfl ?_
        refine w_f (a := 92) (b := 72) rfl rfl rfl ?_
        refine w_p (pc1 := 73) rfl rfl ?_
        refine w_p (pc1 := 74) rfl rfl ?_
        refine w_m0 (pc1 := 77) (st1 := .int 0 :: _) rfl rfl (h_gIe (j := 8) rfl rfl rfl rfl rfl (M3.2.1.2.1)) rfl ?_
        refine w_f (a := 87) (b := 80) rfl rfl rfl ?_
        refine w_p (pc1 := 81) rfl rfl ?_
        refine w_ji (pc1 := 84) (vs := [.ref 176]) (rest := [.ref 176]) (m_238 (d := _) M3 (SCM_T (SCM_1 (SCM_T S f1) (by omega)) f3)) rfl rfl rfl (fun _ _ => rfl) rfl (by exact cl_v my_238 rfl rfl rfl (Nat.le_of_ble_eq_true rfl) rfl (MH_obj rfl rfl) rfl (by decide) rfl rfl) (by rfl) (Nat.le_of_ble_eq_true rfl) (Nat.le_of_ble_eq_true rfl) rfl (fun v h1 d1 hq => ?_) (fun _ _ _ e => e.elim)
        rcases hq with ⟨b, hv, ⟨C4, ⟨g4, g5, g6, M4, f4⟩, hh⟩, hn⟩ | ⟨b, hv, ⟨C4, ⟨c4, j4, g4, F4, f4⟩, hh⟩, hn⟩
        · subst hv; subst hh; subst hn
          refine w_p (pc1 := 88) rfl rfl ?_
          refine w_m0 (pc1 := 91) rfl rfl (h_pI (j := 98) rfl rfl rfl rfl rfl rfl rfl ⟨rfl, rfl⟩ rfl) rfl ?_
          refine w_r rfl rfl rfl (fun _ _ => rfl) rfl ?_
          refine Or.inl ⟨rfl, ⟨_, ⟨_, _, _, by rw [pb_r g4], g6, MB_I (MS_rb M4) (Or.inr rfl), ⟨?_, ?_⟩, fW_t (fW_T f1) (fW_t (fW_I (Or.inl rfl)) (fW_t (fW_T f3) (fW_t (fW_T f4) (fW_I (Or.inr rfl)))))⟩, rfl⟩, rfl⟩
          · rw [sI_1, if_neg (by omega), f4.1 76 97 (by omega), f3.1 76 97 (by omega), sI_1, if_pos ⟨rfl, rfl⟩]
            rfl
          · rw [sI_1, if_pos ⟨rfl, rfl⟩]
        · subst hv; subst hh; subst hn
          refine w_p (pc1 := 88) rfl rfl ?_
          refine w_m0 (pc1 := 91) rfl rfl (h_pI (j := 98) rfl rfl rfl rfl rfl rfl rfl ⟨rfl, rfl⟩ rfl) rfl ?_
          refine w_r rfl rfl rfl (fun _ _ => rfl) rfl ?_
          exact Or.inr ⟨rfl, ⟨_, ⟨c4, j4, flS_c g4 (fun a _ _ => Or.inr ⟨_, rfl, rfl⟩), FB_I (FS_rb F4) (Or.inr rfl), fW_t (fW_T f1) (fW_t (fW_I (Or.inl rfl)) (fW_t (fW_T f3) (fW_t (fW_T f4) (fW_I (Or.inr rfl)))))⟩, rfl⟩, rfl⟩
      · subst hv; subst hh; subst hn
        exact d68f (FS_rb F3) (fun C9 F9 f9 => Or.inr ⟨rfl, ⟨_, ⟨1, i + 1 + 1, flS_1 (bdS_b (bdS_t g3)) g3, F9, fW_t (fW_T f1) (fW_t (fW_I (Or.inl rfl)) (fW_t (fW_T f3) f9))⟩, rfl⟩, rfl⟩)
    · subst hv; subst hh; subst hn
      refine w_p (pc1 := 5) rfl rfl ?_
      refine w_m0 (pc1 := 8) rfl rfl (h_gI (j := 8) rfl rfl rfl rfl rfl) rfl ?_
      refine w_t (a := 36) (b := 11) (cb_ne_t (by exact FS_0 F1)) rfl rfl ?_
      exact d36f (FS_rb F1) (fun C9 F9 f9 => Or.inr ⟨rfl, ⟨_, ⟨1, i + 1, absurd h37 (by rw [g1]; decide), F9, fW_t (fW_T f1) f9⟩, rfl⟩, rfl⟩)
  by_cases h39 : kd B n (i + 1) = 39
  · have hx : rDrp (tkP B n) sc tr i nl = pb (rThr (tkP B n) (trF tr (vl B n (i + 1 + 1))) (i + 1 + 1)) (fun u => .inr ((39, trF tr (vl B n (i + 1 + 1))), u.2, nl)) := by
      unfold rDrp
      rw [if_neg (show ¬ (tkP B n).1 (i + 1) = 37 from h37), if_pos (show (tkP B n).1 (i + 1) = 39 from h39)]
      rfl
    rw [hx]
    by_cases h3 : kd B n (i + 1 + 1) = 3
    · by_cases hf : trF tr (vl B n (i + 1 + 1)) = -1
      · have hy : rThr (tkP B n) (trF tr (vl B n (i + 1 + 1))) (i + 1 + 1) = .inl (4, i + 1 + 1) := by
          unfold rThr
          rw [if_pos (show (tkP B n).1 (i + 1 + 1) = 3 from h3), if_pos hf]
        refine w_p (pc1 := 1) rfl rfl ?_
        refine w_ji (pc1 := 4) (vs := [.ref 176]) (rest := []) (nS (d := _) M (by rw [h2]; decide)) rfl rfl rfl (fun _ _ => rfl) rfl (by exact cl_v my_195 rfl rfl rfl (Nat.le_of_ble_eq_true rfl) rfl (MH_obj rfl rfl) rfl (by decide) rfl rfl) (by rfl) (Nat.le_of_ble_eq_true rfl) (Nat.le_of_ble_eq_true rfl) rfl (fun v h1 d1 hq => ?_) (fun _ _ _ e => e.elim)
        rcases hq with ⟨hv, ⟨C1, ⟨g1, M1, f1⟩, hh⟩, hn⟩ | ⟨hv, ⟨C1, ⟨g1, F1, f1⟩, hh⟩, hn⟩
        · subst hv; subst hh; subst hn
          refine w_p (pc1 := 5) rfl rfl ?_
          refine w_m0 (pc1 := 8) (st1 := .int 0 :: _) rfl rfl (h_gIe (j := 8) rfl rfl rfl rfl rfl (M1.2.1.2.1)) rfl ?_
          refine w_f (a := 36) (b := 11) rfl rfl rfl ?_
          refine w_p (pc1 := 12) rfl rfl ?_
          refine w_m0 (pc1 := 15) (st1 := .long 499850046565 :: _) rfl rfl rfl rfl ?_
          refine w_je (pc1 := 18) (vs := [.ref 176, .long 499850046565]) (rest := []) (st1 := [.int 0]) (m_205f (d := _) (sl := 0) ((wd_k (k := 37) M1.2.1 (by decide) (by decide)).trans (decide_eq_false (by rw [h39]; decide)))) rfl rfl rfl (fun _ _ => rfl) rfl (by exact cl_v my_205 rfl rfl rfl (Nat.le_of_ble_eq_true rfl) rfl (MH_obj rfl rfl) rfl (by decide) rfl rfl) (by rfl) (Nat.le_of_ble_eq_true rfl) (Nat.le_of_ble_eq_true rfl) rfl (by rfl) ?_
          refine w_f (a := 36) (b := 21) rfl rfl rfl ?_
          refine w_p (pc1 := 22) rfl rfl ?_
          refine w_m0 (pc1 := 25) (st1 := .long 32776894330398066 :: _) rfl rfl rfl rfl ?_
          refine w_je (pc1 := 28) (vs := [.ref 176, .long 32776894330398066]) (rest := []) (st1 := [.int 1]) (m_205t (d := _) (sl := 0) ((wd_k (k := 39) M1.2.1 (by decide) (by decide)).trans (decide_eq_true h39))) rfl rfl rfl (fun _ _ => rfl) rfl (by exact cl_v my_205 rfl rfl rfl (Nat.le_of_ble_eq_true rfl) rfl (MH_obj rfl rfl) rfl (by decide) rfl rfl) (by rfl) (Nat.le_of_ble_eq_true rfl) (Nat.le_of_ble_eq_true rfl) rfl (by rfl) ?_
          refine w_t (a := 36) (b := 31) rfl rfl rfl ?_
          refine w_p (pc1 := 37) rfl rfl ?_
          refine w_m0 (pc1 := 40) (st1 := .long 499850046565 :: _) rfl rfl rfl rfl ?_
          refine w_je (pc1 := 43) (vs := [.ref 176, .long 499850046565]) (rest := []) (st1 := [.int 0]) (m_205f (d := _) (sl := 0) ((wd_k (k := 37) M1.2.1 (by decide) (by decide)).trans (decide_eq_false (by rw [h39]; decide)))) rfl rfl rfl (fun _ _ => rfl) rfl (by exact cl_v my_205 rfl rfl rfl (Nat.le_of_ble_eq_true rfl) rfl (MH_obj rfl rfl) rfl (by decide) rfl rfl) (by rfl) (Nat.le_of_ble_eq_true rfl) (Nat.le_of_ble_eq_true rfl) rfl (by rfl) ?_
          refine w_p (pc1 := 44) (al1 := [(1, .int 0), (0, .ref 176)]) rfl rfl ?_
          refine w_p (pc1 := 45) rfl rfl ?_
          refine w_p (pc1 := 46) rfl rfl ?_
          refine w_t (a := 53) (b := 49) rfl rfl rfl ?_
          refine w_p (pc1 := 54) (st1 := .int 4 :: _) rfl rfl ?_
          refine w_m0 (pc1 := 57) rfl rfl (h_pI (j := 97) rfl rfl rfl rfl rfl rfl rfl ⟨rfl, rfl⟩ rfl) rfl ?_
          refine w_p (pc1 := 58) rfl rfl ?_
          refine w_m0 (pc1 := 61) (st1 := .int 0 :: _) rfl rfl (h_gIe (j := 8) rfl rfl rfl rfl rfl ((MB_I (v := 4) (MS_rb M1) (Or.inl rfl)).2.1.2.1)) rfl ?_
          refine w_f (a := 68) (b := 64) rfl rfl rfl ?_
          refine w_p (pc1 := 65) rfl rfl ?_
          refine w_ji (pc1 := 68) (vs := [.ref 176]) (rest := []) (nS (d := _) (MB_I (v := 4) (MS_rb M1) (Or.inl rfl)) (by rw [h39]; decide)) rfl rfl rfl (fun _ _ => rfl) rfl (by exact cl_v my_195 rfl rfl rfl (Nat.le_of_ble_eq_true rfl) rfl (MH_obj rfl rfl) rfl (by decide) rfl rfl) (by rfl) (Nat.le_of_ble_eq_true rfl) (Nat.le_of_ble_eq_true rfl) rfl (fun v h1 d1 hq => ?_) (fun _ _ _ e => e.elim)
          rcases hq with ⟨hv, ⟨C3, ⟨g3, M3, f3⟩, hh⟩, hn⟩ | ⟨hv, ⟨C3, ⟨g3, F3, f3⟩, hh⟩, hn⟩
          · subst hv; subst hh; subst hn
            refine w_p (pc1 := 69) rfl rfl ?_
            refine w_t (a := 92) (b := 72) rfl rfl rfl ?_
            refine w_p (pc1 := 93) rfl rfl ?_
            refine w_je (pc1 := 96) (vs := [.ref 176]) (rest := []) (st1 := [.int 1]) (m_207y (d := _) M3 h3) rfl rfl rfl (fun _ _ => rfl) rfl (by exact cl_v my_207 rfl rfl rfl (Nat.le_of_ble_eq_true rfl) rfl (MH_obj rfl rfl) rfl (by decide) rfl rfl) (by rfl) (Nat.le_of_ble_eq_true rfl) (Nat.le_of_ble_eq_true rfl) rfl (by rfl) ?_
            refine w_t (a := 100) (b := 99) rfl rfl rfl ?_
            refine w_p (pc1 := 101) rfl rfl ?_
            refine w_p (pc1 := 102) rfl rfl ?_
            refine w_p (pc1 := 103) rfl rfl ?_
            refine w_m0 (pc1 := 106) (st1 := .long (vl B n (i + 1 + 1)) :: _) rfl rfl (h_gJe (j := 7) rfl rfl rfl rfl rfl (by rw [M3.2.1.2.2.2.1, h3]; rfl)) rfl ?_
            refine w_je (pc1 := 109) (vs := [.ref 176, .long (vl B n (i + 1 + 1))]) (rest := [.ref 176]) (st1 := [.int (trF tr (vl B n (i + 1 + 1))), .ref 176]) (m_237r (d := _) (sl := 0) (trF_M (TGM_T (TGM_1 (TGM_T G f1)) f3) (vl B n (i + 1 + 1)))) rfl rfl rfl (fun _ _ => rfl) rfl (by exact cl_v my_237 rfl rfl rfl (Nat.le_of_ble_eq_true rfl) rfl (MH_obj rfl rfl) rfl (by decide) rfl rfl) (by rfl) (Nat.le_of_ble_eq_true rfl) (Nat.le_of_ble_eq_true rfl) rfl (by rfl) ?_
            refine w_m0 (pc1 := 112) rfl rfl (h_pI (j := 98) rfl rfl rfl rfl rfl rfl rfl ⟨rfl, rfl⟩ rfl) rfl ?_
            refine w_p (pc1 := 113) rfl rfl ?_
            refine w_m0 (pc1 := 116) (st1 := .int (-1) :: _) rfl rfl (h_gIe (j := 98) rfl rfl rfl rfl rfl (by rw [sI_1, if_pos ⟨rfl, rfl⟩]; exact hf)) rfl ?_
            refine w_p (pc1 := 117) (st1 := .int (-1) :: _) rfl rfl ?_
            refine w_f (a := 125) (b := 120) rfl rfl rfl ?_
            refine w_p (pc1 := 121) rfl rfl ?_
            refine w_p (pc1 := 122) (st1 := .int 4 :: _) rfl rfl ?_
            refine w_je (pc1 := 125) (vs := [.ref 176, .int 4]) (rest := []) (st1 := []) (m_200 (d := _) (sl := 0) (fun z => absurd (MB_I (v := trF tr (vl B n (i + 1 + 1))) (MS_rb M3) (Or.inr rfl)).2.1.2.1 z)) rfl rfl rfl (fun _ _ => rfl) rfl (by exact cl_v my_200 rfl rfl rfl (Nat.le_of_ble_eq_true rfl) rfl (MH_obj rfl rfl) rfl (by decide) rfl rfl) (by rfl) (Nat.le_of_ble_eq_true rfl) (Nat.le_of_ble_eq_true rfl) rfl (by rfl) ?_
            refine w_p (pc1 := 126) rfl rfl ?_
            refine w_m0 (pc1 := 129) rfl rfl (h_gI (j := 8) rfl rfl rfl rfl rfl) rfl ?_
            refine w_t (a := 136) (b := 132) (cb_ne_t (by exact FS_0 (FS_new (c := 4) (MB_I (v := trF tr (vl B n (i + 1 + 1))) (MS_rb M3) (Or.inr rfl)) (by decide)))) rfl rfl ?_
            refine w_r rfl rfl rfl (fun _ _ => rfl) rfl ?_
            exact Or.inr ⟨rfl, ⟨_, ⟨4, i + 1 + 1, flS_n (pb_l hy) g3, FS_rb (FS_new (c := 4) (MB_I (v := trF tr (vl B n (i + 1 + 1))) (MS_rb M3) (Or.inr rfl)) (by decide)), fW_t (fW_T f1) (fW_t (fW_I (Or.inl rfl)) (fW_t (fW_T f3) (fW_t (fW_I (Or.inr rfl)) (fW_T frT_f))))⟩, rfl⟩, rfl⟩
          · subst hv; subst hh; subst hn
            exact d68f (FS_rb F3) (fun C9 F9 f9 => Or.inr ⟨rfl, ⟨_, ⟨1, i + 1 + 1, flS_1 (bdS_b ⟨2, if_neg (by show ¬ kd B n (i + 1 + 1) = 3; rw [g3]; decide)⟩) g3, F9, fW_t (fW_T f1) (fW_t (fW_I (Or.inl rfl)) (fW_t (fW_T f3) f9))⟩, rfl⟩, rfl⟩)
        · subst hv; subst hh; subst hn
          refine w_p (pc1 := 5) rfl rfl ?_
          refine w_m0 (pc1 := 8) rfl rfl (h_gI (j := 8) rfl rfl rfl rfl rfl) rfl ?_
          refine w_t (a := 36) (b := 11) (cb_ne_t (by exact FS_0 F1)) rfl rfl ?_
          exact d36f (FS_rb F1) (fun C9 F9 f9 => Or.inr ⟨rfl, ⟨_, ⟨1, i + 1, absurd h39 (by rw [g1]; decide), F9, fW_t (fW_T f1) f9⟩, rfl⟩, rfl⟩)
      · have hy : rThr (tkP B n) (trF tr (vl B n (i + 1 + 1))) (i + 1 + 1) = .inr ((), i + 1 + 1 + 1) := by
          unfold rThr
          rw [if_pos (show (tkP B n).1 (i + 1 + 1) = 3 from h3), if_neg hf]
        rw [pb_r hy]
        refine w_p (pc1 := 1) rfl rfl ?_
        refine w_ji (pc1 := 4) (vs := [.ref 176]) (rest := []) (nS (d := _) M (by rw [h2]; decide)) rfl rfl rfl (fun _ _ => rfl) rfl (by exact cl_v my_195 rfl rfl rfl (Nat.le_of_ble_eq_true rfl) rfl (MH_obj rfl rfl) rfl (by decide) rfl rfl) (by rfl) (Nat.le_of_ble_eq_true rfl) (Nat.le_of_ble_eq_true rfl) rfl (fun v h1 d1 hq => ?_) (fun _ _ _ e => e.elim)
        rcases hq with ⟨hv, ⟨C1, ⟨g1, M1, f1⟩, hh⟩, hn⟩ | ⟨hv, ⟨C1, ⟨g1, F1, f1⟩, hh⟩, hn⟩
        · subst hv; subst hh; subst hn
          refine w_p (pc1 := 5) rfl rfl ?_
          refine w_m0 (pc1 := 8) (st1 := .int 0 :: _) rfl rfl (h_gIe (j := 8) rfl rfl rfl rfl rfl (M1.2.1.2.1)) rfl ?_
          refine w_f (a := 36) (b := 11) rfl rfl rfl ?_
          refine w_p (pc1 := 12) rfl rfl ?_
          refine w_m0 (pc1 := 15) (st1 := .long 499850046565 :: _) rfl rfl rfl rfl ?_
          refine w_je (pc1 := 18) (vs := [.ref 176, .long 499850046565]) (rest := []) (st1 := [.int 0]) (m_205f (d := _) (sl := 0) ((wd_k (k := 37) M1.2.1 (by decide) (by decide)).trans (decide_eq_false (by rw [h39]; decide)))) rfl rfl rfl (fun _ _ => rfl) rfl (by exact cl_v my_205 rfl rfl rfl (Nat.le_of_ble_eq_true rfl) rfl (MH_obj rfl rfl) rfl (by decide) rfl rfl) (by rfl) (Nat.le_of_ble_eq_true rfl) (Nat.le_of_ble_eq_true rfl) rfl (by rfl) ?_
          refine w_f (a := 36) (b := 21) rfl rfl rfl ?_
          refine w_p (pc1 := 22) rfl rfl ?_
          refine w_m0 (pc1 := 25) (st1 := .long 32776894330398066 :: _) rfl rfl rfl rfl ?_
          refine w_je (pc1 := 28) (vs := [.ref 176, .long 32776894330398066]) (rest := []) (st1 := [.int 1]) (m_205t (d := _) (sl := 0) ((wd_k (k := 39) M1.2.1 (by decide) (by decide)).trans (decide_eq_true h39))) rfl rfl rfl (fun _ _ => rfl) rfl (by exact cl_v my_205 rfl rfl rfl (Nat.le_of_ble_eq_true rfl) rfl (MH_obj rfl rfl) rfl (by decide) rfl rfl) (by rfl) (Nat.le_of_ble_eq_true rfl) (Nat.le_of_ble_eq_true rfl) rfl (by rfl) ?_
          refine w_t (a := 36) (b := 31) rfl rfl rfl ?_
          refine w_p (pc1 := 37) rfl rfl ?_
          refine w_m0 (pc1 := 40) (st1 := .long 499850046565 :: _) rfl rfl rfl rfl ?_
          refine w_je (pc1 := 43) (vs := [.ref 176, .long 499850046565]) (rest := []) (st1 := [.int 0]) (m_205f (d := _) (sl := 0) ((wd_k (k := 37) M1.2.1 (by decide) (by decide)).trans (decide_eq_false (by rw [h39]; decide)))) rfl rfl rfl (fun _ _ => rfl) rfl (by exact cl_v my_205 rfl rfl rfl (Nat.le_of_ble_eq_true rfl) rfl (MH_obj rfl rfl) rfl (by decide) rfl rfl) (by rfl) (Nat.le_of_ble_eq_true rfl) (Nat.le_of_ble_eq_true rfl) rfl (by rfl) ?_
          refine w_p (pc1 := 44) (al1 := [(1, .int 0), (0, .ref 176)]) rfl rfl ?_
          refine w_p (pc1 := 45) rfl rfl ?_
          refine w_p (pc1 := 46) rfl rfl ?_
          refine w_t (a := 53) (b := 49) rfl rfl rfl ?_
          refine w_p (pc1 := 54) (st1 := .int 4 :: _) rfl rfl ?_
          refine w_m0 (pc1 := 57) rfl rfl (h_pI (j := 97) rfl rfl rfl rfl rfl rfl rfl ⟨rfl, rfl⟩ rfl) rfl ?_
          refine w_p (pc1 := 58) rfl rfl ?_
          refine w_m0 (pc1 := 61) (st1 := .int 0 :: _) rfl rfl (h_gIe (j := 8) rfl rfl rfl rfl rfl ((MB_I (v := 4) (MS_rb M1) (Or.inl rfl)).2.1.2.1)) rfl ?_
          refine w_f (a := 68) (b := 64) rfl rfl rfl ?_
          refine w_p (pc1 := 65) rfl rfl ?_
          refine w_ji (pc1 := 68) (vs := [.ref 176]) (rest := []) (nS (d := _) (MB_I (v := 4) (MS_rb M1) (Or.inl rfl)) (by rw [h39]; decide)) rfl rfl rfl (fun _ _ => rfl) rfl (by exact cl_v my_195 rfl rfl rfl (Nat.le_of_ble_eq_true rfl) rfl (MH_obj rfl rfl) rfl (by decide) rfl rfl) (by rfl) (Nat.le_of_ble_eq_true rfl) (Nat.le_of_ble_eq_true rfl) rfl (fun v h1 d1 hq => ?_) (fun _ _ _ e => e.elim)
          rcases hq with ⟨hv, ⟨C3, ⟨g3, M3, f3⟩, hh⟩, hn⟩ | ⟨hv, ⟨C3, ⟨g3, F3, f3⟩, hh⟩, hn⟩
          · subst hv; subst hh; subst hn
            refine w_p (pc1 := 69) rfl rfl ?_
            refine w_t (a := 92) (b := 72) rfl rfl rfl ?_
            refine w_p (pc1 := 93) rfl rfl ?_
            refine w_je (pc1 := 96) (vs := [.ref 176]) (rest := []) (st1 := [.int 1]) (m_207y (d := _) M3 h3) rfl rfl rfl (fun _ _ => rfl) rfl (by exact cl_v my_207 rfl rfl rfl (Nat.le_of_ble_eq_true rfl) rfl (MH_obj rfl rfl) rfl (by decide) rfl rfl) (by rfl) (Nat.le_of_ble_eq_true rfl) (Nat.le_of_ble_eq_true rfl) rfl (by rfl) ?_
            refine w_t (a := 100) (b := 99) rfl rfl rfl ?_
            refine w_p (pc1 := 101) rfl rfl ?_
            refine w_p (pc1 := 102) rfl rfl ?_
            refine w_p (pc1 := 103) rfl rfl ?_
            refine w_m0 (pc1 := 106) (st1 := .long (vl B n (i + 1 + 1)) :: _) rfl rfl (h_gJe (j := 7) rfl rfl rfl rfl rfl (by rw [M3.2.1.2.2.2.1, h3]; rfl)) rfl ?_
            refine w_je (pc1 := 109) (vs := [.ref 176, .long (vl B n (i + 1 + 1))]) (rest := [.ref 176]) (st1 := [.int (trF tr (vl B n (i + 1 + 1))), .ref 176]) (m_237r (d := _) (sl := 0) (trF_M (TGM_T (TGM_1 (TGM_T G f1)) f3) (vl B n (i + 1 + 1)))) rfl rfl rfl (fun _ _ => rfl) rfl (by exact cl_v my_237 rfl rfl rfl (Nat.le_of_ble_eq_true rfl) rfl (MH_obj rfl rfl) rfl (by decide) rfl rfl) (by rfl) (Nat.le_of_ble_eq_true rfl) (Nat.le_of_ble_eq_true rfl) rfl (by rfl) ?_
            refine w_m0 (pc1 := 112) rfl rfl (h_pI (j := 98) rfl rfl rfl rfl rfl rfl rfl ⟨rfl, rfl⟩ rfl) rfl ?_
            refine w_p (pc1 := 113) rfl rfl ?_
            refine w_m0 (pc1 := 116) (st1 := .int (trF tr (vl B n (i + 1 + 1))) :: _) rfl rfl (h_gIe (j := 98) rfl rfl rfl rfl rfl (by rw [sI_1, if_pos ⟨rfl, rfl⟩])) rfl ?_
            refine w_p (pc1 := 117) (st1 := .int (-1) :: _) rfl rfl ?_
            refine w_t (a := 125) (b := 120) (cb_ne_t (by exact hf)) rfl rfl ?_
            refine w_p (pc1 := 126) rfl rfl ?_
            refine w_m0 (pc1 := 129) (st1 := .int 0 :: _) rfl rfl (h_gIe (j := 8) rfl rfl rfl rfl rfl ((MB_I (v := trF tr (vl B n (i + 1 + 1))) (MS_rb M3) (Or.inr rfl)).2.1.2.1)) rfl ?_
            refine w_f (a := 136) (b := 132) rfl rfl rfl ?_
            refine w_p (pc1 := 133) rfl rfl ?_
            refine w_ji (pc1 := 136) (vs := [.ref 176]) (rest := []) (nS (d := _) (MB_I (v := trF tr (vl B n (i + 1 + 1))) (MS_rb M3) (Or.inr rfl)) (by rw [h3]; decide)) rfl rfl rfl (fun _ _ => rfl) rfl (by exact cl_v my_195 rfl rfl rfl (Nat.le_of_ble_eq_true rfl) rfl (MH_obj rfl rfl) rfl (by decide) rfl rfl) (by rfl) (Nat.le_of_ble_eq_true rfl) (Nat.le_of_ble_eq_true rfl) rfl (fun v h1 d1 hq => ?_) (fun _ _ _ e => e.elim)
            rcases hq with ⟨hv, ⟨C5, ⟨g5, M5, f5⟩, hh⟩, hn⟩ | ⟨hv, ⟨C5, ⟨g5, F5, f5⟩, hh⟩, hn⟩
            · subst hv; subst hh; subst hn
              refine w_r rfl rfl rfl (fun _ _ => rfl) rfl ?_
              refine Or.inl ⟨rfl, ⟨_, ⟨_, _, _, rfl, g5, MS_rb M5, ⟨?_, ?_⟩, fW_t (fW_T f1) (fW_t (fW_I (Or.inl rfl)) (fW_t (fW_T f3) (fW_t (fW_I (Or.inr rfl)) (fW_T f5))))⟩, rfl⟩, rfl⟩
              · rw [f5.1 76 97 (by omega), sI_1, if_neg (by omega), f3.1 76 97 (by omega), sI_1, if_pos ⟨rfl, rfl⟩]
                rfl
              · rw [f5.1 76 98 (by omega), sI_1, if_pos ⟨rfl, rfl⟩]
            · subst hv; subst hh; subst hn
              refine w_r rfl rfl rfl (fun _ _ => rfl) rfl ?_
              exact Or.inr ⟨rfl, ⟨_, ⟨1, i + 1 + 1 + 1, flS_e rfl rfl g5, FS_rb F5, fW_t (fW_T f1) (fW_t (fW_I (Or.inl rfl)) (fW_t (fW_T f3) (fW_t (fW_I (Or.inr rfl)) (fW_T f5))))⟩, rfl⟩, rfl⟩
          · subst hv; subst hh; subst hn
            exact d68f (FS_rb F3) (fun C9 F9 f9 => Or.inr ⟨rfl, ⟨_, ⟨1, i + 1 + 1, absurd h3 (by rw [g3]; decide), F9, fW_t (fW_T f1) (fW_t (fW_I (Or.inl rfl)) (fW_t (fW_T f3) f9))⟩, rfl⟩, rfl⟩)
        · subst hv; subst hh; subst hn
          refine w_p (pc1 := 5) rfl rfl ?_
          refine w_m0 (pc1 := 8) rfl rfl (h_gI (j := 8) rfl rfl rfl rfl rfl) rfl ?_
          refine w_t (a := 36) (b := 11) (cb_ne_t (by exact FS_0 F1)) rfl rfl ?_
          exact d36f (FS_rb F1) (fun C9 F9 f9 => Or.inr ⟨rfl, ⟨_, ⟨1, i + 1, absurd h39 (by rw [g1]; decide), F9, fW_t (fW_T f1) f9⟩, rfl⟩, rfl⟩)
    · have hy : rThr (tkP B n) (trF tr (vl B n (i + 1 + 1))) (i + 1 + 1) = .inl (2, i + 1 + 1) := if_neg h3
      refine w_p (pc1 := 1) rfl rfl ?_
      refine w_ji (pc1 := 4) (vs := [.ref 176]) (rest := []) (nS (d := _) M (by rw [h2]; decide)) rfl rfl rfl (fun _ _ => rfl) rfl (by exact cl_v my_195 rfl rfl rfl (Nat.le_of_ble_eq_true rfl) rfl (MH_obj rfl rfl) rfl (by decide) rfl rfl) (by rfl) (Nat.le_of_ble_eq_true rfl) (Nat.le_of_ble_eq_true rfl) rfl (fun v h1 d1 hq => ?_) (fun _ _ _ e => e.elim)
      rcases hq with ⟨hv, ⟨C1, ⟨g1, M1, f1⟩, hh⟩, hn⟩ | ⟨hv, ⟨C1, ⟨g1, F1, f1⟩, hh⟩, hn⟩
      · subst hv; subst hh; subst hn
        refine w_p (pc1 := 5) rfl rfl ?_
        refine w_m0 (pc1 := 8) (st1 := .int 0 :: _) rfl rfl (h_gIe (j := 8) rfl rfl rfl rfl rfl (M1.2.1.2.1)) rfl ?_
        refine w_f (a := 36) (b := 11) rfl rfl rfl ?_
        refine w_p (pc1 := 12) rfl rfl ?_
        refine w_m0 (pc1 := 15) (st1 := .long 499850046565 :: _) rfl rfl rfl rfl ?_
        refine w_je (pc1 := 18) (vs := [.ref 176, .long 499850046565]) (rest := []) (st1 := [.int 0]) (m_205f (d := _) (sl := 0) ((wd_k (k := 37) M1.2.1 (by decide) (by decide)).trans (decide_eq_false (by rw [h39]; decide)))) rfl rfl rfl (fun _ _ => rfl) rfl (by exact cl_v my_205 rfl rfl rfl (Nat.le_of_ble_eq_true rfl) rfl (MH_obj rfl rfl) rfl (by decide) rfl rfl) (by rfl) (Nat.le_of_ble_eq_true rfl) (Nat.le_of_ble_eq_true rfl) rfl (by rfl) ?_
        refine w_f (a := 36) (b := 21) rfl rfl rfl ?_
        refine w_p (pc1 := 22) rfl rfl ?_
        refine w_m0 (pc1 := 25) (st1 := .long 32776894330398066 :: _) rfl rfl rfl rfl ?_
        refine w_je (pc1 := 28) (vs := [.ref 176, .long 32776894330398066]) (rest := []) (st1 := [.int 1]) (m_205t (d := _) (sl := 0) ((wd_k (k := 39) M1.2.1 (by decide) (by decide)).trans (decide_eq_true h39))) rfl rfl rfl (fun _ _ => rfl) rfl (by exact cl_v my_205 rfl rfl rfl (Nat.le_of_ble_eq_true rfl) rfl (MH_obj rfl rfl) rfl (by decide) rfl rfl) (by rfl) (Nat.le_of_ble_eq_true rfl) (Nat.le_of_ble_eq_true rfl) rfl (by rfl) ?_
        refine w_t (a := 36) (b := 31) rfl rfl rfl ?_
        refine w_p (pc1 := 37) rfl rfl ?_
        refine w_m0 (pc1 := 40) (st1 := .long 499850046565 :: _) rfl rfl rfl rfl ?_
        refine w_je (pc1 := 43) (vs := [.ref 176, .long 499850046565]) (rest := []) (st1 := [.int 0]) (m_205f (d := _) (sl := 0) ((wd_k (k := 37) M1.2.1 (by decide) (by decide)).trans (decide_eq_false (by rw [h39]; decide)))) rfl rfl rfl (fun _ _ => rfl) rfl (by exact cl_v my_205 rfl rfl rfl (Nat.le_of_ble_eq_true rfl) rfl (MH_obj rfl rfl) rfl (by decide) rfl rfl) (by rfl) (Nat.le_of_ble_eq_true rfl) (Nat.le_of_ble_eq_true rfl) rfl (by rfl) ?_
        refine w_p (pc1 := 44) (al1 := [(1, .int 0), (0, .ref 176)]) rfl rfl ?_
        refine w_p (pc1 := 45) rfl rfl ?_
        refine w_p (pc1 := 46) rfl rfl ?_
        refine w_t (a := 53) (b := 49) rfl rfl rfl ?_
        refine w_p (pc1 := 54) (st1 := .int 4 :: _) rfl rfl ?_
        refine w_m0 (pc1 := 57) rfl rfl (h_pI (j := 97) rfl rfl rfl rfl rfl rfl rfl ⟨rfl, rfl⟩ rfl) rfl ?_
        refine w_p (pc1 := 58) rfl rfl ?_
        refine w_m0 (pc1 := 61) (st1 := .int 0 :: _) rfl rfl (h_gIe (j := 8) rfl rfl rfl rfl rfl ((MB_I (v := 4) (MS_rb M1) (Or.inl rfl)).2.1.2.1)) rfl ?_
        refine w_f (a := 68) (b := 64) rfl rfl rfl ?_
        refine w_p (pc1 := 65) rfl rfl ?_
        refine w_ji (pc1 := 68) (vs := [.ref 176]) (rest := []) (nS (d := _) (MB_I (v := 4) (MS_rb M1) (Or.inl rfl)) (by rw [h39]; decide)) rfl rfl rfl (fun _ _ => rfl) rfl (by exact cl_v my_195 rfl rfl rfl (Nat.le_of_ble_eq_true rfl) rfl (MH_obj rfl rfl) rfl (by decide) rfl rfl) (by rfl) (Nat.le_of_ble_eq_true rfl) (Nat.le_of_ble_eq_true rfl) rfl (fun v h1 d1 hq => ?_) (fun _ _ _ e => e.elim)
        rcases hq with ⟨hv, ⟨C3, ⟨g3, M3, f3⟩, hh⟩, hn⟩ | ⟨hv, ⟨C3, ⟨g3, F3, f3⟩, hh⟩, hn⟩
        · subst hv; subst hh; subst hn
          refine w_p (pc1 := 69) rfl rfl ?_
          refine w_t (a := 92) (b := 72) rfl rfl rfl ?_
          refine w_p (pc1 := 93) rfl rfl ?_
          refine w_je (pc1 := 96) (vs := [.ref 176]) (rest := []) (st1 := [.int 0]) (m_207n (d := _) M3 h3) rfl rfl rfl (fun _ _ => rfl) rfl (by exact cl_v my_207 rfl rfl rfl (Nat.le_of_ble_eq_true rfl) rfl (MH_obj rfl rfl) rfl (by decide) rfl rfl) (by rfl) (Nat.le_of_ble_eq_true rfl) (Nat.le_of_ble_eq_true rfl) rfl (by rfl) ?_
          refine w_f (a := 100) (b := 99) rfl rfl rfl ?_
          refine w_r rfl rfl rfl (fun _ _ => rfl) rfl ?_
          exact Or.inr ⟨rfl, ⟨_, ⟨2, i + 1 + 1, flS_n (pb_l hy) g3, FS_rb (FS_new M3 (by decide)), fW_t (fW_T f1) (fW_t (fW_I (Or.inl rfl)) (fW_t (fW_T f3) (fW_T frT_f)))⟩, rfl⟩, rfl⟩
        · subst hv; subst hh; subst hn
          exact d68f (FS_rb F3) (fun C9 F9 f9 => Or.inr ⟨rfl, ⟨_, ⟨1, i + 1 + 1, flS_1 (bdS_b ⟨2, if_neg (by show ¬ kd B n (i + 1 + 1) = 3; rw [g3]; decide)⟩) g3, F9, fW_t (fW_T f1) (fW_t (fW_I (Or.inl rfl)) (fW_t (fW_T f3) f9))⟩, rfl⟩, rfl⟩)
      · subst hv; subst hh; subst hn
        refine w_p (pc1 := 5) rfl rfl ?_
        refine w_m0 (pc1 := 8) rfl rfl (h_gI (j := 8) rfl rfl rfl rfl rfl) rfl ?_
        refine w_t (a := 36) (b := 11) (cb_ne_t (by exact FS_0 F1)) rfl rfl ?_
        exact d36f (FS_rb F1) (fun C9 F9 f9 => Or.inr ⟨rfl, ⟨_, ⟨1, i + 1, absurd h39 (by rw [g1]; decide), F9, fW_t (fW_T f1) f9⟩, rfl⟩, rfl⟩)
  have hx : rDrp (tkP B n) sc tr i nl = .inl (2, i + 1) := by
    unfold rDrp
    rw [if_neg (show ¬ (tkP B n).1 (i + 1) = 37 from h37), if_neg (show ¬ (tkP B n).1 (i + 1) = 39 from h39)]
  refine w_p (pc1 := 1) rfl rfl ?_
  refine w_ji (pc1 := 4) (vs := [.ref 176]) (rest := []) (nS (d := _) M (by rw [h2]; decide)) rfl rfl rfl (fun _ _ => rfl) rfl (by exact cl_v my_195 rfl rfl rfl (Nat.le_of_ble_eq_true rfl) rfl (MH_obj rfl rfl) rfl (by decide) rfl rfl) (by rfl) (Nat.le_of_ble_eq_true rfl) (Nat.le_of_ble_eq_true rfl) rfl (fun v h1 d1 hq => ?_) (fun _ _ _ e => e.elim)
  rcases hq with ⟨hv, ⟨C1, ⟨g1, M1, f1⟩, hh⟩, hn⟩ | ⟨hv, ⟨C1, ⟨g1, F1, f1⟩, hh⟩, hn⟩
  · subst hv; subst hh; subst hn
    refine w_p (pc1 := 5) rfl rfl ?_
    refine w_m0 (pc1 := 8) (st1 := .int 0 :: _) rfl rfl (h_gIe (j := 8) rfl rfl rfl rfl rfl (M1.2.1.2.1)) rfl ?_
    refine w_f (a := 36) (b := 11) rfl rfl rfl ?_
    refine w_p (pc1 := 12) rfl rfl ?_
    refine w_m0 (pc1 := 15) (st1 := .long 499850046565 :: _) rfl rfl rfl rfl ?_
    refine w_je (pc1 := 18) (vs := [.ref 176, .long 499850046565]) (rest := []) (st1 := [.int 0]) (m_205f (d := _) (sl := 0) ((wd_k (k := 37) M1.2.1 (by decide) (by decide)).trans (decide_eq_false h37))) rfl rfl rfl (fun _ _ => rfl) rfl (by exact cl_v my_205 rfl rfl rfl (Nat.le_of_ble_eq_true rfl) rfl (MH_obj rfl rfl) rfl (by decide) rfl rfl) (by rfl) (Nat.le_of_ble_eq_true rfl) (Nat.le_of_ble_eq_true rfl) rfl (by rfl) ?_
    refine w_f (a := 36) (b := 21) rfl rfl rfl ?_
    refine w_p (pc1 := 22) rfl rfl ?_
    refine w_m0 (pc1 := 25) (st1 := .long 32776894330398066 :: _) rfl rfl rfl rfl ?_
    refine w_je (pc1 := 28) (vs := [.ref 176, .long 32776894330398066]) (rest := []) (st1 := [.int 0]) (m_205f (d := _) (sl := 0) ((wd_k (k := 39) M1.2.1 (by decide) (by decide)).trans (decide_eq_false h39))) rfl rfl rfl (fun _ _ => rfl) rfl (by exact cl_v my_205 rfl rfl rfl (Nat.le_of_ble_eq_true rfl) rfl (MH_obj rfl rfl) rfl (by decide) rfl rfl) (by rfl) (Nat.le_of_ble_eq_true rfl) (Nat.le_of_ble_eq_true rfl) rfl (by rfl) ?_
    refine w_f (a := 36) (b := 31) rfl rfl rfl ?_
    refine w_p (pc1 := 32) rfl rfl ?_
    refine w_p (pc1 := 33) (st1 := .int 2 :: _) rfl rfl ?_
    refine w_je (pc1 := 36) (vs := [.ref 176, .int 2]) (rest := []) (st1 := []) (m_200 (d := _) (sl := 0) (fun z => absurd M1.2.1.2.1 z)) rfl rfl rfl (fun _ _ => rfl) rfl (by exact cl_v my_200 rfl rfl rfl (Nat.le_of_ble_eq_true rfl) rfl (MH_obj rfl rfl) rfl (by decide) rfl rfl) (by rfl) (Nat.le_of_ble_eq_true rfl) (Nat.le_of_ble_eq_true rfl) rfl (by rfl) ?_
    exact d36f (FS_rb (FS_new (c := 2) M1 (by decide))) (fun C9 F9 f9 => Or.inr ⟨rfl, ⟨_, ⟨2, i + 1, flS_n hx g1, F9, fW_t (fW_T f1) (fW_t (fW_T frT_f) f9)⟩, rfl⟩, rfl⟩)
  · subst hv; subst hh; subst hn
    refine w_p (pc1 := 5) rfl rfl ?_
    refine w_m0 (pc1 := 8) rfl rfl (h_gI (j := 8) rfl rfl rfl rfl rfl) rfl ?_
    refine w_t (a := 36) (b := 11) (cb_ne_t (by exact FS_0 F1)) rfl rfl ?_
    exact d36f (FS_rb F1) (fun C9 F9 f9 => Or.inr ⟨rfl, ⟨_, ⟨1, i + 1, flS_1 ⟨2, hx⟩ g1, F9, fW_t (fW_T f1) f9⟩, rfl⟩, rfl⟩)
end MSN
