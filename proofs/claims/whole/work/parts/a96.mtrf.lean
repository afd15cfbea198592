
/-! THE OTHER SIDE READS STATEMENTS, 11: a trigger, behind a fault -/
section MSG
variable {L : Nat} {xs : Nat → Int32} {B : Nat → Nat} {n : Nat} {C C' C0 C1 : co_T} {t : ab_H} {d i i0 i1 j b e p k w q : Nat} {U V : Nat → Prop} {c : Int32} {sc : sc_T} {row : Option Nat} {tg : Option (Nat × Nat)} {nl : Option Nat} {E : fe_T} {tr : Nat → Option tr_T}
variable {g ti : Nat} {pp : Nat × Nat} {P : Option Value → ab_H → Nat → Prop} {v : Int32}

set_option maxRecDepth 100000 in
theorem fz_399 (hg : g < 8) (hU : U (32 + g)) (F : FS B n U V C0 C c i) (H : ∀ C', FS B n U V C0 C' c i → P none (MH C' t) 0) : Wd L xs (d + 2) y_236 (399, [(1, .int (nI g)), (0, .ref 176)], [], MH C t, 0) P nX := by
  have h0 := FS_0 F
  refine w_p (pc1 := 400) rfl rfl ?_
  refine w_m0 (pc1 := 403) (st1 := .long 25711 :: _) rfl rfl rfl rfl ?_
  refine w_je (pc1 := 406) (vs := [.ref 176, .long 25711]) (rest := []) (st1 := []) (m_219f (d := _) F) rfl rfl rfl (fun _ _ => rfl) rfl (by exact cl_v my_219 rfl rfl rfl (Nat.le_of_ble_eq_true rfl) rfl (MH_obj rfl rfl) rfl (by decide) rfl rfl) (by rfl) (Nat.le_of_ble_eq_true rfl) (Nat.le_of_ble_eq_true rfl) rfl (by rfl) ?_
  refine w_p (pc1 := 407) rfl rfl ?_
  refine w_m0 (pc1 := 410) rfl rfl (h_gI (j := 8) rfl rfl rfl rfl rfl) rfl ?_
  refine w_t (a := 418) (b := 413) (cb_ne_t (by exact h0)) rfl rfl ?_
  refine w_p (pc1 := 419) rfl rfl ?_
  refine w_m0 (pc1 := 422) rfl rfl (h_gC rfl rfl rfl rfl) rfl ?_
  refine w_p (pc1 := 423) rfl rfl ?_
  refine w_p (pc1 := 424) rfl rfl ?_
  refine w_m0 (pc1 := 427) rfl rfl (h_gI (j := 42) rfl rfl rfl rfl rfl) rfl ?_
  refine w_m0 (pc1 := 428) rfl rfl (n_is (e := g) rfl rfl rfl (by omega)) rfl ?_
  refine w_r rfl rfl rfl (fun _ _ => rfl) rfl ?_
  exact H _ (FS_I F (sx_g hU (by omega)) (by omega))
set_option maxRecDepth 100000 in
theorem fz_328 (hg : g < 8) (hU : U (32 + g)) (F : FS B n U V C0 C c i) (H : ∀ C', FS B n U V C0 C' c i → P none (MH C' t) 0) : Wd L xs (d + 2) y_236 (328, [(1, .int (nI g)), (0, .ref 176)], [], MH C t, 0) P nX := by
  have h0 := FS_0 F
  refine w_p (pc1 := 329) rfl rfl ?_
  refine w_m0 (pc1 := 332) rfl rfl (h_gC rfl rfl rfl rfl) rfl ?_
  refine w_p (pc1 := 333) rfl rfl ?_
  refine w_p (pc1 := 334) rfl rfl ?_
  refine w_m0 (pc1 := 337) rfl rfl (h_gI (j := 8) rfl rfl rfl rfl rfl) rfl ?_
  refine w_t (a := 354) (b := 340) (cb_ne_t (by exact h0)) rfl rfl ?_
  refine w_p (pc1 := 355) (st1 := .int 0 :: _) rfl rfl ?_
  refine w_m0 (pc1 := 356) rfl rfl (n_bs (e := g) rfl rfl (by decide) rfl (by omega)) rfl ?_
  refine w_p (pc1 := 357) rfl rfl ?_
  refine w_m0 (pc1 := 360) rfl rfl (h_gC rfl rfl rfl rfl) rfl ?_
  refine w_p (pc1 := 361) rfl rfl ?_
  refine w_m0 (pc1 := 362) (st1 := .int 0 :: _) rfl rfl (n_ble (e := g) rfl rfl (by decide) rfl (by omega) (by rw [sI_1, if_pos ⟨rfl, rfl⟩]; rfl)) rfl ?_
  refine w_t (a := 399) (b := 365) rfl rfl rfl ?_
  exact fz_399 hg hU (FS_I F (sx_g hU (by omega)) (by omega)) H
set_option maxRecDepth 100000 in
theorem fz_270 (hg : g < 8) (hU : U (32 + g)) (F : FS B n U V C0 C c i) (H : ∀ C', FS B n U V C0 C' c i → P none (MH C' t) 0) : Wd L xs (d + 2) y_236 (270, [(1, .int (nI g)), (0, .ref 176)], [.int v, .int (nI g), .ref 197], MH C t, 0) P nX := by
  have h0 := FS_0 F
  refine w_m0 (pc1 := 271) rfl rfl (n_is (e := g) rfl rfl rfl (by omega)) rfl ?_
  refine w_p (pc1 := 272) rfl rfl ?_
  refine w_p (pc1 := 273) (st1 := .int 1 :: _) rfl rfl ?_
  refine w_m0 (pc1 := 276) rfl rfl (h_pI (j := 44) rfl rfl rfl rfl rfl rfl rfl ⟨rfl, rfl⟩ rfl) rfl ?_
  refine w_p (pc1 := 277) rfl rfl ?_
  refine w_p (pc1 := 278) rfl rfl ?_
  refine w_m0 (pc1 := 281) rfl rfl (h_gC rfl rfl rfl rfl) rfl ?_
  refine w_p (pc1 := 282) rfl rfl ?_
  refine w_m0 (pc1 := 283) rfl rfl (n_il (e := g) rfl rfl rfl (by omega)) rfl ?_
  refine w_m0 (pc1 := 286) rfl rfl (h_pI (j := 47) rfl rfl rfl rfl rfl rfl rfl ⟨rfl, rfl⟩ rfl) rfl ?_
  refine w_p (pc1 := 287) rfl rfl ?_
  refine w_p (pc1 := 288) rfl rfl ?_
  refine w_m0 (pc1 := 291) rfl rfl (h_gC rfl rfl rfl rfl) rfl ?_
  refine w_p (pc1 := 292) rfl rfl ?_
  refine w_m0 (pc1 := 293) rfl rfl (n_il (e := g) rfl rfl rfl (by omega)) rfl ?_
  refine w_p (pc1 := 294) (st1 := .int 2 :: _) rfl rfl ?_
  refine w_b (a := 301) (b := 297) rfl rfl (fun c294 => ?_) (fun c294 => ?_)
  · replace c294 := ck_ge_t (n := 2) rfl c294
    refine w_p (pc1 := 302) (st1 := .int 0 :: _) rfl rfl ?_
    refine w_m0 (pc1 := 305) rfl rfl (h_pI (j := 48) rfl rfl rfl rfl rfl rfl rfl ⟨rfl, rfl⟩ rfl) rfl ?_
    refine w_p (pc1 := 306) rfl rfl ?_
    refine w_p (pc1 := 307) rfl rfl ?_
    refine w_m0 (pc1 := 310) rfl rfl (h_gC rfl rfl rfl rfl) rfl ?_
    refine w_p (pc1 := 311) rfl rfl ?_
    refine w_m0 (pc1 := 312) rfl rfl (n_il (e := g) rfl rfl rfl (by omega)) rfl ?_
    refine w_b (a := 319) (b := 315) rfl rfl (fun c312 => ?_) (fun c312 => ?_)
    · replace c312 := ck_le_t (n := 0) rfl c312
      refine w_p (pc1 := 320) (st1 := .int 0 :: _) rfl rfl ?_
      refine w_m0 (pc1 := 323) rfl rfl (h_pI (j := 49) rfl rfl rfl rfl rfl rfl rfl ⟨rfl, rfl⟩ rfl) rfl ?_
      refine w_p (pc1 := 324) rfl rfl ?_
      refine w_p (pc1 := 325) (st1 := .int (-1) :: _) rfl rfl ?_
      refine w_m0 (pc1 := 328) rfl rfl (h_pI (j := 46) rfl rfl rfl rfl rfl rfl rfl ⟨rfl, rfl⟩ rfl) rfl ?_
      exact fz_328 hg hU (FS_I (FS_I (FS_I (FS_I (FS_I (FS_I F (sx_g hU (by omega)) (by omega)) (sx_76 (by omega)) (by omega)) (sx_76 (by omega)) (by omega)) (sx_76 (by omega)) (by omega)) (sx_76 (by omega)) (by omega)) (sx_76 (by omega)) (by omega)) H
    · replace c312 := ck_le_f (n := 0) rfl c312
      refine w_p (pc1 := 316) (st1 := .int 1 :: _) rfl rfl ?_
      refine w_p (pc1 := 320) rfl rfl ?_
      refine w_m0 (pc1 := 323) rfl rfl (h_pI (j := 49) rfl rfl rfl rfl rfl rfl rfl ⟨rfl, rfl⟩ rfl) rfl ?_
      refine w_p (pc1 := 324) rfl rfl ?_
      refine w_p (pc1 := 325) (st1 := .int (-1) :: _) rfl rfl ?_
      refine w_m0 (pc1 := 328) rfl rfl (h_pI (j := 46) rfl rfl rfl rfl rfl rfl rfl ⟨rfl, rfl⟩ rfl) rfl ?_
      exact fz_328 hg hU (FS_I (FS_I (FS_I (FS_I (FS_I (FS_I F (sx_g hU (by omega)) (by omega)) (sx_76 (by omega)) (by omega)) (sx_76 (by omega)) (by omega)) (sx_76 (by omega)) (by omega)) (sx_76 (by omega)) (by omega)) (sx_76 (by omega)) (by omega)) H
  · replace c294 := ck_ge_f (n := 2) rfl c294
    refine w_p (pc1 := 298) (st1 := .int 1 :: _) rfl rfl ?_
    refine w_p (pc1 := 302) rfl rfl ?_
    refine w_m0 (pc1 := 305) rfl rfl (h_pI (j := 48) rfl rfl rfl rfl rfl rfl rfl ⟨rfl, rfl⟩ rfl) rfl ?_
    refine w_p (pc1 := 306) rfl rfl ?_
    refine w_p (pc1 := 307) rfl rfl ?_
    refine w_m0 (pc1 := 310) rfl rfl (h_gC rfl rfl rfl rfl) rfl ?_
    refine w_p (pc1 := 311) rfl rfl ?_
    refine w_m0 (pc1 := 312) rfl rfl (n_il (e := g) rfl rfl rfl (by omega)) rfl ?_
    refine w_b (a := 319) (b := 315) rfl rfl (fun c312 => ?_) (fun c312 => ?_)
    · replace c312 := ck_le_t (n := 0) rfl c312
      refine w_p (pc1 := 320) (st1 := .int 0 :: _) rfl rfl ?_
      refine w_m0 (pc1 := 323) rfl rfl (h_pI (j := 49) rfl rfl rfl rfl rfl rfl rfl ⟨rfl, rfl⟩ rfl) rfl ?_
      refine w_p (pc1 := 324) rfl rfl ?_
      refine w_p (pc1 := 325) (st1 := .int (-1) :: _) rfl rfl ?_
      refine w_m0 (pc1 := 328) rfl rfl (h_pI (j := 46) rfl rfl rfl rfl rfl rfl rfl ⟨rfl, rfl⟩ rfl) rfl ?_
      exact fz_328 hg hU (FS_I (FS_I (FS_I (FS_I (FS_I (FS_I F (sx_g hU (by omega)) (by omega)) (sx_76 (by omega)) (by omega)) (sx_76 (by omega)) (by omega)) (sx_76 (by omega)) (by omega)) (sx_76 (by omega)) (by omega)) (sx_76 (by omega)) (by omega)) H
    · replace c312 := ck_le_f (n := 0) rfl c312
      refine w_p (pc1 := 316) (st1 := .int 1 :: _) rfl rfl ?_
      refine w_p (pc1 := 320) rfl rfl ?_
      refine w_m0 (pc1 := 323) rfl rfl (h_pI (j := 49) rfl rfl rfl rfl rfl rfl rfl ⟨rfl, rfl⟩ rfl) rfl ?_
      refine w_p (pc1 := 324) rfl rfl ?_
      refine w_p (pc1 := 325) (st1 := .int (-1) :: _) rfl rfl ?_
      refine w_m0 (pc1 := 328) rfl rfl (h_pI (j := 46) rfl rfl rfl rfl rfl rfl rfl ⟨rfl, rfl⟩ rfl) rfl ?_
      exact fz_328 hg hU (FS_I (FS_I (FS_I (FS_I (FS_I (FS_I F (sx_g hU (by omega)) (by omega)) (sx_76 (by omega)) (by omega)) (sx_76 (by omega)) (by omega)) (sx_76 (by omega)) (by omega)) (sx_76 (by omega)) (by omega)) (sx_76 (by omega)) (by omega)) H
set_option maxRecDepth 100000 in
theorem fz_250 (hg : g < 8) (hU : U (32 + g)) (F : FS B n U V C0 C c i) (H : ∀ C', FS B n U V C0 C' c i → P none (MH C' t) 0) : Wd L xs (d + 2) y_236 (250, [(1, .int (nI g)), (0, .ref 176)], [], MH C t, 0) P nX := by
  have h0 := FS_0 F
  refine w_p (pc1 := 251) rfl rfl ?_
  refine w_m0 (pc1 := 254) rfl rfl (h_gC rfl rfl rfl rfl) rfl ?_
  refine w_p (pc1 := 255) rfl rfl ?_
  refine w_p (pc1 := 256) rfl rfl ?_
  refine w_m0 (pc1 := 259) rfl rfl (h_gI (j := 8) rfl rfl rfl rfl rfl) rfl ?_
  refine w_t (a := 269) (b := 262) (cb_ne_t (by exact h0)) rfl rfl ?_
  refine w_p (pc1 := 270) (st1 := .int 0 :: _) rfl rfl ?_
  exact fz_270 hg hU F H
set_option maxRecDepth 100000 in
theorem fz_243 (hg : g < 8) (hU : U (32 + g)) (F : FS B n U V C0 C c i) (H : ∀ C', FS B n U V C0 C' c i → P none (MH C' t) 0) : Wd L xs (d + 2) y_236 (243, [(1, .int (nI g)), (0, .ref 176)], [], MH C t, 0) P nX := by
  have h0 := FS_0 F
  refine w_p (pc1 := 244) rfl rfl ?_
  refine w_m0 (pc1 := 247) (st1 := .long 28526 :: _) rfl rfl rfl rfl ?_
  refine w_je (pc1 := 250) (vs := [.ref 176, .long 28526]) (rest := []) (st1 := []) (m_219f (d := _) F) rfl rfl rfl (fun _ _ => rfl) rfl (by exact cl_v my_219 rfl rfl rfl (Nat.le_of_ble_eq_true rfl) rfl (MH_obj rfl rfl) rfl (by decide) rfl rfl) (by rfl) (Nat.le_of_ble_eq_true rfl) (Nat.le_of_ble_eq_true rfl) rfl (by rfl) ?_
  exact fz_250 hg hU F H
set_option maxRecDepth 100000 in
theorem fz_231 (hg : g < 8) (hU : U (32 + g)) (F : FS B n U V C0 C c i) (H : ∀ C', FS B n U V C0 C' c i → P none (MH C' t) 0) : Wd L xs (d + 2) y_236 (231, [(1, .int (nI g)), (0, .ref 176)], [.int v, .int (nI g), .ref 199], MH C t, 0) P nX := by
  have h0 := FS_0 F
  refine w_m0 (pc1 := 232) rfl rfl (n_is (e := g) rfl rfl rfl (by omega)) rfl ?_
  refine w_p (pc1 := 233) rfl rfl ?_
  refine w_m0 (pc1 := 236) rfl rfl (h_gI (j := 8) rfl rfl rfl rfl rfl) rfl ?_
  refine w_t (a := 243) (b := 239) (cb_ne_t (by exact h0)) rfl rfl ?_
  exact fz_243 hg hU (FS_I F (sx_g hU (by omega)) (by omega)) H
set_option maxRecDepth 100000 in
theorem fz_197 (hg : g < 8) (hU : U (32 + g)) (F : FS B n U V C0 C c i) (H : ∀ C', FS B n U V C0 C' c i → P none (MH C' t) 0) : Wd L xs (d + 2) y_236 (197, [(1, .int (nI g)), (0, .ref 176)], [], MH C t, 0) P nX := by
  have h0 := FS_0 F
  refine w_p (pc1 := 198) rfl rfl ?_
  refine w_m0 (pc1 := 201) rfl rfl (h_gC rfl rfl rfl rfl) rfl ?_
  refine w_p (pc1 := 202) rfl rfl ?_
  refine w_p (pc1 := 203) rfl rfl ?_
  refine w_m0 (pc1 := 206) (st1 := .long 115923103347316 :: _) rfl rfl rfl rfl ?_
  refine w_je (pc1 := 209) (vs := [.ref 176, .long 115923103347316]) (rest := [.int (nI (g)), .ref 199]) (st1 := [.int (bif wdC _ _ then 1 else 0), .int (nI (g)), .ref 199]) (m_205 (d := _) (sl := 0)) rfl rfl rfl (fun _ _ => rfl) rfl (by exact cl_v my_205 rfl rfl rfl (Nat.le_of_ble_eq_true rfl) rfl (MH_obj rfl rfl) rfl (by decide) rfl rfl) (by rfl) (Nat.le_of_ble_eq_true rfl) (Nat.le_of_ble_eq_true rfl) rfl (by rfl) ?_
  refine w_b (a := 216) (b := 212) rfl rfl (fun c209 => ?_) (fun c209 => ?_)
  · replace c209 := cc_eq_t c209
    refine w_p (pc1 := 217) rfl rfl ?_
    refine w_m0 (pc1 := 220) (st1 := .long 129125580895333 :: _) rfl rfl rfl rfl ?_
    refine w_je (pc1 := 223) (vs := [.ref 176, .long 129125580895333]) (rest := [.int (nI (g)), .ref 199]) (st1 := [.int (bif wdC _ _ then 1 else 0), .int (nI (g)), .ref 199]) (m_205 (d := _) (sl := 0)) rfl rfl rfl (fun _ _ => rfl) rfl (by exact cl_v my_205 rfl rfl rfl (Nat.le_of_ble_eq_true rfl) rfl (MH_obj rfl rfl) rfl (by decide) rfl rfl) (by rfl) (Nat.le_of_ble_eq_true rfl) (Nat.le_of_ble_eq_true rfl) rfl (by rfl) ?_
    refine w_b (a := 230) (b := 226) rfl rfl (fun c223 => ?_) (fun c223 => ?_)
    · replace c223 := cc_eq_t c223
      refine w_p (pc1 := 231) (st1 := .int 2 :: _) rfl rfl ?_
      exact fz_231 hg hU F H
    · replace c223 := cc_eq_f c223
      refine w_p (pc1 := 227) (st1 := .int 1 :: _) rfl rfl ?_
      refine w_p (pc1 := 231) rfl rfl ?_
      exact fz_231 hg hU F H
  · replace c209 := cc_eq_f c209
    refine w_p (pc1 := 213) (st1 := .int 0 :: _) rfl rfl ?_
    refine w_p (pc1 := 231) rfl rfl ?_
    exact fz_231 hg hU F H
set_option maxRecDepth 100000 in
theorem fz_143 (hg : g < 8) (hU : U (32 + g)) (F : FS B n U V C0 C c i) (H : ∀ C', FS B n U V C0 C' c i → P none (MH C' t) 0) : Wd L xs (d + 2) y_236 (143, [(1, .int (nI g)), (0, .ref 176)], [.int v, .int (nI g), .ref 198], MH C t, 0) P nX := by
  have h0 := FS_0 F
  refine w_m0 (pc1 := 144) rfl rfl (n_is (e := g) rfl rfl rfl (by omega)) rfl ?_
  refine w_p (pc1 := 145) rfl rfl ?_
  refine w_m0 (pc1 := 148) rfl rfl (h_gI (j := 8) rfl rfl rfl rfl rfl) rfl ?_
  refine w_t (a := 155) (b := 151) (cb_ne_t (by exact h0)) rfl rfl ?_
  refine w_p (pc1 := 156) rfl rfl ?_
  refine w_m0 (pc1 := 159) rfl rfl (h_gI (j := 8) rfl rfl rfl rfl rfl) rfl ?_
  refine w_t (a := 197) (b := 162) (cb_ne_t (by exact h0)) rfl rfl ?_
  exact fz_197 hg hU (FS_I F (sx_g hU (by omega)) (by omega)) H
set_option maxRecDepth 100000 in
theorem fz_155 (hg : g < 8) (hU : U (32 + g)) (F : FS B n U V C0 C c i) (H : ∀ C', FS B n U V C0 C' c i → P none (MH C' t) 0) : Wd L xs (d + 2) y_236 (155, [(1, .int (nI g)), (0, .ref 176)], [], MH C t, 0) P nX := by
  have h0 := FS_0 F
  refine w_p (pc1 := 156) rfl rfl ?_
  refine w_m0 (pc1 := 159) rfl rfl (h_gI (j := 8) rfl rfl rfl rfl rfl) rfl ?_
  refine w_t (a := 197) (b := 162) (cb_ne_t (by exact h0)) rfl rfl ?_
  exact fz_197 hg hU F H
set_option maxRecDepth 100000 in
theorem fz_123 (hg : g < 8) (hU : U (32 + g)) (F : FS B n U V C0 C c i) (H : ∀ C', FS B n U V C0 C' c i → P none (MH C' t) 0) : Wd L xs (d + 2) y_236 (123, [(1, .int (nI g)), (0, .ref 176)], [], MH C t, 0) P nX := by
  have h0 := FS_0 F
  refine w_p (pc1 := 124) rfl rfl ?_
  refine w_m0 (pc1 := 127) rfl rfl (h_gC rfl rfl rfl rfl) rfl ?_
  refine w_p (pc1 := 128) rfl rfl ?_
  refine w_p (pc1 := 129) rfl rfl ?_
  refine w_m0 (pc1 := 132) (st1 := .long 108187649798757 :: _) rfl rfl rfl rfl ?_
  refine w_je (pc1 := 135) (vs := [.ref 176, .long 108187649798757]) (rest := [.int (nI (g)), .ref 198]) (st1 := [.int (bif wdC _ _ then 1 else 0), .int (nI (g)), .ref 198]) (m_205 (d := _) (sl := 0)) rfl rfl rfl (fun _ _ => rfl) rfl (by exact cl_v my_205 rfl rfl rfl (Nat.le_of_ble_eq_true rfl) rfl (MH_obj rfl rfl) rfl (by decide) rfl rfl) (by rfl) (Nat.le_of_ble_eq_true rfl) (Nat.le_of_ble_eq_true rfl) rfl (by rfl) ?_
  refine w_b (a := 142) (b := 138) rfl rfl (fun c135 => ?_) (fun c135 => ?_)
  · replace c135 := cc_eq_t c135
    refine w_p (pc1 := 143) (st1 := .int 1 :: _) rfl rfl ?_
    exact fz_143 hg hU F H
  · replace c135 := cc_eq_f c135
    refine w_p (pc1 := 139) (st1 := .int 0 :: _) rfl rfl ?_
    refine w_p (pc1 := 143) rfl rfl ?_
    exact fz_143 hg hU F H
set_option maxRecDepth 100000 in
theorem fz_91 (hg : g < 8) (hU : U (32 + g)) (F : FS B n U V C0 C c i) (H : ∀ C', FS B n U V C0 C' c i → P none (MH C' t) 0) : Wd L xs (d + 2) y_236 (91, [(1, .int (nI g)), (0, .ref 176)], [], MH C t, 0) P nX := by
  have h0 := FS_0 F
  refine w_p (pc1 := 92) rfl rfl ?_
  refine w_m0 (pc1 := 95) rfl rfl (h_gI (j := 8) rfl rfl rfl rfl rfl) rfl ?_
  refine w_t (a := 123) (b := 98) (cb_ne_t (by exact h0)) rfl rfl ?_
  exact fz_123 hg hU F H
end MSG
