
/-! THE OTHER SIDE READS STATEMENTS, 2: formulas in them -/
section MSF
variable {L : Nat} {xs : Nat → Int32} {B : Nat → Nat} {n : Nat} {C C' C0 C1 : co_T} {t : ab_H} {d i i0 i1 j b e p k w q : Nat} {U V : Nat → Prop} {c : Int32} {sc : sc_T} {row : Option Nat} {tg : Option (Nat × Nat)} {nl : Option Nat} {E : fe_T} {tr : Nat → Option tr_T}
/-! table b as the other side keeps it -/
def TBM (C : co_T) (sc : sc_T) (b : Nat) : Prop := b < 6 ∧ C.1 80 b = nI (sc.2.1 b) ∧ sc.2.1 b ≤ 6 ∧ ∀ c, c < sc.2.1 b → C.2.1 81 (6 * b + c) = sc.2.2 b c
set_option maxRecDepth 100000 in
theorem TBM_S (S : SCM C sc) (hb : b < 6) (hz : sc.1 b ≠ 0) : TBM C sc b := ⟨hb, ((S b hb).2 hz).2⟩
set_option maxRecDepth 100000 in
theorem TBM_c (H : TBM C sc b) (v : Int64) : fnd (fun j => decide (C.2.1 81 (6 * b + j) = v)) (sc.2.1 b) 0 = clF sc b v := fnd_c _ 0 (fun j _ hj => by
  show decide (C.2.1 81 (6 * b + j) = v) = _
  rw [H.2.2.2 j (by omega)])
def RXM (C : co_T) (sc : sc_T) (row : Option Nat) (tg : Option (Nat × Nat)) : Prop := C.1 76 46 = tgI row ∧ C.1 76 47 = tgI (tg.map Prod.fst) ∧ ((C.1 76 48 = 0 ∨ C.1 76 48 = 1) ∧ (C.1 76 49 = 0 ∨ C.1 76 49 = 1)) ∧ (∀ b, row = some b → TBM C sc b) ∧ (∀ p, tg = some p → TBM C sc p.1 ∧ (C.1 76 48 = 1 ↔ p.2 ≠ 2) ∧ (C.1 76 49 = 1 ↔ p.2 ≠ 0))
set_option maxRecDepth 100000 in
theorem RX_col (H : TBM C sc b) : colM C (nI b) (some (clF sc b)) := ⟨b, sc.2.1 b, rfl, H.1, H.2.2.1, H.2.1, funext (fun v => (TBM_c H v).symm)⟩
set_option maxRecDepth 100000 in
theorem eM_R (R : RXM C sc row tg) : eM B n C (fE (tkP B n) sc row tg) := by
  obtain ⟨h1, h2, h3, h4, h5⟩ := R
  refine ⟨rfl, rfl, ?_, ?_, ?_, ?_, h3⟩
  · rw [h1]
    cases row with
    | none => rfl
    | some b => exact RX_col (h4 b rfl)
  · rw [h2]
    cases tg with
    | none => rfl
    | some p => exact RX_col (h5 p rfl).1
  · cases tg with
    | none =>
      show false = true ↔ _
      rw [h2]
      exact ⟨fun e => (by cases e), fun e => absurd rfl e.1⟩
    | some p =>
      show decide (p.2 ≠ 2) = true ↔ _
      have h6 := h5 p rfl
      have h7 : C.1 76 47 ≠ -1 := by rw [h2]; exact nK_m1 (by have := h6.1.1; omega)
      rw [decide_eq_true_iff]
      exact ⟨fun e => ⟨h7, h6.2.1.mpr e⟩, fun e => h6.2.1.mp e.2⟩
  · cases tg with
    | none =>
      show false = true ↔ _
      rw [h2]
      exact ⟨fun e => (by cases e), fun e => absurd rfl e.1⟩
    | some p =>
      show decide (p.2 ≠ 0) = true ↔ _
      have h6 := h5 p rfl
      have h7 : C.1 76 47 ≠ -1 := by rw [h2]; exact nK_m1 (by have := h6.1.1; omega)
      rw [decide_eq_true_iff]
      exact ⟨fun e => ⟨h7, h6.2.2.mpr e⟩, fun e => h6.2.2.mp e.2⟩
set_option maxRecDepth 100000 in
theorem TBM_o (H : TBM C sc b) (h8 : ∀ j, C'.1 80 j = C.1 80 j) (h9 : ∀ j, C'.2.1 81 j = C.2.1 81 j) : TBM C' sc b := ⟨H.1, (h8 b).trans H.2.1, H.2.2.1, fun c hc => (h9 _).trans (H.2.2.2 c hc)⟩
set_option maxRecDepth 100000 in
theorem RXM_o (R : RXM C sc row tg) (h6 : ∀ j, 46 ≤ j → j ≤ 49 → C'.1 76 j = C.1 76 j) (h8 : ∀ j, C'.1 80 j = C.1 80 j) (h9 : ∀ j, C'.2.1 81 j = C.2.1 81 j) : RXM C' sc row tg := by
  obtain ⟨h1, h2, h3, h4, h5⟩ := R
  refine ⟨(h6 46 (by omega) (by omega)).trans h1, (h6 47 (by omega) (by omega)).trans h2, ?_, fun b e => TBM_o (h4 b e) h8 h9, fun p e => ?_⟩
  · rw [h6 48 (by omega) (by omega), h6 49 (by omega) (by omega)]
    exact h3
  · rw [h6 48 (by omega) (by omega), h6 49 (by omega) (by omega)]
    exact ⟨TBM_o (h5 p e).1 h8 h9, (h5 p e).2⟩
set_option maxRecDepth 100000 in
theorem RXM_T (R : RXM C sc row tg) (h : frT C C') : RXM C' sc row tg := RXM_o R (fun j _ _ => h.1 76 j (by omega)) (fun j => h.1 80 j (by omega)) (fun j => h.2.1 81 j (by omega))
set_option maxRecDepth 100000 in
theorem RXM_G {wb : Nat} (R : RXM C sc row tg) (h : frG p b wb C C') : RXM C' sc row tg := RXM_o R (fun j _ _ => h.1 76 j (by omega) (by omega) (by omega)) (fun j => h.1 80 j (by omega) (by omega) (by omega)) (fun j => h.2.1 81 j (by omega) (by omega) (by omega))
set_option maxRecDepth 100000 in
theorem MS_MT (M : MS B n U V C0 C i nl) (hp : C.1 76 40 = nI p) (hp4 : p ≤ 40) (hu : C.1 76 41 = nI b) (hb : b ≤ i + 1) : MT B n C C p b 0 1 (i, [], 0, nl) [] :=
  ⟨⟨M.1, M.2.1, ⟨hp, hp4⟩, hu, fun j q h => (by cases h), M.2.2.2.1.1, Nat.zero_le _, M.2.2.1, M.2.2.2.1.2, fun j q h => (by cases h), (by show b + 0 + (0 + 0) ≤ i + 1; omega), by decide, MS_6 M, frG_r⟩, M.2.2.2.2.1.1⟩
set_option maxRecDepth 100000 in
theorem FM_S {f : Nat} (M : MS B n U V C0 C i nl) (hU : U p) (hc : 0 < c.toInt) (F : FM B n C C' p b 0 f c j) : FS B n U V C0 C' c j := ⟨F.1, F.2.1, F.2.2.2.2.2.1, fSy_t M.2.2.2.2.2 (fSy_G hU F.2.2.2.2.2.2.2), hc⟩
/-! a formula is read -/
def PFo (B : Nat → Nat) (n : Nat) (U V : Nat → Prop) (C0 C : co_T) (t : ab_H) (p b : Nat) (r : pz_T (List op_T × Nat × Option Nat)) : Option Value → ab_H → Nat → Prop := fun v h m => (none = v ∧ (∃ C', (∃ l i' nl', r = .inr (l, i', nl') ∧ kd B n i' ≠ 1 ∧ MS B n U V C0 C' i' nl' ∧ (C'.1 76 40 = nI p ∧ C'.1 76 41 = nI (b + l.length)) ∧ foM C' p b l ∧ b + l.length ≤ i' + 1 ∧ frG p b 0 C C') ∧ MH C' t = h) ∧ 0 = m) ∨ (none = v ∧ (∃ C', (∃ c j, flS B n (fun x : List op_T × Nat × Option Nat => x.2.1) r c j ∧ FS B n U V C0 C' c j ∧ C'.1 76 40 = nI p ∧ (∃ u, C'.1 76 41 = nI u ∧ u ≤ 615)) ∧ MH C' t = h) ∧ 0 = m)
set_option maxRecDepth 100000 in
theorem fm_ct {md : Nat} (M : MS B n U V C0 C i nl) (hE : E.1 = kd B n) (hmd : md = 3 ∨ md = 8) : ct B n (rd E 6000 md (i, [], 0, nl)) (fun z => rd E 6000 md (i, [], 0, nl) = .inr z) (fun c j => flS B n (fun x : List op_T × Nat × Option Nat => x.2.1) (rFm E md i nl) c j) := by
  obtain ⟨m, hm, h6, hi⟩ := M.2.2.2.2.1.2
  have hz := rFm_z (nl := nl) hE hm h6 hi hmd
  unfold rFm at hz ⊢
  cases hr : rd E 6000 md (i, [], 0, nl) with
  | inl q =>
    rw [hr] at hz
    exact ⟨fun e => hz q.2 (by rw [show q = (0, q.2) from Prod.ext e rfl]), rfl, rfl⟩
  | inr z => exact ⟨fun h => ⟨rfl, h, rfl⟩, fun _ => rfl⟩
set_option maxRecDepth 100000 in
theorem fm_oS {md : Nat} {z : fs_T} (M : MS B n U V C0 C i nl) (hU : U p) (hE : E.1 = kd B n) (hmd : md = 3 ∨ md = 8) (hr : rd E 6000 md (i, [], 0, nl) = .inr z) (K : MT B n C C' p b 0 1 z []) : rFm E md i nl = .inr (z.2.1, z.1, z.2.2.2) ∧ kd B n z.1 ≠ 1 ∧ MS B n U V C0 C' z.1 z.2.2.2 ∧ (C'.1 76 40 = nI p ∧ C'.1 76 41 = nI (b + z.2.1.length)) ∧ foM C' p b z.2.1 ∧ b + z.2.1.length ≤ z.1 + 1 ∧ frG p b 0 C C' := by
  have hx : rFm E md i nl = .inr (z.2.1, z.1, z.2.2.2) := by unfold rFm; rw [hr]
  obtain ⟨⟨T, R, hp, hu, ho, hq, h10, hL, hw, hW, hb, he, hi, hf⟩, ht⟩ := K
  have hq0 : z.2.2.1 = 0 := (rd_fle _ _ _ _ hr).2.2
  obtain ⟨m, hm, h6, him⟩ := M.2.2.2.2.1.2
  have h7 := (rFm_m hE hm him hmd hx).2
  refine ⟨hx, R.1, ⟨T, R, hL, ⟨?_, hw⟩, ⟨ht, m, hm, h6, h7⟩, fSy_t M.2.2.2.2.2 (fSy_G hU hf)⟩, ⟨hp.1, hu⟩, ho, ?_, hf⟩
  · rw [hq, hq0]
    rfl
  · have hb : b + z.2.1.length + (0 + 0) ≤ z.1 + 1 := hb
    omega
set_option maxRecDepth 100000 in
theorem sumS (M : MS B n U V C0 C i nl) (hp : C.1 76 40 = nI p) (hp4 : p ≤ 40) (hu : C.1 76 41 = nI b) (hb : b ≤ i + 1) (hU : U p) (hE : eM B n C E) : Wd L xs (d + 7) y_228 (0, [(0, .ref 176)], [], MH C t, 0) (PFo B n U V C0 C t p b (rFm E 3 i nl)) nX := by
  refine Wd_q (sumM (e := 0) hE (by decide) (MS_MT M hp hp4 hu hb) (ct_p (rd_cd _ _ _) (fm_ct M hE.1 (Or.inl rfl)))) (fun v h m hq => ?_) (fun _ _ _ e => e)
  obtain ⟨hv, ⟨C', hc, hh⟩, hn⟩ := hq
  rcases hc with ⟨z, hr, K⟩ | ⟨c, j, hk, F⟩
  · exact Or.inl ⟨hv, ⟨C', ⟨_, _, _, fm_oS M hU hE.1 (Or.inl rfl) hr K⟩, hh⟩, hn⟩
  · obtain ⟨u, hu1, _, hu3⟩ := F.2.2.2.1
    exact Or.inr ⟨hv, ⟨C', ⟨c, j, hk.2, FM_S M hU hk.1 F, F.2.2.1.1, u, hu1, by omega⟩, hh⟩, hn⟩
set_option maxRecDepth 100000 in
theorem testS (M : MS B n U V C0 C i nl) (hp : C.1 76 40 = nI p) (hp4 : p ≤ 40) (hu : C.1 76 41 = nI b) (hb : b ≤ i + 1) (hU : U p) (hE : eM B n C E) : Wd L xs (d + 9) y_223 (0, [(0, .ref 176)], [], MH C t, 0) (PFo B n U V C0 C t p b (rFm E 8 i nl)) nX := by
  refine Wd_q (testM (e := 0) hE (by decide) (MS_MT M hp hp4 hu hb) (ct_p (rd_cd _ _ _) (fm_ct M hE.1 (Or.inr rfl)))) (fun v h m hq => ?_) (fun _ _ _ e => e)
  obtain ⟨hv, ⟨C', hc, hh⟩, hn⟩ := hq
  rcases hc with ⟨z, hr, K⟩ | ⟨c, j, hk, F⟩
  · exact Or.inl ⟨hv, ⟨C', ⟨_, _, _, fm_oS M hU hE.1 (Or.inr rfl) hr K⟩, hh⟩, hn⟩
  · obtain ⟨u, hu1, _, hu3⟩ := F.2.2.2.1
    exact Or.inr ⟨hv, ⟨C', ⟨c, j, hk.2, FM_S M hU hk.1 F, F.2.2.1.1, u, hu1, by omega⟩, hh⟩, hn⟩
/-! a formula refuses a bad token -/
set_option maxRecDepth 100000 in
theorem bdS_f {md : Nat} (hE : E.1 = kd B n) (hm : lst B n k) (h6 : k ≤ 600) (hi : i ≤ k) (hb : kd B n i = 1) (hmd : md = 3 ∨ md = 8) : bdS (rFm E md i nl) i := by
  have hz := rFm_z (nl := nl) hE hm h6 hi hmd
  have h := rd_bad (E := E) (s := (i, [], 0, nl)) (by rw [hE]; exact hb) 6000 md (by omega)
  unfold rFm at hz ⊢
  rcases h with ⟨c, h⟩ | h
  · rw [h]
    exact ⟨c, rfl⟩
  · rw [h] at hz
    exact absurd rfl (hz 0)
/-! readTest behind a fault -/
set_option maxRecDepth 100000 in
theorem testF (F : FS B n U V C0 C c i) (h52 : C.1 76 52 = 0) : Wd L xs (d + 1) y_223 (0, [(0, .ref 176)], [], MH C t, 0) (fun v h m => none = v ∧ (∃ C', (FS B n U V C0 C' c i ∧ C'.1 76 41 = C.1 76 41 ∧ C'.1 76 40 = C.1 76 40) ∧ MH C' t = h) ∧ 0 = m) nX := by
  have h0 : (psC C 0 10 0).1 76 8 ≠ 0 := FS_0 (FS_I (FS_J (FS_I (v := 10) F (Or.inr (Or.inl (Or.inl rfl))) (by omega)) (v := 0) (k := 109) (j := 0) (Or.inr (Or.inl rfl))) (v := nI (0 + 1)) (k := 76) (j := 52) (sx_76 (by omega)) (by omega))
  refine w_p (pc1 := 1) rfl rfl ?_
  refine w_p (pc1 := 3) (st1 := .int 10 :: _) rfl rfl ?_
  refine w_p (pc1 := 4) (st1 := .long 0 :: _) rfl rfl ?_
  refine w_je (pc1 := 7) (vs := [.ref 176, .int 10, .long 0]) (rest := []) (st1 := []) (m_224 (d := _) (sl := 0) (k := 0) h52 (by decide)) rfl rfl rfl (fun _ _ => rfl) rfl (by exact cl_v my_224 rfl rfl rfl (Nat.le_of_ble_eq_true rfl) rfl (MH_obj rfl rfl) rfl (by decide) rfl rfl) (by rfl) (Nat.le_of_ble_eq_true rfl) (Nat.le_of_ble_eq_true rfl) rfl (by rfl) ?_
  refine w_p (pc1 := 8) (st1 := .int 1 :: _) rfl rfl ?_
  refine w_p (pc1 := 9) (al1 := [(1, .int 1), (0, .ref 176)]) rfl rfl ?_
  refine w_p (pc1 := 10) rfl rfl ?_
  refine w_f (a := 245) (b := 13) rfl rfl rfl ?_
  refine w_p (pc1 := 14) rfl rfl ?_
  refine w_m0 (pc1 := 17) rfl rfl (h_gI (j := 8) rfl rfl rfl rfl rfl) rfl ?_
  refine w_t (a := 245) (b := 20) (cb_ne_t (by exact h0)) rfl rfl ?_
  refine w_p (pc1 := 246) rfl rfl ?_
  refine w_m0 (pc1 := 249) rfl rfl (h_gI (j := 8) rfl rfl rfl rfl rfl) rfl ?_
  refine w_t (a := 262) (b := 252) (cb_ne_t (by exact h0)) rfl rfl ?_
  refine w_r rfl rfl rfl (fun _ _ => rfl) rfl ?_
  exact ⟨rfl, ⟨_, ⟨FS_I (FS_J (FS_I F (Or.inr (Or.inl (Or.inl rfl))) (by omega)) (Or.inr (Or.inl rfl))) (sx_76 (by omega)) (by omega), rfl, rfl⟩, rfl⟩, rfl⟩
/-! a step of the other side's own -/
set_option maxRecDepth 100000 in
theorem MS_st {w2 : Int32} {v2 : Int64} (M : MS B n U V C0 C i nl) (hU : U p) (he : b < 620) : MS B n U V C0 (stC C p b w2 v2) i nl := MS_I (MS_J (MS_I M (Or.inr (Or.inr (Or.inl ⟨rfl, by rw [show (620 * p + b) / 620 = p by omega]; exact hU⟩))) (by omega)) (Or.inr (Or.inr (Or.inl ⟨rfl, by rw [show (620 * p + b) / 620 = p by omega]; exact hU⟩))) (by omega)) (sx_76 (by omega)) (by omega)
set_option maxRecDepth 100000 in
theorem FS_st {w2 : Int32} {v2 : Int64} (F : FS B n U V C0 C c i) (hU : U p) (he : b < 620) : FS B n U V C0 (stC C p b w2 v2) c i := FS_I (FS_J (FS_I F (Or.inr (Or.inr (Or.inl ⟨rfl, by rw [show (620 * p + b) / 620 = p by omega]; exact hU⟩))) (by omega)) (Or.inr (Or.inr (Or.inl ⟨rfl, by rw [show (620 * p + b) / 620 = p by omega]; exact hU⟩)))) (sx_76 (by omega)) (by omega)
end MSF
