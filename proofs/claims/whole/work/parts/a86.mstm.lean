
/-! THE OTHER SIDE READS STATEMENTS, 1: its state; a name, a sign, a word, a table -/
section MSS
variable {L : Nat} {xs : Nat → Int32} {B : Nat → Nat} {n : Nat} {C C' C0 C1 : co_T} {t : ab_H} {d i i0 i1 j b e p k w q : Nat} {U V : Nat → Prop} {c : Int32} {sc : sc_T} {row : Option Nat} {tg : Option (Nat × Nat)} {nl : Option Nat} {E : fe_T} {tr : Nat → Option tr_T}
def MS (B : Nat → Nat) (n : Nat) (U V : Nat → Prop) (C0 C : co_T) (i : Nat) (nl : Option Nat) : Prop := tpM C B n ∧ rgT B n C i ∧ lfM C nl ∧ (C.1 76 45 = 0 ∧ C.1 76 52 = 0) ∧ (i ≤ tkA B n i ∧ ∃ m, lst B n m ∧ m ≤ 600 ∧ i ≤ m) ∧ fS_y U V C0 C
def FS (B : Nat → Nat) (n : Nat) (U V : Nat → Prop) (C0 C : co_T) (c : Int32) (i : Nat) : Prop := faT B n C c i ∧ tpM C B n ∧ (∃ z a, C.1 76 6 = nI z ∧ z ≤ n ∧ (tkA B n i < z ∨ z = n) ∧ C.1 76 5 = nI a ∧ tkA B n i ≤ a ∧ a ≤ n) ∧ fS_y U V C0 C ∧ 0 < c.toInt
/-! which fault a reading ends with -/
def flS {α : Type} (B : Nat → Nat) (n : Nat) (ix : α → Nat) (r : pz_T α) (c : Int32) (i : Nat) : Prop := match r with
  | .inl q => i = q.2 ∧ c = (if kd B n q.2 = 1 then 1 else q.1)
  | .inr a => i = ix a ∧ kd B n (ix a) = 1 ∧ c = 1
def bdS {α : Type} (r : pz_T α) (i : Nat) : Prop := ∃ q, r = .inl (q, i)
set_option maxRecDepth 100000 in
theorem flS_b {α β : Type} {r : pz_T α} {g : α → pz_T β} {ix : α → Nat} {iy : β → Nat} (h : flS B n ix r c i) (hg : ∀ a, r = .inr a → kd B n (ix a) = 1 → bdS (g a) (ix a)) : flS B n iy (pb r g) c i := by
  cases r with
  | inl q => exact h
  | inr a =>
    obtain ⟨h1, h2, h3⟩ := h
    obtain ⟨q, hq⟩ := hg a rfl h2
    show flS B n iy (g a) c i
    rw [hq]
    refine ⟨h1, ?_⟩
    show c = if kd B n (ix a) = 1 then 1 else q
    rw [if_pos h2]
    exact h3
set_option maxRecDepth 100000 in
theorem flS_n {α : Type} {ix : α → Nat} {r : pz_T α} {q : Int32} (h : r = .inl (q, i)) (hk : kd B n i ≠ 1) : flS B n ix r q i := by
  rw [h]
  refine ⟨rfl, ?_⟩
  show q = if kd B n i = 1 then 1 else q
  rw [if_neg hk]
set_option maxRecDepth 100000 in
theorem flS_1 {α : Type} {ix : α → Nat} {r : pz_T α} (h : bdS r i) (hk : kd B n i = 1) : flS B n ix r 1 i := by
  obtain ⟨q, h⟩ := h
  rw [h]
  refine ⟨rfl, ?_⟩
  show 1 = if kd B n i = 1 then 1 else q
  rw [if_pos hk]
set_option maxRecDepth 100000 in
theorem flS_e {α : Type} {ix : α → Nat} {r : pz_T α} {a : α} (h : r = .inr a) (hi : ix a = i) (hk : kd B n i = 1) : flS B n ix r 1 i := by
  rw [h]
  exact ⟨hi.symm, by rw [hi]; exact hk, rfl⟩
set_option maxRecDepth 100000 in
theorem bdS_b {α β : Type} {r : pz_T α} {g : α → pz_T β} (h : bdS r i) : bdS (pb r g) i := by
  obtain ⟨q, h⟩ := h
  exact ⟨q, pb_l h⟩
set_option maxRecDepth 100000 in
theorem bdS_x {K : tv2} (h : K.1 i = 1) (hw : w ≠ 1) : bdS (xpP K w i) i := ⟨2, if_neg (fun e => hw (e.symm.trans h))⟩
set_option maxRecDepth 100000 in
theorem bdS_t {K : tv2} (h : K.1 i = 1) : bdS (rTab K sc i) i := ⟨2, rTab_2 (by rw [h]; decide)⟩
set_option maxRecDepth 100000 in
theorem bdS_c {K : tv2} {acc : List Nat} (h : K.1 i = 1) : bdS (rCol K sc b acc i) i := ⟨2, rCol_2 (by rw [h]; decide)⟩
set_option maxRecDepth 100000 in
theorem MS_n (M : MS B n U V C0 C i nl) (hk : kd B n i ≠ 2) (h1 : kd B n (i + 1) ≠ 1) : MS B n U V C0 (nxR B n C i) (i + 1) nl := by
  obtain ⟨T, R, hl, ho, hi, hf⟩ := M
  have fr := nxR_fr (C := C) (B := B) (n := n) (i := i)
  exact ⟨tpM_of T (fr.1 76 2 (by omega)) (fun j => fr.1 77 j (by omega)), nxR_ok T R h1, lfM_of hl (fr.1 76 44 (by omega)) (fr.1 76 43 (by omega)) (fr.1 76 42 (by omega)), ⟨(fr.1 76 45 (by omega)).trans ho.1, (fr.1 76 52 (by omega)).trans ho.2⟩, ⟨tk_up hi.1 hk, by
    obtain ⟨m, h3, h4, h5⟩ := hi.2
    exact ⟨m, h3, h4, st1 h3 h5 rfl R.1 hk⟩⟩, fSy_t hf (fSy_T fr)⟩
set_option maxRecDepth 100000 in
theorem MS_b (M : MS B n U V C0 C i nl) (h1 : kd B n (i + 1) = 1) : FS B n U V C0 (nxR B n C i) 1 (i + 1) := by
  obtain ⟨T, R, hl, ho, hi, hf⟩ := M
  have fr := nxR_fr (C := C) (B := B) (n := n) (i := i)
  have g := (nx_tok (C := C) (B := B) (n := n) (i := i + 1) (fun j hj => (T.2.2 j hj).1)).1 h1
  obtain ⟨z, g1, g2, g3⟩ := g.2.1
  exact ⟨nxR_bad T R h1, tpM_of T (fr.1 76 2 (by omega)) (fun j => fr.1 77 j (by omega)), ⟨z, tkA B n (i + 1), g1, g3, Or.inl g2, g.1, Nat.le_refl _, tkA_le _⟩, fSy_t hf (fSy_T fr), by decide⟩
set_option maxRecDepth 100000 in
theorem MS_6 (M : MS B n U V C0 C i nl) : i ≤ 600 := by
  have h1 := M.2.2.2.2.1.1
  have h2 := tkA_le (B := B) (n := n) i
  have h3 := M.1.2.1
  omega
set_option maxRecDepth 100000 in
theorem FS_new (M : MS B n U V C0 C i nl) (hc : 0 < c.toInt) : FS B n U V C0 (fl_ C c (C.1 76 5)) c i := by
  obtain ⟨T, R, hl, ho, hi, hf⟩ := M
  exact ⟨fl_new R (fun e => by rw [e] at hc; exact absurd hc (by decide)), tpM_of T (flt_1 (by omega)) (fun j => flt_1 (by omega)), ⟨tkZ B n i, tkA B n i, (flt_1 (by omega)).trans R.2.2.2.2.2, (tkZ_le i).2, tkZ_n i, (flt_1 (by omega)).trans R.2.2.2.2.1, Nat.le_refl _, tkA_le _⟩, fSy_t hf (fSy_T frT_f), hc⟩
set_option maxRecDepth 100000 in
theorem FS_0 (F : FS B n U V C0 C c i) : C.1 76 8 ≠ 0 := by
  rw [F.1.2.1]
  exact F.1.1
set_option maxRecDepth 100000 in
theorem FS_or {c' : Int32} (F : FS B n U V C0 C c i) (h : c.toInt ≤ c'.toInt) : orL C c' (C.1 76 5) := by
  obtain ⟨h1, T, ⟨z, a, hz, hzn, hza, ha, haa, han⟩, hf⟩ := F
  intro _
  have hi := tkA_le (B := B) (n := n) i
  have hn := T.2.1
  rw [h1.2.2, ha, h1.2.1]
  by_cases e : tkA B n i = a
  · exact Or.inr ⟨by rw [e], h⟩
  · refine Or.inl ?_
    rw [nK_int (by omega), nK_int (by omega)]
    omega
set_option maxRecDepth 100000 in
theorem fl_F {c' q : Int32} (F : FS B n U V C0 C c i) : fl_ C c' q = C := if_neg (FS_0 F)
/-! failHere behind a fault -/
set_option maxRecDepth 100000 in
theorem hF {c' : Int32} (F : FS B n U V C0 C c i) (h : c.toInt ≤ c'.toInt) : Wd L xs (d + 1) y_200 (0, [(0, .ref 176), (1, .int c')], [], MH C t, 0) (Rt none (MH C t) 0) nX := by
  have w := m_200 (L := L) (xs := xs) (d := d) (t := t) (sl := 0) (FS_or F h)
  rw [fl_F F] at w
  exact w
set_option maxRecDepth 100000 in
theorem nFS (F : FS B n U V C0 C c i) : Wd L xs (d + 3) y_195 (0, [(0, .ref 176)], [], MH C t, 0) (fun v h m => none = v ∧ (∃ C', (FS B n U V C0 C' c i ∧ frT C C') ∧ MH C' t = h) ∧ 0 = m) nX := by
  obtain ⟨h1, T, ⟨z, a, hz, hzn, hza, ha, haa, han⟩, hf⟩ := F
  have h0 : C.1 76 8 ≠ 0 := by rw [h1.2.1]; exact h1.1
  have hO : flO C n z := fun _ => ⟨tkA B n i, h1.2.2, tkA_le i, hza⟩
  refine Wd_r (m_195 T hz hzn hO) ⟨rfl, ⟨_, ?_, rfl⟩, rfl⟩
  have hb := blk_le (B := B) hzn
  have g := nx_any (C := C) (B := B) (fun j hj => (T.2.2 j hj).1) hb.2 h0
  have fr := frT_nx (C := C) (B := B) (n := n) (a := blk B n z)
  obtain ⟨z2, g4, g5, g6⟩ := g.2.2.2
  have hi := tkA_le (B := B) (n := n) i
  refine ⟨⟨⟨h1.1, g.1.trans h1.2.1, g.2.1.trans h1.2.2⟩, tpM_of T (fr.1 76 2 (by omega)) (fun j => fr.1 77 j (by omega)), ⟨z2, blk B n z, g4, g5, ?_, g.2.2.1, ?_, hb.2⟩, fSy_t hf.1 (fSy_T fr), hf.2⟩, fr⟩
  · omega
  · omega
set_option maxRecDepth 100000 in
theorem MS_I {v : Int32} (M : MS B n U V C0 C i nl) (h : sxI U V k j) (h2 : k ≠ 77 ∧ ¬ (k = 76 ∧ (j ≤ 9 ∨ 42 ≤ j ∧ j ≤ 45 ∨ j = 52))) (hbt : ((k = 76 ∧ (j = 48 ∨ j = 49)) → v = 0 ∨ v = 1) ∧ (k = 91 → v = 0) := by first | exact ⟨fun e => by exfalso; omega, fun e => by exfalso; omega⟩ | exact ⟨fun _ => Or.inl rfl, fun e => by exfalso; omega⟩ | exact ⟨fun _ => Or.inr rfl, fun e => by exfalso; omega⟩ | exact ⟨fun e => by exfalso; omega, fun _ => rfl⟩) : MS B n U V C0 (sI C k j v) i nl := by
  obtain ⟨T, R, hl, ho, hi, hf⟩ := M
  have e : ∀ q, (q ≤ 9 ∨ 42 ≤ q ∧ q ≤ 45 ∨ q = 52) → (sI C k j v).1 76 q = C.1 76 q := fun q hq => by rw [sI_1, if_neg (by omega)]
  exact ⟨tpM_of T (e 2 (by omega)) (fun j => by rw [sI_1, if_neg (by omega)]), ⟨R.1, (e 8 (by omega)).trans R.2.1, (e 4 (by omega)).trans R.2.2.1, R.2.2.2.1, (e 5 (by omega)).trans R.2.2.2.2.1, (e 6 (by omega)).trans R.2.2.2.2.2⟩, lfM_of hl (e 44 (by omega)) (e 43 (by omega)) (e 42 (by omega)), ⟨(e 45 (by omega)).trans ho.1, (e 52 (by omega)).trans ho.2⟩, hi, fSy_t hf (fSy_I h hbt)⟩
set_option maxRecDepth 100000 in
theorem MS_J {v : Int64} (M : MS B n U V C0 C i nl) (h : sxJ U V k j) (h2 : ¬ (k = 76 ∧ j = 7)) : MS B n U V C0 (sJ C k j v) i nl := by
  obtain ⟨T, R, hl, ho, hi, hf⟩ := M
  have e : (sJ C k j v).2.1 76 7 = C.2.1 76 7 := by rw [sJ_2, if_neg (by omega)]
  exact ⟨T, ⟨R.1, R.2.1, R.2.2.1, e.trans R.2.2.2.1, R.2.2.2.2.1, R.2.2.2.2.2⟩, lfM_of hl rfl rfl rfl, ho, hi, fSy_t hf (fSy_J h)⟩
set_option maxRecDepth 100000 in
theorem FS_I {v : Int32} (F : FS B n U V C0 C c i) (h : sxI U V k j) (h2 : k ≠ 77 ∧ ¬ (k = 76 ∧ j ≤ 9)) (hbt : ((k = 76 ∧ (j = 48 ∨ j = 49)) → v = 0 ∨ v = 1) ∧ (k = 91 → v = 0) := by first | exact ⟨fun e => by exfalso; omega, fun e => by exfalso; omega⟩ | exact ⟨fun _ => Or.inl rfl, fun e => by exfalso; omega⟩ | exact ⟨fun _ => Or.inr rfl, fun e => by exfalso; omega⟩ | exact ⟨fun e => by exfalso; omega, fun _ => rfl⟩) : FS B n U V C0 (sI C k j v) c i := by
  obtain ⟨⟨h1, h3, h4⟩, T, ⟨z, a, hz, hzn, hza, ha, haa, han⟩, hf⟩ := F
  have e : ∀ q, q ≤ 9 → (sI C k j v).1 76 q = C.1 76 q := fun q hq => by rw [sI_1, if_neg (by omega)]
  exact ⟨⟨h1, (e 8 (by omega)).trans h3, (e 9 (by omega)).trans h4⟩, tpM_of T (e 2 (by omega)) (fun j => by rw [sI_1, if_neg (by omega)]), ⟨z, a, (e 6 (by omega)).trans hz, hzn, hza, (e 5 (by omega)).trans ha, haa, han⟩, fSy_t hf.1 (fSy_I h hbt), hf.2⟩
set_option maxRecDepth 100000 in
theorem FS_J {v : Int64} (F : FS B n U V C0 C c i) (h : sxJ U V k j) : FS B n U V C0 (sJ C k j v) c i := by
  obtain ⟨⟨h1, h3, h4⟩, T, ⟨z, a, hz, hzn, hza, ha, haa, han⟩, hf⟩ := F
  exact ⟨⟨h1, h3, h4⟩, T, ⟨z, a, hz, hzn, hza, ha, haa, han⟩, fSy_t hf.1 (fSy_J h), hf.2⟩
/-! the next token -/
def PNS (B : Nat → Nat) (n : Nat) (U V : Nat → Prop) (C0 C : co_T) (t : ab_H) (i : Nat) (nl : Option Nat) : Option Value → ab_H → Nat → Prop := fun v h m => (none = v ∧ (∃ C', (kd B n (i + 1) ≠ 1 ∧ MS B n U V C0 C' (i + 1) nl ∧ frT C C') ∧ MH C' t = h) ∧ 0 = m) ∨ (none = v ∧ (∃ C', (kd B n (i + 1) = 1 ∧ FS B n U V C0 C' 1 (i + 1) ∧ frT C C') ∧ MH C' t = h) ∧ 0 = m)
set_option maxRecDepth 100000 in
theorem nS (M : MS B n U V C0 C i nl) (hk : kd B n i ≠ 2) : Wd L xs (d + 3) y_195 (0, [(0, .ref 176)], [], MH C t, 0) (PNS B n U V C0 C t i nl) nX := by
  refine Wd_r (m_195R M.1 M.2.1) ?_
  by_cases h : kd B n (i + 1) = 1
  · exact Or.inr ⟨rfl, ⟨_, ⟨h, MS_b M h, nxR_fr⟩, rfl⟩, rfl⟩
  · exact Or.inl ⟨rfl, ⟨_, ⟨h, MS_n M hk h, nxR_fr⟩, rfl⟩, rfl⟩
/-! a name -/
set_option maxRecDepth 100000 in
theorem m_207y (M : MS B n U V C0 C i nl) (hk : kd B n i = 3) : Wd L xs d y_207 (0, [(0, .ref 176)], [], MH C t, 0) (Rt (some (.int 1)) (MH C t) 0) nX := by
  refine w_p (pc1 := 1) rfl rfl ?_
  refine w_m0 (pc1 := 4) (st1 := .int 0 :: _) rfl rfl (h_gIe (j := 8) rfl rfl rfl rfl rfl (M.2.1.2.1)) rfl ?_
  refine w_f (a := 20) (b := 7) rfl rfl rfl ?_
  refine w_p (pc1 := 8) rfl rfl ?_
  refine w_m0 (pc1 := 11) (st1 := .int 1 :: _) rfl rfl (h_gIe (j := 4) rfl rfl rfl rfl rfl (by rw [M.2.1.2.2.1, hk]; rfl)) rfl ?_
  refine w_p (pc1 := 12) (st1 := .int 1 :: _) rfl rfl ?_
  refine w_t (a := 20) (b := 15) rfl rfl rfl ?_
  refine w_p (pc1 := 21) rfl rfl ?_
  refine w_m0 (pc1 := 24) (st1 := .int 0 :: _) rfl rfl (h_gIe (j := 8) rfl rfl rfl rfl rfl (M.2.1.2.1)) rfl ?_
  refine w_f (a := 31) (b := 27) rfl rfl rfl ?_
  refine w_p (pc1 := 28) (st1 := .int 1 :: _) rfl rfl ?_
  refine w_p (pc1 := 32) rfl rfl ?_
  refine w_r rfl rfl rfl (fun _ _ => rfl) rfl ?_
  exact ⟨rfl, rfl, rfl⟩
set_option maxRecDepth 100000 in
theorem m_207n (M : MS B n U V C0 C i nl) (hk : kd B n i ≠ 3) : Wd L xs (d + 2) y_207 (0, [(0, .ref 176)], [], MH C t, 0) (Rt (some (.int 0)) (MH (fl_ C 2 (C.1 76 5)) t) 0) nX := by
  have F := FS_new (c := 2) M (by decide)
  refine w_p (pc1 := 1) rfl rfl ?_
  refine w_m0 (pc1 := 4) (st1 := .int 0 :: _) rfl rfl (h_gIe (j := 8) rfl rfl rfl rfl rfl (M.2.1.2.1)) rfl ?_
  refine w_f (a := 20) (b := 7) rfl rfl rfl ?_
  refine w_p (pc1 := 8) rfl rfl ?_
  refine w_m0 (pc1 := 11) rfl rfl (h_gI (j := 4) rfl rfl rfl rfl rfl) rfl ?_
  refine w_p (pc1 := 12) (st1 := .int 1 :: _) rfl rfl ?_
  refine w_f (a := 20) (b := 15) (cb_eq_f (by exact fun e => hk ((nm_k M.2.1).1.mp e))) rfl rfl ?_
  refine w_p (pc1 := 16) rfl rfl ?_
  refine w_p (pc1 := 17) (st1 := .int 2 :: _) rfl rfl ?_
  refine w_je (pc1 := 20) (vs := [.ref 176, .int 2]) (rest := []) (st1 := []) (m_200 (d := _) (sl := 0) (fun z => absurd M.2.1.2.1 z)) rfl rfl rfl (fun _ _ => rfl) rfl (by exact cl_v my_200 rfl rfl rfl (Nat.le_of_ble_eq_true rfl) rfl (MH_obj rfl rfl) rfl (by decide) rfl rfl) (by rfl) (Nat.le_of_ble_eq_true rfl) (Nat.le_of_ble_eq_true rfl) rfl (by rfl) ?_
  refine w_p (pc1 := 21) rfl rfl ?_
  refine w_m0 (pc1 := 24) rfl rfl (h_gI (j := 8) rfl rfl rfl rfl rfl) rfl ?_
  refine w_t (a := 31) (b := 27) (cb_ne_t (by exact FS_0 F)) rfl rfl ?_
  refine w_p (pc1 := 32) (st1 := .int 0 :: _) rfl rfl ?_
  refine w_r rfl rfl rfl (fun _ _ => rfl) rfl ?_
  exact ⟨rfl, rfl, rfl⟩
set_option maxRecDepth 100000 in
theorem m_207f (F : FS B n U V C0 C c i) : Wd L xs d y_207 (0, [(0, .ref 176)], [], MH C t, 0) (Rt (some (.int 0)) (MH C t) 0) nX := by
  have h0 := FS_0 F
  refine w_p (pc1 := 1) rfl rfl ?_
  refine w_m0 (pc1 := 4) rfl rfl (h_gI (j := 8) rfl rfl rfl rfl rfl) rfl ?_
  refine w_t (a := 20) (b := 7) (cb_ne_t (by exact h0)) rfl rfl ?_
  refine w_p (pc1 := 21) rfl rfl ?_
  refine w_m0 (pc1 := 24) rfl rfl (h_gI (j := 8) rfl rfl rfl rfl rfl) rfl ?_
  refine w_t (a := 31) (b := 27) (cb_ne_t (by exact h0)) rfl rfl ?_
  refine w_p (pc1 := 32) (st1 := .int 0 :: _) rfl rfl ?_
  refine w_r rfl rfl rfl (fun _ _ => rfl) rfl ?_
  exact ⟨rfl, rfl, rfl⟩
def PXP (B : Nat → Nat) (n : Nat) (U V : Nat → Prop) (C0 C : co_T) (t : ab_H) (k i : Nat) (nl : Option Nat) : Option Value → ab_H → Nat → Prop := fun v h m => (none = v ∧ (∃ C', (kd B n i = k ∧ kd B n (i + 1) ≠ 1 ∧ MS B n U V C0 C' (i + 1) nl ∧ frT C C') ∧ MH C' t = h) ∧ 0 = m) ∨ (none = v ∧ (∃ C', (∃ c j, flS B n id (xpP (tkP B n) k i) c j ∧ FS B n U V C0 C' c j ∧ frT C C') ∧ MH C' t = h) ∧ 0 = m)
set_option maxRecDepth 100000 in
theorem m_209 {c : Int32} (h44 : 44 ≤ k) (h59 : k ≤ 59) (hc : nI (sgc.getD (k - 44) 0) = c) (M : MS B n U V C0 C i nl) : Wd L xs (d + 4) y_209 (0, [(0, .ref 176), (1, .int c)], [], MH C t, 0) (PXP B n U V C0 C t k i nl) nX := by
  subst hc
  have hk1 : kd B n i ≠ 1 := M.2.1.1
  by_cases hk : kd B n i = k
  · have hx : xpP (tkP B n) k i = .inr (i + 1) := if_pos hk
    refine w_p (pc1 := 1) rfl rfl ?_
    refine w_m0 (pc1 := 4) (st1 := .int 0 :: _) rfl rfl (h_gIe (j := 8) rfl rfl rfl rfl rfl (M.2.1.2.1)) rfl ?_
    refine w_f (a := 20) (b := 7) rfl rfl rfl ?_
    refine w_p (pc1 := 8) rfl rfl ?_
    refine w_p (pc1 := 9) rfl rfl ?_
    refine w_je (pc1 := 12) (vs := [.ref 176, .int (nI (sgc.getD (k - 44) 0))]) (rest := []) (st1 := [.int 1]) (m_210t (d := _) (sl := 0) ((sg_k M.2.1 h44 h59).trans (decide_eq_true hk))) rfl rfl rfl (fun _ _ => rfl) rfl (by exact cl_v my_210 rfl rfl rfl (Nat.le_of_ble_eq_true rfl) rfl (MH_obj rfl rfl) rfl (by decide) rfl rfl) (by rfl) (Nat.le_of_ble_eq_true rfl) (Nat.le_of_ble_eq_true rfl) rfl (by rfl) ?_
    refine w_t (a := 20) (b := 15) rfl rfl rfl ?_
    refine w_p (pc1 := 21) rfl rfl ?_
    refine w_m0 (pc1 := 24) (st1 := .int 0 :: _) rfl rfl (h_gIe (j := 8) rfl rfl rfl rfl rfl (M.2.1.2.1)) rfl ?_
    refine w_f (a := 31) (b := 27) rfl rfl rfl ?_
    refine w_p (pc1 := 28) rfl rfl ?_
    refine w_ji (pc1 := 31) (vs := [.ref 176]) (rest := []) (nS (d := _) M (by rw [hk]; omega)) rfl rfl rfl (fun _ _ => rfl) rfl (by exact cl_v my_195 rfl rfl rfl (Nat.le_of_ble_eq_true rfl) rfl (MH_obj rfl rfl) rfl (by decide) rfl rfl) (by rfl) (Nat.le_of_ble_eq_true rfl) (Nat.le_of_ble_eq_true rfl) rfl (fun v h1 d1 hq => ?_) (fun _ _ _ e => e.elim)
    rcases hq with ⟨hv, ⟨C1, h1, hh⟩, hn⟩ | ⟨hv, ⟨C1, h1, hh⟩, hn⟩
    · subst hv; subst hh; subst hn
      refine w_r rfl rfl rfl (fun _ _ => rfl) rfl ?_
      first
      | exact Or.inl ⟨rfl, ⟨_, ⟨hk, h1⟩, rfl⟩, rfl⟩
      | exact Or.inr ⟨rfl, ⟨_, ⟨1, i + 1, flS_e hx rfl h1.1, h1.2⟩, rfl⟩, rfl⟩
    · subst hv; subst hh; subst hn
      refine w_r rfl rfl rfl (fun _ _ => rfl) rfl ?_
      first
      | exact Or.inl ⟨rfl, ⟨_, ⟨hk, h1⟩, rfl⟩, rfl⟩
      | exact Or.inr ⟨rfl, ⟨_, ⟨1, i + 1, flS_e hx rfl h1.1, h1.2⟩, rfl⟩, rfl⟩
  · have F := FS_new (c := 2) M (by decide)
    have hx : xpP (tkP B n) k i = .inl (2, i) := if_neg hk
    refine w_p (pc1 := 1) rfl rfl ?_
    refine w_m0 (pc1 := 4) (st1 := .int 0 :: _) rfl rfl (h_gIe (j := 8) rfl rfl rfl rfl rfl (M.2.1.2.1)) rfl ?_
    refine w_f (a := 20) (b := 7) rfl rfl rfl ?_
    refine w_p (pc1 := 8) rfl rfl ?_
    refine w_p (pc1 := 9) rfl rfl ?_
    refine w_je (pc1 := 12) (vs := [.ref 176, .int (nI (sgc.getD (k - 44) 0))]) (rest := []) (st1 := [.int 0]) (m_210f (d := _) (sl := 0) ((sg_k M.2.1 h44 h59).trans (decide_eq_false hk))) rfl rfl rfl (fun _ _ => rfl) rfl (by exact cl_v my_210 rfl rfl rfl (Nat.le_of_ble_eq_true rfl) rfl (MH_obj rfl rfl) rfl (by decide) rfl rfl) (by rfl) (Nat.le_of_ble_eq_true rfl) (Nat.le_of_ble_eq_true rfl) rfl (by rfl) ?_
    refine w_f (a := 20) (b := 15) rfl rfl rfl ?_
    refine w_p (pc1 := 16) rfl rfl ?_
    refine w_p (pc1 := 17) (st1 := .int 2 :: _) rfl rfl ?_
    refine w_je (pc1 := 20) (vs := [.ref 176, .int 2]) (rest := []) (st1 := []) (m_200 (d := _) (sl := 0) (fun z => absurd M.2.1.2.1 z)) rfl rfl rfl (fun _ _ => rfl) rfl (by exact cl_v my_200 rfl rfl rfl (Nat.le_of_ble_eq_true rfl) rfl (MH_obj rfl rfl) rfl (by decide) rfl rfl) (by rfl) (Nat.le_of_ble_eq_true rfl) (Nat.le_of_ble_eq_true rfl) rfl (by rfl) ?_
    refine w_p (pc1 := 21) rfl rfl ?_
    refine w_m0 (pc1 := 24) rfl rfl (h_gI (j := 8) rfl rfl rfl rfl rfl) rfl ?_
    refine w_t (a := 31) (b := 27) (cb_ne_t (by exact FS_0 F)) rfl rfl ?_
    refine w_r rfl rfl rfl (fun _ _ => rfl) rfl ?_
    exact Or.inr ⟨rfl, ⟨_, ⟨2, i, flS_n hx hk1, F, frT_f⟩, rfl⟩, rfl⟩
set_option maxRecDepth 100000 in
theorem m_209f {x : Int32} (F : FS B n U V C0 C c i) : Wd L xs d y_209 (0, [(0, .ref 176), (1, .int x)], [], MH C t, 0) (Rt none (MH C t) 0) nX := by
  have h0 := FS_0 F
  refine w_p (pc1 := 1) rfl rfl ?_
  refine w_m0 (pc1 := 4) rfl rfl (h_gI (j := 8) rfl rfl rfl rfl rfl) rfl ?_
  refine w_t (a := 20) (b := 7) (cb_ne_t (by exact h0)) rfl rfl ?_
  refine w_p (pc1 := 21) rfl rfl ?_
  refine w_m0 (pc1 := 24) rfl rfl (h_gI (j := 8) rfl rfl rfl rfl rfl) rfl ?_
  refine w_t (a := 31) (b := 27) (cb_ne_t (by exact h0)) rfl rfl ?_
  refine w_r rfl rfl rfl (fun _ _ => rfl) rfl ?_
  exact ⟨rfl, rfl, rfl⟩
set_option maxRecDepth 100000 in
theorem m_219 {c : Int64} (h44 : 5 ≤ k) (h59 : k ≤ 43) (hc : tk_l.getD (k - 1) 0 = c) (M : MS B n U V C0 C i nl) : Wd L xs (d + 4) y_219 (0, [(0, .ref 176), (1, .long c)], [], MH C t, 0) (PXP B n U V C0 C t k i nl) nX := by
  subst hc
  have hk1 : kd B n i ≠ 1 := M.2.1.1
  by_cases hk : kd B n i = k
  · have hx : xpP (tkP B n) k i = .inr (i + 1) := if_pos hk
    refine w_p (pc1 := 1) rfl rfl ?_
    refine w_m0 (pc1 := 4) (st1 := .int 0 :: _) rfl rfl (h_gIe (j := 8) rfl rfl rfl rfl rfl (M.2.1.2.1)) rfl ?_
    refine w_f (a := 20) (b := 7) rfl rfl rfl ?_
    refine w_p (pc1 := 8) rfl rfl ?_
    refine w_p (pc1 := 9) rfl rfl ?_
    refine w_je (pc1 := 12) (vs := [.ref 176, .long (tk_l.getD (k - 1) 0)]) (rest := []) (st1 := [.int 1]) (m_205t (d := _) (sl := 0) ((wd_k M.2.1 h44 h59).trans (decide_eq_true hk))) rfl rfl rfl (fun _ _ => rfl) rfl (by exact cl_v my_205 rfl rfl rfl (Nat.le_of_ble_eq_true rfl) rfl (MH_obj rfl rfl) rfl (by decide) rfl rfl) (by rfl) (Nat.le_of_ble_eq_true rfl) (Nat.le_of_ble_eq_true rfl) rfl (by rfl) ?_
    refine w_t (a := 20) (b := 15) rfl rfl rfl ?_
    refine w_p (pc1 := 21) rfl rfl ?_
    refine w_m0 (pc1 := 24) (st1 := .int 0 :: _) rfl rfl (h_gIe (j := 8) rfl rfl rfl rfl rfl (M.2.1.2.1)) rfl ?_
    refine w_f (a := 31) (b := 27) rfl rfl rfl ?_
    refine w_p (pc1 := 28) rfl rfl ?_
    refine w_ji (pc1 := 31) (vs := [.ref 176]) (rest := []) (nS (d := _) M (by rw [hk]; omega)) rfl rfl rfl (fun _ _ => rfl) rfl (by exact cl_v my_195 rfl rfl rfl (Nat.le_of_ble_eq_true rfl) rfl (MH_obj rfl rfl) rfl (by decide) rfl rfl) (by rfl) (Nat.le_of_ble_eq_true rfl) (Nat.le_of_ble_eq_true rfl) rfl (fun v h1 d1 hq => ?_) (fun _ _ _ e => e.elim)
    rcases hq with ⟨hv, ⟨C1, h1, hh⟩, hn⟩ | ⟨hv, ⟨C1, h1, hh⟩, hn⟩
    · subst hv; subst hh; subst hn
      refine w_r rfl rfl rfl (fun _ _ => rfl) rfl ?_
      first
      | exact Or.inl ⟨rfl, ⟨_, ⟨hk, h1⟩, rfl⟩, rfl⟩
      | exact Or.inr ⟨rfl, ⟨_, ⟨1, i + 1, flS_e hx rfl h1.1, h1.2⟩, rfl⟩, rfl⟩
    · subst hv; subst hh; subst hn
      refine w_r rfl rfl rfl (fun _ _ => rfl) rfl ?_
      first
      | exact Or.inl ⟨rfl, ⟨_, ⟨hk, h1⟩, rfl⟩, rfl⟩
      | exact Or.inr ⟨rfl, ⟨_, ⟨1, i + 1, flS_e hx rfl h1.1, h1.2⟩, rfl⟩, rfl⟩
  · have F := FS_new (c := 2) M (by decide)
    have hx : xpP (tkP B n) k i = .inl (2, i) := if_neg hk
    refine w_p (pc1 := 1) rfl rfl ?_
    refine w_m0 (pc1 := 4) (st1 := .int 0 :: _) rfl rfl (h_gIe (j := 8) rfl rfl rfl rfl rfl (M.2.1.2.1)) rfl ?_
    refine w_f (a := 20) (b := 7) rfl rfl rfl ?_
    refine w_p (pc1 := 8) rfl rfl ?_
    refine w_p (pc1 := 9) rfl rfl ?_
    refine w_je (pc1 := 12) (vs := [.ref 176, .long (tk_l.getD (k - 1) 0)]) (rest := []) (st1 := [.int 0]) (m_205f (d := _) (sl := 0) ((wd_k M.2.1 h44 h59).trans (decide_eq_false hk))) rfl rfl rfl (fun _ _ => rfl) rfl (by exact cl_v my_205 rfl rfl rfl (Nat.le_of_ble_eq_true rfl) rfl (MH_obj rfl rfl) rfl (by decide) rfl rfl) (by rfl) (Nat.le_of_ble_eq_true rfl) (Nat.le_of_ble_eq_true rfl) rfl (by rfl) ?_
    refine w_f (a := 20) (b := 15) rfl rfl rfl ?_
    refine w_p (pc1 := 16) rfl rfl ?_
    refine w_p (pc1 := 17) (st1 := .int 2 :: _) rfl rfl ?_
    refine w_je (pc1 := 20) (vs := [.ref 176, .int 2]) (rest := []) (st1 := []) (m_200 (d := _) (sl := 0) (fun z => absurd M.2.1.2.1 z)) rfl rfl rfl (fun _ _ => rfl) rfl (by exact cl_v my_200 rfl rfl rfl (Nat.le_of_ble_eq_true rfl) rfl (MH_obj rfl rfl) rfl (by decide) rfl rfl) (by rfl) (Nat.le_of_ble_eq_true rfl) (Nat.le_of_ble_eq_true rfl) rfl (by rfl) ?_
    refine w_p (pc1 := 21) rfl rfl ?_
    refine w_m0 (pc1 := 24) rfl rfl (h_gI (j := 8) rfl rfl rfl rfl rfl) rfl ?_
    refine w_t (a := 31) (b := 27) (cb_ne_t (by exact FS_0 F)) rfl rfl ?_
    refine w_r rfl rfl rfl (fun _ _ => rfl) rfl ?_
    exact Or.inr ⟨rfl, ⟨_, ⟨2, i, flS_n hx hk1, F, frT_f⟩, rfl⟩, rfl⟩
set_option maxRecDepth 100000 in
theorem m_219f {x : Int64} (F : FS B n U V C0 C c i) : Wd L xs d y_219 (0, [(0, .ref 176), (1, .long x)], [], MH C t, 0) (Rt none (MH C t) 0) nX := by
  have h0 := FS_0 F
  refine w_p (pc1 := 1) rfl rfl ?_
  refine w_m0 (pc1 := 4) rfl rfl (h_gI (j := 8) rfl rfl rfl rfl rfl) rfl ?_
  refine w_t (a := 20) (b := 7) (cb_ne_t (by exact h0)) rfl rfl ?_
  refine w_p (pc1 := 21) rfl rfl ?_
  refine w_m0 (pc1 := 24) rfl rfl (h_gI (j := 8) rfl rfl rfl rfl rfl) rfl ?_
  refine w_t (a := 31) (b := 27) (cb_ne_t (by exact h0)) rfl rfl ?_
  refine w_r rfl rfl rfl (fun _ _ => rfl) rfl ?_
  exact ⟨rfl, rfl, rfl⟩
set_option maxRecDepth 100000 in
theorem lp_208 {a : Int64} {sl : Nat} : ∀ m k : Nat, k + m = 6 → Wd L xs d y_208 (2, [(3, .int (nI k)), (0, .ref 176), (1, .long a)], [], MH C t, sl) (Rt (some (.int (fnd (fun j => decide (C.1 78 j ≠ 0) && decide (C.2.1 79 j = a)) m k))) (MH C t) sl) nX
  | 0, k, hk => by
    obtain rfl : k = 6 := by omega
    refine w_p (pc1 := 3) rfl rfl ?_
    refine w_p (pc1 := 5) (st1 := .int 6 :: _) rfl rfl ?_
    refine w_t (a := 36) (b := 8) rfl rfl rfl ?_
    refine w_p (pc1 := 37) (st1 := .int (-1) :: _) rfl rfl ?_
    refine w_r rfl rfl rfl (fun _ _ => rfl) cr_int ?_
    exact ⟨rfl, rfl, rfl⟩
  | m + 1, k, hk => by
    by_cases h1 : C.1 78 k = 0
    · have e : (decide (C.1 78 k ≠ 0) && decide (C.2.1 79 k = a)) = false := by rw [decide_eq_false (not_not_intro h1)]; rfl
      rw [fnd, e, cond_false]
      refine w_p (pc1 := 3) rfl rfl ?_
      refine w_p (pc1 := 5) (st1 := .int 6 :: _) rfl rfl ?_
      refine w_f (a := 36) (b := 8) (bN_ge_f (a := k) (b := 6) (by omega) (by omega) (by omega)) rfl rfl ?_
      refine w_p (pc1 := 9) rfl rfl ?_
      refine w_m0 (pc1 := 12) rfl rfl (h_gC rfl rfl rfl rfl) rfl ?_
      refine w_p (pc1 := 13) rfl rfl ?_
      refine w_m0 (pc1 := 14) rfl rfl (n_bl (e := k) rfl rfl (by decide) rfl (by omega)) rfl ?_
      refine w_t (a := 30) (b := 17) (cb_eq_t (by exact h1)) rfl rfl ?_
      refine w_iinc (pc1 := 33) (u := nI (k)) (z := nI (k + 1)) (al1 := [(3, .int (nI (k + 1))), (0, .ref 176), (1, .long (a))]) rfl rfl rfl nK_1 rfl rfl ?_
      refine w_p (pc1 := 2) rfl rfl ?_
      exact lp_208 m (k + 1) (by omega)
    · by_cases h2 : C.2.1 79 k = a
      · have e : (decide (C.1 78 k ≠ 0) && decide (C.2.1 79 k = a)) = true := by rw [decide_eq_true h1, decide_eq_true h2]; rfl
        rw [fnd, e, cond_true]
        refine w_p (pc1 := 3) rfl rfl ?_
        refine w_p (pc1 := 5) (st1 := .int 6 :: _) rfl rfl ?_
        refine w_f (a := 36) (b := 8) (bN_ge_f (a := k) (b := 6) (by omega) (by omega) (by omega)) rfl rfl ?_
        refine w_p (pc1 := 9) rfl rfl ?_
        refine w_m0 (pc1 := 12) rfl rfl (h_gC rfl rfl rfl rfl) rfl ?_
        refine w_p (pc1 := 13) rfl rfl ?_
        refine w_m0 (pc1 := 14) rfl rfl (n_bl (e := k) rfl rfl (by decide) rfl (by omega)) rfl ?_
        refine w_f (a := 30) (b := 17) (cb_eq_f (by exact h1)) rfl rfl ?_
        refine w_p (pc1 := 18) rfl rfl ?_
        refine w_m0 (pc1 := 21) rfl rfl (h_gC rfl rfl rfl rfl) rfl ?_
        refine w_p (pc1 := 22) rfl rfl ?_
        refine w_m0 (pc1 := 23) rfl rfl (n_ll (e := k) rfl rfl rfl (by omega)) rfl ?_
        refine w_p (pc1 := 24) rfl rfl ?_
        refine w_p (pc1 := 25) rfl rfl ?_
        refine w_f (a := 30) (b := 28) (lb_ne_f (by exact h2)) rfl rfl ?_
        refine w_p (pc1 := 29) rfl rfl ?_
        refine w_r rfl rfl rfl (fun _ _ => rfl) cr_int ?_
        exact ⟨rfl, rfl, rfl⟩
      · have e : (decide (C.1 78 k ≠ 0) && decide (C.2.1 79 k = a)) = false := by rw [decide_eq_false h2, Bool.and_false]
        rw [fnd, e, cond_false]
        refine w_p (pc1 := 3) rfl rfl ?_
        refine w_p (pc1 := 5) (st1 := .int 6 :: _) rfl rfl ?_
        refine w_f (a := 36) (b := 8) (bN_ge_f (a := k) (b := 6) (by omega) (by omega) (by omega)) rfl rfl ?_
        refine w_p (pc1 := 9) rfl rfl ?_
        refine w_m0 (pc1 := 12) rfl rfl (h_gC rfl rfl rfl rfl) rfl ?_
        refine w_p (pc1 := 13) rfl rfl ?_
        refine w_m0 (pc1 := 14) rfl rfl (n_bl (e := k) rfl rfl (by decide) rfl (by omega)) rfl ?_
        refine w_f (a := 30) (b := 17) (cb_eq_f (by exact h1)) rfl rfl ?_
        refine w_p (pc1 := 18) rfl rfl ?_
        refine w_m0 (pc1 := 21) rfl rfl (h_gC rfl rfl rfl rfl) rfl ?_
        refine w_p (pc1 := 22) rfl rfl ?_
        refine w_m0 (pc1 := 23) rfl rfl (n_ll (e := k) rfl rfl rfl (by omega)) rfl ?_
        refine w_p (pc1 := 24) rfl rfl ?_
        refine w_p (pc1 := 25) rfl rfl ?_
        refine w_t (a := 30) (b := 28) (lb_ne_t (by exact h2)) rfl rfl ?_
        refine w_iinc (pc1 := 33) (u := nI (k)) (z := nI (k + 1)) (al1 := [(3, .int (nI (k + 1))), (0, .ref 176), (1, .long (a))]) rfl rfl rfl nK_1 rfl rfl ?_
        refine w_p (pc1 := 2) rfl rfl ?_
        exact lp_208 m (k + 1) (by omega)
set_option maxRecDepth 100000 in
theorem m_208 {a : Int64} {sl : Nat} : Wd L xs d y_208 (0, [(0, .ref 176), (1, .long a)], [], MH C t, sl) (Rt (some (.int (fnd (fun j => decide (C.1 78 j ≠ 0) && decide (C.2.1 79 j = a)) 6 0))) (MH C t) sl) nX := by
  refine w_p (pc1 := 1) (st1 := .int 0 :: _) rfl rfl ?_
  refine w_p (pc1 := 2) (al1 := [(3, .int 0), (0, .ref 176), (1, .long (a))]) rfl rfl ?_
  exact lp_208 6 0 (by omega)
set_option maxRecDepth 100000 in
theorem m_208r {a : Int64} {r : Int32} {sl : Nat} (h : fnd (fun j => decide (C.1 78 j ≠ 0) && decide (C.2.1 79 j = a)) 6 0 = r) : Wd L xs d y_208 (0, [(0, .ref 176), (1, .long a)], [], MH C t, sl) (Rt (some (.int r)) (MH C t) sl) nX := by
  rw [← h]
  exact m_208
set_option maxRecDepth 100000 in
theorem lp_237 {a : Int64} {sl : Nat} : ∀ m k : Nat, k + m = 8 → Wd L xs d y_237 (2, [(3, .int (nI k)), (0, .ref 176), (1, .long a)], [], MH C t, sl) (Rt (some (.int (fnd (fun j => decide (C.1 95 j ≠ 0) && decide (C.2.1 96 j = a)) m k))) (MH C t) sl) nX
  | 0, k, hk => by
    obtain rfl : k = 8 := by omega
    refine w_p (pc1 := 3) rfl rfl ?_
    refine w_p (pc1 := 5) (st1 := .int 8 :: _) rfl rfl ?_
    refine w_t (a := 36) (b := 8) rfl rfl rfl ?_
    refine w_p (pc1 := 37) (st1 := .int (-1) :: _) rfl rfl ?_
    refine w_r rfl rfl rfl (fun _ _ => rfl) cr_int ?_
    exact ⟨rfl, rfl, rfl⟩
  | m + 1, k, hk => by
    by_cases h1 : C.1 95 k = 0
    · have e : (decide (C.1 95 k ≠ 0) && decide (C.2.1 96 k = a)) = false := by rw [decide_eq_false (not_not_intro h1)]; rfl
      rw [fnd, e, cond_false]
      refine w_p (pc1 := 3) rfl rfl ?_
      refine w_p (pc1 := 5) (st1 := .int 8 :: _) rfl rfl ?_
      refine w_f (a := 36) (b := 8) (bN_ge_f (a := k) (b := 8) (by omega) (by omega) (by omega)) rfl rfl ?_
      refine w_p (pc1 := 9) rfl rfl ?_
      refine w_m0 (pc1 := 12) rfl rfl (h_gC rfl rfl rfl rfl) rfl ?_
      refine w_p (pc1 := 13) rfl rfl ?_
      refine w_m0 (pc1 := 14) rfl rfl (n_bl (e := k) rfl rfl (by decide) rfl (by omega)) rfl ?_
      refine w_t (a := 30) (b := 17) (cb_eq_t (by exact h1)) rfl rfl ?_
      refine w_iinc (pc1 := 33) (u := nI (k)) (z := nI (k + 1)) (al1 := [(3, .int (nI (k + 1))), (0, .ref 176), (1, .long (a))]) rfl rfl rfl nK_1 rfl rfl ?_
      refine w_p (pc1 := 2) rfl rfl ?_
      exact lp_237 m (k + 1) (by omega)
    · by_cases h2 : C.2.1 96 k = a
      · have e : (decide (C.1 95 k ≠ 0) && decide (C.2.1 96 k = a)) = true := by rw [decide_eq_true h1, decide_eq_true h2]; rfl
        rw [fnd, e, cond_true]
        refine w_p (pc1 := 3) rfl rfl ?_
        refine w_p (pc1 := 5) (st1 := .int 8 :: _) rfl rfl ?_
        refine w_f (a := 36) (b := 8) (bN_ge_f (a := k) (b := 8) (by omega) (by omega) (by omega)) rfl rfl ?_
        refine w_p (pc1 := 9) rfl rfl ?_
        refine w_m0 (pc1 := 12) rfl rfl (h_gC rfl rfl rfl rfl) rfl ?_
        refine w_p (pc1 := 13) rfl rfl ?_
        refine w_m0 (pc1 := 14) rfl rfl (n_bl (e := k) rfl rfl (by decide) rfl (by omega)) rfl ?_
        refine w_f (a := 30) (b := 17) (cb_eq_f (by exact h1)) rfl rfl ?_
        refine w_p (pc1 := 18) rfl rfl ?_
        refine w_m0 (pc1 := 21) rfl rfl (h_gC rfl rfl rfl rfl) rfl ?_
        refine w_p (pc1 := 22) rfl rfl ?_
        refine w_m0 (pc1 := 23) rfl rfl (n_ll (e := k) rfl rfl rfl (by omega)) rfl ?_
        refine w_p (pc1 := 24) rfl rfl ?_
        refine w_p (pc1 := 25) rfl rfl ?_
        refine w_f (a := 30) (b := 28) (lb_ne_f (by exact h2)) rfl rfl ?_
        refine w_p (pc1 := 29) rfl rfl ?_
        refine w_r rfl rfl rfl (fun _ _ => rfl) cr_int ?_
        exact ⟨rfl, rfl, rfl⟩
      · have e : (decide (C.1 95 k ≠ 0) && decide (C.2.1 96 k = a)) = false := by rw [decide_eq_false h2, Bool.and_false]
        rw [fnd, e, cond_false]
        refine w_p (pc1 := 3) rfl rfl ?_
        refine w_p (pc1 := 5) (st1 := .int 8 :: _) rfl rfl ?_
        refine w_f (a := 36) (b := 8) (bN_ge_f (a := k) (b := 8) (by omega) (by omega) (by omega)) rfl rfl ?_
        refine w_p (pc1 := 9) rfl rfl ?_
        refine w_m0 (pc1 := 12) rfl rfl (h_gC rfl rfl rfl rfl) rfl ?_
        refine w_p (pc1 := 13) rfl rfl ?_
        refine w_m0 (pc1 := 14) rfl rfl (n_bl (e := k) rfl rfl (by decide) rfl (by omega)) rfl ?_
        refine w_f (a := 30) (b := 17) (cb_eq_f (by exact h1)) rfl rfl ?_
        refine w_p (pc1 := 18) rfl rfl ?_
        refine w_m0 (pc1 := 21) rfl rfl (h_gC rfl rfl rfl rfl) rfl ?_
        refine w_p (pc1 := 22) rfl rfl ?_
        refine w_m0 (pc1 := 23) rfl rfl (n_ll (e := k) rfl rfl rfl (by omega)) rfl ?_
        refine w_p (pc1 := 24) rfl rfl ?_
        refine w_p (pc1 := 25) rfl rfl ?_
        refine w_t (a := 30) (b := 28) (lb_ne_t (by exact h2)) rfl rfl ?_
        refine w_iinc (pc1 := 33) (u := nI (k)) (z := nI (k + 1)) (al1 := [(3, .int (nI (k + 1))), (0, .ref 176), (1, .long (a))]) rfl rfl rfl nK_1 rfl rfl ?_
        refine w_p (pc1 := 2) rfl rfl ?_
        exact lp_237 m (k + 1) (by omega)
set_option maxRecDepth 100000 in
theorem m_237 {a : Int64} {sl : Nat} : Wd L xs d y_237 (0, [(0, .ref 176), (1, .long a)], [], MH C t, sl) (Rt (some (.int (fnd (fun j => decide (C.1 95 j ≠ 0) && decide (C.2.1 96 j = a)) 8 0))) (MH C t) sl) nX := by
  refine w_p (pc1 := 1) (st1 := .int 0 :: _) rfl rfl ?_
  refine w_p (pc1 := 2) (al1 := [(3, .int 0), (0, .ref 176), (1, .long (a))]) rfl rfl ?_
  exact lp_237 8 0 (by omega)
set_option maxRecDepth 100000 in
theorem m_237r {a : Int64} {r : Int32} {sl : Nat} (h : fnd (fun j => decide (C.1 95 j ≠ 0) && decide (C.2.1 96 j = a)) 8 0 = r) : Wd L xs d y_237 (0, [(0, .ref 176), (1, .long a)], [], MH C t, sl) (Rt (some (.int r)) (MH C t) sl) nX := by
  rw [← h]
  exact m_237
/-! the names as the other side keeps them -/
def SCM (C : co_T) (sc : sc_T) : Prop := ∀ b, b < 6 → C.1 78 b = ck (decide (sc.1 b ≠ 0)) ∧ (sc.1 b ≠ 0 → C.2.1 79 b = sc.1 b ∧ C.1 80 b = nI (sc.2.1 b) ∧ sc.2.1 b ≤ 6 ∧ ∀ c, c < sc.2.1 b → C.2.1 81 (6 * b + c) = sc.2.2 b c)
set_option maxRecDepth 100000 in
theorem SCM_S (S : SCM C sc) (h : fS_y U V C C') (hV : ∀ b, sc.1 b ≠ 0 → ¬ V b) : SCM C' sc := fun b hb => ⟨(fSy_a h (Or.inr (Or.inl rfl))).trans (S b hb).1, fun hz => by
  obtain ⟨h1, h2, h3, h4⟩ := (S b hb).2 hz
  have hv := hV b hz
  refine ⟨(h.2.1 79 b (fun a => ?_)).trans h1, (h.1 80 b (fun a => ?_)).trans h2, h3, fun c hc => (h.2.1 81 _ (fun a => ?_)).trans (h4 c hc)⟩
  · unfold sxJ at a
    rcases a with a | a | a | a | a | a
    · omega
    · omega
    · omega
    · omega
    · exact hv a.2
    · omega
  · unfold sxI at a
    rcases a with a | a | a | a | a | a | a | a
    · omega
    · omega
    · omega
    · omega
    · omega
    · omega
    · omega
    · exact hv a.2
  · unfold sxJ at a
    rcases a with a | a | a | a | a | a
    · omega
    · omega
    · omega
    · omega
    · omega
    · have e : (6 * b + c) / 6 = b := by omega
      rw [e] at a
      exact hv a.2⟩
set_option maxRecDepth 100000 in
theorem SCM_T (S : SCM C sc) (h : frT C C') : SCM C' sc := SCM_S (U := fun _ => False) (V := fun _ => False) S (fSy_T h) (fun _ _ a => a)
set_option maxRecDepth 100000 in
theorem ck_0 {x : Bool} : ck x ≠ 0 ↔ x = true := by
  cases x <;> decide
set_option maxRecDepth 100000 in
theorem tbF_M (S : SCM C sc) (v : Int64) : fnd (fun j => decide (C.1 78 j ≠ 0) && decide (C.2.1 79 j = v)) 6 0 = tbF sc.1 v := fnd_c 6 0 (fun j _ hj => by
  show (decide (C.1 78 j ≠ 0) && decide (C.2.1 79 j = v)) = (!decide (sc.1 j = 0) && decide (sc.1 j = v))
  obtain ⟨h1, h2⟩ := S j (by omega)
  by_cases hz : sc.1 j = 0
  · rw [h1, decide_eq_true hz, decide_eq_false (fun e => (ck_0.mp e |> of_decide_eq_true) hz)]
    rfl
  · rw [h1, decide_eq_false hz, (h2 hz).1, decide_eq_true (ck_0.mpr (decide_eq_true hz))]
    rfl)
set_option maxRecDepth 100000 in
theorem clF_M (S : SCM C sc) (hb : b < 6) (hz : sc.1 b ≠ 0) (v : Int64) : fnd (fun j => decide (C.2.1 81 (6 * b + j) = v)) (sc.2.1 b) 0 = clF sc b v := fnd_c _ 0 (fun j _ hj => by
  show decide (C.2.1 81 (6 * b + j) = v) = _
  rw [((S b hb).2 hz).2.2.2 j (by omega)])
/-! a table -/
def PTM (B : Nat → Nat) (n : Nat) (U V : Nat → Prop) (C0 C : co_T) (t : ab_H) (sc : sc_T) (i : Nat) (nl : Option Nat) : Option Value → ab_H → Nat → Prop := fun v h m => (∃ b, some (.int (nI b)) = v ∧ (∃ C', (rTab (tkP B n) sc i = .inr (b, i + 1) ∧ (b < 6 ∧ sc.1 b ≠ 0) ∧ kd B n (i + 1) ≠ 1 ∧ MS B n U V C0 C' (i + 1) nl ∧ frT C C') ∧ MH C' t = h) ∧ 0 = m) ∨ (∃ b, some (.int (nI b)) = v ∧ (∃ C', (∃ c j, flS B n Prod.snd (rTab (tkP B n) sc i) c j ∧ FS B n U V C0 C' c j ∧ frT C C') ∧ MH C' t = h) ∧ 0 = m)
set_option maxRecDepth 100000 in
theorem m_238 (M : MS B n U V C0 C i nl) (S : SCM C sc) : Wd L xs (d + 4) y_238 (0, [(0, .ref 176)], [], MH C t, 0) (PTM B n U V C0 C t sc i nl) nX := by
  have hk1 : kd B n i ≠ 1 := M.2.1.1
  by_cases hk : kd B n i = 3
  · have hv : C.2.1 76 7 = vl B n i := by rw [M.2.1.2.2.2.1, hk]; rfl
    have hfn := tbF_M S (vl B n i)
    by_cases hf : tbF sc.1 (vl B n i) = -1
    · have hx : rTab (tkP B n) sc i = .inl (4, i) := rTab_4 hk hf
      have F := FS_new (c := 4) M (by decide)
      refine w_p (pc1 := 1) rfl rfl ?_
      refine w_je (pc1 := 4) (vs := [.ref 176]) (rest := []) (st1 := [.int 1]) (m_207y (d := _) M hk) rfl rfl rfl (fun _ _ => rfl) rfl (by exact cl_v my_207 rfl rfl rfl (Nat.le_of_ble_eq_true rfl) rfl (MH_obj rfl rfl) rfl (by decide) rfl rfl) (by rfl) (Nat.le_of_ble_eq_true rfl) (Nat.le_of_ble_eq_true rfl) rfl (by rfl) ?_
      refine w_t (a := 9) (b := 7) rfl rfl rfl ?_
      refine w_p (pc1 := 10) rfl rfl ?_
      refine w_p (pc1 := 11) rfl rfl ?_
      refine w_m0 (pc1 := 14) (st1 := .long (vl B n i) :: _) rfl rfl (h_gJe (j := 7) rfl rfl rfl rfl rfl (hv)) rfl ?_
      refine w_je (pc1 := 17) (vs := [.ref 176, .long (vl B n i)]) (rest := []) (st1 := [.int (-1)]) (m_208r (d := _) (sl := 0) (hfn.trans hf)) rfl rfl rfl (fun _ _ => rfl) rfl (by exact cl_v my_208 rfl rfl rfl (Nat.le_of_ble_eq_true rfl) rfl (MH_obj rfl rfl) rfl (by decide) rfl rfl) (by rfl) (Nat.le_of_ble_eq_true rfl) (Nat.le_of_ble_eq_true rfl) rfl (by rfl) ?_
      refine w_p (pc1 := 18) (al1 := [(1, .int (-1)), (0, .ref 176)]) rfl rfl ?_
      refine w_p (pc1 := 19) rfl rfl ?_
      refine w_p (pc1 := 20) (st1 := .int (-1) :: _) rfl rfl ?_
      refine w_f (a := 28) (b := 23) rfl rfl rfl ?_
      refine w_p (pc1 := 24) rfl rfl ?_
      refine w_p (pc1 := 25) (st1 := .int 4 :: _) rfl rfl ?_
      refine w_je (pc1 := 28) (vs := [.ref 176, .int 4]) (rest := []) (st1 := []) (m_200 (d := _) (sl := 0) (fun z => absurd M.2.1.2.1 z)) rfl rfl rfl (fun _ _ => rfl) rfl (by exact cl_v my_200 rfl rfl rfl (Nat.le_of_ble_eq_true rfl) rfl (MH_obj rfl rfl) rfl (by decide) rfl rfl) (by rfl) (Nat.le_of_ble_eq_true rfl) (Nat.le_of_ble_eq_true rfl) rfl (by rfl) ?_
      refine w_p (pc1 := 29) rfl rfl ?_
      refine w_ji (pc1 := 32) (vs := [.ref 176]) (rest := []) (nFS (d := _) F) rfl rfl rfl (fun _ _ => rfl) rfl (by exact cl_v my_195 rfl rfl rfl (Nat.le_of_ble_eq_true rfl) rfl (MH_obj rfl rfl) rfl (by decide) rfl rfl) (by rfl) (Nat.le_of_ble_eq_true rfl) (Nat.le_of_ble_eq_true rfl) rfl (fun v h1 d1 hq => ?_) (fun _ _ _ e => e.elim)
      rcases hq with ⟨hv, ⟨C1, h1, hh⟩, hn⟩
      · subst hv; subst hh; subst hn
        refine w_p (pc1 := 33) rfl rfl ?_
        refine w_p (pc1 := 34) (st1 := .int (-1) :: _) rfl rfl ?_
        refine w_f (a := 41) (b := 37) rfl rfl rfl ?_
        refine w_p (pc1 := 38) (st1 := .int 0 :: _) rfl rfl ?_
        refine w_p (pc1 := 42) rfl rfl ?_
        refine w_r rfl rfl rfl (fun _ _ => rfl) cr_int ?_
        exact Or.inr ⟨0, rfl, ⟨_, ⟨4, i, flS_n hx hk1, h1.1, frT_t frT_f h1.2⟩, rfl⟩, rfl⟩
    · obtain ⟨b, hb1, hb2, hb3, hb4⟩ := tbF_b hf
      have hx : rTab (tkP B n) sc i = .inr (b, i + 1) := rTab_s hk hf hb4
      refine w_p (pc1 := 1) rfl rfl ?_
      refine w_je (pc1 := 4) (vs := [.ref 176]) (rest := []) (st1 := [.int 1]) (m_207y (d := _) M hk) rfl rfl rfl (fun _ _ => rfl) rfl (by exact cl_v my_207 rfl rfl rfl (Nat.le_of_ble_eq_true rfl) rfl (MH_obj rfl rfl) rfl (by decide) rfl rfl) (by rfl) (Nat.le_of_ble_eq_true rfl) (Nat.le_of_ble_eq_true rfl) rfl (by rfl) ?_
      refine w_t (a := 9) (b := 7) rfl rfl rfl ?_
      refine w_p (pc1 := 10) rfl rfl ?_
      refine w_p (pc1 := 11) rfl rfl ?_
      refine w_m0 (pc1 := 14) (st1 := .long (vl B n i) :: _) rfl rfl (h_gJe (j := 7) rfl rfl rfl rfl rfl (hv)) rfl ?_
      refine w_je (pc1 := 17) (vs := [.ref 176, .long (vl B n i)]) (rest := []) (st1 := [.int (nI (b))]) (m_208r (d := _) (sl := 0) (hfn.trans hb1)) rfl rfl rfl (fun _ _ => rfl) rfl (by exact cl_v my_208 rfl rfl rfl (Nat.le_of_ble_eq_true rfl) rfl (MH_obj rfl rfl) rfl (by decide) rfl rfl) (by rfl) (Nat.le_of_ble_eq_true rfl) (Nat.le_of_ble_eq_true rfl) rfl (by rfl) ?_
      refine w_p (pc1 := 18) (al1 := [(1, .int (nI (b))), (0, .ref 176)]) rfl rfl ?_
      refine w_p (pc1 := 19) rfl rfl ?_
      refine w_p (pc1 := 20) (st1 := .int (-1) :: _) rfl rfl ?_
      refine w_t (a := 28) (b := 23) (cb_ne_t (by exact nK_m1 (by omega))) rfl rfl ?_
      refine w_p (pc1 := 29) rfl rfl ?_
      refine w_ji (pc1 := 32) (vs := [.ref 176]) (rest := []) (nS (d := _) M (by rw [hk]; decide)) rfl rfl rfl (fun _ _ => rfl) rfl (by exact cl_v my_195 rfl rfl rfl (Nat.le_of_ble_eq_true rfl) rfl (MH_obj rfl rfl) rfl (by decide) rfl rfl) (by rfl) (Nat.le_of_ble_eq_true rfl) (Nat.le_of_ble_eq_true rfl) rfl (fun v h1 d1 hq => ?_) (fun _ _ _ e => e.elim)
      rcases hq with ⟨hv, ⟨C1, h1, hh⟩, hn⟩ | ⟨hv, ⟨C1, h1, hh⟩, hn⟩
      · subst hv; subst hh; subst hn
        refine w_p (pc1 := 33) rfl rfl ?_
        refine w_p (pc1 := 34) (st1 := .int (-1) :: _) rfl rfl ?_
        refine w_t (a := 41) (b := 37) (cb_ne_t (by exact nK_m1 (by omega))) rfl rfl ?_
        refine w_p (pc1 := 42) rfl rfl ?_
        refine w_r rfl rfl rfl (fun _ _ => rfl) cr_int ?_
        first
        | exact Or.inl ⟨b, rfl, ⟨_, ⟨hx, ⟨hb2, hb3⟩, h1⟩, rfl⟩, rfl⟩
        | exact Or.inr ⟨b, rfl, ⟨_, ⟨1, i + 1, flS_e hx rfl h1.1, h1.2⟩, rfl⟩, rfl⟩
      · subst hv; subst hh; subst hn
        refine w_p (pc1 := 33) rfl rfl ?_
        refine w_p (pc1 := 34) (st1 := .int (-1) :: _) rfl rfl ?_
        refine w_t (a := 41) (b := 37) (cb_ne_t (by exact nK_m1 (by omega))) rfl rfl ?_
        refine w_p (pc1 := 42) rfl rfl ?_
        refine w_r rfl rfl rfl (fun _ _ => rfl) cr_int ?_
        first
        | exact Or.inl ⟨b, rfl, ⟨_, ⟨hx, ⟨hb2, hb3⟩, h1⟩, rfl⟩, rfl⟩
        | exact Or.inr ⟨b, rfl, ⟨_, ⟨1, i + 1, flS_e hx rfl h1.1, h1.2⟩, rfl⟩, rfl⟩
  · have hx : rTab (tkP B n) sc i = .inl (2, i) := rTab_2 hk
    have F := FS_new (c := 2) M (by decide)
    refine w_p (pc1 := 1) rfl rfl ?_
    refine w_je (pc1 := 4) (vs := [.ref 176]) (rest := []) (st1 := [.int 0]) (m_207n (d := _) M hk) rfl rfl rfl (fun _ _ => rfl) rfl (by exact cl_v my_207 rfl rfl rfl (Nat.le_of_ble_eq_true rfl) rfl (MH_obj rfl rfl) rfl (by decide) rfl rfl) (by rfl) (Nat.le_of_ble_eq_true rfl) (Nat.le_of_ble_eq_true rfl) rfl (by rfl) ?_
    refine w_f (a := 9) (b := 7) rfl rfl rfl ?_
    refine w_p (pc1 := 8) (st1 := .int 0 :: _) rfl rfl ?_
    refine w_r rfl rfl rfl (fun _ _ => rfl) cr_int ?_
    exact Or.inr ⟨0, rfl, ⟨_, ⟨2, i, flS_n hx hk1, F, frT_f⟩, rfl⟩, rfl⟩
end MSS
