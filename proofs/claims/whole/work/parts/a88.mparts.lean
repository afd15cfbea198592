
/-! THE OTHER SIDE READS STATEMENTS, 3: a new row's parts -/
section MSP
variable {L : Nat} {xs : Nat → Int32} {B : Nat → Nat} {n : Nat} {C C' C0 C1 : co_T} {t : ab_H} {d i i0 i1 j b e p k w q : Nat} {U V : Nat → Prop} {c : Int32} {sc : sc_T} {row : Option Nat} {tg : Option (Nat × Nat)} {nl : Option Nat} {E : fe_T} {tr : Nat → Option tr_T}
def fH_y (p : Nat) (C C' : co_T) : Prop := (∀ k j, ¬ (k = 76 ∧ (3 ≤ j ∧ j ≤ 9 ∨ 40 ≤ j ∧ j ≤ 45 ∨ j = 52)) → ¬ (k = 106 ∧ 620 * p ≤ j ∧ j < 620 * p + 620) → k ≠ 108 → C'.1 k j = C.1 k j) ∧ (∀ k j, ¬ (k = 76 ∧ j = 7) → ¬ (k = 107 ∧ 620 * p ≤ j ∧ j < 620 * p + 620) → k ≠ 109 → C'.2.1 k j = C.2.1 k j) ∧ C'.2.2 = C.2.2
set_option maxRecDepth 100000 in
theorem fHy_r : fH_y p C C := ⟨fun _ _ _ _ _ => rfl, fun _ _ _ _ _ => rfl, rfl⟩
set_option maxRecDepth 100000 in
theorem fHy_t {C1 C2 C3 : co_T} (h : fH_y p C1 C2) (g : fH_y p C2 C3) : fH_y p C1 C3 := ⟨fun k j a b c => (g.1 k j a b c).trans (h.1 k j a b c), fun k j a b c => (g.2.1 k j a b c).trans (h.2.1 k j a b c), g.2.2.trans h.2.2⟩
set_option maxRecDepth 100000 in
theorem fHy_T (h : frT C C') : fH_y p C C' := ⟨fun k j a _ _ => h.1 k j (by omega), fun k j a _ _ => h.2.1 k j a, h.2.2⟩
set_option maxRecDepth 100000 in
theorem fHy_G {wb : Nat} (h : frG p b wb C C') : fH_y p C C' := ⟨fun k j a d e => h.1 k j (by omega) (by omega) (by omega), fun k j a d e => h.2.1 k j a (by omega) (by omega), h.2.2⟩
set_option maxRecDepth 100000 in
theorem fHy_I {v : Int32} (h : 40 ≤ j ∧ j ≤ 45) : fH_y p C (sI C 76 j v) := ⟨fun q i a _ _ => by rw [sI_1, if_neg (by omega)], fun _ _ _ _ _ => rfl, rfl⟩
set_option maxRecDepth 100000 in
theorem fHy_s {w2 : Int32} {v2 : Int64} (h : b < 620) : fH_y p C (stC C p b w2 v2) := fHy_G (b := b) (wb := 0) (frG_s (Nat.le_refl _) h)
set_option maxRecDepth 100000 in
theorem RXM_H (R : RXM C sc row tg) (h : fH_y p C C') : RXM C' sc row tg := RXM_o R (fun j h1 h2 => h.1 76 j (by omega) (by omega) (by omega)) (fun j => h.1 80 j (by omega) (by omega) (by omega)) (fun j => h.2.1 81 j (by omega) (by omega) (by omega))
/-! items -/
set_option maxRecDepth 100000 in
theorem itM_ap {a c : List it_T} (h : itM C p 0 a) (g : itM C p a.length c) : itM C p 0 (a ++ c) := by
  intro j x hx
  by_cases hj : j < a.length
  · rw [List.getElem?_append_left hj] at hx
    exact h j x hx
  · rw [List.getElem?_append_right (by omega)] at hx
    have := g (j - a.length) x hx
    have e : 0 + j = a.length + (j - a.length) := by omega
    rw [e]
    exact this
set_option maxRecDepth 100000 in
theorem itM_fo {l : List op_T} (h : foM C p b l) : itM C p b (l.map Sum.inl) := by
  intro j x hx
  rw [List.getElem?_map] at hx
  cases hl : l[j]? with
  | none =>
    rw [hl] at hx
    cases hx
  | some q =>
    rw [hl] at hx
    cases hx
    exact h j q hl
set_option maxRecDepth 100000 in
theorem itM_G {a : List it_T} {wb : Nat} (h : itM C p 0 a) (f : frG p a.length wb C C') : itM C' p 0 a := by
  intro j x hx
  have hj : j < a.length := (List.getElem?_eq_some_iff.mp hx).1
  have e1 : C'.1 106 (620 * p + (0 + j)) = C.1 106 (620 * p + (0 + j)) := f.1 _ _ (by omega) (by omega) (by omega)
  have e2 : C'.2.1 107 (620 * p + (0 + j)) = C.2.1 107 (620 * p + (0 + j)) := f.2.1 _ _ (by omega) (by omega) (by omega)
  have := h j x hx
  rw [e1, e2]
  exact this
set_option maxRecDepth 100000 in
theorem itM_T {a : List it_T} (h : itM C p b a) (f : frT C C') : itM C' p b a := by
  intro j x hx
  have := h j x hx
  rw [f.1 106 _ (by omega), f.2.1 107 _ (by omega)]
  exact this
set_option maxRecDepth 100000 in
theorem itM_st {a : List it_T} {w2 : Int32} (h : itM C p 0 a) (hl : a.length < 620) : itM (stC C p a.length w2 (nI k).toInt64) p 0 (a ++ [.inr (w2, k)]) := by
  refine itM_ap (itM_G h (frG_s (wb := 0) (Nat.le_refl _) hl)) (fun j x hx => ?_)
  have hj : j = 0 := by
    have := (List.getElem?_eq_some_iff.mp hx).1
    simp only [List.length_cons, List.length_nil] at this
    omega
  subst hj
  cases hx
  show (stC C p a.length w2 (nI k).toInt64).1 106 _ = w2 ∧ (stC C p a.length w2 (nI k).toInt64).2.1 107 _ = _
  unfold stC
  refine ⟨?_, ?_⟩
  · rw [sI_1, if_neg (by omega), sJ_1, sI_1, if_pos ⟨rfl, rfl⟩]
  · show (sJ _ 107 _ _).2.1 107 _ = _
    rw [sJ_2, if_pos ⟨rfl, rfl⟩]
def ITM (C : co_T) (p : Nat) (a : List it_T) (i : Nat) : Prop := C.1 76 40 = nI p ∧ C.1 76 41 = nI a.length ∧ itM C p 0 a ∧ a.length ≤ i + 1
set_option maxRecDepth 100000 in
theorem ITM_T {a : List it_T} (h : ITM C p a i) (f : frT C C') (hi : i ≤ i1) : ITM C' p a i1 := ⟨(f.1 76 40 (by omega)).trans h.1, (f.1 76 41 (by omega)).trans h.2.1, itM_T h.2.2.1 f, by have := h.2.2.2; omega⟩
set_option maxRecDepth 100000 in
theorem pIt_a : ∀ (i : Nat) (a c : List (Option (List op_T))), pIt i (a ++ c) = pIt i a ++ pIt (i + a.length) c
  | i, [], c => rfl
  | i, none :: a, c => by
    have e : i + (none :: a).length = i + 1 + a.length := by simp only [List.length_cons]; omega
    rw [e]
    show _ :: pIt (i + 1) (a ++ c) = _
    rw [pIt_a (i + 1) a c]
    rfl
  | i, some l :: a, c => by
    have e : i + (some l :: a).length = i + 1 + a.length := by simp only [List.length_cons]; omega
    rw [e]
    show l.map Sum.inl ++ (_ :: pIt (i + 1) (a ++ c)) = _
    rw [pIt_a (i + 1) a c]
    show _ = l.map Sum.inl ++ (_ :: pIt (i + 1) a) ++ _
    rw [List.append_assoc]
    rfl
set_option maxRecDepth 100000 in
theorem pIt_l : ∀ (i : Nat) (a : List (Option (List op_T))), a.length ≤ (pIt i a).length
  | i, [] => Nat.le_refl _
  | i, none :: a => by
    have := pIt_l (i + 1) a
    show a.length + 1 ≤ (pIt (i + 1) a).length + 1
    omega
  | i, some l :: a => by
    have := pIt_l (i + 1) a
    show a.length + 1 ≤ (l.map Sum.inl ++ (_ :: pIt (i + 1) a)).length
    rw [List.length_append, List.length_cons]
    omega
/-! how a change's reading ends -/
def PCH {α : Type} (B : Nat → Nat) (n : Nat) (U V : Nat → Prop) (C0 C : co_T) (t : ab_H) (p : Nat) (it : α → List it_T) (r : pz_T (α × Nat × Option Nat)) : Option Value → ab_H → Nat → Prop := fun v h m => (none = v ∧ (∃ C', (∃ a i' nl', r = .inr (a, i', nl') ∧ kd B n i' ≠ 1 ∧ MS B n U V C0 C' i' nl' ∧ ITM C' p (it a) (i' + 1) ∧ fH_y p C C') ∧ MH C' t = h) ∧ 0 = m) ∨ (none = v ∧ (∃ C', (∃ c j, flS B n (fun x : α × Nat × Option Nat => x.2.1) r c j ∧ FS B n U V C0 C' c j) ∧ MH C' t = h) ∧ 0 = m)
set_option maxRecDepth 100000 in
theorem PCH_f {α : Type} {it : α → List it_T} {r : pz_T (α × Nat × Option Nat)} (h : fH_y p C C1) : ∀ v hh m, PCH B n U V C0 C1 t p it r v hh m → PCH B n U V C0 C t p it r v hh m := by
  intro v hh m hq
  rcases hq with ⟨hv, ⟨C', ⟨a, i', nl', h1, h2, h3, h4, h5⟩, hh⟩, hn⟩ | hq
  · exact Or.inl ⟨hv, ⟨C', ⟨a, i', nl', h1, h2, h3, h4, fHy_t h h5⟩, hh⟩, hn⟩
  · exact Or.inr hq
def pEnd (K : tv2) (b w : Nat) (pre : List (Option (List op_T))) (p : List (Option (List op_T)) × Nat × Option Nat) : pz_T (ac_T × Nat × Option Nat) := if K.1 p.2.1 = 45 then (if (pre ++ p.1).length = w then .inr ((0, some b, [], pre ++ p.1, none, 0), p.2.1 + 1, p.2.2) else .inl (7, p.2.1)) else .inl (2, p.2.1)
set_option maxRecDepth 100000 in
theorem pb_pb {α β γ : Type} {r : pz_T α} {g : α → pz_T β} {k : β → pz_T γ} : pb (pb r g) k = pb r (fun a => pb (g a) k) := by
  cases r <;> rfl
set_option maxRecDepth 100000 in
theorem par_u {K : tv2} {f : Nat} {pre : List (Option (List op_T))} : pb (rPar E (f + 1) i nl) (pEnd K b w pre) = pb (rPt E i nl) (fun x => if E.1 x.2.1 = 48 then pb (rPar E f (x.2.1 + 1) x.2.2) (pEnd K b w (pre ++ [x.1])) else pEnd K b w (pre ++ [x.1]) ([], x.2)) := by
  rw [rPar, pb_pb]
  congr 1
  funext x
  by_cases h : E.1 x.2.1 = 48
  · rw [if_pos h, if_pos h, pb_pb]
    congr 1
    funext y
    show pEnd K b w pre (x.1 :: y.1, y.2) = pEnd K b w (pre ++ [x.1]) y
    unfold pEnd
    rw [List.append_assoc]
    rfl
  · rw [if_neg h, if_neg h]
    show pEnd K b w pre ([x.1], x.2) = _
    unfold pEnd
    rw [List.append_nil]
set_option maxRecDepth 100000 in
theorem par_z {f : Nat} {x : Option (List op_T) × Nat × Option Nat} (h : nzp (rPar E (f + 1) i nl)) (hx : rPt E i nl = .inr x) (h48 : E.1 x.2.1 = 48) : nzp (rPar E f (x.2.1 + 1) x.2.2) := by
  intro q e
  apply h q
  rw [rPar, hx]
  show (if E.1 x.2.1 = 48 then _ else _) = _
  rw [if_pos h48, e]
  rfl
set_option maxRecDepth 100000 in
theorem bd_pE {K : tv2} {pre ps : List (Option (List op_T))} (h : K.1 i = 1) : bdS (pEnd K b w pre (ps, i, nl)) i := ⟨2, if_neg (by show ¬ K.1 i = 45; rw [h]; decide)⟩
set_option maxRecDepth 100000 in
theorem bd_par {f m : Nat} (hm : lst B n m) (h6 : m ≤ 600) (hi : i ≤ m) (hb : kd B n i = 1) (hz : nzp (rPar (fE (tkP B n) sc none tg) f i nl)) : bdS (rPar (fE (tkP B n) sc none tg) f i nl) i := by
  cases f with
  | zero => exact absurd rfl (hz 0)
  | succ f =>
    rw [rPar]
    apply bdS_b
    unfold rPt
    rw [if_neg (by show ¬ kd B n i = 14; rw [hb]; decide)]
    exact bdS_b (bdS_f rfl hm h6 hi hb (Or.inl rfl))
variable {pre : List (Option (List op_T))} {P : Option Value → ab_H → Nat → Prop}
set_option maxRecDepth 100000 in
theorem e241F {x : Int32} (F : FS B n U V C0 C c i) (H : P none (MH C t) 0) : Wd L xs (d + 1) y_241 (26, [(3, .int x), (2, .int (nI k)), (0, .ref 176), (1, .int (nI b))], [], MH C t, 0) P nX := by
  have h0 := FS_0 F
  refine w_p (pc1 := 27) rfl rfl ?_
  refine w_b (a := 110) (b := 30) rfl rfl (fun c27 => ?_) (fun c27 => ?_)
  · replace c27 := cc_eq_t c27
    refine w_p (pc1 := 111) rfl rfl ?_
    refine w_m0 (pc1 := 114) rfl rfl (h_gI (j := 8) rfl rfl rfl rfl rfl) rfl ?_
    refine w_t (a := 142) (b := 117) (cb_ne_t (by exact h0)) rfl rfl ?_
    refine w_p (pc1 := 143) rfl rfl ?_
    refine w_p (pc1 := 145) (st1 := .int 41 :: _) rfl rfl ?_
    refine w_je (pc1 := 148) (vs := [.ref 176, .int 41]) (rest := []) (st1 := []) (m_209f (d := _) F) rfl rfl rfl (fun _ _ => rfl) rfl (by exact cl_v my_209 rfl rfl rfl (Nat.le_of_ble_eq_true rfl) rfl (MH_obj rfl rfl) rfl (by decide) rfl rfl) (by rfl) (Nat.le_of_ble_eq_true rfl) (Nat.le_of_ble_eq_true rfl) rfl (by rfl) ?_
    refine w_r rfl rfl rfl (fun _ _ => rfl) rfl ?_
    exact H
  · replace c27 := cc_eq_f c27
    refine w_p (pc1 := 31) rfl rfl ?_
    refine w_m0 (pc1 := 34) rfl rfl (h_gI (j := 8) rfl rfl rfl rfl rfl) rfl ?_
    refine w_t (a := 110) (b := 37) (cb_ne_t (by exact h0)) rfl rfl ?_
    refine w_p (pc1 := 111) rfl rfl ?_
    refine w_m0 (pc1 := 114) rfl rfl (h_gI (j := 8) rfl rfl rfl rfl rfl) rfl ?_
    refine w_t (a := 142) (b := 117) (cb_ne_t (by exact h0)) rfl rfl ?_
    refine w_p (pc1 := 143) rfl rfl ?_
    refine w_p (pc1 := 145) (st1 := .int 41 :: _) rfl rfl ?_
    refine w_je (pc1 := 148) (vs := [.ref 176, .int 41]) (rest := []) (st1 := []) (m_209f (d := _) F) rfl rfl rfl (fun _ _ => rfl) rfl (by exact cl_v my_209 rfl rfl rfl (Nat.le_of_ble_eq_true rfl) rfl (MH_obj rfl rfl) rfl (by decide) rfl rfl) (by rfl) (Nat.le_of_ble_eq_true rfl) (Nat.le_of_ble_eq_true rfl) rfl (by rfl) ?_
    refine w_r rfl rfl rfl (fun _ _ => rfl) rfl ?_
    exact H
set_option maxRecDepth 100000 in
theorem e241G (F : FS B n U V C0 C c i) (H : P none (MH C t) 0) : Wd L xs (d + 1) y_241 (74, [(3, .int 1), (2, .int (nI k)), (0, .ref 176), (1, .int (nI b))], [], MH C t, 0) P nX := by
  have h0 := FS_0 F
  refine w_iinc (pc1 := 77) (u := nI (k)) (z := nI (k + 1)) (al1 := [(2, .int (nI (k + 1))), (3, .int 1), (0, .ref 176), (1, .int (nI (b)))]) rfl rfl rfl nK_1 rfl rfl ?_
  refine w_p (pc1 := 78) rfl rfl ?_
  refine w_m0 (pc1 := 81) rfl rfl (h_gI (j := 8) rfl rfl rfl rfl rfl) rfl ?_
  refine w_t (a := 97) (b := 84) (cb_ne_t (by exact h0)) rfl rfl ?_
  refine w_p (pc1 := 98) (st1 := .int 0 :: _) rfl rfl ?_
  refine w_p (pc1 := 99) (al1 := [(3, .int 0), (2, .int (nI (k + 1))), (0, .ref 176), (1, .int (nI (b)))]) rfl rfl ?_
  refine w_p (pc1 := 100) rfl rfl ?_
  refine w_t (a := 26) (b := 103) rfl rfl rfl ?_
  exact e241F F H
/-! its end -/
set_option maxRecDepth 100000 in
theorem e241E (M : MS B n U V C0 C i nl) (I : ITM C p (pIt 0 pre) (i + 1)) (hB : TBM C sc b) (h48 : kd B n i ≠ 48) : Wd L xs (d + 5) y_241 (26, [(3, .int 0), (2, .int (nI pre.length)), (0, .ref 176), (1, .int (nI b))], [], MH C t, 0) (PCH B n U V C0 C t p (fun a => pIt 0 (aSs a)) (pEnd (tkP B n) b (sc.2.1 b) pre ([], i, nl))) nX := by
  have hk1 : kd B n i ≠ 1 := M.2.1.1
  have hb6 := hB.1
  have hw6 := hB.2.2.1
  have hl := pIt_l 0 pre
  have hl2 := I.2.2.2
  have hi6 := MS_6 M
  by_cases hk : kd B n i = 45
  · by_cases hw : pre.length = sc.2.1 b
    · have hx : pEnd (tkP B n) b (sc.2.1 b) pre ([], i, nl) = .inr ((0, some b, [], pre, none, 0), i + 1, nl) := by
        unfold pEnd
        show (if kd B n i = 45 then _ else _) = _
        rw [if_pos hk, List.append_nil, if_pos hw]
      rw [hx]
      refine w_p (pc1 := 27) rfl rfl ?_
      refine w_t (a := 110) (b := 30) rfl rfl rfl ?_
      refine w_p (pc1 := 111) rfl rfl ?_
      refine w_m0 (pc1 := 114) (st1 := .int 0 :: _) rfl rfl (h_gIe (j := 8) rfl rfl rfl rfl rfl (M.2.1.2.1)) rfl ?_
      refine w_f (a := 142) (b := 117) rfl rfl rfl ?_
      refine w_p (pc1 := 118) rfl rfl ?_
      refine w_p (pc1 := 120) (st1 := .int 41 :: _) rfl rfl ?_
      refine w_je (pc1 := 123) (vs := [.ref 176, .int 41]) (rest := []) (st1 := [.int 1]) (m_210t (d := _) (sl := 0) (c := 41) ((sg_k (k := 45) M.2.1 (by decide) (by decide)).trans (decide_eq_true hk))) rfl rfl rfl (fun _ _ => rfl) rfl (by exact cl_v my_210 rfl rfl rfl (Nat.le_of_ble_eq_true rfl) rfl (MH_obj rfl rfl) rfl (by decide) rfl rfl) (by rfl) (Nat.le_of_ble_eq_true rfl) (Nat.le_of_ble_eq_true rfl) rfl (by rfl) ?_
      refine w_f (a := 142) (b := 126) rfl rfl rfl ?_
      refine w_p (pc1 := 127) rfl rfl ?_
      refine w_p (pc1 := 128) rfl rfl ?_
      refine w_m0 (pc1 := 131) rfl rfl (h_gC rfl rfl rfl rfl) rfl ?_
      refine w_p (pc1 := 132) rfl rfl ?_
      refine w_m0 (pc1 := 133) (st1 := .int (nI (sc.2.1 b)) :: _) rfl rfl (n_ile (e := b) rfl rfl rfl (by omega) (hB.2.1)) rfl ?_
      refine w_t (a := 142) (b := 136) (bN_eq_t (a := pre.length) (b := sc.2.1 b) (by omega) (by omega) (by exact hw)) rfl rfl ?_
      refine w_p (pc1 := 143) rfl rfl ?_
      refine w_p (pc1 := 145) (st1 := .int 41 :: _) rfl rfl ?_
      refine w_ji (pc1 := 148) (vs := [.ref 176, .int 41]) (rest := []) (m_209 (k := 45) (d := _) (by decide) (by decide) rfl M) rfl rfl rfl (fun _ _ => rfl) rfl (by exact cl_v my_209 rfl rfl rfl (Nat.le_of_ble_eq_true rfl) rfl (MH_obj rfl rfl) rfl (by decide) rfl rfl) (by rfl) (Nat.le_of_ble_eq_true rfl) (Nat.le_of_ble_eq_true rfl) rfl (fun v h1 d1 hq => ?_) (fun _ _ _ e => e.elim)
      rcases hq with ⟨hv, ⟨C1, h1, hh⟩, hn⟩ | ⟨hv, ⟨C1, h1, hh⟩, hn⟩
      · subst hv; subst hh; subst hn
        refine w_r rfl rfl rfl (fun _ _ => rfl) rfl ?_
        first
        | exact Or.inl ⟨rfl, ⟨_, ⟨_, _, _, rfl, h1.2.1, h1.2.2.1, ITM_T I h1.2.2.2 (Nat.le_succ _), fHy_T h1.2.2.2⟩, rfl⟩, rfl⟩
        | (obtain ⟨c, j, h1, h2, h3⟩ := h1; have hy : xpP (tkP B n) 45 i = .inr (i + 1) := if_pos hk; rw [hy] at h1; exact Or.inr ⟨rfl, ⟨_, ⟨c, j, h1, h2⟩, rfl⟩, rfl⟩)
      · subst hv; subst hh; subst hn
        refine w_r rfl rfl rfl (fun _ _ => rfl) rfl ?_
        first
        | exact Or.inl ⟨rfl, ⟨_, ⟨_, _, _, rfl, h1.2.1, h1.2.2.1, ITM_T I h1.2.2.2 (Nat.le_succ _), fHy_T h1.2.2.2⟩, rfl⟩, rfl⟩
        | (obtain ⟨c, j, h1, h2, h3⟩ := h1; have hy : xpP (tkP B n) 45 i = .inr (i + 1) := if_pos hk; rw [hy] at h1; exact Or.inr ⟨rfl, ⟨_, ⟨c, j, h1, h2⟩, rfl⟩, rfl⟩)
    · have hx : pEnd (tkP B n) b (sc.2.1 b) pre ([], i, nl) = .inl (7, i) := by
        unfold pEnd
        show (if kd B n i = 45 then _ else _) = _
        rw [if_pos hk, List.append_nil, if_neg hw]
      have F := FS_new (c := 7) M (by decide)
      refine w_p (pc1 := 27) rfl rfl ?_
      refine w_t (a := 110) (b := 30) rfl rfl rfl ?_
      refine w_p (pc1 := 111) rfl rfl ?_
      refine w_m0 (pc1 := 114) (st1 := .int 0 :: _) rfl rfl (h_gIe (j := 8) rfl rfl rfl rfl rfl (M.2.1.2.1)) rfl ?_
      refine w_f (a := 142) (b := 117) rfl rfl rfl ?_
      refine w_p (pc1 := 118) rfl rfl ?_
      refine w_p (pc1 := 120) (st1 := .int 41 :: _) rfl rfl ?_
      refine w_je (pc1 := 123) (vs := [.ref 176, .int 41]) (rest := []) (st1 := [.int 1]) (m_210t (d := _) (sl := 0) (c := 41) ((sg_k (k := 45) M.2.1 (by decide) (by decide)).trans (decide_eq_true hk))) rfl rfl rfl (fun _ _ => rfl) rfl (by exact cl_v my_210 rfl rfl rfl (Nat.le_of_ble_eq_true rfl) rfl (MH_obj rfl rfl) rfl (by decide) rfl rfl) (by rfl) (Nat.le_of_ble_eq_true rfl) (Nat.le_of_ble_eq_true rfl) rfl (by rfl) ?_
      refine w_f (a := 142) (b := 126) rfl rfl rfl ?_
      refine w_p (pc1 := 127) rfl rfl ?_
      refine w_p (pc1 := 128) rfl rfl ?_
      refine w_m0 (pc1 := 131) rfl rfl (h_gC rfl rfl rfl rfl) rfl ?_
      refine w_p (pc1 := 132) rfl rfl ?_
      refine w_m0 (pc1 := 133) (st1 := .int (nI (sc.2.1 b)) :: _) rfl rfl (n_ile (e := b) rfl rfl rfl (by omega) (hB.2.1)) rfl ?_
      refine w_f (a := 142) (b := 136) (bN_eq_f (a := pre.length) (b := sc.2.1 b) (by omega) (by omega) (by exact hw)) rfl rfl ?_
      refine w_p (pc1 := 137) rfl rfl ?_
      refine w_p (pc1 := 139) (st1 := .int 7 :: _) rfl rfl ?_
      refine w_je (pc1 := 142) (vs := [.ref 176, .int 7]) (rest := []) (st1 := []) (m_200 (d := _) (sl := 0) (fun z => absurd M.2.1.2.1 z)) rfl rfl rfl (fun _ _ => rfl) rfl (by exact cl_v my_200 rfl rfl rfl (Nat.le_of_ble_eq_true rfl) rfl (MH_obj rfl rfl) rfl (by decide) rfl rfl) (by rfl) (Nat.le_of_ble_eq_true rfl) (Nat.le_of_ble_eq_true rfl) rfl (by rfl) ?_
      refine w_p (pc1 := 143) rfl rfl ?_
      refine w_p (pc1 := 145) (st1 := .int 41 :: _) rfl rfl ?_
      refine w_je (pc1 := 148) (vs := [.ref 176, .int 41]) (rest := []) (st1 := []) (m_209f (d := _) F) rfl rfl rfl (fun _ _ => rfl) rfl (by exact cl_v my_209 rfl rfl rfl (Nat.le_of_ble_eq_true rfl) rfl (MH_obj rfl rfl) rfl (by decide) rfl rfl) (by rfl) (Nat.le_of_ble_eq_true rfl) (Nat.le_of_ble_eq_true rfl) rfl (by rfl) ?_
      refine w_r rfl rfl rfl (fun _ _ => rfl) rfl ?_
      exact Or.inr ⟨rfl, ⟨_, ⟨7, i, flS_n hx hk1, F⟩, rfl⟩, rfl⟩
  · have hx : pEnd (tkP B n) b (sc.2.1 b) pre ([], i, nl) = .inl (2, i) := if_neg hk
    have hy : xpP (tkP B n) 45 i = .inl (2, i) := if_neg hk
    refine w_p (pc1 := 27) rfl rfl ?_
    refine w_t (a := 110) (b := 30) rfl rfl rfl ?_
    refine w_p (pc1 := 111) rfl rfl ?_
    refine w_m0 (pc1 := 114) (st1 := .int 0 :: _) rfl rfl (h_gIe (j := 8) rfl rfl rfl rfl rfl (M.2.1.2.1)) rfl ?_
    refine w_f (a := 142) (b := 117) rfl rfl rfl ?_
    refine w_p (pc1 := 118) rfl rfl ?_
    refine w_p (pc1 := 120) (st1 := .int 41 :: _) rfl rfl ?_
    refine w_je (pc1 := 123) (vs := [.ref 176, .int 41]) (rest := []) (st1 := [.int 0]) (m_210f (d := _) (sl := 0) (c := 41) ((sg_k (k := 45) M.2.1 (by decide) (by decide)).trans (decide_eq_false hk))) rfl rfl rfl (fun _ _ => rfl) rfl (by exact cl_v my_210 rfl rfl rfl (Nat.le_of_ble_eq_true rfl) rfl (MH_obj rfl rfl) rfl (by decide) rfl rfl) (by rfl) (Nat.le_of_ble_eq_true rfl) (Nat.le_of_ble_eq_true rfl) rfl (by rfl) ?_
    refine w_t (a := 142) (b := 126) rfl rfl rfl ?_
    refine w_p (pc1 := 143) rfl rfl ?_
    refine w_p (pc1 := 145) (st1 := .int 41 :: _) rfl rfl ?_
    refine w_ji (pc1 := 148) (vs := [.ref 176, .int 41]) (rest := []) (m_209 (k := 45) (d := _) (by decide) (by decide) rfl M) rfl rfl rfl (fun _ _ => rfl) rfl (by exact cl_v my_209 rfl rfl rfl (Nat.le_of_ble_eq_true rfl) rfl (MH_obj rfl rfl) rfl (by decide) rfl rfl) (by rfl) (Nat.le_of_ble_eq_true rfl) (Nat.le_of_ble_eq_true rfl) rfl (fun v h1 d1 hq => ?_) (fun _ _ _ e => e.elim)
    rcases hq with ⟨hv, ⟨C1, h1, hh⟩, hn⟩ | ⟨hv, ⟨C1, h1, hh⟩, hn⟩
    · subst hv; subst hh; subst hn
      refine w_r rfl rfl rfl (fun _ _ => rfl) rfl ?_
      first
      | exact absurd h1.1 hk
      | (obtain ⟨c, j, h1, h2, h3⟩ := h1; rw [hy] at h1; rw [hx]; exact Or.inr ⟨rfl, ⟨_, ⟨c, j, h1, h2⟩, rfl⟩, rfl⟩)
    · subst hv; subst hh; subst hn
      refine w_r rfl rfl rfl (fun _ _ => rfl) rfl ?_
      first
      | exact absurd h1.1 hk
      | (obtain ⟨c, j, h1, h2, h3⟩ := h1; rw [hy] at h1; rw [hx]; exact Or.inr ⟨rfl, ⟨_, ⟨c, j, h1, h2⟩, rfl⟩, rfl⟩)
/-! a part lies behind -/
set_option maxRecDepth 100000 in
theorem e241S {f : Nat} {x : Option (List op_T)} (IH : ∀ (i : Nat) (nl : Option Nat) (C : co_T) (pre : List (Option (List op_T))), MS B n U V C0 C i nl → RXM C sc none tg → ITM C p (pIt 0 pre) i → TBM C sc b → nzp (rPar (fE (tkP B n) sc none tg) f i nl) → Wd L xs (d + 8) y_241 (26, [(3, .int 1), (2, .int (nI pre.length)), (0, .ref 176), (1, .int (nI b))], [], MH C t, 0) (PCH B n U V C0 C t p (fun a => pIt 0 (aSs a)) (pb (rPar (fE (tkP B n) sc none tg) f i nl) (pEnd (tkP B n) b (sc.2.1 b) pre))) nX) (M : MS B n U V C0 C i nl) (R : RXM C sc none tg) (I : ITM C p (pIt 0 (pre ++ [x])) (i + 1)) (hB : TBM C sc b) (hz : kd B n i = 48 → nzp (rPar (fE (tkP B n) sc none tg) f (i + 1) nl)) : Wd L xs (d + 8) y_241 (74, [(3, .int 1), (2, .int (nI pre.length)), (0, .ref 176), (1, .int (nI b))], [], MH C t, 0) (PCH B n U V C0 C t p (fun a => pIt 0 (aSs a)) (if kd B n i = 48 then pb (rPar (fE (tkP B n) sc none tg) f (i + 1) nl) (pEnd (tkP B n) b (sc.2.1 b) (pre ++ [x])) else pEnd (tkP B n) b (sc.2.1 b) (pre ++ [x]) ([], i, nl))) nX := by
  have el : (pre ++ [x]).length = pre.length + 1 := by rw [List.length_append, List.length_singleton]
  by_cases hk : kd B n i = 48
  · rw [if_pos hk]
    refine w_iinc (pc1 := 77) (u := nI (pre.length)) (z := nI (pre.length + 1)) (al1 := [(2, .int (nI (pre.length + 1))), (3, .int 1), (0, .ref 176), (1, .int (nI (b)))]) rfl rfl rfl nK_1 rfl rfl ?_
    refine w_p (pc1 := 78) rfl rfl ?_
    refine w_m0 (pc1 := 81) (st1 := .int 0 :: _) rfl rfl (h_gIe (j := 8) rfl rfl rfl rfl rfl (M.2.1.2.1)) rfl ?_
    refine w_f (a := 97) (b := 84) rfl rfl rfl ?_
    refine w_p (pc1 := 85) rfl rfl ?_
    refine w_p (pc1 := 87) (st1 := .int 44 :: _) rfl rfl ?_
    refine w_je (pc1 := 90) (vs := [.ref 176, .int 44]) (rest := []) (st1 := [.int 1]) (m_210t (d := _) (sl := 0) (c := 44) ((sg_k (k := 48) M.2.1 (by decide) (by decide)).trans (decide_eq_true hk))) rfl rfl rfl (fun _ _ => rfl) rfl (by exact cl_v my_210 rfl rfl rfl (Nat.le_of_ble_eq_true rfl) rfl (MH_obj rfl rfl) rfl (by decide) rfl rfl) (by rfl) (Nat.le_of_ble_eq_true rfl) (Nat.le_of_ble_eq_true rfl) rfl (by rfl) ?_
    refine w_f (a := 97) (b := 93) rfl rfl rfl ?_
    refine w_p (pc1 := 94) (st1 := .int 1 :: _) rfl rfl ?_
    refine w_p (pc1 := 98) rfl rfl ?_
    refine w_p (pc1 := 99) (al1 := [(3, .int 1), (2, .int (nI (pre.length + 1))), (0, .ref 176), (1, .int (nI (b)))]) rfl rfl ?_
    refine w_p (pc1 := 100) rfl rfl ?_
    refine w_f (a := 26) (b := 103) rfl rfl rfl ?_
    refine w_p (pc1 := 104) rfl rfl ?_
    refine w_ji (pc1 := 107) (vs := [.ref 176]) (rest := []) (nS (d := _) M (by rw [hk]; decide)) rfl rfl rfl (fun _ _ => rfl) rfl (by exact cl_v my_195 rfl rfl rfl (Nat.le_of_ble_eq_true rfl) rfl (MH_obj rfl rfl) rfl (by decide) rfl rfl) (by rfl) (Nat.le_of_ble_eq_true rfl) (Nat.le_of_ble_eq_true rfl) rfl (fun v h1 d1 hq => ?_) (fun _ _ _ e => e.elim)
    rcases hq with ⟨hv, ⟨C1, h1, hh⟩, hn⟩ | ⟨hv, ⟨C1, h1, hh⟩, hn⟩
    · subst hv; subst hh; subst hn
      refine w_p (pc1 := 26) rfl rfl ?_
      first
      | exact Wd_q (by have w := IH _ _ _ _ h1.2.1 (RXM_T R h1.2.2) (ITM_T I h1.2.2 (Nat.le_refl _)) (TBM_o hB (fun j => h1.2.2.1 80 j (by omega)) (fun j => h1.2.2.2.1 81 j (by omega))) (hz hk); rw [el] at w; exact w) (PCH_f (fHy_T h1.2.2)) (fun _ _ _ e => e)
      | (obtain ⟨m, hm1, hm2, hm3⟩ := M.2.2.2.2.1.2; refine e241F h1.2.1 (Or.inr ⟨rfl, ⟨_, ⟨1, i + 1, flS_1 (bdS_b ?_) h1.1, h1.2.1⟩, rfl⟩, rfl⟩); exact bd_par hm1 hm2 (st1 hm1 hm3 hk (by decide) (by decide)) h1.1 (hz hk))
    · subst hv; subst hh; subst hn
      refine w_p (pc1 := 26) rfl rfl ?_
      first
      | exact Wd_q (by have w := IH _ _ _ _ h1.2.1 (RXM_T R h1.2.2) (ITM_T I h1.2.2 (Nat.le_refl _)) (TBM_o hB (fun j => h1.2.2.1 80 j (by omega)) (fun j => h1.2.2.2.1 81 j (by omega))) (hz hk); rw [el] at w; exact w) (PCH_f (fHy_T h1.2.2)) (fun _ _ _ e => e)
      | (obtain ⟨m, hm1, hm2, hm3⟩ := M.2.2.2.2.1.2; refine e241F h1.2.1 (Or.inr ⟨rfl, ⟨_, ⟨1, i + 1, flS_1 (bdS_b ?_) h1.1, h1.2.1⟩, rfl⟩, rfl⟩); exact bd_par hm1 hm2 (st1 hm1 hm3 hk (by decide) (by decide)) h1.1 (hz hk))
  · rw [if_neg hk]
    refine w_iinc (pc1 := 77) (u := nI (pre.length)) (z := nI (pre.length + 1)) (al1 := [(2, .int (nI (pre.length + 1))), (3, .int 1), (0, .ref 176), (1, .int (nI (b)))]) rfl rfl rfl nK_1 rfl rfl ?_
    refine w_p (pc1 := 78) rfl rfl ?_
    refine w_m0 (pc1 := 81) (st1 := .int 0 :: _) rfl rfl (h_gIe (j := 8) rfl rfl rfl rfl rfl (M.2.1.2.1)) rfl ?_
    refine w_f (a := 97) (b := 84) rfl rfl rfl ?_
    refine w_p (pc1 := 85) rfl rfl ?_
    refine w_p (pc1 := 87) (st1 := .int 44 :: _) rfl rfl ?_
    refine w_je (pc1 := 90) (vs := [.ref 176, .int 44]) (rest := []) (st1 := [.int 0]) (m_210f (d := _) (sl := 0) (c := 44) ((sg_k (k := 48) M.2.1 (by decide) (by decide)).trans (decide_eq_false hk))) rfl rfl rfl (fun _ _ => rfl) rfl (by exact cl_v my_210 rfl rfl rfl (Nat.le_of_ble_eq_true rfl) rfl (MH_obj rfl rfl) rfl (by decide) rfl rfl) (by rfl) (Nat.le_of_ble_eq_true rfl) (Nat.le_of_ble_eq_true rfl) rfl (by rfl) ?_
    refine w_t (a := 97) (b := 93) rfl rfl rfl ?_
    refine w_p (pc1 := 98) (st1 := .int 0 :: _) rfl rfl ?_
    refine w_p (pc1 := 99) (al1 := [(3, .int 0), (2, .int (nI (pre.length + 1))), (0, .ref 176), (1, .int (nI (b)))]) rfl rfl ?_
    refine w_p (pc1 := 100) rfl rfl ?_
    refine w_t (a := 26) (b := 103) rfl rfl rfl ?_
    have w := e241E (L := L) (xs := xs) (d := d + 3) (t := t) M I hB hk
    rw [el] at w
    exact w
end MSP
