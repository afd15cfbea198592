
/-! THE OTHER SIDE READS STATEMENTS, 5: settings -/
section MSU2
variable {L : Nat} {xs : Nat → Int32} {B : Nat → Nat} {n : Nat} {C C' C0 C1 : co_T} {t : ab_H} {d i i0 i1 j b e p k w q : Nat} {U V : Nat → Prop} {c : Int32} {sc : sc_T} {row : Option Nat} {tg : Option (Nat × Nat)} {nl : Option Nat} {E : fe_T} {tr : Nat → Option tr_T}
set_option maxRecDepth 100000 in
theorem flS_c {α β : Type} {r : pz_T α} {g : α → pz_T β} {ix : α → Nat} {iy : β → Nat} (h : flS B n ix r c i) (hg : ∀ a, r = .inr a → kd B n (ix a) = 1 → bdS (g a) (ix a) ∨ ∃ y, g a = .inr y ∧ iy y = ix a) : flS B n iy (pb r g) c i := by
  cases r with
  | inl q => exact h
  | inr a =>
    obtain ⟨h1, h2, h3⟩ := h
    show flS B n iy (g a) c i
    rcases hg a rfl h2 with ⟨q, hq⟩ | ⟨y, hy, hi⟩
    · rw [hq]
      refine ⟨h1, ?_⟩
      show c = if kd B n (ix a) = 1 then 1 else q
      rw [if_pos h2]
      exact h3
    · rw [hy]
      exact ⟨h1.trans hi.symm, by rw [hi]; exact h2, h3⟩
set_option maxRecDepth 100000 in
theorem m_213r {v : Int64} {r : Int32} {sl : Nat} (H : TBM C sc b) (h : clF sc b v = r) : Wd L xs d y_213 (0, [(0, .ref 176), (1, .int (nI b)), (2, .long v)], [], MH C t, sl) (Rt (some (.int r)) (MH C t) sl) nX := by
  have w := m_213 (L := L) (xs := xs) (d := d) (C := C) (t := t) (sl := sl) (a := v) H.1 H.2.1 H.2.2.1
  rw [TBM_c H v, h] at w
  exact w
set_option maxRecDepth 100000 in
theorem sIt_a {q : Nat} {l : List op_T} : ∀ (cs : List Nat) (ss : List (Option (List op_T))), cs.length = ss.length → (∀ s, s ∈ ss → s ≠ none) → sIt (cs ++ [q]) (ss ++ [some l]) = sIt cs ss ++ l.map Sum.inl ++ [.inr (15, q)]
  | [], [], _, _ => by
    show l.map Sum.inl ++ [Sum.inr (15, q)] = _
    rfl
  | [], _ :: _, h, _ => by cases h
  | _ :: _, [], h, _ => by cases h
  | c :: cs, none :: ss, _, h => absurd rfl (h none (List.mem_cons_self ..))
  | c :: cs, some s :: ss, h, g => by
    show s.map Sum.inl ++ (_ :: sIt (cs ++ [q]) (ss ++ [some l])) = _
    rw [sIt_a cs ss (by simpa using h) (fun x hx => g x (List.mem_cons_of_mem _ hx))]
    show _ = s.map Sum.inl ++ (_ :: sIt cs ss) ++ l.map Sum.inl ++ _
    rw [List.append_assoc, List.append_assoc, List.append_assoc]
    rfl
def sPre (cs : List Nat) (ss : List (Option (List op_T))) (y : (List Nat × List (Option (List op_T))) × Nat × Option Nat) : pz_T ((List Nat × List (Option (List op_T))) × Nat × Option Nat) := .inr ((cs ++ y.1.1, ss ++ y.1.2), y.2)
set_option maxRecDepth 100000 in
theorem set_u {K : tv2} {f : Nat} {cs : List Nat} {ss : List (Option (List op_T))} : pb (rSet K sc E b (f + 1) cs i nl) (sPre cs ss) = pb (rCol K sc b cs i) (fun c => pb (xpP K 50 c.2) (fun j => pb (rFm E 3 j nl) (fun x => if K.1 x.2.1 = 48 then pb (rSet K sc E b f (cs ++ [c.1]) (x.2.1 + 1) x.2.2) (sPre (cs ++ [c.1]) (ss ++ [some x.1])) else .inr ((cs ++ [c.1], ss ++ [some x.1]), x.2)))) := by
  rw [rSet, pb_pb]
  congr 1
  funext c
  rw [pb_pb]
  congr 1
  funext j
  rw [pb_pb]
  congr 1
  funext x
  by_cases h : K.1 x.2.1 = 48
  · rw [if_pos h, if_pos h, pb_pb]
    congr 1
    funext y
    show (.inr ((cs ++ (c.1 :: y.1.1), ss ++ (some x.1 :: y.1.2)), y.2) : pz_T _) = .inr ((cs ++ [c.1] ++ y.1.1, ss ++ [some x.1] ++ y.1.2), y.2)
    rw [List.append_assoc, List.append_assoc]
    rfl
  · rw [if_neg h, if_neg h]
    rfl
set_option maxRecDepth 100000 in
theorem set_0 {r : pz_T ((List Nat × List (Option (List op_T))) × Nat × Option Nat)} : pb r (sPre [] []) = r := by
  cases r <;> rfl
set_option maxRecDepth 100000 in
theorem set_z {K : tv2} {f q j : Nat} {cs : List Nat} {x : List op_T × Nat × Option Nat} (h : nzp (rSet K sc E b (f + 1) cs i nl)) (h1 : rCol K sc b cs i = .inr (q, j)) (h2 : xpP K 50 j = .inr (j + 1)) (h3 : rFm E 3 (j + 1) nl = .inr x) (h48 : K.1 x.2.1 = 48) : nzp (rSet K sc E b f (cs ++ [q]) (x.2.1 + 1) x.2.2) := by
  intro z e
  apply h z
  rw [rSet, pb_r h1, pb_r h2, pb_r h3, if_pos h48, e]
  rfl
set_option maxRecDepth 100000 in
theorem bd_set {K : tv2} {f : Nat} {cs : List Nat} (hb : K.1 i = 1) (hz : nzp (rSet K sc E b f cs i nl)) : bdS (rSet K sc E b f cs i nl) i := by
  cases f with
  | zero => exact absurd rfl (hz 0)
  | succ f =>
    rw [rSet]
    exact bdS_b (bdS_c hb)
set_option maxRecDepth 100000 in
theorem ITM_s {cs : List Nat} {ss : List (Option (List op_T))} {l : List op_T} {q : Nat} (I : ITM C p (sIt cs ss) i) (hl : cs.length = ss.length) (hs : ∀ s, s ∈ ss → s ≠ none) (h3 : C1.1 76 40 = nI p ∧ C1.1 76 41 = nI ((sIt cs ss).length + l.length)) (h4 : foM C1 p (sIt cs ss).length l) (h5 : (sIt cs ss).length + l.length ≤ i1 + 1) (h6 : frG p (sIt cs ss).length 0 C C1) (h61 : i1 ≤ 600) : ITM (stC C1 p ((sIt cs ss).length + l.length) 15 (nI q).toInt64) p (sIt (cs ++ [q]) (ss ++ [some l])) (i1 + 1) := by
  have e := sIt_a (q := q) (l := l) cs ss hl hs
  have el : (sIt cs ss ++ l.map Sum.inl).length = (sIt cs ss).length + l.length := by rw [List.length_append, List.length_map]
  have g := itM_st (k := q) (w2 := 15) (itM_ap (itM_G I.2.2.1 h6) (itM_fo h4)) (by rw [el]; omega)
  rw [el] at g
  refine ⟨?_, ?_, ?_, ?_⟩
  · unfold stC
    rw [sI_1, if_neg (by omega), sJ_1, sI_1, if_neg (by omega)]
    exact h3.1
  · unfold stC
    rw [sI_1, if_pos ⟨rfl, rfl⟩, e, List.length_append, el]
    rfl
  · rw [e]
    exact g
  · rw [e, List.length_append, el, List.length_singleton]
    omega
/-! columns in bits -/
def bsM (x : Int32) (cs : List Nat) : Prop := ∀ q, q < 6 → btI x q = cs.contains q
set_option maxRecDepth 100000 in
theorem bsM_0 : bsM 0 [] := fun q _ => bbI_0 q
set_option maxRecDepth 100000 in
theorem bt_1 : ∀ q : Fin 6, ∀ r : Fin 6, btI ((1 : Int32) <<< (nI q.1 &&& 31)) r.1 = decide (r.1 = q.1) := by decide
set_option maxRecDepth 100000 in
theorem bsM_i {x : Int32} {cs : List Nat} (h : bsM x cs) (hq : q < 6) : bsM (x ||| (1 <<< (nI q &&& 31))) (cs ++ [q]) := by
  intro r hr
  rw [bbI_or, h r hr, bt_1 ⟨q, hq⟩ ⟨r, hr⟩]
  rw [Bool.eq_iff_iff]
  simp only [Bool.or_eq_true, decide_eq_true_eq, List.contains_eq_mem, List.mem_append, List.mem_singleton]
variable {cs : List Nat} {ss : List (Option (List op_T))} {P : Option Value → ab_H → Nat → Prop} {x y z : Int32}
set_option maxRecDepth 100000 in
theorem e242X (F : FS B n U V C0 C c i) (H : P none (MH C t) 0) : Wd L xs d y_242 (22, [(3, .int x), (2, .int z), (0, .ref 176), (1, .int (nI b))], [], MH C t, 0) P nX := by
  have h0 := FS_0 F
  refine w_p (pc1 := 23) rfl rfl ?_
  refine w_b (a := 149) (b := 26) rfl rfl (fun c23 => ?_) (fun c23 => ?_)
  · replace c23 := cc_eq_t c23
    refine w_r rfl rfl rfl (fun _ _ => rfl) rfl ?_
    exact H
  · replace c23 := cc_eq_f c23
    refine w_p (pc1 := 27) rfl rfl ?_
    refine w_m0 (pc1 := 30) rfl rfl (h_gI (j := 8) rfl rfl rfl rfl rfl) rfl ?_
    refine w_t (a := 149) (b := 33) (cb_ne_t (by exact h0)) rfl rfl ?_
    refine w_r rfl rfl rfl (fun _ _ => rfl) rfl ?_
    exact H
set_option maxRecDepth 100000 in
theorem e242F {u : Nat} (F : FS B n U V C0 C c i) (hU : U p) (hp4 : p ≤ 40) (h40 : C.1 76 40 = nI p) (h41 : C.1 76 41 = nI u) (hu : u ≤ 615) (H : ∀ C', FS B n U V C0 C' c i → P none (MH C' t) 0) : Wd L xs (d + 1) y_242 (107, [(4, .int (nI q)), (3, .int 1), (2, .int z), (0, .ref 176), (1, .int (nI b))], [], MH C t, 0) P nX := by
  have F1 := FS_st (w2 := 15) (v2 := (nI q).toInt64) F hU (show u < 620 by omega)
  have h0 := FS_0 F1
  refine w_p (pc1 := 108) rfl rfl ?_
  refine w_p (pc1 := 110) (st1 := .int 15 :: _) rfl rfl ?_
  refine w_p (pc1 := 112) rfl rfl ?_
  refine w_p (pc1 := 113) (st1 := .long ((nI (q)).toInt64) :: _) rfl rfl ?_
  refine w_je (pc1 := 116) (vs := [.ref 176, .int 15, .long ((nI (q)).toInt64)]) (rest := []) (st1 := []) (m_230 (d := _) (sl := 0) h40 hp4 h41 (by omega)) rfl rfl rfl (fun _ _ => rfl) rfl (by exact cl_v my_230 rfl rfl rfl (Nat.le_of_ble_eq_true rfl) rfl (MH_obj rfl rfl) rfl (by decide) rfl rfl) (by rfl) (Nat.le_of_ble_eq_true rfl) (Nat.le_of_ble_eq_true rfl) rfl (by rfl) ?_
  refine w_p (pc1 := 117) rfl rfl ?_
  refine w_m0 (pc1 := 120) rfl rfl (h_gI (j := 8) rfl rfl rfl rfl rfl) rfl ?_
  refine w_t (a := 136) (b := 123) (cb_ne_t (by exact h0)) rfl rfl ?_
  refine w_p (pc1 := 137) (st1 := .int 0 :: _) rfl rfl ?_
  refine w_p (pc1 := 138) (al1 := [(3, .int 0), (4, .int (nI (q))), (2, .int (z)), (0, .ref 176), (1, .int (nI (b)))]) rfl rfl ?_
  refine w_p (pc1 := 139) rfl rfl ?_
  refine w_t (a := 146) (b := 142) rfl rfl rfl ?_
  refine w_p (pc1 := 22) rfl rfl ?_
  refine Wd_al (al := [(3, .int 0), (2, .int (z)), (0, .ref 176), (1, .int (nI (b)))]) (sba_p [0, 2, 3, 4] rfl rfl) ?_
  exact e242X F1 (H _ F1)
set_option maxRecDepth 100000 in
theorem e242G {u : Nat} (F : FS B n U V C0 C c i) (hU : U p) (hp4 : p ≤ 40) (h40 : C.1 76 40 = nI p) (h41 : C.1 76 41 = nI u) (hu : u ≤ 615) (H : ∀ C', FS B n U V C0 C' c i → P none (MH C' t) 0) : Wd L xs (d + 1) y_242 (90, [(4, .int (nI q)), (3, .int 1), (2, .int z), (0, .ref 176), (1, .int (nI b))], [], MH C t, 0) P nX := by
  have h0 := FS_0 F
  refine w_p (pc1 := 91) rfl rfl ?_
  refine w_p (pc1 := 93) (st1 := .int 61 :: _) rfl rfl ?_
  refine w_je (pc1 := 96) (vs := [.ref 176, .int 61]) (rest := []) (st1 := []) (m_209f (d := _) F) rfl rfl rfl (fun _ _ => rfl) rfl (by exact cl_v my_209 rfl rfl rfl (Nat.le_of_ble_eq_true rfl) rfl (MH_obj rfl rfl) rfl (by decide) rfl rfl) (by rfl) (Nat.le_of_ble_eq_true rfl) (Nat.le_of_ble_eq_true rfl) rfl (by rfl) ?_
  refine w_p (pc1 := 97) rfl rfl ?_
  refine w_m0 (pc1 := 100) rfl rfl (h_gI (j := 8) rfl rfl rfl rfl rfl) rfl ?_
  refine w_t (a := 107) (b := 103) (cb_ne_t (by exact h0)) rfl rfl ?_
  exact e242F F hU hp4 h40 h41 hu H
/-! a setting lies behind -/
set_option maxRecDepth 100000 in
theorem e242S {f : Nat} (IH : ∀ (i : Nat) (nl : Option Nat) (C : co_T) (cs : List Nat) (ss : List (Option (List op_T))) (x : Int32), MS B n U V C0 C i nl → RXM C sc (some b) tg → ITM C p (sIt cs ss) i → cs.length = ss.length → (∀ s, s ∈ ss → s ≠ none) → bsM x cs → nzp (rSet (tkP B n) sc (fE (tkP B n) sc (some b) tg) b f cs i nl) → Wd L xs (d + 8) y_242 (22, [(3, .int 1), (2, .int x), (0, .ref 176), (1, .int (nI b))], [], MH C t, 0) (PCH B n U V C0 C t p (fun a : List Nat × List (Option (List op_T)) => sIt a.1 a.2) (pb (rSet (tkP B n) sc (fE (tkP B n) sc (some b) tg) b f cs i nl) (sPre cs ss))) nX) (M : MS B n U V C0 C i nl) (R : RXM C sc (some b) tg) (I : ITM C p (sIt cs ss) (i + 1)) (hl : cs.length = ss.length) (hs : ∀ s, s ∈ ss → s ≠ none) (hx : bsM x cs) (hz : kd B n i = 48 → nzp (rSet (tkP B n) sc (fE (tkP B n) sc (some b) tg) b f cs (i + 1) nl)) : Wd L xs (d + 8) y_242 (116, [(4, .int (nI q)), (3, .int 1), (2, .int x), (0, .ref 176), (1, .int (nI b))], [], MH C t, 0) (PCH B n U V C0 C t p (fun a : List Nat × List (Option (List op_T)) => sIt a.1 a.2) (if kd B n i = 48 then pb (rSet (tkP B n) sc (fE (tkP B n) sc (some b) tg) b f cs (i + 1) nl) (sPre cs ss) else .inr ((cs, ss), i, nl))) nX := by
  have hk1 : kd B n i ≠ 1 := M.2.1.1
  by_cases hk : kd B n i = 48
  · rw [if_pos hk]
    refine w_p (pc1 := 117) rfl rfl ?_
    refine w_m0 (pc1 := 120) (st1 := .int 0 :: _) rfl rfl (h_gIe (j := 8) rfl rfl rfl rfl rfl (M.2.1.2.1)) rfl ?_
    refine w_f (a := 136) (b := 123) rfl rfl rfl ?_
    refine w_p (pc1 := 124) rfl rfl ?_
    refine w_p (pc1 := 126) (st1 := .int 44 :: _) rfl rfl ?_
    refine w_je (pc1 := 129) (vs := [.ref 176, .int 44]) (rest := []) (st1 := [.int 1]) (m_210t (d := _) (sl := 0) (c := 44) ((sg_k (k := 48) M.2.1 (by decide) (by decide)).trans (decide_eq_true hk))) rfl rfl rfl (fun _ _ => rfl) rfl (by exact cl_v my_210 rfl rfl rfl (Nat.le_of_ble_eq_true rfl) rfl (MH_obj rfl rfl) rfl (by decide) rfl rfl) (by rfl) (Nat.le_of_ble_eq_true rfl) (Nat.le_of_ble_eq_true rfl) rfl (by rfl) ?_
    refine w_f (a := 136) (b := 132) rfl rfl rfl ?_
    refine w_p (pc1 := 133) (st1 := .int 1 :: _) rfl rfl ?_
    refine w_p (pc1 := 137) rfl rfl ?_
    refine w_p (pc1 := 138) (al1 := [(3, .int 1), (4, .int (nI (q))), (2, .int (x)), (0, .ref 176), (1, .int (nI (b)))]) rfl rfl ?_
    refine w_p (pc1 := 139) rfl rfl ?_
    refine w_f (a := 146) (b := 142) rfl rfl rfl ?_
    refine w_p (pc1 := 143) rfl rfl ?_
    refine w_ji (pc1 := 146) (vs := [.ref 176]) (rest := []) (nS (d := _) M (by rw [hk]; decide)) rfl rfl rfl (fun _ _ => rfl) rfl (by exact cl_v my_195 rfl rfl rfl (Nat.le_of_ble_eq_true rfl) rfl (MH_obj rfl rfl) rfl (by decide) rfl rfl) (by rfl) (Nat.le_of_ble_eq_true rfl) (Nat.le_of_ble_eq_true rfl) rfl (fun v h1 d1 hq => ?_) (fun _ _ _ e => e.elim)
    rcases hq with ⟨hv, ⟨C1, h1, hh⟩, hn⟩ | ⟨hv, ⟨C1, h1, hh⟩, hn⟩
    · subst hv; subst hh; subst hn
      refine w_p (pc1 := 22) rfl rfl ?_
      refine Wd_al (al := [(3, .int 1), (2, .int (x)), (0, .ref 176), (1, .int (nI (b)))]) (sba_p [0, 2, 3, 4] rfl rfl) ?_
      first
      | exact Wd_q (IH _ _ _ _ _ _ h1.2.1 (RXM_T R h1.2.2) (ITM_T I h1.2.2 (Nat.le_refl _)) hl hs hx (hz hk)) (PCH_f (fHy_T h1.2.2)) (fun _ _ _ e => e)
      | exact e242X h1.2.1 (Or.inr ⟨rfl, ⟨_, ⟨1, i + 1, flS_1 (bdS_b (bd_set h1.1 (hz hk))) h1.1, h1.2.1⟩, rfl⟩, rfl⟩)
    · subst hv; subst hh; subst hn
      refine w_p (pc1 := 22) rfl rfl ?_
      refine Wd_al (al := [(3, .int 1), (2, .int (x)), (0, .ref 176), (1, .int (nI (b)))]) (sba_p [0, 2, 3, 4] rfl rfl) ?_
      first
      | exact Wd_q (IH _ _ _ _ _ _ h1.2.1 (RXM_T R h1.2.2) (ITM_T I h1.2.2 (Nat.le_refl _)) hl hs hx (hz hk)) (PCH_f (fHy_T h1.2.2)) (fun _ _ _ e => e)
      | exact e242X h1.2.1 (Or.inr ⟨rfl, ⟨_, ⟨1, i + 1, flS_1 (bdS_b (bd_set h1.1 (hz hk))) h1.1, h1.2.1⟩, rfl⟩, rfl⟩)
  · rw [if_neg hk]
    refine w_p (pc1 := 117) rfl rfl ?_
    refine w_m0 (pc1 := 120) (st1 := .int 0 :: _) rfl rfl (h_gIe (j := 8) rfl rfl rfl rfl rfl (M.2.1.2.1)) rfl ?_
    refine w_f (a := 136) (b := 123) rfl rfl rfl ?_
    refine w_p (pc1 := 124) rfl rfl ?_
    refine w_p (pc1 := 126) (st1 := .int 44 :: _) rfl rfl ?_
    refine w_je (pc1 := 129) (vs := [.ref 176, .int 44]) (rest := []) (st1 := [.int 0]) (m_210f (d := _) (sl := 0) (c := 44) ((sg_k (k := 48) M.2.1 (by decide) (by decide)).trans (decide_eq_false hk))) rfl rfl rfl (fun _ _ => rfl) rfl (by exact cl_v my_210 rfl rfl rfl (Nat.le_of_ble_eq_true rfl) rfl (MH_obj rfl rfl) rfl (by decide) rfl rfl) (by rfl) (Nat.le_of_ble_eq_true rfl) (Nat.le_of_ble_eq_true rfl) rfl (by rfl) ?_
    refine w_t (a := 136) (b := 132) rfl rfl rfl ?_
    refine w_p (pc1 := 137) (st1 := .int 0 :: _) rfl rfl ?_
    refine w_p (pc1 := 138) (al1 := [(3, .int 0), (4, .int (nI (q))), (2, .int (x)), (0, .ref 176), (1, .int (nI (b)))]) rfl rfl ?_
    refine w_p (pc1 := 139) rfl rfl ?_
    refine w_t (a := 146) (b := 142) rfl rfl rfl ?_
    refine w_p (pc1 := 22) rfl rfl ?_
    refine w_p (pc1 := 23) rfl rfl ?_
    refine w_t (a := 149) (b := 26) rfl rfl rfl ?_
    refine w_r rfl rfl rfl (fun _ _ => rfl) rfl ?_
    exact Or.inl ⟨rfl, ⟨_, ⟨_, _, _, rfl, hk1, M, I, fHy_r⟩, rfl⟩, rfl⟩
end MSU2
