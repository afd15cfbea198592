/-! THE OTHER SIDE'S FORMULAS, 15: readTest reads what rd says -/
def okA (T : List (Nat × Int64)) : Prop := ∀ x, x ∈ T → x.1 = 8
def okO (T : List (Nat × Int64)) : Prop := ∀ x, x ∈ T → x.1 = 8 ∨ x.1 = 9
set_option maxRecDepth 100000 in
theorem okA_O {T : List (Nat × Int64)} (h : okA T) : okO T := fun x hx => Or.inl (h x hx)
set_option maxRecDepth 100000 in
theorem okO_9 {T : List (Nat × Int64)} (h : okO T) : ∀ x, x ∈ T → okX 9 x := fun x hx => by
  have := h x hx
  exact ⟨by omega, by omega, by omega⟩
set_option maxRecDepth 100000 in
theorem okA_8 {T : List (Nat × Int64)} (h : okA T) : ∀ x, x ∈ T → okX 8 x := fun x hx => by
  have := h x hx
  exact ⟨by omega, by omega, by omega⟩
set_option maxRecDepth 100000 in
theorem okO_c {T : List (Nat × Int64)} (h : okO T) (k : Nat) : c34 T ≤ k := by
  have : T.filter (fun x => decide (x.1 = 3 ∨ x.1 = 4)) = [] := by
    rw [List.filter_eq_nil_iff]
    intro x hx
    have := h x hx
    rw [decide_eq_true_eq]
    omega
  unfold c34
  rw [this]
  exact Nat.zero_le _
section MTR
variable {L : Nat} {xs : Nat → Int32} {t : ab_H} {d n p b wb e : Nat} {B : Nat → Nat} {C0 : co_T} {E : fe_T} {P : Option Value → ab_H → Nat → Prop} {X : Nat → ab_H → Nat → Prop}
variable (L xs t d n p b wb e B C0 E P X)
def BD (c : Int32) (i : Nat) : Prop := ∀ C', FM B n C0 C' p b wb 3 c i → Wd L xs (d + 9) y_223 (245, [(0, .ref 176)], [], MH C' t, 0) P X
def J5 (f : Nat) : Prop := ∀ (s : fs_T) (C : co_T) (V : List (Int32 × Int64)) (x0 : Nat × Int64) (R : List (Nat × Int64)), stX 4 x0 → x0.1 ≤ 10 → (∀ x, x ∈ R → okX 4 x) → c34 R ≤ s.2.2.1 → MT B n C0 C p b wb (e + 2) s (V ++ [enX x0] ++ (R.map enX).reverse) → ct B n (rd E f 5 s) (fun z => ∀ C', MT B n C0 C' p b wb (e + 2) (fdn R z) (V ++ [enX x0]) → Wd L xs (d + 9) y_223 (99, [(2, .int 1), (1, .int 1), (0, .ref 176)], [], MH C' t, 0) P X) (BD L xs t d n p b wb B C0 P X) → Wd L xs (d + 9) y_223 (9, [(1, .int 1), (0, .ref 176)], [], MH C t, 0) P X
def GA (V : List (Int32 × Int64)) (x0 : Nat × Int64) (z : fs_T) : Prop := ∀ (C' : co_T) (s : fs_T) (T : List (Nat × Int64)), okA T → fdn T s = z → kd B n z.1 ≠ 7 → MT B n C0 C' p b wb (e + 2) s (V ++ [enX x0] ++ (T.map enX).reverse) → Wd L xs (d + 9) y_223 (99, [(2, .int 1), (1, .int 1), (0, .ref 176)], [], MH C' t, 0) P X
def J6 (f : Nat) : Prop := ∀ (s : fs_T) (C : co_T) (V : List (Int32 × Int64)) (x0 : Nat × Int64), stX 8 x0 → x0.1 ≤ 10 → MT B n C0 C p b wb (e + 2) s (V ++ [enX x0]) → ct B n (rd E f 6 s) (GA L xs t d n p b wb e B C0 P X V x0) (BD L xs t d n p b wb B C0 P X) → Wd L xs (d + 9) y_223 (9, [(1, .int 1), (0, .ref 176)], [], MH C t, 0) P X
def J7 (f : Nat) : Prop := ∀ (s : fs_T) (C : co_T) (V : List (Int32 × Int64)) (x0 : Nat × Int64) (T : List (Nat × Int64)), stX 8 x0 → x0.1 ≤ 10 → okA T → MT B n C0 C p b wb (e + 2) s (V ++ [enX x0] ++ (T.map enX).reverse) → ct B n (rd E f 7 (fdn T s)) (GA L xs t d n p b wb e B C0 P X V x0) (BD L xs t d n p b wb B C0 P X) → Wd L xs (d + 9) y_223 (99, [(2, .int 1), (1, .int 1), (0, .ref 176)], [], MH C t, 0) P X
def GO (V : List (Int32 × Int64)) (x0 : Nat × Int64) (z : fs_T) : Prop := ∀ C', MT B n C0 C' p b wb (e + 2) z (V ++ [enX x0]) → Wd L xs (d + 9) y_223 (177, [(2, .int 1), (1, .int 1), (0, .ref 176)], [], MH C' t, 0) P X
def J8 (f : Nat) : Prop := ∀ (s : fs_T) (C : co_T) (V : List (Int32 × Int64)) (x0 : Nat × Int64), stX 9 x0 → x0.1 ≤ 10 → MT B n C0 C p b wb (e + 2) s (V ++ [enX x0]) → ct B n (rd E f 8 s) (GO L xs t d n p b wb e B C0 P X V x0) (BD L xs t d n p b wb B C0 P X) → Wd L xs (d + 9) y_223 (9, [(1, .int 1), (0, .ref 176)], [], MH C t, 0) P X
def J9 (f : Nat) : Prop := ∀ (s : fs_T) (C : co_T) (V : List (Int32 × Int64)) (x0 : Nat × Int64) (U : List (Nat × Int64)), stX 9 x0 → x0.1 ≤ 10 → okO U → kd B n s.1 ≠ 7 → MT B n C0 C p b wb (e + 2) s (V ++ [enX x0] ++ (U.map enX).reverse) → ct B n (rd E f 9 (fdn U s)) (GO L xs t d n p b wb e B C0 P X V x0) (BD L xs t d n p b wb B C0 P X) → Wd L xs (d + 9) y_223 (99, [(2, .int 1), (1, .int 1), (0, .ref 176)], [], MH C t, 0) P X
variable {L xs t d n p b wb e B C0 E P X}
set_option maxRecDepth 100000 in
theorem stX_8 {x0 : Nat × Int64} (h : stX 9 x0) : stX 8 x0 := by
  unfold stX at h ⊢
  omega
set_option maxRecDepth 100000 in
theorem stX_4 {x0 : Nat × Int64} (h : stX 8 x0) : stX 4 x0 := by
  unfold stX at h ⊢
  omega
set_option maxRecDepth 100000 in
theorem js5 {f : Nat} (hE : eM B n C0 E) (he : e < 7) (i5 : J5 L xs t d n p b wb e B C0 E P X f) (i8 : J8 L xs t d n p b wb e B C0 E P X f) : J5 L xs t d n p b wb e B C0 E P X (f + 1) := by
  intro s C V x0 R h0 h10 hR hc M hG
  have h1 := M.1.2.1.1
  have hk1 := hE.1
  unfold rd at hG
  simp only at hG
  rw [hk1] at hG
  by_cases h25 : kd B n s.1 = 25
  · have h6 := MT_6 M (by rw [h25]; decide)
    rw [if_pos h25] at hG
    cases e1 : gin s with
    | inl u =>
      obtain ⟨c, i⟩ := u
      have hi := (gin_i e1).2
      rw [e1] at hG
      exact t9n1 h25 M.1 (by omega) e1 (fun C' F => t9F F (kd_if (by rw [hi]; exact h1) hG.2 C' (FM_u F (by omega))))
    | inr y =>
      rw [e1] at hG
      have hy := (gin_s e1).1
      replace hG : ct B n (bnd (spd y) (fun s => bnd (rd E f 5 (nxt s)) (fun s => .inr (gou (emt s 6 0))))) _ _ := hG
      cases e2 : spd y with
      | inl u =>
        obtain ⟨c, i⟩ := u
        have hi : i = s.1 := by rw [(spd_i e2).2, hy]
        rw [e2] at hG
        exact t9n2 h25 M.1 (by omega) e1 e2 (fun C' F => t9F F (kd_if (by rw [hi]; exact h1) hG.2 C' (FM_u F (by omega))))
      | inr x =>
        rw [e2] at hG
        have hx := spd_s e2
        replace hG : ct B n (bnd (rd E f 5 (nxt x)) (fun s => .inr (gou (emt s 6 0)))) _ _ := hG
        have hx1 : (nxt x).1 = s.1 + 1 := by show x.1 + 1 = _; rw [hx.1, hy]
        refine t9n h25 M.1 (by omega) h6.1 e1 e2 (fun C' hq => ?_)
        rcases hq with ⟨hb, M'⟩ | ⟨hb, F⟩
        · refine i5 (nxt x) C' V x0 ((4, 0) :: R) h0 h10 ?_ ?_ ?_ (ct_m (ct_b hG (fun z hb h => cb_i (u := fun z => gou (emt z 6 0)) rfl hb h)) (fun z hz h => h.2 hz) (fun _ _ z => z))
          · intro x hx
            rcases List.mem_cons.mp hx with rfl | hx
            · exact ⟨by decide, Nat.le_refl _, Or.inr (Or.inl rfl)⟩
            · exact hR x hx
          · have : c34 ((4, 0) :: R) = c34 R + 1 := by unfold c34; rw [List.filter_cons, if_pos (by decide)]; rfl
            have : (nxt x).2.2.1 = s.2.2.1 + 1 := by show x.2.2.1 = _; rw [hx.2.2, hy]
            omega
          · refine ⟨?_, by rw [hx1]; exact h6.2⟩
            rw [List.map_cons, List.reverse_cons, ← List.append_assoc]
            exact M'
        · have h3 := cb_r hk1 (Or.inr (Or.inr (Or.inr (Or.inl rfl)))) (by rw [hx1]; exact hb) hG
          rw [hx1] at h3
          exact t9F F (h3 C' (FM_u F (by omega)))
  rw [if_neg h25] at hG
  by_cases h46 : kd B n s.1 = 46
  · have h6 := MT_6 M (by rw [h46]; decide)
    rw [if_pos h46] at hG
    cases e1 : gin s with
    | inl u =>
      obtain ⟨c, i⟩ := u
      have hi := (gin_i e1).2
      rw [e1] at hG
      exact t9b1 h46 M.1 (by omega) e1 (fun C' F => t9F F (kd_if (by rw [hi]; exact h1) hG.2 C' (FM_u F (by omega))))
    | inr y =>
      rw [e1] at hG
      have hy := (gin_s e1).1
      have hy1 : (nxt y).1 = s.1 + 1 := by show y.1 + 1 = _; rw [hy]
      have hy2 : (nxt y).2.2.1 = s.2.2.1 + 1 := by show y.2.2.1 = _; rw [hy]
      replace hG : ct B n (bnd (rd E f 8 (nxt y)) (fun s => bnd (xpt E 47 s) (fun s => .inr (gou s)))) _ _ := hG
      refine t9b h46 M.1 (by omega) h6.1 e1 (fun C' hq => ?_)
      rcases hq with ⟨hb, M'⟩ | ⟨hb, F⟩
      · refine i8 (nxt y) C' (V ++ [enX x0] ++ (R.map enX).reverse) (2, 0) (Or.inl (by decide)) (by decide) ⟨M', by rw [hy1]; exact h6.2⟩ (ct_m (ct_z (ct_b hG (fun z hb h => cb_x hk1 (by decide) hb h))) (fun z1 hb1 hg C1 M1 => ?_) (fun _ _ z => z))
        obtain ⟨hr, hg⟩ := hg
        have hop := (rd_fle _ _ _ _ hr).2.2
        unfold xpt at hg
        rw [hk1] at hg
        by_cases hk : kd B n z1.1 = 47
        · have h7 := MT_6 M1 (by rw [hk]; decide)
          rw [if_pos hk] at hg
          have hg := ct_i hg
          refine t177c hk (by omega) h7.1 M1.1 (fun C2 hq => ?_)
          rcases hq with ⟨hb, M2⟩ | ⟨hb, F⟩
          · exact t83M h0 h10 hR (by show c34 R ≤ z1.2.2.1 - 1; omega) (MK_le M2 (by omega) (by omega)) (fun C3 M3 => hg.2 hb C3 (MT_f h7.2 M3))
          · exact t83F F (hg.1 hb C2 (FM_u F (by omega)))
        · rw [if_neg hk] at hg
          exact t177x hk M1.1 (fun C2 F => kd_if hb1 hg.2 C2 (FM_u F (by omega)))
      · have h3 := cb_r hk1 (Or.inr (Or.inr (Or.inr (Or.inr (Or.inr rfl))))) (by rw [hy1]; exact hb) hG
        rw [hy1] at h3
        exact t9F F (h3 C' (FM_u F (by omega)))
  · rw [if_neg h46] at hG
    have hU : rdU E f s = bnd (rd E f 3 s) (fun s => if cmo (kd B n s.1) = -1 then .inl (2, s.1) else bnd (spd s) (fun z => if cmo (kd B n s.1) = 7 then nsm E (nxt z) else bnd (rd E f 3 (nxt z)) (fun z => .inr (emt z (cmo (kd B n s.1)) 0)))) := by
      unfold rdU
      rw [hk1]
    rw [← hU] at hG
    refine t9 M.1 h25 h46 (unitM hE he M (ct_z hG)) (fun v h m hq => ?_)
    obtain ⟨hv, ⟨C', h2, hh⟩, hm⟩ := hq
    subst hv
    subst hh
    subst hm
    rcases h2 with ⟨z, ⟨hr, hz⟩, M'⟩ | ⟨c, i, hk, F⟩
    · have hr2 : rd E (f + 1) 5 s = .inr z := by
        unfold rd
        simp only
        rw [hk1, if_neg h25, if_neg h46, ← hU]
        exact hr
      have hop := (rd_fle _ _ _ _ hr2).2.2
      exact t81M h0 h10 hR (by omega) M'.1 (fun C1 M1 => hz C1 (MT_f M'.2 M1))
    · exact t81F F (hk C' F)
set_option maxRecDepth 100000 in
theorem js6 {f : Nat} (hE : eM B n C0 E) (i0 : J5 L xs t d n p b wb e B C0 E P X f) (i2 : J7 L xs t d n p b wb e B C0 E P X f) : J6 L xs t d n p b wb e B C0 E P X (f + 1) := by
  intro s C V x0 h0 h10 M hG
  have hG : ct B n (bnd (rd E f 5 s) (rd E f 7)) (GA L xs t d n p b wb e B C0 P X V x0) (BD L xs t d n p b wb B C0 P X) := hG
  refine i0 s C V x0 [] (stX_4 h0) h10 (fun x hx => by cases hx) (Nat.zero_le _) (by simpa using M) (ct_m (ct_b hG (fun z hb h => cb_l hE.1 (Or.inr (Or.inr (Or.inl rfl))) hb h)) (fun z hb hg C1 M1 => ?_) (fun _ _ z => z))
  exact i2 z C1 V x0 [] h0 h10 (fun x hx => by cases hx) (by simpa using M1) hg
set_option maxRecDepth 100000 in
theorem js8 {f : Nat} (hE : eM B n C0 E) (i1 : J6 L xs t d n p b wb e B C0 E P X f) (i4 : J9 L xs t d n p b wb e B C0 E P X f) : J8 L xs t d n p b wb e B C0 E P X (f + 1) := by
  intro s C V x0 h0 h10 M hG
  have hG : ct B n (bnd (rd E f 6 s) (rd E f 9)) (GO L xs t d n p b wb e B C0 P X V x0) (BD L xs t d n p b wb B C0 P X) := hG
  refine i1 s C V x0 (stX_8 h0) h10 M (ct_m (ct_b hG (fun z hb h => cb_l hE.1 (Or.inr (Or.inr (Or.inr rfl))) hb h)) (fun z hb hg C1 s1 T hT hz h7 M1 => ?_) (fun _ _ z => z))
  have h1 : z.1 = s1.1 := by rw [← hz]; exact fold_1 T s1
  rw [h1] at h7
  rw [← hz] at hg
  exact i4 s1 C1 V x0 T h0 h10 (okA_O hT) h7 M1 hg
set_option maxRecDepth 100000 in
theorem js7 {f : Nat} (hE : eM B n C0 E) (he : e < 8) (i0 : J5 L xs t d n p b wb e B C0 E P X f) (i2 : J7 L xs t d n p b wb e B C0 E P X f) : J7 L xs t d n p b wb e B C0 E P X (f + 1) := by
  intro s C V x0 T h0 h10 hT M hG
  have hf : (fdn T s).1 = s.1 := fold_1 T s
  have hG : ct B n (if E.1 (fdn T s).1 = 7 then bnd (spd (fdn T s)) (fun z => bnd (rd E f 5 (nxt z)) (fun z => rd E f 7 (emt z 19 0))) else .inr (fdn T s)) (GA L xs t d n p b wb e B C0 P X V x0) (BD L xs t d n p b wb B C0 P X) := hG
  rw [hE.1, hf] at hG
  have h1 := M.1.2.1.1
  by_cases h7 : kd B n s.1 = 7
  · have h6 := MT_6 M (by rw [h7]; decide)
    rw [if_pos h7] at hG
    cases e1 : spd (fdn T s) with
    | inl u =>
      obtain ⟨c, i⟩ := u
      rw [e1] at hG
      have hi := (spd_i e1).2.trans hf
      refine t99e_7 h7 h0 h10 (okA_8 hT) (okO_c (okA_O hT) _) M.1 e1 (fun C' F => t9F F ?_)
      exact kd_if (by rw [hi]; exact h1) hG.2 C' (FM_u F (by omega))
    | inr y =>
      rw [e1] at hG
      have hy : (nxt y).1 = s.1 + 1 := by show y.1 + 1 = _; rw [(spd_s e1).1, hf]
      replace hG : ct B n (bnd (rd E f 5 (nxt y)) (fun z => rd E f 7 (emt z 19 0))) (GA L xs t d n p b wb e B C0 P X V x0) (BD L xs t d n p b wb B C0 P X) := hG
      refine t99_7 h7 h0 h10 (okA_8 hT) (okO_c (okA_O hT) _) M.1 h6.1 (by omega) e1 (fun C1 hq => ?_)
      rcases hq with ⟨hb, M1⟩ | ⟨hb, F⟩
      · refine i0 (nxt y) C1 (V ++ [enX x0]) (8, 0) [] (Or.inr (Or.inl (by decide : 4 < 8))) (by decide : 8 ≤ 10) (fun x hx => by cases hx) (Nat.zero_le _) ⟨by simpa using M1, by rw [hy]; exact h6.2⟩ (ct_m (ct_b hG (fun z hb h => cb_l (z := emt z 19 0) hE.1 (Or.inr (Or.inr (Or.inl rfl))) hb h)) (fun z hb hg C2 M2 => ?_) (fun _ _ z => z))
        exact i2 z C2 V x0 [(8, 0)] h0 h10 (fun x hx => by rw [List.mem_singleton] at hx; rw [hx]) (by simpa using M2) hg
      · refine t9F F ?_
        have := cb_r hE.1 (Or.inr (Or.inr (Or.inr (Or.inl rfl)))) (by rw [hy]; exact hb) hG
        rw [hy] at this
        exact this C1 (FM_u F (by omega))
  · rw [if_neg h7] at hG
    exact (ct_i hG).2 (by rw [hf]; exact h1) C s T hT rfl (by rw [hf]; exact h7) M
set_option maxRecDepth 100000 in
theorem js9 {f : Nat} (hE : eM B n C0 E) (he : e < 8) (i1 : J6 L xs t d n p b wb e B C0 E P X f) (i4 : J9 L xs t d n p b wb e B C0 E P X f) : J9 L xs t d n p b wb e B C0 E P X (f + 1) := by
  intro s C V x0 T h0 h10 hT n7 M hG
  have hf : (fdn T s).1 = s.1 := fold_1 T s
  have hG : ct B n (if E.1 (fdn T s).1 = 30 then bnd (spd (fdn T s)) (fun z => bnd (rd E f 6 (nxt z)) (fun z => rd E f 9 (emt z 20 0))) else .inr (fdn T s)) (GO L xs t d n p b wb e B C0 P X V x0) (BD L xs t d n p b wb B C0 P X) := hG
  rw [hE.1, hf] at hG
  have h1 := M.1.2.1.1
  by_cases h30 : kd B n s.1 = 30
  · have h6 := MT_6 M (by rw [h30]; decide)
    rw [if_pos h30] at hG
    cases e1 : spd (fdn T s) with
    | inl u =>
      obtain ⟨c, i⟩ := u
      rw [e1] at hG
      have hi := (spd_i e1).2.trans hf
      refine t99e_30 h30 h0 h10 (okO_9 hT) (okO_c hT _) M.1 e1 (fun C' F => t9F F ?_)
      exact kd_if (by rw [hi]; exact h1) hG.2 C' (FM_u F (by omega))
    | inr y =>
      rw [e1] at hG
      have hy : (nxt y).1 = s.1 + 1 := by show y.1 + 1 = _; rw [(spd_s e1).1, hf]
      replace hG : ct B n (bnd (rd E f 6 (nxt y)) (fun z => rd E f 9 (emt z 20 0))) (GO L xs t d n p b wb e B C0 P X V x0) (BD L xs t d n p b wb B C0 P X) := hG
      refine t99_30 h30 h0 h10 (okO_9 hT) (okO_c hT _) M.1 h6.1 (by omega) e1 (fun C1 hq => ?_)
      rcases hq with ⟨hb, M1⟩ | ⟨hb, F⟩
      · refine i1 (nxt y) C1 (V ++ [enX x0]) (9, 0) (Or.inr (Or.inl (by decide : 8 < 9))) (by decide : 9 ≤ 10) ⟨M1, by rw [hy]; exact h6.2⟩ (ct_m (ct_b hG (fun z hb h => cb_l (z := emt z 20 0) hE.1 (Or.inr (Or.inr (Or.inr rfl))) hb h)) (fun z hb hg C2 s2 T2 hT2 hz m7 M2 => ?_) (fun _ _ z => z))
        have hz1 : z.1 = s2.1 := by rw [← hz]; exact fold_1 T2 s2
        rw [hz1] at m7
        have hfold : fdn (T2 ++ [(9, 0)]) s2 = emt z 20 0 := by
          unfold fdn at hz ⊢
          rw [List.foldl_append, hz]
          rfl
        rw [← hfold] at hg
        refine i4 s2 C2 V x0 (T2 ++ [(9, 0)]) h0 h10 (fun x hx => ?_) m7 (by simpa using M2) hg
        rcases List.mem_append.mp hx with hx | hx
        · exact okA_O hT2 x hx
        · rw [List.mem_singleton] at hx
          rw [hx]
          exact Or.inr rfl
      · refine t9F F ?_
        have := cb_r hE.1 (Or.inr (Or.inr (Or.inr (Or.inr (Or.inl rfl))))) (by rw [hy]; exact hb) hG
        rw [hy] at this
        exact this C1 (FM_u F (by omega))
  · rw [if_neg h30] at hG
    exact t99n n7 h30 h0 h10 (okO_9 hT) (okO_c hT _) M.1 (fun C1 M1 => (ct_i hG).2 (by rw [hf]; exact h1) C1 (MT_f M.2 M1))
set_option maxRecDepth 100000 in
theorem tests (hE : eM B n C0 E) (he : e < 7) : ∀ f, J5 L xs t d n p b wb e B C0 E P X f ∧ J6 L xs t d n p b wb e B C0 E P X f ∧ J7 L xs t d n p b wb e B C0 E P X f ∧ J8 L xs t d n p b wb e B C0 E P X f ∧ J9 L xs t d n p b wb e B C0 E P X f
  | 0 => ⟨fun _ _ _ _ _ _ _ _ _ _ h => absurd rfl h.1, fun _ _ _ _ _ _ _ h => absurd rfl h.1, fun _ _ _ _ _ _ _ _ _ h => absurd rfl h.1, fun _ _ _ _ _ _ _ h => absurd rfl h.1, fun _ _ _ _ _ _ _ _ _ _ h => absurd rfl h.1⟩
  | f + 1 => by
    obtain ⟨i0, i1, i2, i3, i4⟩ := tests hE he f
    exact ⟨js5 hE he i0 i3, js6 hE i0 i2, js7 hE (by omega) i0 i2, js8 hE i1 i4, js9 hE (by omega) i1 i4⟩
end MTR
/-! the whole of readTest -/
set_option maxRecDepth 100000 in
theorem testM {L : Nat} {xs : Nat → Int32} {t : ab_H} {d n p b wb e f : Nat} {B : Nat → Nat} {C0 C : co_T} {E : fe_T} {s : fs_T} {W : List (Int32 × Int64)} {g : fs_T → Prop} {k : Int32 → Nat → Prop} (hE : eM B n C0 E) (he : e < 7) (M : MT B n C0 C p b wb (e + 1) s W) (hc : ct B n (rd E f 8 s) g k) : Wd L xs (d + 9) y_223 (0, [(0, .ref 176)], [], MH C t, 0) (SU B n C0 t p b wb (e + 1) 3 W g k) nX := by
  refine t0 M.1 (by omega) (fun C1 M1 => ?_)
  refine (tests hE he f).2.2.2.1 s C1 W (10, 0) (Or.inr (Or.inr rfl)) (Nat.le_refl _) ⟨M1, M.2⟩ (ct_m hc (fun z hb hg C2 M2 => ?_) (fun c i hk C2 F => t245F F ⟨rfl, ⟨C2, Or.inr ⟨c, i, hk, F⟩, rfl⟩, rfl⟩))
  have H : ∀ q, Wd L xs (q + 4) y_223 (245, [(0, .ref 176)], [], MH C2 t, 0) (SU B n C0 t p b wb (e + 1) 3 W g k) nX := fun q => t245M M2.1 (fun C3 M3 => ⟨rfl, ⟨C3, Or.inl ⟨z, hg, M3, M2.2⟩, rfl⟩, rfl⟩)
  by_cases hk : kd B n z.1 = 47
  · exact t177b hk M2.1 (H _)
  · exact t177d hk M2.1 (H _)
