/-! THE OTHER SIDE'S FORMULAS, 12: readSum reads what rd says -/
abbrev fdn (R : List (Nat × Int64)) (s : fs_T) : fs_T := R.foldl (fun s x => dn x s) s
def okT (T : List (Nat × Int64)) : Prop := ∀ x, x ∈ T → x.1 = 5 ∧ (x.2 = 42 ∨ x.2 = 47)
def okU (T : List (Nat × Int64)) : Prop := ∀ x, x ∈ T → (x.1 = 5 ∨ x.1 = 6) ∧ (x.2 = 43 ∨ x.2 = 45 ∨ x.2 = 42 ∨ x.2 = 47)
set_option maxRecDepth 100000 in
theorem okT_U {T : List (Nat × Int64)} (h : okT T) : okU T := fun x hx => ⟨Or.inl (h x hx).1, (h x hx).2.elim (fun a => Or.inr (Or.inr (Or.inl a))) (fun a => Or.inr (Or.inr (Or.inr a)))⟩
set_option maxRecDepth 100000 in
theorem okU_6 {T : List (Nat × Int64)} (h : okU T) : ∀ x, x ∈ T → okX 6 x := fun x hx => by
  have := h x hx
  exact ⟨by omega, by omega, Or.inr (Or.inr (Or.inr (Or.inr this)))⟩
set_option maxRecDepth 100000 in
theorem okT_5 {T : List (Nat × Int64)} (h : okT T) : ∀ x, x ∈ T → okX 5 x := fun x hx => by
  have h1 := h x hx
  have h2 := okT_U h x hx
  exact ⟨by omega, by omega, Or.inr (Or.inr (Or.inr (Or.inr h2)))⟩
set_option maxRecDepth 100000 in
theorem okU_c {T : List (Nat × Int64)} (h : okU T) (k : Nat) : c34 T ≤ k := by
  have : T.filter (fun x => decide (x.1 = 3 ∨ x.1 = 4)) = [] := by
    rw [List.filter_eq_nil_iff]
    intro x hx
    have := (h x hx).1
    rw [decide_eq_true_eq]
    omega
  unfold c34
  rw [this]
  exact Nat.zero_le _
section MSR
variable {L : Nat} {xs : Nat → Int32} {t : ab_H} {d n p b wb e : Nat} {B : Nat → Nat} {C0 : co_T} {E : fe_T} {P : Option Value → ab_H → Nat → Prop} {X : Nat → ab_H → Nat → Prop}
variable (L xs t d n p b wb e B C0 E P X)
def BC (c : Int32) (i : Nat) : Prop := ∀ C', FM B n C0 C' p b wb 2 c i → Wd L xs (d + 7) y_228 (225, [(0, .ref 176)], [], MH C' t, 0) P X
def K0 (f : Nat) : Prop := ∀ (s : fs_T) (C : co_T) (V : List (Int32 × Int64)) (x0 : Nat × Int64) (R : List (Nat × Int64)), stX 3 x0 → x0.1 ≤ 10 → (∀ x, x ∈ R → okX 3 x) → c34 R ≤ s.2.2.1 → MT B n C0 C p b wb (e + 2) s (V ++ [enX x0] ++ (R.map enX).reverse) → ct B n (rd E f 0 s) (fun z => ∀ C', MT B n C0 C' p b wb (e + 2) (fdn R z) (V ++ [enX x0]) → Wd L xs (d + 7) y_228 (48, [(2, .int 1), (1, .int 1), (0, .ref 176)], [], MH C' t, 0) P X) (BC L xs t d n p b wb B C0 P X) → Wd L xs (d + 7) y_228 (9, [(1, .int 1), (0, .ref 176)], [], MH C t, 0) P X
def GT (V : List (Int32 × Int64)) (x0 : Nat × Int64) (z : fs_T) : Prop := ∀ (C' : co_T) (s : fs_T) (T : List (Nat × Int64)), okT T → fdn T s = z → kd B n z.1 ≠ 58 → kd B n z.1 ≠ 59 → MT B n C0 C' p b wb (e + 2) s (V ++ [enX x0] ++ (T.map enX).reverse) → Wd L xs (d + 7) y_228 (48, [(2, .int 1), (1, .int 1), (0, .ref 176)], [], MH C' t, 0) P X
def K1 (f : Nat) : Prop := ∀ (s : fs_T) (C : co_T) (V : List (Int32 × Int64)) (x0 : Nat × Int64), stX 5 x0 → x0.1 ≤ 10 → MT B n C0 C p b wb (e + 2) s (V ++ [enX x0]) → ct B n (rd E f 1 s) (GT L xs t d n p b wb e B C0 P X V x0) (BC L xs t d n p b wb B C0 P X) → Wd L xs (d + 7) y_228 (9, [(1, .int 1), (0, .ref 176)], [], MH C t, 0) P X
def K2 (f : Nat) : Prop := ∀ (s : fs_T) (C : co_T) (V : List (Int32 × Int64)) (x0 : Nat × Int64) (T : List (Nat × Int64)), stX 5 x0 → x0.1 ≤ 10 → okT T → MT B n C0 C p b wb (e + 2) s (V ++ [enX x0] ++ (T.map enX).reverse) → ct B n (rd E f 2 (fdn T s)) (GT L xs t d n p b wb e B C0 P X V x0) (BC L xs t d n p b wb B C0 P X) → Wd L xs (d + 7) y_228 (48, [(2, .int 1), (1, .int 1), (0, .ref 176)], [], MH C t, 0) P X
def GU (V : List (Int32 × Int64)) (x0 : Nat × Int64) (z : fs_T) : Prop := ∀ C', MT B n C0 C' p b wb (e + 2) z (V ++ [enX x0]) → Wd L xs (d + 7) y_228 (157, [(2, .int 1), (1, .int 1), (0, .ref 176)], [], MH C' t, 0) P X
def K3 (f : Nat) : Prop := ∀ (s : fs_T) (C : co_T) (V : List (Int32 × Int64)) (x0 : Nat × Int64), stX 6 x0 → x0.1 ≤ 10 → MT B n C0 C p b wb (e + 2) s (V ++ [enX x0]) → ct B n (rd E f 3 s) (GU L xs t d n p b wb e B C0 P X V x0) (BC L xs t d n p b wb B C0 P X) → Wd L xs (d + 7) y_228 (9, [(1, .int 1), (0, .ref 176)], [], MH C t, 0) P X
def K4 (f : Nat) : Prop := ∀ (s : fs_T) (C : co_T) (V : List (Int32 × Int64)) (x0 : Nat × Int64) (U : List (Nat × Int64)), stX 6 x0 → x0.1 ≤ 10 → okU U → kd B n s.1 ≠ 58 → kd B n s.1 ≠ 59 → MT B n C0 C p b wb (e + 2) s (V ++ [enX x0] ++ (U.map enX).reverse) → ct B n (rd E f 4 (fdn U s)) (GU L xs t d n p b wb e B C0 P X V x0) (BC L xs t d n p b wb B C0 P X) → Wd L xs (d + 7) y_228 (48, [(2, .int 1), (1, .int 1), (0, .ref 176)], [], MH C t, 0) P X
variable {L xs t d n p b wb e B C0 E P X}
set_option maxRecDepth 100000 in
theorem stX_5 {x0 : Nat × Int64} (h : stX 6 x0) : stX 5 x0 := by
  unfold stX at h ⊢
  omega
set_option maxRecDepth 100000 in
theorem stX_3 {x0 : Nat × Int64} (h : stX 5 x0) : stX 3 x0 := by
  unfold stX at h ⊢
  omega
set_option maxRecDepth 100000 in
theorem MT_f {C : co_T} {R : List (Nat × Int64)} {z : fs_T} {W : List (Int32 × Int64)} (h : z.1 ≤ tkA B n z.1) (M : MK B n C0 C p b wb e (fdn R z) W) : MT B n C0 C p b wb e (fdn R z) W := ⟨M, by rw [fold_1]; exact h⟩
set_option maxRecDepth 100000 in
theorem ks0 {f : Nat} (hE : eM B n C0 E) (he : e < 8) (i0 : K0 L xs t d n p b wb e B C0 E P X f) (i3 : K3 L xs t d n p b wb e B C0 E P X f) : K0 L xs t d n p b wb e B C0 E P X (f + 1) := by
  intro s C V x0 R h0 h10 hR hc M hG
  by_cases h57 : kd B n s.1 = 57
  · refine r9 M.1 (fxm hE M he h57 hG) (fun v h m hq => ?_)
    obtain ⟨hv, ⟨C', h2, hh⟩, hm⟩ := hq
    subst hv
    subst hh
    subst hm
    refine r24z ?_
    rcases h2 with ⟨z, ⟨hz, hz2⟩, M'⟩ | ⟨c, i, hk, F⟩
    · refine i0 z C' V x0 ((3, 0) :: R) h0 h10 ?_ ?_ ?_ hz2
      · intro x hx
        rcases List.mem_cons.mp hx with rfl | hx
        · exact ⟨Nat.le_refl _, Nat.le_refl _, Or.inl rfl⟩
        · exact hR x hx
      · have : c34 ((3, 0) :: R) = c34 R + 1 := by unfold c34; rw [List.filter_cons, if_pos (by decide)]; rfl
        omega
      · rw [List.map_cons, List.reverse_cons, ← List.append_assoc]
        exact M'
    · exact r9F F (hk C' F)
  by_cases h44 : kd B n s.1 = 44
  · refine r9 M.1 (fxb hE M he h44 hG) (fun v h m hq => ?_)
    obtain ⟨hv, ⟨C', h2, hh⟩, hm⟩ := hq
    subst hv
    subst hh
    subst hm
    refine r24z ?_
    rcases h2 with ⟨z, ⟨hz, hz2⟩, M'⟩ | ⟨c, i, hk, F⟩
    · refine i3 z C' (V ++ [enX x0] ++ (R.map enX).reverse) (1, 0) (Or.inl (by decide)) (by decide) M' (ct_m (ct_z hz2) (fun z1 hb1 hg C1 M1 => ?_) (fun _ _ z => z))
      obtain ⟨hr, hg⟩ := hg
      have hop := (rd_fle _ _ _ _ hr).2.2
      unfold xpt at hg
      rw [hE.1] at hg
      by_cases hk : kd B n z1.1 = 45
      · have h6 := MT_6 M1 (by rw [hk]; decide)
        rw [if_pos hk] at hg
        have hg := ct_i hg
        refine r157c hk (by omega) h6.1 M1.1 (fun C2 hq => ?_)
        rcases hq with ⟨hb, M2⟩ | ⟨hb, F⟩
        · exact r32M h0 h10 hR (by show c34 R ≤ z1.2.2.1 - 1; omega) (MK_le M2 (by omega) (by omega)) (fun C3 M3 => hg.2 hb C3 (MT_f h6.2 M3))
        · exact r32F F (hg.1 hb C2 (FM_u F (by omega)))
      · rw [if_neg hk] at hg
        exact r157x hk M1.1 (fun C2 F => kd_if hb1 hg.2 C2 (FM_u F (by omega)))
    · exact r9F F (hk C' F)
  · refine r9 M.1 (fxl hE M he h57 h44 (ct_z hG)) (fun v h m hq => ?_)
    obtain ⟨hv, ⟨C', h2, hh⟩, hm⟩ := hq
    subst hv
    subst hh
    subst hm
    rcases h2 with ⟨z, ⟨hr, hz⟩, M'⟩ | ⟨c, i, hk, F⟩
    · have hop := (rd_fle _ _ _ _ hr).2.2
      exact r24M h0 h10 hR (by omega) M'.1 (fun C1 M1 => hz C1 (MT_f M'.2 M1))
    · exact r24F F (hk C' F)
set_option maxRecDepth 100000 in
theorem ks1 {f : Nat} (hE : eM B n C0 E) (i0 : K0 L xs t d n p b wb e B C0 E P X f) (i2 : K2 L xs t d n p b wb e B C0 E P X f) : K1 L xs t d n p b wb e B C0 E P X (f + 1) := by
  intro s C V x0 h0 h10 M hG
  have hG : ct B n (bnd (rd E f 0 s) (rd E f 2)) (GT L xs t d n p b wb e B C0 P X V x0) (BC L xs t d n p b wb B C0 P X) := hG
  refine i0 s C V x0 [] (stX_3 h0) h10 (fun x hx => by cases hx) (Nat.zero_le _) (by simpa using M) (ct_m (ct_b hG (fun z hb h => cb_l hE.1 (Or.inl rfl) hb h)) (fun z hb hg C1 M1 => ?_) (fun _ _ z => z))
  exact i2 z C1 V x0 [] h0 h10 (fun x hx => by cases hx) (by simpa using M1) hg
set_option maxRecDepth 100000 in
theorem ks3 {f : Nat} (hE : eM B n C0 E) (i1 : K1 L xs t d n p b wb e B C0 E P X f) (i4 : K4 L xs t d n p b wb e B C0 E P X f) : K3 L xs t d n p b wb e B C0 E P X (f + 1) := by
  intro s C V x0 h0 h10 M hG
  have hG : ct B n (bnd (rd E f 1 s) (rd E f 4)) (GU L xs t d n p b wb e B C0 P X V x0) (BC L xs t d n p b wb B C0 P X) := hG
  refine i1 s C V x0 (stX_5 h0) h10 M (ct_m (ct_b hG (fun z hb h => cb_l hE.1 (Or.inr (Or.inl rfl)) hb h)) (fun z hb hg C1 s1 T hT hz h58 h59 M1 => ?_) (fun _ _ z => z))
  have h1 : z.1 = s1.1 := by rw [← hz]; exact fold_1 T s1
  rw [h1] at h58 h59
  rw [← hz] at hg
  exact i4 s1 C1 V x0 T h0 h10 (okT_U hT) h58 h59 M1 hg
set_option maxRecDepth 100000 in
theorem ks2 {f : Nat} (hE : eM B n C0 E) (he : e < 8) (i0 : K0 L xs t d n p b wb e B C0 E P X f) (i2 : K2 L xs t d n p b wb e B C0 E P X f) : K2 L xs t d n p b wb e B C0 E P X (f + 1) := by
  intro s C V x0 T h0 h10 hT M hG
  have hf : (fdn T s).1 = s.1 := fold_1 T s
  have hG : ct B n (if E.1 (fdn T s).1 = 58 ∨ E.1 (fdn T s).1 = 59 then bnd (spd (fdn T s)) (fun z => bnd (rd E f 0 (nxt z)) (fun z => rd E f 2 (emt z (if E.1 (fdn T s).1 = 58 then 11 else 12) 0))) else .inr (fdn T s)) (GT L xs t d n p b wb e B C0 P X V x0) (BC L xs t d n p b wb B C0 P X) := hG
  rw [hE.1, hf] at hG
  have h1 := M.1.2.1.1
  by_cases h58 : kd B n s.1 = 58
  · have h6 := MT_6 M (by rw [h58]; decide)
    rw [if_pos (Or.inl h58)] at hG
    rw [if_pos h58] at hG
    cases e1 : spd (fdn T s) with
    | inl u =>
      obtain ⟨c, i⟩ := u
      rw [e1] at hG
      have hi := (spd_i e1).2.trans hf
      refine r48e_58 h58 h0 h10 (okT_5 hT) (okU_c (okT_U hT) _) M.1 e1 (fun C' F => r9F F ?_)
      exact kd_if (by rw [hi]; exact h1) hG.2 C' F
    | inr y =>
      rw [e1] at hG
      have hy : (nxt y).1 = s.1 + 1 := by show y.1 + 1 = _; rw [(spd_s e1).1, hf]
      replace hG : ct B n (bnd (rd E f 0 (nxt y)) (fun z => rd E f 2 (emt z 11 0))) (GT L xs t d n p b wb e B C0 P X V x0) (BC L xs t d n p b wb B C0 P X) := hG
      refine r48_58 h58 h0 h10 (okT_5 hT) (okU_c (okT_U hT) _) M.1 h6.1 (by omega) e1 (fun C1 hq => ?_)
      rcases hq with ⟨hb, M1⟩ | ⟨hb, F⟩
      · refine i0 (nxt y) C1 (V ++ [enX x0]) (5, 42) [] (Or.inr (Or.inl (by decide : 3 < 5))) (by decide : 5 ≤ 10) (fun x hx => by cases hx) (Nat.zero_le _) ⟨by simpa using M1, by rw [hy]; exact h6.2⟩ (ct_m (ct_b hG (fun z hb h => cb_l (z := emt z 11 0) hE.1 (Or.inl rfl) hb h)) (fun z hb hg C2 M2 => ?_) (fun _ _ z => z))
        exact i2 z C2 V x0 [(5, 42)] h0 h10 (fun x hx => by rw [List.mem_singleton] at hx; rw [hx]; exact ⟨rfl, Or.inl rfl⟩) (by simpa using M2) hg
      · refine r9F F ?_
        have := cb_r hE.1 (Or.inl rfl) (by rw [hy]; exact hb) hG
        rw [hy] at this
        exact this C1 (FM_u F (by omega))
  by_cases h59 : kd B n s.1 = 59
  · have h6 := MT_6 M (by rw [h59]; decide)
    rw [if_pos (Or.inr h59)] at hG
    rw [if_neg h58] at hG
    cases e1 : spd (fdn T s) with
    | inl u =>
      obtain ⟨c, i⟩ := u
      rw [e1] at hG
      have hi := (spd_i e1).2.trans hf
      refine r48e_59 h59 h0 h10 (okT_5 hT) (okU_c (okT_U hT) _) M.1 e1 (fun C' F => r9F F ?_)
      exact kd_if (by rw [hi]; exact h1) hG.2 C' F
    | inr y =>
      rw [e1] at hG
      have hy : (nxt y).1 = s.1 + 1 := by show y.1 + 1 = _; rw [(spd_s e1).1, hf]
      replace hG : ct B n (bnd (rd E f 0 (nxt y)) (fun z => rd E f 2 (emt z 12 0))) (GT L xs t d n p b wb e B C0 P X V x0) (BC L xs t d n p b wb B C0 P X) := hG
      refine r48_59 h59 h0 h10 (okT_5 hT) (okU_c (okT_U hT) _) M.1 h6.1 (by omega) e1 (fun C1 hq => ?_)
      rcases hq with ⟨hb, M1⟩ | ⟨hb, F⟩
      · refine i0 (nxt y) C1 (V ++ [enX x0]) (5, 47) [] (Or.inr (Or.inl (by decide : 3 < 5))) (by decide : 5 ≤ 10) (fun x hx => by cases hx) (Nat.zero_le _) ⟨by simpa using M1, by rw [hy]; exact h6.2⟩ (ct_m (ct_b hG (fun z hb h => cb_l (z := emt z 12 0) hE.1 (Or.inl rfl) hb h)) (fun z hb hg C2 M2 => ?_) (fun _ _ z => z))
        exact i2 z C2 V x0 [(5, 47)] h0 h10 (fun x hx => by rw [List.mem_singleton] at hx; rw [hx]; exact ⟨rfl, Or.inr rfl⟩) (by simpa using M2) hg
      · refine r9F F ?_
        have := cb_r hE.1 (Or.inl rfl) (by rw [hy]; exact hb) hG
        rw [hy] at this
        exact this C1 (FM_u F (by omega))
  · rw [if_neg (fun a => a.elim h58 h59)] at hG
    exact (ct_i hG).2 (by rw [hf]; exact h1) C s T hT rfl (by rw [hf]; exact h58) (by rw [hf]; exact h59) M
set_option maxRecDepth 100000 in
theorem ks4 {f : Nat} (hE : eM B n C0 E) (he : e < 8) (i1 : K1 L xs t d n p b wb e B C0 E P X f) (i4 : K4 L xs t d n p b wb e B C0 E P X f) : K4 L xs t d n p b wb e B C0 E P X (f + 1) := by
  intro s C V x0 T h0 h10 hT n58 n59 M hG
  have hf : (fdn T s).1 = s.1 := fold_1 T s
  have hG : ct B n (if E.1 (fdn T s).1 = 56 ∨ E.1 (fdn T s).1 = 57 then bnd (spd (fdn T s)) (fun z => bnd (rd E f 1 (nxt z)) (fun z => rd E f 4 (emt z (if E.1 (fdn T s).1 = 56 then 9 else 10) 0))) else .inr (fdn T s)) (GU L xs t d n p b wb e B C0 P X V x0) (BC L xs t d n p b wb B C0 P X) := hG
  rw [hE.1, hf] at hG
  have h1 := M.1.2.1.1
  by_cases h56 : kd B n s.1 = 56
  · have h6 := MT_6 M (by rw [h56]; decide)
    rw [if_pos (Or.inl h56)] at hG
    rw [if_pos h56] at hG
    cases e1 : spd (fdn T s) with
    | inl u =>
      obtain ⟨c, i⟩ := u
      rw [e1] at hG
      have hi := (spd_i e1).2.trans hf
      refine r48e_56 h56 h0 h10 (okU_6 hT) (okU_c hT _) M.1 e1 (fun C' F => r9F F ?_)
      exact kd_if (by rw [hi]; exact h1) hG.2 C' F
    | inr y =>
      rw [e1] at hG
      have hy : (nxt y).1 = s.1 + 1 := by show y.1 + 1 = _; rw [(spd_s e1).1, hf]
      replace hG : ct B n (bnd (rd E f 1 (nxt y)) (fun z => rd E f 4 (emt z 9 0))) (GU L xs t d n p b wb e B C0 P X V x0) (BC L xs t d n p b wb B C0 P X) := hG
      refine r48_56 h56 h0 h10 (okU_6 hT) (okU_c hT _) M.1 h6.1 (by omega) e1 (fun C1 hq => ?_)
      rcases hq with ⟨hb, M1⟩ | ⟨hb, F⟩
      · refine i1 (nxt y) C1 (V ++ [enX x0]) (6, 43) (Or.inr (Or.inl (by decide : 5 < 6))) (by decide : 6 ≤ 10) ⟨M1, by rw [hy]; exact h6.2⟩ (ct_m (ct_b hG (fun z hb h => cb_l (z := emt z 9 0) hE.1 (Or.inr (Or.inl rfl)) hb h)) (fun z hb hg C2 s2 T2 hT2 hz m58 m59 M2 => ?_) (fun _ _ z => z))
        have hz1 : z.1 = s2.1 := by rw [← hz]; exact fold_1 T2 s2
        rw [hz1] at m58 m59
        have hfold : fdn (T2 ++ [(6, 43)]) s2 = emt z 9 0 := by
          unfold fdn at hz ⊢
          rw [List.foldl_append, hz]
          rfl
        rw [← hfold] at hg
        refine i4 s2 C2 V x0 (T2 ++ [(6, 43)]) h0 h10 (fun x hx => ?_) m58 m59 (by simpa using M2) hg
        rcases List.mem_append.mp hx with hx | hx
        · exact okT_U hT2 x hx
        · rw [List.mem_singleton] at hx
          rw [hx]
          exact ⟨Or.inr rfl, Or.inl rfl⟩
      · refine r9F F ?_
        have := cb_r hE.1 (Or.inr (Or.inl rfl)) (by rw [hy]; exact hb) hG
        rw [hy] at this
        exact this C1 (FM_u F (by omega))
  by_cases h57 : kd B n s.1 = 57
  · have h6 := MT_6 M (by rw [h57]; decide)
    rw [if_pos (Or.inr h57)] at hG
    rw [if_neg h56] at hG
    cases e1 : spd (fdn T s) with
    | inl u =>
      obtain ⟨c, i⟩ := u
      rw [e1] at hG
      have hi := (spd_i e1).2.trans hf
      refine r48e_57 h57 h0 h10 (okU_6 hT) (okU_c hT _) M.1 e1 (fun C' F => r9F F ?_)
      exact kd_if (by rw [hi]; exact h1) hG.2 C' F
    | inr y =>
      rw [e1] at hG
      have hy : (nxt y).1 = s.1 + 1 := by show y.1 + 1 = _; rw [(spd_s e1).1, hf]
      replace hG : ct B n (bnd (rd E f 1 (nxt y)) (fun z => rd E f 4 (emt z 10 0))) (GU L xs t d n p b wb e B C0 P X V x0) (BC L xs t d n p b wb B C0 P X) := hG
      refine r48_57 h57 h0 h10 (okU_6 hT) (okU_c hT _) M.1 h6.1 (by omega) e1 (fun C1 hq => ?_)
      rcases hq with ⟨hb, M1⟩ | ⟨hb, F⟩
      · refine i1 (nxt y) C1 (V ++ [enX x0]) (6, 45) (Or.inr (Or.inl (by decide : 5 < 6))) (by decide : 6 ≤ 10) ⟨M1, by rw [hy]; exact h6.2⟩ (ct_m (ct_b hG (fun z hb h => cb_l (z := emt z 10 0) hE.1 (Or.inr (Or.inl rfl)) hb h)) (fun z hb hg C2 s2 T2 hT2 hz m58 m59 M2 => ?_) (fun _ _ z => z))
        have hz1 : z.1 = s2.1 := by rw [← hz]; exact fold_1 T2 s2
        rw [hz1] at m58 m59
        have hfold : fdn (T2 ++ [(6, 45)]) s2 = emt z 10 0 := by
          unfold fdn at hz ⊢
          rw [List.foldl_append, hz]
          rfl
        rw [← hfold] at hg
        refine i4 s2 C2 V x0 (T2 ++ [(6, 45)]) h0 h10 (fun x hx => ?_) m58 m59 (by simpa using M2) hg
        rcases List.mem_append.mp hx with hx | hx
        · exact okT_U hT2 x hx
        · rw [List.mem_singleton] at hx
          rw [hx]
          exact ⟨Or.inr rfl, Or.inr (Or.inl rfl)⟩
      · refine r9F F ?_
        have := cb_r hE.1 (Or.inr (Or.inl rfl)) (by rw [hy]; exact hb) hG
        rw [hy] at this
        exact this C1 (FM_u F (by omega))
  · rw [if_neg (fun a => a.elim h56 h57)] at hG
    exact r48n n58 n59 h56 h57 h0 h10 (okU_6 hT) (okU_c hT _) M.1 (fun C1 M1 => (ct_i hG).2 (by rw [hf]; exact h1) C1 (MT_f M.2 M1))
set_option maxRecDepth 100000 in
theorem sums (hE : eM B n C0 E) (he : e < 8) : ∀ f, K0 L xs t d n p b wb e B C0 E P X f ∧ K1 L xs t d n p b wb e B C0 E P X f ∧ K2 L xs t d n p b wb e B C0 E P X f ∧ K3 L xs t d n p b wb e B C0 E P X f ∧ K4 L xs t d n p b wb e B C0 E P X f
  | 0 => ⟨fun _ _ _ _ _ _ _ _ _ _ h => absurd rfl h.1, fun _ _ _ _ _ _ _ h => absurd rfl h.1, fun _ _ _ _ _ _ _ _ _ h => absurd rfl h.1, fun _ _ _ _ _ _ _ h => absurd rfl h.1, fun _ _ _ _ _ _ _ _ _ _ _ h => absurd rfl h.1⟩
  | f + 1 => by
    obtain ⟨i0, i1, i2, i3, i4⟩ := sums hE he f
    exact ⟨ks0 hE he i0 i3, ks1 hE i0 i2, ks2 hE he i0 i2, ks3 hE i1 i4, ks4 hE he i1 i4⟩
end MSR
/-! the whole of readSum -/
set_option maxRecDepth 100000 in
theorem sumM {L : Nat} {xs : Nat → Int32} {t : ab_H} {d n p b wb e f : Nat} {B : Nat → Nat} {C0 C : co_T} {E : fe_T} {s : fs_T} {W : List (Int32 × Int64)} {g : fs_T → Prop} {k : Int32 → Nat → Prop} (hE : eM B n C0 E) (he : e < 8) (M : MT B n C0 C p b wb (e + 1) s W) (hc : ct B n (rd E f 3 s) g k) : Wd L xs (d + 7) y_228 (0, [(0, .ref 176)], [], MH C t, 0) (SP B n C0 t p b wb (e + 1) none W g k) nX := by
  refine r0 M.1 (by omega) (fun C1 M1 => ?_)
  refine (sums hE he f).2.2.2.1 s C1 W (10, 0) (Or.inr (Or.inr rfl)) (Nat.le_refl _) ⟨M1, M.2⟩ (ct_m hc (fun z hb hg C2 M2 => ?_) (fun c i hk C2 F => r225F F ⟨rfl, ⟨C2, Or.inr ⟨c, i, hk, F⟩, rfl⟩, rfl⟩))
  have H : ∀ q, Wd L xs (q + 4) y_228 (225, [(0, .ref 176)], [], MH C2 t, 0) (SP B n C0 t p b wb (e + 1) none W g k) nX := fun q => r225M M2.1 (fun C3 M3 => ⟨rfl, ⟨C3, Or.inl ⟨z, hg, M3, M2.2⟩, rfl⟩, rfl⟩)
  by_cases hk : kd B n z.1 = 45
  · exact r157b hk M2.1 (H _)
  · exact r157d hk M2.1 (H _)
