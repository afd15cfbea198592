/-! THE OTHER SIDE'S FORMULAS, 10: a factor, whatever it is -/
/-! how a reading goes on: g where it ends well and the token there is not bad, k where there is a fault -/
def ct (B : Nat → Nat) (n : Nat) (r : fr_T) (g : fs_T → Prop) (k : Int32 → Nat → Prop) : Prop := match r with
  | .inr z => (kd B n z.1 = 1 → k 1 z.1) ∧ (kd B n z.1 ≠ 1 → g z)
  | .inl q => q.1 ≠ 0 ∧ k (if kd B n q.2 = 1 then 1 else q.1) q.2
def colM (C0 : co_T) (x : Int32) : Option (Int64 → Int32) → Prop
  | none => x = -1
  | some g => ∃ q w, x = nI q ∧ q < 6 ∧ w ≤ 6 ∧ C0.1 80 q = nI w ∧ g = fun v => fnd (fun j => decide (C0.2.1 81 (6 * q + j) = v)) w 0
def eM (B : Nat → Nat) (n : Nat) (C0 : co_T) (E : fe_T) : Prop := E.1 = kd B n ∧ E.2.1 = vl B n ∧ colM C0 (C0.1 76 46) E.2.2.1 ∧ colM C0 (C0.1 76 47) E.2.2.2.1 ∧ (E.2.2.2.2.1 = true ↔ C0.1 76 47 ≠ -1 ∧ C0.1 76 48 = 1) ∧ (E.2.2.2.2.2 = true ↔ C0.1 76 47 ≠ -1 ∧ C0.1 76 49 = 1) ∧ (C0.1 76 48 = 0 ∨ C0.1 76 48 = 1) ∧ (C0.1 76 49 = 0 ∨ C0.1 76 49 = 1)
section MFX
variable {L : Nat} {xs : Nat → Int32} {t : ab_H} {d n p b wb e f : Nat} {B : Nat → Nat} {C0 C : co_T} {s y z : fs_T} {W : List (Int32 × Int64)} {c : Int32} {i : Nat} {E : fe_T} {g g' : fs_T → Prop} {k k' : Int32 → Nat → Prop} {r : fr_T} {q : fs_T → fr_T}
set_option maxRecDepth 100000 in
theorem ct_b (h : ct B n (bnd r q) g k) (hk : ∀ z, kd B n z.1 = 1 → ct B n (q z) g k → k 1 z.1) : ct B n r (fun z => ct B n (q z) g k) k := by
  cases r with
  | inl e => exact h
  | inr z => exact ⟨fun e => hk z e h, fun _ => h⟩
set_option maxRecDepth 100000 in
theorem ct_m (h : ct B n r g k) (hg : ∀ z, kd B n z.1 ≠ 1 → g z → g' z) (hk : ∀ c i, k c i → k' c i) : ct B n r g' k' := by
  cases r with
  | inl e => exact ⟨h.1, hk _ _ h.2⟩
  | inr z => exact ⟨fun e => hk _ _ (h.1 e), fun e => hg _ e (h.2 e)⟩
/-! and where it may end -/
set_option maxRecDepth 100000 in
theorem ct_z (h : ct B n r g k) : ct B n r (fun z => r = .inr z ∧ g z) k := by
  cases r with
  | inl e => exact h
  | inr z => exact ⟨h.1, fun e => ⟨rfl, h.2 e⟩⟩
set_option maxRecDepth 100000 in
theorem ct_i (h : ct B n (.inr z) g k) : (kd B n z.1 = 1 → k 1 z.1) ∧ (kd B n z.1 ≠ 1 → g z) := h
/-! at a bad token -/
set_option maxRecDepth 100000 in
theorem cb_i {u : fs_T → fs_T} (hu : (u z).1 = z.1) (hb : kd B n z.1 = 1) (h : ct B n (.inr (u z)) g k) : k 1 z.1 := by
  have := h.1
  rw [hu] at this
  exact this hb
set_option maxRecDepth 100000 in
theorem cb_x {w : Nat} (hE : E.1 = kd B n) (hw : w ≠ 1) (hb : kd B n z.1 = 1) (h : ct B n (bnd (xpt E w z) q) g k) : k 1 z.1 := by
  unfold xpt at h
  rw [hE, hb, if_neg (fun e => hw e.symm)] at h
  have h2 := h.2
  simp only at h2
  rw [hb, if_pos rfl] at h2
  exact h2
set_option maxRecDepth 100000 in
theorem cb_r {md : Nat} (hE : E.1 = kd B n) (hm : md = 0 ∨ md = 1 ∨ md = 3 ∨ md = 5 ∨ md = 6 ∨ md = 8) (hb : kd B n z.1 = 1) (h : ct B n (bnd (rd E f md z) q) g k) : k 1 z.1 := by
  rcases rd_bad (E := E) (s := z) (by rw [hE]; exact hb) f md hm with ⟨c, e⟩ | e
  · rw [e] at h
    have h2 := h.2
    simp only at h2
    rw [hb, if_pos rfl] at h2
    exact h2
  · rw [e] at h
    exact absurd rfl h.1
set_option maxRecDepth 100000 in
theorem cb_r1 {md : Nat} (hE : E.1 = kd B n) (hm : md = 0 ∨ md = 1 ∨ md = 3 ∨ md = 5 ∨ md = 6 ∨ md = 8) (hb : kd B n z.1 = 1) (h : ct B n (rd E f md z) g k) : k 1 z.1 := by
  have h : ct B n (bnd (rd E f md z) .inr) g k := by
    cases e : rd E f md z with
    | inl u => rw [e] at h; exact h
    | inr u => rw [e] at h; exact h
  exact cb_r hE hm hb h
set_option maxRecDepth 100000 in
theorem cb_l {md : Nat} (hE : E.1 = kd B n) (hm : md = 2 ∨ md = 4 ∨ md = 7 ∨ md = 9) (hb : kd B n z.1 = 1) (h : ct B n (rd E f md z) g k) : k 1 z.1 := by
  cases f with
  | zero => exact absurd rfl h.1
  | succ f =>
    have h0 : rd E (f + 1) md z = .inr z := by
      rcases hm with rfl | rfl | rfl | rfl
      · show (if E.1 z.1 = 58 ∨ E.1 z.1 = 59 then _ else _) = _
        rw [hE, if_neg (by omega)]
      · show (if E.1 z.1 = 56 ∨ E.1 z.1 = 57 then _ else _) = _
        rw [hE, if_neg (by omega)]
      · show (if E.1 z.1 = 7 then _ else _) = _
        rw [hE, if_neg (by omega)]
      · show (if E.1 z.1 = 30 then _ else _) = _
        rw [hE, if_neg (by omega)]
    rw [h0] at h
    exact h.1 hb
set_option maxRecDepth 100000 in
theorem MK_le {e' : Nat} (M : MK B n C0 C p b wb e s W) (h : e ≤ e') (h2 : e' ≤ 12) : MK B n C0 C p b wb e' s W := by
  obtain ⟨T, R, hp, hu, ho, hq, h10, hL, hw, hW, hb, he, hi, hf⟩ := M
  exact ⟨T, R, hp, hu, ho, hq, h10, hL, hw, hW, by omega, h2, hi, hf⟩
/-! and no token is longer than it is -/
def MT (B : Nat → Nat) (n : Nat) (C0 C : co_T) (p b wb e : Nat) (s : fs_T) (W : List (Int32 × Int64)) : Prop := MK B n C0 C p b wb e s W ∧ s.1 ≤ tkA B n s.1
set_option maxRecDepth 100000 in
theorem MT_6 (M : MT B n C0 C p b wb e s W) (h : kd B n s.1 ≠ 2) : s.1 < 600 ∧ s.1 + 1 ≤ tkA B n (s.1 + 1) := by
  have h1 := kd_end h
  have h2 := tkA_lt h
  have h3 := M.1.1.2.1
  have h4 := M.2
  omega
set_option maxRecDepth 100000 in
theorem tk_up {i : Nat} (h : i ≤ tkA B n i) (hk : kd B n i ≠ 2) : i + 1 ≤ tkA B n (i + 1) := by
  have h2 := tkA_lt hk
  omega
set_option maxRecDepth 100000 in
theorem tk_600 {i : Nat} (M : MK B n C0 C p b wb e s W) (h : i ≤ tkA B n i) (hk : kd B n i ≠ 2) : i < 600 := by
  have h2 := kd_end hk
  have h3 := M.1.2.1
  omega
/-! what a step to z leaves -/
def SP (B : Nat → Nat) (n : Nat) (C0 : co_T) (t : ab_H) (p b wb e : Nat) (v : Option Value) (W : List (Int32 × Int64)) (g : fs_T → Prop) (k : Int32 → Nat → Prop) : Option Value → ab_H → Nat → Prop := fun v' h m => v = v' ∧ (∃ C', ((∃ z, g z ∧ MT B n C0 C' p b wb e z W) ∨ (∃ c i, k c i ∧ FM B n C0 C' p b wb 2 c i)) ∧ MH C' t = h) ∧ 0 = m
set_option maxRecDepth 100000 in
theorem SP_q {v' : Option Value} {h : ab_H} {m e' : Nat} {v : Option Value} (hq : QM B n C0 t p b wb e v z W v' h m) (he : e ≤ e') (he2 : e' ≤ 12) (ht : z.1 ≤ tkA B n z.1) (hc : (kd B n z.1 = 1 → k 1 z.1) ∧ (kd B n z.1 ≠ 1 → g z)) : SP B n C0 t p b wb e' v W g k v' h m := by
  obtain ⟨h1, ⟨C', h2, h3⟩, h4⟩ := hq
  refine ⟨h1, ⟨C', ?_, h3⟩, h4⟩
  rcases h2 with ⟨hk, M⟩ | ⟨hk, F⟩
  · exact Or.inl ⟨z, hc.2 hk, MK_le M he he2, ht⟩
  · exact Or.inr ⟨1, z.1, hc.1 hk, FM_u F (by omega)⟩
set_option maxRecDepth 100000 in
theorem SP_f {v' : Option Value} {h : ab_H} {m : Nat} {v : Option Value} {a : Nat} (hq : RFM B n C0 t p b wb a v c i v' h m) (ha : a ≤ 2) (hc : k c i) : SP B n C0 t p b wb e v W g k v' h m := by
  obtain ⟨h1, ⟨C', h2, h3⟩, h4⟩ := hq
  exact ⟨h1, ⟨C', Or.inr ⟨c, i, hc, FM_u h2 ha⟩, h3⟩, h4⟩
set_option maxRecDepth 100000 in
theorem kd_if {a : Int32} (h : kd B n i ≠ 1) (x : k (if kd B n i = 1 then 1 else a) i) : k a i := by
  rw [if_neg h] at x
  exact x
set_option maxRecDepth 100000 in
theorem kd_ip {a : Int32} (h : kd B n i = 1) (x : k (if kd B n i = 1 then 1 else a) i) : k 1 i := by
  rw [if_pos h] at x
  exact x
/-! nodes and brackets refuse at the token itself -/
set_option maxRecDepth 100000 in
theorem spd_i (h : spd s = .inl (c, i)) : c = 6 ∧ i = s.1 := by
  unfold spd at h
  split at h
  · cases h
  · cases h
    exact ⟨rfl, rfl⟩
  · cases h
set_option maxRecDepth 100000 in
theorem gin_i (h : gin s = .inl (c, i)) : c = 6 ∧ i = s.1 := by
  unfold gin at h
  split at h
  · cases h
    exact ⟨rfl, rfl⟩
  · cases h
set_option maxRecDepth 100000 in
theorem lef_c {a a2 : Int32} (h : ct B n (lef s a a2) g k) (hk : kd B n s.1 ≠ 1) : (∃ y, spd s = .inr y ∧ ((kd B n (s.1 + 1) = 1 → k 1 (s.1 + 1)) ∧ (kd B n (s.1 + 1) ≠ 1 → g (nxt (emt y a a2)))) ∧ y.1 = s.1) ∨ (spd s = .inl (6, s.1) ∧ k 6 s.1) := by
  unfold lef at h
  cases e : spd s with
  | inl u =>
    obtain ⟨u1, u2⟩ := u
    obtain ⟨rfl, rfl⟩ := spd_i e
    rw [e] at h
    exact Or.inr ⟨rfl, kd_if hk h.2⟩
  | inr y =>
    rw [e] at h
    have hy := (spd_s e).1
    have h1 : (nxt (emt y a a2)).1 = s.1 + 1 := by show y.1 + 1 = s.1 + 1; rw [hy]
    have h2 := ct_i h
    rw [h1] at h2
    exact Or.inl ⟨y, rfl, h2, hy⟩
/-! a factor with nothing inside it -/
set_option maxRecDepth 100000 in
theorem fxl (hE : eM B n C0 E) (M : MT B n C0 C p b wb (e + 2) s W) (he : e < 8) (h57 : kd B n s.1 ≠ 57) (h44 : kd B n s.1 ≠ 44) (hc : ct B n (rd E (f + 1) 0 s) g k) : Wd L xs (d + 6) y_229 (0, [(0, .ref 176)], [], MH C t, 0) (SP B n C0 t p b wb (e + 2) (some (.int 1)) W g k) nX := by
  have h1 := M.1.2.1.1
  obtain ⟨hk, hv, hp, hr, hN, hO, hn2, ho2⟩ := hE
  unfold rd at hc
  simp only at hc
  rw [hk, hv] at hc
  by_cases k4 : kd B n s.1 = 4
  · have h6 := MT_6 M (by rw [k4]; decide)
    rw [if_pos k4] at hc
    rcases lef_c hc h1 with ⟨y, e1, h2, hy⟩ | ⟨e1, h2⟩
    · refine Wd_up (Nat.le_succ _) (Wd_q (gn_ok (d := d) M.1 (by omega) h6.1 k4 e1) (fun v h m hq => ?_) (fun _ _ _ z => z))
      rw [hy] at hq
      refine SP_q hq (Nat.le_refl _) (by omega) (by show y.1 + 1 ≤ tkA B n (y.1 + 1); rw [hy]; exact h6.2) ?_
      show (kd B n (y.1 + 1) = 1 → k 1 (y.1 + 1)) ∧ (kd B n (y.1 + 1) ≠ 1 → g _)
      rw [hy]
      exact h2
    · exact Wd_up (Nat.le_succ _) (Wd_q (gn_er (d := d) M.1 (by omega) h6.1 k4 e1) (fun v h m hq => SP_f hq (by omega) h2) (fun _ _ _ z => z))
  rw [if_neg k4] at hc
  by_cases k27 : kd B n s.1 = 27
  · have h6 := MT_6 M (by rw [k27]; decide)
    rw [if_pos k27] at hc
    rcases lef_c hc h1 with ⟨y, e1, h2, hy⟩ | ⟨e1, h2⟩
    · refine Wd_up (Nat.le_succ _) (Wd_q (gu_ok (d := d) M.1 (by omega) h6.1 k27 e1) (fun v h m hq => ?_) (fun _ _ _ z => z))
      refine SP_q hq (Nat.le_refl _) (by omega) (by show y.1 + 1 ≤ tkA B n (y.1 + 1); rw [hy]; exact h6.2) ?_
      show (kd B n (y.1 + 1) = 1 → k 1 (y.1 + 1)) ∧ (kd B n (y.1 + 1) ≠ 1 → g _)
      rw [hy]
      exact h2
    · exact Wd_up (Nat.le_succ _) (Wd_q (gu_er (d := d) M.1 (by omega) h6.1 k27 e1) (fun v h m hq => SP_f hq (by omega) h2) (fun _ _ _ z => z))
  rw [if_neg k27] at hc
  by_cases k3 : kd B n s.1 = 3
  · have h6 := MT_6 M (by rw [k3]; decide)
    rw [if_pos k3] at hc
    unfold lfc clm at hc
    rw [hk, hv, if_pos k3] at hc
    cases hcp : E.2.2.1 with
    | none =>
      rw [hcp] at hc hp
      exact Wd_up (Nat.le_succ _) (Wd_q (gk_no (d := d) M.1 (by omega) k3 hp) (fun v h m hq => SP_f hq (by omega) (kd_if h1 hc.2)) (fun _ _ _ z => z))
    | some G =>
      rw [hcp] at hc hp
      obtain ⟨q, w, hx, hq6, hw6, h8, rfl⟩ := hp
      simp only at hc
      by_cases hg : fnd (fun j => decide (C0.2.1 81 (6 * q + j) = vl B n s.1)) w 0 = -1
      · rw [if_pos hg] at hc
        exact Wd_up (Nat.le_succ _) (Wd_q (gk_un (d := d) M.1 (by omega) hq6 hw6 hx h8 k3 hg) (fun v h m hq => SP_f hq (by omega) (kd_if h1 hc.2)) (fun _ _ _ z => z))
      · rw [if_neg hg] at hc
        rcases lef_c hc h1 with ⟨y, e1, h2, hy⟩ | ⟨e1, h2⟩
        · refine Wd_up (Nat.le_succ _) (Wd_q (gk_ok (d := d) M.1 (by omega) h6.1 hq6 hw6 hx h8 k3 hg e1) (fun v h m hq => ?_) (fun _ _ _ z => z))
          refine SP_q hq (Nat.le_refl _) (by omega) (by show y.1 + 1 ≤ tkA B n (y.1 + 1); rw [hy]; exact h6.2) ?_
          show (kd B n (y.1 + 1) = 1 → k 1 (y.1 + 1)) ∧ (kd B n (y.1 + 1) ≠ 1 → g _)
          rw [hy]
          exact h2
        · exact Wd_up (Nat.le_succ _) (Wd_q (gk_er (d := d) M.1 (by omega) hq6 hw6 hx h8 k3 hg e1) (fun v h m hq => SP_f hq (by omega) h2) (fun _ _ _ z => z))
  rw [if_neg k3] at hc
  by_cases k24 : kd B n s.1 = 24
  · have h6 := MT_6 M (by rw [k24]; decide)
    rw [if_pos k24] at hc
    by_cases hf : E.2.2.2.2.1 = true
    · obtain ⟨hx, hv1⟩ := hN.mp hf
      rw [if_pos hf] at hc
      cases hcr : E.2.2.2.1 with
      | none =>
        rw [hcr] at hr
        exact absurd hr hx
      | some G =>
        rw [hcr] at hc hr
        obtain ⟨q, w, hx, hq6, hw6, h8, rfl⟩ := hr
        unfold xpt at hc
        rw [hk] at hc
        by_cases hd : kd B n (s.1 + 1) = 49
        · have h7 := tk_up h6.2 (by rw [hd]; decide)
          have h9 := tk_600 M.1 h6.2 (by rw [hd]; decide)
          replace hc : ct B n (bnd (if kd B n (s.1 + 1) = 49 then .inr (nxt (nxt s)) else .inl (2, s.1 + 1)) (fun z => lfc E (some fun v => fnd (fun j => decide (C0.2.1 81 (6 * q + j) = v)) w 0) z 3)) g k := hc
          rw [if_pos hd] at hc
          replace hc : ct B n (lfc E (some fun v => fnd (fun j => decide (C0.2.1 81 (6 * q + j) = v)) w 0) (nxt (nxt s)) 3) g k := hc
          unfold lfc clm at hc
          rw [hk, hv] at hc
          by_cases h3 : kd B n (s.1 + 2) = 3
          · have h10 := tk_up h7 (by rw [h3]; decide)
            have h11 : s.1 + 2 < 600 := tk_600 M.1 h7 (by rw [h3]; decide)
            rw [if_pos (show kd B n (nxt (nxt s)).1 = 3 from h3)] at hc
            simp only at hc
            by_cases hg : fnd (fun j => decide (C0.2.1 81 (6 * q + j) = vl B n (s.1 + 2))) w 0 = -1
            · rw [if_pos (show fnd (fun j => decide (C0.2.1 81 (6 * q + j) = vl B n (nxt (nxt s)).1)) w 0 = -1 from hg)] at hc
              exact Wd_q (gw24_f (d := d) M.1 k24 (vw_un M.1 (by omega) hx hq6 hv1 h11 hw6 h8 hd h3 hg)) (fun v h m hq => SP_f hq (by omega) (kd_if (i := s.1 + 2) (by rw [h3]; decide) hc.2)) (fun _ _ _ z => z)
            · rw [if_neg (show ¬ fnd (fun j => decide (C0.2.1 81 (6 * q + j) = vl B n (nxt (nxt s)).1)) w 0 = -1 from hg)] at hc
              replace hc : ct B n (lef (nxt (nxt s)) 3 (fnd (fun j => decide (C0.2.1 81 (6 * q + j) = vl B n (s.1 + 2))) w 0)) g k := hc
              rcases lef_c hc (show kd B n (s.1 + 2) ≠ 1 by rw [h3]; decide) with ⟨y, e1, h2, hy⟩ | ⟨e1, h2⟩
              · have hy : y.1 = s.1 + 2 := hy
                refine Wd_q (gw24_q (d := d) M.1 k24 (vw_ok M.1 (by omega) hx hq6 hv1 h11 hw6 h8 hd h3 hg e1)) (fun v h m hq => ?_) (fun _ _ _ z => z)
                refine SP_q hq (by omega) (by omega) (by show y.1 + 1 ≤ tkA B n (y.1 + 1); rw [hy]; exact h10) ?_
                show (kd B n (y.1 + 1) = 1 → k 1 (y.1 + 1)) ∧ (kd B n (y.1 + 1) ≠ 1 → g _)
                rw [hy]
                exact h2
              · exact Wd_q (gw24_f (d := d) M.1 k24 (vw_er M.1 (by omega) hx hq6 hv1 h11 hw6 h8 hd h3 hg e1)) (fun v h m hq => SP_f hq (by omega) h2) (fun _ _ _ z => z)
          · rw [if_neg (show ¬ kd B n (nxt (nxt s)).1 = 3 from h3)] at hc
            by_cases hb2 : kd B n (s.1 + 2) = 1
            · exact Wd_q (gw24_f (d := d) M.1 k24 (vw_b2 M.1 (by omega) hx hq6 hv1 h9 hd hb2)) (fun v h m hq => SP_f hq (by omega) (kd_ip (i := s.1 + 2) hb2 hc.2)) (fun _ _ _ z => z)
            · exact Wd_q (gw24_f (d := d) M.1 k24 (vw_m1 M.1 (by omega) hx hq6 hv1 h9 hd hb2 h3)) (fun v h m hq => SP_f hq (by omega) (kd_if (i := s.1 + 2) hb2 hc.2)) (fun _ _ _ z => z)
        · rw [if_neg (show ¬ kd B n (nxt s).1 = 49 from hd)] at hc
          by_cases hb1 : kd B n (s.1 + 1) = 1
          · exact Wd_q (gw24_f (d := d) M.1 k24 (vw_b1 M.1 (by omega) hx hq6 hv1 h6.1 hb1)) (fun v h m hq => SP_f hq (by omega) (kd_ip (i := s.1 + 1) hb1 hc.2)) (fun _ _ _ z => z)
          · exact Wd_q (gw24_f (d := d) M.1 k24 (vw_d0 M.1 (by omega) hx hq6 hv1 h6.1 hb1 hd)) (fun v h m hq => SP_f hq (by omega) (kd_if (i := s.1 + 1) hb1 hc.2)) (fun _ _ _ z => z)
    · rw [if_neg hf] at hc
      by_cases hx : C0.1 76 47 = -1
      · exact Wd_q (gw24_f (d := d) M.1 k24 (vw_n1 M.1 (by omega) hx)) (fun v h m hq => SP_f hq (by omega) (kd_if h1 hc.2)) (fun _ _ _ z => z)
      · have hv0 : C0.1 76 48 = 0 := by
          rcases hn2 with h | h
          · exact h
          · exact absurd (hN.mpr ⟨hx, h⟩) hf
        exact Wd_q (gw24_f (d := d) M.1 k24 (vw_n2 M.1 (by omega) hx hv0)) (fun v h m hq => SP_f hq (by omega) (kd_if h1 hc.2)) (fun _ _ _ z => z)
  rw [if_neg k24] at hc
  by_cases k28 : kd B n s.1 = 28
  · have h6 := MT_6 M (by rw [k28]; decide)
    rw [if_pos k28] at hc
    by_cases hf : E.2.2.2.2.2 = true
    · obtain ⟨hx, hv1⟩ := hO.mp hf
      rw [if_pos hf] at hc
      cases hcr : E.2.2.2.1 with
      | none =>
        rw [hcr] at hr
        exact absurd hr hx
      | some G =>
        rw [hcr] at hc hr
        obtain ⟨q, w, hx, hq6, hw6, h8, rfl⟩ := hr
        unfold xpt at hc
        rw [hk] at hc
        by_cases hd : kd B n (s.1 + 1) = 49
        · have h7 := tk_up h6.2 (by rw [hd]; decide)
          have h9 := tk_600 M.1 h6.2 (by rw [hd]; decide)
          replace hc : ct B n (bnd (if kd B n (s.1 + 1) = 49 then .inr (nxt (nxt s)) else .inl (2, s.1 + 1)) (fun z => lfc E (some fun v => fnd (fun j => decide (C0.2.1 81 (6 * q + j) = v)) w 0) z 4)) g k := hc
          rw [if_pos hd] at hc
          replace hc : ct B n (lfc E (some fun v => fnd (fun j => decide (C0.2.1 81 (6 * q + j) = v)) w 0) (nxt (nxt s)) 4) g k := hc
          unfold lfc clm at hc
          rw [hk, hv] at hc
          by_cases h3 : kd B n (s.1 + 2) = 3
          · have h10 := tk_up h7 (by rw [h3]; decide)
            have h11 : s.1 + 2 < 600 := tk_600 M.1 h7 (by rw [h3]; decide)
            rw [if_pos (show kd B n (nxt (nxt s)).1 = 3 from h3)] at hc
            simp only at hc
            by_cases hg : fnd (fun j => decide (C0.2.1 81 (6 * q + j) = vl B n (s.1 + 2))) w 0 = -1
            · rw [if_pos (show fnd (fun j => decide (C0.2.1 81 (6 * q + j) = vl B n (nxt (nxt s)).1)) w 0 = -1 from hg)] at hc
              exact Wd_q (gw28_f (d := d) M.1 k28 (vo_un M.1 (by omega) hx hq6 hv1 h11 hw6 h8 hd h3 hg)) (fun v h m hq => SP_f hq (by omega) (kd_if (i := s.1 + 2) (by rw [h3]; decide) hc.2)) (fun _ _ _ z => z)
            · rw [if_neg (show ¬ fnd (fun j => decide (C0.2.1 81 (6 * q + j) = vl B n (nxt (nxt s)).1)) w 0 = -1 from hg)] at hc
              replace hc : ct B n (lef (nxt (nxt s)) 4 (fnd (fun j => decide (C0.2.1 81 (6 * q + j) = vl B n (s.1 + 2))) w 0)) g k := hc
              rcases lef_c hc (show kd B n (s.1 + 2) ≠ 1 by rw [h3]; decide) with ⟨y, e1, h2, hy⟩ | ⟨e1, h2⟩
              · have hy : y.1 = s.1 + 2 := hy
                refine Wd_q (gw28_q (d := d) M.1 k28 (vo_ok M.1 (by omega) hx hq6 hv1 h11 hw6 h8 hd h3 hg e1)) (fun v h m hq => ?_) (fun _ _ _ z => z)
                refine SP_q hq (by omega) (by omega) (by show y.1 + 1 ≤ tkA B n (y.1 + 1); rw [hy]; exact h10) ?_
                show (kd B n (y.1 + 1) = 1 → k 1 (y.1 + 1)) ∧ (kd B n (y.1 + 1) ≠ 1 → g _)
                rw [hy]
                exact h2
              · exact Wd_q (gw28_f (d := d) M.1 k28 (vo_er M.1 (by omega) hx hq6 hv1 h11 hw6 h8 hd h3 hg e1)) (fun v h m hq => SP_f hq (by omega) h2) (fun _ _ _ z => z)
          · rw [if_neg (show ¬ kd B n (nxt (nxt s)).1 = 3 from h3)] at hc
            by_cases hb2 : kd B n (s.1 + 2) = 1
            · exact Wd_q (gw28_f (d := d) M.1 k28 (vo_b2 M.1 (by omega) hx hq6 hv1 h9 hd hb2)) (fun v h m hq => SP_f hq (by omega) (kd_ip (i := s.1 + 2) hb2 hc.2)) (fun _ _ _ z => z)
            · exact Wd_q (gw28_f (d := d) M.1 k28 (vo_m1 M.1 (by omega) hx hq6 hv1 h9 hd hb2 h3)) (fun v h m hq => SP_f hq (by omega) (kd_if (i := s.1 + 2) hb2 hc.2)) (fun _ _ _ z => z)
        · rw [if_neg (show ¬ kd B n (nxt s).1 = 49 from hd)] at hc
          by_cases hb1 : kd B n (s.1 + 1) = 1
          · exact Wd_q (gw28_f (d := d) M.1 k28 (vo_b1 M.1 (by omega) hx hq6 hv1 h6.1 hb1)) (fun v h m hq => SP_f hq (by omega) (kd_ip (i := s.1 + 1) hb1 hc.2)) (fun _ _ _ z => z)
          · exact Wd_q (gw28_f (d := d) M.1 k28 (vo_d0 M.1 (by omega) hx hq6 hv1 h6.1 hb1 hd)) (fun v h m hq => SP_f hq (by omega) (kd_if (i := s.1 + 1) hb1 hc.2)) (fun _ _ _ z => z)
    · rw [if_neg hf] at hc
      by_cases hx : C0.1 76 47 = -1
      · exact Wd_q (gw28_f (d := d) M.1 k28 (vo_n1 M.1 (by omega) hx)) (fun v h m hq => SP_f hq (by omega) (kd_if h1 hc.2)) (fun _ _ _ z => z)
      · have hv0 : C0.1 76 49 = 0 := by
          rcases ho2 with h | h
          · exact h
          · exact absurd (hO.mpr ⟨hx, h⟩) hf
        exact Wd_q (gw28_f (d := d) M.1 k28 (vo_n2 M.1 (by omega) hx hv0)) (fun v h m hq => SP_f hq (by omega) (kd_if h1 hc.2)) (fun _ _ _ z => z)
  rw [if_neg k28] at hc
  rw [if_neg h57, if_neg h44] at hc
  exact Wd_up (Nat.le_succ _) (Wd_q (gx_er (d := d) M.1 (by omega) k4 k27 k3 k24 k28 h57 h44) (fun v h m hq => SP_f hq (by omega) (kd_if h1 hc.2)) (fun _ _ _ z => z))
/-! a sign ahead -/
set_option maxRecDepth 100000 in
theorem fxm (hE : eM B n C0 E) (M : MT B n C0 C p b wb (e + 2) s W) (he : e < 8) (h57 : kd B n s.1 = 57) (hc : ct B n (rd E (f + 1) 0 s) g k) : Wd L xs (d + 6) y_229 (0, [(0, .ref 176)], [], MH C t, 0) (SP B n C0 t p b wb (e + 2) (some (.int 0)) (W ++ [(3, 0)]) (fun z => z.2.2.1 = s.2.2.1 + 1 ∧ ct B n (rd E f 0 z) (fun z => g (gou (emt z 5 0))) k) k) nX := by
  have h1 := M.1.2.1.1
  have h6 := MT_6 M (by rw [h57]; decide)
  have hk := hE.1
  unfold rd at hc
  simp only at hc
  rw [hk, if_neg (by omega), if_neg (by omega), if_neg (by omega), if_neg (by omega), if_neg (by omega), if_pos h57] at hc
  cases e1 : gin s with
  | inl u =>
    obtain ⟨u1, u2⟩ := u
    obtain ⟨rfl, rfl⟩ := gin_i e1
    rw [e1] at hc
    exact Wd_up (Nat.le_succ _) (Wd_q (gm_e1 (d := d) M.1 (by omega) h6.1 h57 e1) (fun v h m hq => SP_f hq (by omega) (kd_if h1 hc.2)) (fun _ _ _ z => z))
  | inr y =>
    rw [e1] at hc
    have hy := (gin_s e1).1
    have hy1 : y.1 = s.1 := by rw [hy]
    replace hc : ct B n (bnd (spd y) (fun s => bnd (rd E f 0 (nxt s)) (fun s => .inr (gou (emt s 5 0))))) g k := hc
    cases e2 : spd y with
    | inl u =>
      obtain ⟨u1, u2⟩ := u
      obtain ⟨rfl, rfl⟩ := spd_i e2
      rw [e2] at hc
      have hc2 := hc.2
      simp only at hc2
      rw [hy1] at hc2
      rw [hy1] at e2
      exact Wd_up (Nat.le_succ _) (Wd_q (gm_e2 (d := d) M.1 (by omega) h6.1 h57 e1 e2) (fun v h m hq => SP_f hq (by omega) (kd_if h1 hc2)) (fun _ _ _ z => z))
    | inr x =>
      rw [e2] at hc
      have hx := spd_s e2
      replace hc : ct B n (bnd (rd E f 0 (nxt x)) (fun s => .inr (gou (emt s 5 0)))) g k := hc
      have hx1 : (nxt x).1 = s.1 + 1 := by show x.1 + 1 = _; rw [hx.1, hy1]
      refine Wd_up (Nat.le_succ _) (Wd_q (gm_ok (d := d) M.1 (by omega) h6.1 h57 e1 e2) (fun v h m hq => ?_) (fun _ _ _ z => z))
      refine SP_q hq (Nat.le_refl _) (by omega) (by rw [hx1]; exact h6.2) ⟨fun hb => cb_r hk (Or.inl rfl) hb hc, fun hb => ⟨?_, ct_m (ct_b hc (fun z hb h => cb_i (u := fun z => gou (emt z 5 0)) rfl hb h)) (fun z hz h => h.2 hz) (fun _ _ z => z)⟩⟩
      show x.2.2.1 = _
      rw [hx.2.2, hy]
/-! a bracket -/
set_option maxRecDepth 100000 in
theorem fxb (hE : eM B n C0 E) (M : MT B n C0 C p b wb (e + 2) s W) (he : e < 8) (h44 : kd B n s.1 = 44) (hc : ct B n (rd E (f + 1) 0 s) g k) : Wd L xs (d + 6) y_229 (0, [(0, .ref 176)], [], MH C t, 0) (SP B n C0 t p b wb (e + 2) (some (.int 0)) (W ++ [(1, 0)]) (fun z => z.2.2.1 = s.2.2.1 + 1 ∧ ct B n (rd E f 3 z) (fun z => ct B n (bnd (xpt E 45 z) (fun s => .inr (gou s))) g k) k) k) nX := by
  have h1 := M.1.2.1.1
  have h6 := MT_6 M (by rw [h44]; decide)
  have hk := hE.1
  unfold rd at hc
  simp only at hc
  rw [hk, if_neg (by omega), if_neg (by omega), if_neg (by omega), if_neg (by omega), if_neg (by omega), if_neg (by omega), if_pos h44] at hc
  cases e1 : gin s with
  | inl u =>
    obtain ⟨u1, u2⟩ := u
    obtain ⟨rfl, rfl⟩ := gin_i e1
    rw [e1] at hc
    exact Wd_up (Nat.le_succ _) (Wd_q (gb_er (d := d) M.1 (by omega) h6.1 h44 e1) (fun v h m hq => SP_f hq (by omega) (kd_if h1 hc.2)) (fun _ _ _ z => z))
  | inr y =>
    rw [e1] at hc
    have hy := (gin_s e1).1
    have hy1 : (nxt y).1 = s.1 + 1 := by show y.1 + 1 = _; rw [hy]
    replace hc : ct B n (bnd (rd E f 3 (nxt y)) (fun s => bnd (xpt E 45 s) (fun s => .inr (gou s)))) g k := hc
    refine Wd_up (Nat.le_succ _) (Wd_q (gb_ok (d := d) M.1 (by omega) h6.1 h44 e1) (fun v h m hq => ?_) (fun _ _ _ z => z))
    refine SP_q hq (Nat.le_refl _) (by omega) (by rw [hy1]; exact h6.2) ⟨fun hb => cb_r hk (Or.inr (Or.inr (Or.inl rfl))) hb hc, fun hb => ⟨?_, ct_b hc (fun z hb h => cb_x hk (by decide) hb h)⟩⟩
    show y.2.2.1 = _
    rw [hy]
end MFX
