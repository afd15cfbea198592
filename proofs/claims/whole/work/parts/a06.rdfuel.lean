/-! HOW FAR FORMULAS ARE READ; ENOUGH FUEL -/
section RDF
variable {E : fe_T} {m : Nat}
def pg (md : Nat) : Nat := match md with
  | 2 => 0
  | 4 => 0
  | 7 => 0
  | 9 => 0
  | _ => 1
def rk (md : Nat) : Nat := match md with
  | 1 => 2
  | 3 => 3
  | 5 => 4
  | 6 => 5
  | 8 => 6
  | _ => 1
set_option maxRecDepth 100000 in
theorem tk_m (hm : E.1 m = 1 ∨ E.1 m = 2) {i : Nat} (hi : i ≤ m) (h1 : E.1 i ≠ 1) (h2 : E.1 i ≠ 2) : i + 1 ≤ m := by
  by_cases e : i = m
  · subst e
    rcases hm with z | z
    · exact absurd z h1
    · exact absurd z h2
  · omega
set_option maxRecDepth 100000 in
theorem tk_k (hm : E.1 m = 1 ∨ E.1 m = 2) {i k : Nat} (hi : i ≤ m) (h : E.1 i = k) (h1 : k ≠ 1) (h2 : k ≠ 2) : i + 1 ≤ m := tk_m hm hi (by rw [h]; exact h1) (by rw [h]; exact h2)
set_option maxRecDepth 100000 in
theorem lef_n {s z : fs_T} {a b : Int32} (h : lef s a b = .inr z) : z.1 = s.1 + 1 := by
  obtain ⟨y, h1, h2⟩ := bnd_s h
  have h3 := spd_s h1
  cases h2
  show y.1 + 1 = _
  rw [h3.1]
set_option maxRecDepth 100000 in
theorem lfc_n {r : Option (Int64 → Int32)} {s z : fs_T} {a : Int32} (h : lfc E r s a = .inr z) : z.1 = s.1 + 1 ∧ E.1 s.1 = 3 := by
  unfold lfc at h
  split at h
  · cases h
  · rename_i c hc
    refine ⟨lef_n h, ?_⟩
    unfold clm at hc
    split at hc
    · assumption
    · cases hc
set_option maxRecDepth 100000 in
theorem xpt_k {w : Nat} {s z : fs_T} (h : xpt E w s = .inr z) : E.1 s.1 = w := by
  unfold xpt at h
  split at h
  · assumption
  · cases h
set_option maxRecDepth 100000 in
theorem rd_pr (hm : E.1 m = 1 ∨ E.1 m = 2) : ∀ (f md : Nat) (s z : fs_T), md ≤ 9 → s.1 ≤ m → rd E f md s = .inr z → z.1 ≤ m ∧ s.1 + pg md ≤ z.1
  | 0, _, _, _, _, _, h => by cases h
  | f + 1, 0, s, z, _, hs, h => by
    have ih := rd_pr hm f
    show z.1 ≤ m ∧ s.1 + 1 ≤ z.1
    replace h : (if E.1 s.1 = 4 then lef s 0 (E.2.1 s.1).toInt32 else if E.1 s.1 = 27 then lef s 1 0 else if E.1 s.1 = 3 then lfc E E.2.2.1 s 2 else if E.1 s.1 = 24 then (if E.2.2.2.2.1 = true then bnd (xpt E 49 (nxt s)) (fun s => lfc E E.2.2.2.1 s 3) else .inl (7, s.1)) else if E.1 s.1 = 28 then (if E.2.2.2.2.2 = true then bnd (xpt E 49 (nxt s)) (fun s => lfc E E.2.2.2.1 s 4) else .inl (7, s.1)) else if E.1 s.1 = 57 then bnd (gin s) (fun s => bnd (spd s) (fun s => bnd (rd E f 0 (nxt s)) (fun s => .inr (gou (emt s 5 0))))) else if E.1 s.1 = 44 then bnd (gin s) (fun s => bnd (rd E f 3 (nxt s)) (fun s => bnd (xpt E 45 s) (fun s => .inr (gou s)))) else .inl (2, s.1)) = .inr z := h
    split at h
    · rename_i e
      have := lef_n h
      have := tk_k hm hs e (by decide) (by decide)
      omega
    split at h
    · rename_i e
      have := lef_n h
      have := tk_k hm hs e (by decide) (by decide)
      omega
    split at h
    · rename_i e
      have := lfc_n h
      have := tk_k hm hs e (by decide) (by decide)
      omega
    split at h
    · rename_i e
      have a1 := tk_k hm hs e (by decide) (by decide)
      split at h
      · obtain ⟨y, h1, h2⟩ := bnd_s h
        have a2 : s.1 + 1 + 1 ≤ m := tk_k (i := s.1 + 1) hm a1 (xpt_k h1) (by decide) (by decide)
        have := xpt_s h1
        subst this
        have a3 := lfc_n h2
        have a4 : s.1 + 1 + 1 + 1 ≤ m := tk_k (i := s.1 + 1 + 1) hm a2 a3.2 (by decide) (by decide)
        have a5 : z.1 = s.1 + 1 + 1 + 1 := a3.1
        omega
      · cases h
    split at h
    · rename_i e
      have a1 := tk_k hm hs e (by decide) (by decide)
      split at h
      · obtain ⟨y, h1, h2⟩ := bnd_s h
        have a2 : s.1 + 1 + 1 ≤ m := tk_k (i := s.1 + 1) hm a1 (xpt_k h1) (by decide) (by decide)
        have := xpt_s h1
        subst this
        have a3 := lfc_n h2
        have a4 : s.1 + 1 + 1 + 1 ≤ m := tk_k (i := s.1 + 1 + 1) hm a2 a3.2 (by decide) (by decide)
        have a5 : z.1 = s.1 + 1 + 1 + 1 := a3.1
        omega
      · cases h
    split at h
    · rename_i e
      have a1 := tk_k hm hs e (by decide) (by decide)
      obtain ⟨y, h1, h2⟩ := bnd_s h
      obtain ⟨x, h3, h4⟩ := bnd_s h2
      obtain ⟨w, h5, h6⟩ := bnd_s h4
      have e1 := (gin_s h1).1
      have e2 := (spd_s h3).1
      subst e1
      have e2 : x.1 = s.1 := e2
      have a2 := ih 0 (nxt x) w (by omega) (by show x.1 + 1 ≤ m; omega) h5
      have a3 : x.1 + 1 + 1 ≤ w.1 := a2.2
      cases h6
      show w.1 ≤ m ∧ s.1 + 1 ≤ w.1
      omega
    split at h
    · rename_i e
      have a1 := tk_k hm hs e (by decide) (by decide)
      obtain ⟨y, h1, h2⟩ := bnd_s h
      obtain ⟨x, h3, h4⟩ := bnd_s h2
      obtain ⟨w, h5, h6⟩ := bnd_s h4
      have e1 := (gin_s h1).1
      subst e1
      have a2 := ih 3 _ x (by omega) (by show s.1 + 1 ≤ m; omega) h3
      have a3 : s.1 + 1 + 1 ≤ x.1 := a2.2
      have a4 := tk_k hm a2.1 (xpt_k h5) (by decide) (by decide)
      have e2 := xpt_s h5
      subst e2
      cases h6
      show x.1 + 1 ≤ m ∧ s.1 + 1 ≤ x.1 + 1
      omega
    · cases h
  | f + 1, 1, s, z, _, hs, h => by
    have ih := rd_pr hm f
    show z.1 ≤ m ∧ s.1 + 1 ≤ z.1
    replace h : bnd (rd E f 0 s) (rd E f 2) = .inr z := h
    obtain ⟨y, h1, h2⟩ := bnd_s h
    have a1 := ih 0 s y (by omega) hs h1
    have a2 := ih 2 y z (by omega) a1.1 h2
    have a3 : s.1 + 1 ≤ y.1 := a1.2
    have a4 : y.1 + 0 ≤ z.1 := a2.2
    omega
  | f + 1, 2, s, z, _, hs, h => by
    have ih := rd_pr hm f
    show z.1 ≤ m ∧ s.1 + 0 ≤ z.1
    replace h : (if E.1 s.1 = 58 ∨ E.1 s.1 = 59 then bnd (spd s) (fun z => bnd (rd E f 0 (nxt z)) (fun z => rd E f 2 (emt z (if E.1 s.1 = 58 then 11 else 12) 0))) else .inr s) = .inr z := h
    split at h
    · rename_i e
      have a1 : s.1 + 1 ≤ m := by rcases e with e | e <;> exact tk_k hm hs e (by decide) (by decide)
      obtain ⟨y, h1, h2⟩ := bnd_s h
      obtain ⟨x, h3, h4⟩ := bnd_s h2
      have e1 := (spd_s h1).1
      have a2 := ih 0 (nxt y) x (by omega) (by show y.1 + 1 ≤ m; omega) h3
      have a3 : y.1 + 1 + 1 ≤ x.1 := a2.2
      have a4 := ih 2 (emt x _ 0) z (by omega) a2.1 h4
      have a5 : x.1 + 0 ≤ z.1 := a4.2
      omega
    · cases h
      omega
  | f + 1, 3, s, z, _, hs, h => by
    have ih := rd_pr hm f
    show z.1 ≤ m ∧ s.1 + 1 ≤ z.1
    replace h : bnd (rd E f 1 s) (rd E f 4) = .inr z := h
    obtain ⟨y, h1, h2⟩ := bnd_s h
    have a1 := ih 1 s y (by omega) hs h1
    have a2 := ih 4 y z (by omega) a1.1 h2
    have a3 : s.1 + 1 ≤ y.1 := a1.2
    have a4 : y.1 + 0 ≤ z.1 := a2.2
    omega
  | f + 1, 4, s, z, _, hs, h => by
    have ih := rd_pr hm f
    show z.1 ≤ m ∧ s.1 + 0 ≤ z.1
    replace h : (if E.1 s.1 = 56 ∨ E.1 s.1 = 57 then bnd (spd s) (fun z => bnd (rd E f 1 (nxt z)) (fun z => rd E f 4 (emt z (if E.1 s.1 = 56 then 9 else 10) 0))) else .inr s) = .inr z := h
    split at h
    · rename_i e
      have a1 : s.1 + 1 ≤ m := by rcases e with e | e <;> exact tk_k hm hs e (by decide) (by decide)
      obtain ⟨y, h1, h2⟩ := bnd_s h
      obtain ⟨x, h3, h4⟩ := bnd_s h2
      have e1 := (spd_s h1).1
      have a2 := ih 1 (nxt y) x (by omega) (by show y.1 + 1 ≤ m; omega) h3
      have a3 : y.1 + 1 + 1 ≤ x.1 := a2.2
      have a4 := ih 4 (emt x _ 0) z (by omega) a2.1 h4
      have a5 : x.1 + 0 ≤ z.1 := a4.2
      omega
    · cases h
      omega
  | f + 1, 5, s, z, _, hs, h => by
    have ih := rd_pr hm f
    show z.1 ≤ m ∧ s.1 + 1 ≤ z.1
    replace h : (if E.1 s.1 = 25 then bnd (gin s) (fun s => bnd (spd s) (fun s => bnd (rd E f 5 (nxt s)) (fun s => .inr (gou (emt s 6 0))))) else if E.1 s.1 = 46 then bnd (gin s) (fun s => bnd (rd E f 8 (nxt s)) (fun s => bnd (xpt E 47 s) (fun s => .inr (gou s)))) else bnd (rd E f 3 s) (fun s => if cmo (E.1 s.1) = -1 then .inl (2, s.1) else bnd (spd s) (fun z => if cmo (E.1 s.1) = 7 then nsm E (nxt z) else bnd (rd E f 3 (nxt z)) (fun z => .inr (emt z (cmo (E.1 s.1)) 0))))) = .inr z := h
    split at h
    · rename_i e
      have a1 := tk_k hm hs e (by decide) (by decide)
      obtain ⟨y, h1, h2⟩ := bnd_s h
      obtain ⟨x, h3, h4⟩ := bnd_s h2
      obtain ⟨w, h5, h6⟩ := bnd_s h4
      have e1 := (gin_s h1).1
      have e2 := (spd_s h3).1
      subst e1
      have e2 : x.1 = s.1 := e2
      have a2 := ih 5 (nxt x) w (by omega) (by show x.1 + 1 ≤ m; omega) h5
      have a3 : x.1 + 1 + 1 ≤ w.1 := a2.2
      cases h6
      show w.1 ≤ m ∧ s.1 + 1 ≤ w.1
      omega
    split at h
    · rename_i e
      have a1 := tk_k hm hs e (by decide) (by decide)
      obtain ⟨y, h1, h2⟩ := bnd_s h
      obtain ⟨x, h3, h4⟩ := bnd_s h2
      obtain ⟨w, h5, h6⟩ := bnd_s h4
      have e1 := (gin_s h1).1
      subst e1
      have a2 := ih 8 _ x (by omega) (by show s.1 + 1 ≤ m; omega) h3
      have a3 : s.1 + 1 + 1 ≤ x.1 := a2.2
      have a4 := tk_k hm a2.1 (xpt_k h5) (by decide) (by decide)
      have e2 := xpt_s h5
      subst e2
      cases h6
      show x.1 + 1 ≤ m ∧ s.1 + 1 ≤ x.1 + 1
      omega
    · obtain ⟨y, h1, h2⟩ := bnd_s h
      have a1 := ih 3 s y (by omega) hs h1
      have a2 : s.1 + 1 ≤ y.1 := a1.2
      split at h2
      · cases h2
      rename_i hc
      have a3 : y.1 + 1 ≤ m := tk_m hm a1.1 (fun e => hc (by rw [e]; rfl)) (fun e => hc (by rw [e]; rfl))
      obtain ⟨x, h3, h4⟩ := bnd_s h2
      have e3 := (spd_s h3).1
      split at h4
      · unfold nsm at h4
        have e5 : (nxt x).1 = x.1 + 1 := rfl
        split at h4
        · rename_i e
          have a4 := tk_k hm (by rw [e5]; omega) e (by decide) (by decide)
          cases h4
          show x.1 + 1 + 1 ≤ m ∧ s.1 + 1 ≤ x.1 + 1 + 1
          omega
        · obtain ⟨w, h5, h6⟩ := bnd_s h4
          have a4 := tk_k hm (by rw [e5]; omega) (xpt_k h5) (by decide) (by decide)
          have e2 := xpt_s h5
          subst e2
          cases h6
          show x.1 + 1 + 1 ≤ m ∧ s.1 + 1 ≤ x.1 + 1 + 1
          omega
      · obtain ⟨w, h5, h6⟩ := bnd_s h4
        have a5 := ih 3 (nxt x) w (by omega) (by show x.1 + 1 ≤ m; omega) h5
        have a6 : x.1 + 1 + 1 ≤ w.1 := a5.2
        cases h6
        show w.1 ≤ m ∧ s.1 + 1 ≤ w.1
        omega
  | f + 1, 6, s, z, _, hs, h => by
    have ih := rd_pr hm f
    show z.1 ≤ m ∧ s.1 + 1 ≤ z.1
    replace h : bnd (rd E f 5 s) (rd E f 7) = .inr z := h
    obtain ⟨y, h1, h2⟩ := bnd_s h
    have a1 := ih 5 s y (by omega) hs h1
    have a2 := ih 7 y z (by omega) a1.1 h2
    have a3 : s.1 + 1 ≤ y.1 := a1.2
    have a4 : y.1 + 0 ≤ z.1 := a2.2
    omega
  | f + 1, 7, s, z, _, hs, h => by
    have ih := rd_pr hm f
    show z.1 ≤ m ∧ s.1 + 0 ≤ z.1
    replace h : (if E.1 s.1 = 7 then bnd (spd s) (fun z => bnd (rd E f 5 (nxt z)) (fun z => rd E f 7 (emt z 19 0))) else .inr s) = .inr z := h
    split at h
    · rename_i e
      have a1 : s.1 + 1 ≤ m := by exact tk_k hm hs e (by decide) (by decide)
      obtain ⟨y, h1, h2⟩ := bnd_s h
      obtain ⟨x, h3, h4⟩ := bnd_s h2
      have e1 := (spd_s h1).1
      have a2 := ih 5 (nxt y) x (by omega) (by show y.1 + 1 ≤ m; omega) h3
      have a3 : y.1 + 1 + 1 ≤ x.1 := a2.2
      have a4 := ih 7 (emt x _ 0) z (by omega) a2.1 h4
      have a5 : x.1 + 0 ≤ z.1 := a4.2
      omega
    · cases h
      omega
  | f + 1, 8, s, z, _, hs, h => by
    have ih := rd_pr hm f
    show z.1 ≤ m ∧ s.1 + 1 ≤ z.1
    replace h : bnd (rd E f 6 s) (rd E f 9) = .inr z := h
    obtain ⟨y, h1, h2⟩ := bnd_s h
    have a1 := ih 6 s y (by omega) hs h1
    have a2 := ih 9 y z (by omega) a1.1 h2
    have a3 : s.1 + 1 ≤ y.1 := a1.2
    have a4 : y.1 + 0 ≤ z.1 := a2.2
    omega
  | f + 1, 9, s, z, _, hs, h => by
    have ih := rd_pr hm f
    show z.1 ≤ m ∧ s.1 + 0 ≤ z.1
    replace h : (if E.1 s.1 = 30 then bnd (spd s) (fun z => bnd (rd E f 6 (nxt z)) (fun z => rd E f 9 (emt z 20 0))) else .inr s) = .inr z := h
    split at h
    · rename_i e
      have a1 : s.1 + 1 ≤ m := by exact tk_k hm hs e (by decide) (by decide)
      obtain ⟨y, h1, h2⟩ := bnd_s h
      obtain ⟨x, h3, h4⟩ := bnd_s h2
      have e1 := (spd_s h1).1
      have a2 := ih 6 (nxt y) x (by omega) (by show y.1 + 1 ≤ m; omega) h3
      have a3 : y.1 + 1 + 1 ≤ x.1 := a2.2
      have a4 := ih 9 (emt x _ 0) z (by omega) a2.1 h4
      have a5 : x.1 + 0 ≤ z.1 := a4.2
      omega
    · cases h
      omega
  | f + 1, md + 10, s, z, hmd, _, h => by omega
/-! never out of fuel -/
def nz (r : fr_T) : Prop := ∀ i, r ≠ .inl (0, i)
set_option maxRecDepth 100000 in
theorem nz_b {r : fr_T} {g : fs_T → fr_T} (h : nz r) (k : ∀ s, r = .inr s → nz (g s)) : nz (bnd r g) := by
  intro i e
  cases r with
  | inl c => exact h i e
  | inr s => exact k s rfl i e
set_option maxRecDepth 100000 in
theorem nz_r {s : fs_T} : nz (.inr s) := fun i e => by cases e
set_option maxRecDepth 100000 in
theorem nz_l {c : Int32} {i : Nat} (h : c ≠ 0) : nz (.inl (c, i)) := fun j e => by cases e; exact h rfl
set_option maxRecDepth 100000 in
theorem nz_spd {s : fs_T} : nz (spd s) := by
  unfold spd
  split
  · exact nz_r
  · exact nz_l (by decide)
  · exact nz_r
set_option maxRecDepth 100000 in
theorem nz_gin {s : fs_T} : nz (gin s) := by
  unfold gin
  split
  · exact nz_l (by decide)
  · exact nz_r
set_option maxRecDepth 100000 in
theorem nz_xpt {w : Nat} {s : fs_T} : nz (xpt E w s) := by
  unfold xpt
  split
  · exact nz_r
  · exact nz_l (by decide)
set_option maxRecDepth 100000 in
theorem nz_lef {s : fs_T} {a b : Int32} : nz (lef s a b) := nz_b nz_spd (fun _ _ => nz_r)
set_option maxRecDepth 100000 in
theorem nz_lfc {r : Option (Int64 → Int32)} {s : fs_T} {a : Int32} : nz (lfc E r s a) := by
  unfold lfc
  split
  · rename_i e hc
    unfold clm at hc
    split at hc
    · split at hc
      · cases hc; exact nz_l (by decide)
      · split at hc
        · cases hc; exact nz_l (by decide)
        · cases hc
    · cases hc; exact nz_l (by decide)
  · exact nz_lef
set_option maxRecDepth 100000 in
theorem nz_nsm {s : fs_T} : nz (nsm E s) := by
  unfold nsm
  split
  · exact nz_r
  · exact nz_b nz_xpt (fun _ _ => nz_r)
set_option maxRecDepth 100000 in
theorem rd_nz (hm : E.1 m = 1 ∨ E.1 m = 2) : ∀ (f md : Nat) (s : fs_T), md ≤ 9 → s.1 ≤ m → 8 * (m - s.1) + rk md ≤ f → nz (rd E f md s)
  | 0, md, s, hd, hs, h => by
    have : 1 ≤ rk md := by unfold rk; split <;> decide
    omega
  | f + 1, 0, s, _, hs, h => by
    have ih := rd_nz hm f
    have h : 8 * (m - s.1) + 1 ≤ f + 1 := h
    show nz (if E.1 s.1 = 4 then lef s 0 (E.2.1 s.1).toInt32 else if E.1 s.1 = 27 then lef s 1 0 else if E.1 s.1 = 3 then lfc E E.2.2.1 s 2 else if E.1 s.1 = 24 then (if E.2.2.2.2.1 = true then bnd (xpt E 49 (nxt s)) (fun s => lfc E E.2.2.2.1 s 3) else .inl (7, s.1)) else if E.1 s.1 = 28 then (if E.2.2.2.2.2 = true then bnd (xpt E 49 (nxt s)) (fun s => lfc E E.2.2.2.1 s 4) else .inl (7, s.1)) else if E.1 s.1 = 57 then bnd (gin s) (fun s => bnd (spd s) (fun s => bnd (rd E f 0 (nxt s)) (fun s => .inr (gou (emt s 5 0))))) else if E.1 s.1 = 44 then bnd (gin s) (fun s => bnd (rd E f 3 (nxt s)) (fun s => bnd (xpt E 45 s) (fun s => .inr (gou s)))) else .inl (2, s.1))
    split
    · exact nz_lef
    split
    · exact nz_lef
    split
    · exact nz_lfc
    split
    · split
      · exact nz_b nz_xpt (fun _ _ => nz_lfc)
      · exact nz_l (by decide)
    split
    · split
      · exact nz_b nz_xpt (fun _ _ => nz_lfc)
      · exact nz_l (by decide)
    split
    · rename_i e
      have a1 := tk_k hm hs e (by decide) (by decide)
      refine nz_b nz_gin (fun y h1 => nz_b nz_spd (fun x h3 => nz_b (ih 0 _ (by omega) ?_ ?_) (fun _ _ => nz_r)))
      · have e1 := (gin_s h1).1
        subst e1
        have e2 : x.1 = s.1 := (spd_s h3).1
        show x.1 + 1 ≤ m
        omega
      · have e1 := (gin_s h1).1
        subst e1
        have e2 : x.1 = s.1 := (spd_s h3).1
        show 8 * (m - (x.1 + 1)) + 1 ≤ f
        omega
    split
    · rename_i e
      have a1 := tk_k hm hs e (by decide) (by decide)
      refine nz_b nz_gin (fun y h1 => nz_b (ih 3 _ (by omega) ?_ ?_) (fun _ _ => nz_b nz_xpt (fun _ _ => nz_r)))
      · have e1 := (gin_s h1).1
        subst e1
        exact a1
      · have e1 := (gin_s h1).1
        subst e1
        show 8 * (m - (s.1 + 1)) + 3 ≤ f
        omega
    · exact nz_l (by decide)
  | f + 1, 1, s, _, hs, h => by
    have ih := rd_nz hm f
    have h : 8 * (m - s.1) + 2 ≤ f + 1 := h
    show nz (bnd (rd E f 0 s) (rd E f 2))
    refine nz_b (ih 0 s (by omega) hs (by show 8 * (m - s.1) + 1 ≤ f; omega)) (fun y hy => ?_)
    have a1 := rd_pr hm f 0 s y (by omega) hs hy
    have a2 : s.1 + 1 ≤ y.1 := a1.2
    exact ih 2 y (by omega) a1.1 (by show 8 * (m - y.1) + 1 ≤ f; omega)
  | f + 1, 2, s, _, hs, h => by
    have ih := rd_nz hm f
    have h : 8 * (m - s.1) + 1 ≤ f + 1 := h
    show nz (if E.1 s.1 = 58 ∨ E.1 s.1 = 59 then bnd (spd s) (fun z => bnd (rd E f 0 (nxt z)) (fun z => rd E f 2 (emt z (if E.1 s.1 = 58 then 11 else 12) 0))) else .inr s)
    split
    · rename_i e
      have a1 : s.1 + 1 ≤ m := by rcases e with e | e <;> exact tk_k hm hs e (by decide) (by decide)
      refine nz_b nz_spd (fun y h1 => ?_)
      have e1 := (spd_s h1).1
      have a2 : (nxt y).1 ≤ m := by show y.1 + 1 ≤ m; omega
      refine nz_b (ih 0 (nxt y) (by omega) a2 (by show 8 * (m - (y.1 + 1)) + 1 ≤ f; omega)) (fun x h3 => ?_)
      have a3 := rd_pr hm f 0 (nxt y) x (by omega) a2 h3
      have a4 : y.1 + 1 + 1 ≤ x.1 := a3.2
      exact ih 2 (emt x _ 0) (by omega) a3.1 (by show 8 * (m - x.1) + 1 ≤ f; omega)
    · exact nz_r
  | f + 1, 3, s, _, hs, h => by
    have ih := rd_nz hm f
    have h : 8 * (m - s.1) + 3 ≤ f + 1 := h
    show nz (bnd (rd E f 1 s) (rd E f 4))
    refine nz_b (ih 1 s (by omega) hs (by show 8 * (m - s.1) + 2 ≤ f; omega)) (fun y hy => ?_)
    have a1 := rd_pr hm f 1 s y (by omega) hs hy
    have a2 : s.1 + 1 ≤ y.1 := a1.2
    exact ih 4 y (by omega) a1.1 (by show 8 * (m - y.1) + 1 ≤ f; omega)
  | f + 1, 4, s, _, hs, h => by
    have ih := rd_nz hm f
    have h : 8 * (m - s.1) + 1 ≤ f + 1 := h
    show nz (if E.1 s.1 = 56 ∨ E.1 s.1 = 57 then bnd (spd s) (fun z => bnd (rd E f 1 (nxt z)) (fun z => rd E f 4 (emt z (if E.1 s.1 = 56 then 9 else 10) 0))) else .inr s)
    split
    · rename_i e
      have a1 : s.1 + 1 ≤ m := by rcases e with e | e <;> exact tk_k hm hs e (by decide) (by decide)
      refine nz_b nz_spd (fun y h1 => ?_)
      have e1 := (spd_s h1).1
      have a2 : (nxt y).1 ≤ m := by show y.1 + 1 ≤ m; omega
      refine nz_b (ih 1 (nxt y) (by omega) a2 (by show 8 * (m - (y.1 + 1)) + 2 ≤ f; omega)) (fun x h3 => ?_)
      have a3 := rd_pr hm f 1 (nxt y) x (by omega) a2 h3
      have a4 : y.1 + 1 + 1 ≤ x.1 := a3.2
      exact ih 4 (emt x _ 0) (by omega) a3.1 (by show 8 * (m - x.1) + 1 ≤ f; omega)
    · exact nz_r
  | f + 1, 5, s, _, hs, h => by
    have ih := rd_nz hm f
    have h : 8 * (m - s.1) + 4 ≤ f + 1 := h
    show nz (if E.1 s.1 = 25 then bnd (gin s) (fun s => bnd (spd s) (fun s => bnd (rd E f 5 (nxt s)) (fun s => .inr (gou (emt s 6 0))))) else if E.1 s.1 = 46 then bnd (gin s) (fun s => bnd (rd E f 8 (nxt s)) (fun s => bnd (xpt E 47 s) (fun s => .inr (gou s)))) else bnd (rd E f 3 s) (fun s => if cmo (E.1 s.1) = -1 then .inl (2, s.1) else bnd (spd s) (fun z => if cmo (E.1 s.1) = 7 then nsm E (nxt z) else bnd (rd E f 3 (nxt z)) (fun z => .inr (emt z (cmo (E.1 s.1)) 0)))))
    split
    · rename_i e
      have a1 := tk_k hm hs e (by decide) (by decide)
      refine nz_b nz_gin (fun y h1 => nz_b nz_spd (fun x h3 => nz_b (ih 5 _ (by omega) ?_ ?_) (fun _ _ => nz_r)))
      · have e1 := (gin_s h1).1
        subst e1
        have e2 : x.1 = s.1 := (spd_s h3).1
        show x.1 + 1 ≤ m
        omega
      · have e1 := (gin_s h1).1
        subst e1
        have e2 : x.1 = s.1 := (spd_s h3).1
        show 8 * (m - (x.1 + 1)) + 4 ≤ f
        omega
    split
    · rename_i e
      have a1 := tk_k hm hs e (by decide) (by decide)
      refine nz_b nz_gin (fun y h1 => nz_b (ih 8 _ (by omega) ?_ ?_) (fun _ _ => nz_b nz_xpt (fun _ _ => nz_r)))
      · have e1 := (gin_s h1).1
        subst e1
        exact a1
      · have e1 := (gin_s h1).1
        subst e1
        show 8 * (m - (s.1 + 1)) + 6 ≤ f
        omega
    · refine nz_b (ih 3 s (by omega) hs (by show 8 * (m - s.1) + 3 ≤ f; omega)) (fun y hy => ?_)
      have a1 := rd_pr hm f 3 s y (by omega) hs hy
      have a2 : s.1 + 1 ≤ y.1 := a1.2
      split
      · exact nz_l (by decide)
      rename_i hc
      have a3 : y.1 + 1 ≤ m := tk_m hm a1.1 (fun e => hc (by rw [e]; rfl)) (fun e => hc (by rw [e]; rfl))
      refine nz_b nz_spd (fun x h3 => ?_)
      have e3 := (spd_s h3).1
      split
      · exact nz_nsm
      · exact nz_b (ih 3 (nxt x) (by omega) (by show x.1 + 1 ≤ m; omega) (by show 8 * (m - (x.1 + 1)) + 3 ≤ f; omega)) (fun _ _ => nz_r)
  | f + 1, 6, s, _, hs, h => by
    have ih := rd_nz hm f
    have h : 8 * (m - s.1) + 5 ≤ f + 1 := h
    show nz (bnd (rd E f 5 s) (rd E f 7))
    refine nz_b (ih 5 s (by omega) hs (by show 8 * (m - s.1) + 4 ≤ f; omega)) (fun y hy => ?_)
    have a1 := rd_pr hm f 5 s y (by omega) hs hy
    have a2 : s.1 + 1 ≤ y.1 := a1.2
    exact ih 7 y (by omega) a1.1 (by show 8 * (m - y.1) + 1 ≤ f; omega)
  | f + 1, 7, s, _, hs, h => by
    have ih := rd_nz hm f
    have h : 8 * (m - s.1) + 1 ≤ f + 1 := h
    show nz (if E.1 s.1 = 7 then bnd (spd s) (fun z => bnd (rd E f 5 (nxt z)) (fun z => rd E f 7 (emt z 19 0))) else .inr s)
    split
    · rename_i e
      have a1 : s.1 + 1 ≤ m := by exact tk_k hm hs e (by decide) (by decide)
      refine nz_b nz_spd (fun y h1 => ?_)
      have e1 := (spd_s h1).1
      have a2 : (nxt y).1 ≤ m := by show y.1 + 1 ≤ m; omega
      refine nz_b (ih 5 (nxt y) (by omega) a2 (by show 8 * (m - (y.1 + 1)) + 4 ≤ f; omega)) (fun x h3 => ?_)
      have a3 := rd_pr hm f 5 (nxt y) x (by omega) a2 h3
      have a4 : y.1 + 1 + 1 ≤ x.1 := a3.2
      exact ih 7 (emt x _ 0) (by omega) a3.1 (by show 8 * (m - x.1) + 1 ≤ f; omega)
    · exact nz_r
  | f + 1, 8, s, _, hs, h => by
    have ih := rd_nz hm f
    have h : 8 * (m - s.1) + 6 ≤ f + 1 := h
    show nz (bnd (rd E f 6 s) (rd E f 9))
    refine nz_b (ih 6 s (by omega) hs (by show 8 * (m - s.1) + 5 ≤ f; omega)) (fun y hy => ?_)
    have a1 := rd_pr hm f 6 s y (by omega) hs hy
    have a2 : s.1 + 1 ≤ y.1 := a1.2
    exact ih 9 y (by omega) a1.1 (by show 8 * (m - y.1) + 1 ≤ f; omega)
  | f + 1, 9, s, _, hs, h => by
    have ih := rd_nz hm f
    have h : 8 * (m - s.1) + 1 ≤ f + 1 := h
    show nz (if E.1 s.1 = 30 then bnd (spd s) (fun z => bnd (rd E f 6 (nxt z)) (fun z => rd E f 9 (emt z 20 0))) else .inr s)
    split
    · rename_i e
      have a1 : s.1 + 1 ≤ m := by exact tk_k hm hs e (by decide) (by decide)
      refine nz_b nz_spd (fun y h1 => ?_)
      have e1 := (spd_s h1).1
      have a2 : (nxt y).1 ≤ m := by show y.1 + 1 ≤ m; omega
      refine nz_b (ih 6 (nxt y) (by omega) a2 (by show 8 * (m - (y.1 + 1)) + 5 ≤ f; omega)) (fun x h3 => ?_)
      have a3 := rd_pr hm f 6 (nxt y) x (by omega) a2 h3
      have a4 : y.1 + 1 + 1 ≤ x.1 := a3.2
      exact ih 9 (emt x _ 0) (by omega) a3.1 (by show 8 * (m - x.1) + 1 ≤ f; omega)
    · exact nz_r
  | f + 1, md + 10, s, hmd, _, h => by omega
end RDF
