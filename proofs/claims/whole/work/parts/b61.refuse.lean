
/-! REFUSALS STAND AT TOKENS THAT WERE LOOKED AT: formulas -/
section BJF
variable {E : fe_T} {m : Nat}
def bj (m : Nat) (r : fr_T) : Prop := ∀ c i, r = .inl (c, i) → i ≤ m
set_option maxRecDepth 100000 in
theorem bj_b {r : fr_T} {g : fs_T → fr_T} (h : bj m r) (k : ∀ s, r = .inr s → bj m (g s)) : bj m (bnd r g) := by
  intro c i e
  cases r with
  | inl x => exact h c i e
  | inr s => exact k s rfl c i e
set_option maxRecDepth 100000 in
theorem bj_r {s : fs_T} : bj m (.inr s) := fun c i e => by cases e
set_option maxRecDepth 100000 in
theorem bj_l {c : Int32} {i : Nat} (h : i ≤ m) : bj m (.inl (c, i)) := fun c j e => by cases e; exact h
set_option maxRecDepth 100000 in
theorem bj_spd {s : fs_T} (hs : s.1 ≤ m) : bj m (spd s) := by
  unfold spd
  split
  · exact bj_r
  · exact bj_l hs
  · exact bj_r
set_option maxRecDepth 100000 in
theorem bj_gin {s : fs_T} (hs : s.1 ≤ m) : bj m (gin s) := by
  unfold gin
  split
  · exact bj_l hs
  · exact bj_r
set_option maxRecDepth 100000 in
theorem bj_xpt {w : Nat} {s : fs_T} (hs : s.1 ≤ m) : bj m (xpt E w s) := by
  unfold xpt
  split
  · exact bj_r
  · exact bj_l hs
set_option maxRecDepth 100000 in
theorem bj_lef {s : fs_T} {a b : Int32} (hs : s.1 ≤ m) : bj m (lef s a b) := bj_b (bj_spd hs) (fun _ _ => bj_r)
set_option maxRecDepth 100000 in
theorem bj_lfc {r : Option (Int64 → Int32)} {s : fs_T} {a : Int32} (hs : s.1 ≤ m) : bj m (lfc E r s a) := by
  unfold lfc
  split
  · rename_i e hc
    unfold clm at hc
    split at hc
    · split at hc
      · cases hc; exact bj_l hs
      · split at hc
        · cases hc; exact bj_l hs
        · cases hc
    · cases hc; exact bj_l hs
  · exact bj_lef hs
set_option maxRecDepth 100000 in
theorem bj_nsm {s : fs_T} (hs : s.1 ≤ m) : bj m (nsm E s) := by
  unfold nsm
  split
  · exact bj_r
  · exact bj_b (bj_xpt hs) (fun _ _ => bj_r)
set_option maxRecDepth 100000 in
theorem bj_nw (hm : E.1 m = 1 ∨ E.1 m = 2) {s : fs_T} {r : Option (Int64 → Int32)} {a : Int32} (hs : s.1 + 1 ≤ m) : bj m (bnd (xpt E 49 (nxt s)) (fun s => lfc E r s a)) := by
  refine bj_b (bj_xpt hs) (fun y hy => bj_lfc ?_)
  rw [xpt_s hy]
  exact tk_k hm (i := s.1 + 1) hs (xpt_k hy) (by decide) (by decide)
set_option maxRecDepth 100000 in
theorem rd_bj (hm : E.1 m = 1 ∨ E.1 m = 2) : ∀ (f md : Nat) (s : fs_T), md ≤ 9 → s.1 ≤ m → bj m (rd E f md s)
  | 0, md, s, hd, hs => bj_l (Nat.zero_le m)
  | f + 1, 0, s, _, hs => by
    have ih := rd_bj hm f
    show bj m (if E.1 s.1 = 4 then lef s 0 (E.2.1 s.1).toInt32 else if E.1 s.1 = 27 then lef s 1 0 else if E.1 s.1 = 3 then lfc E E.2.2.1 s 2 else if E.1 s.1 = 24 then (if E.2.2.2.2.1 = true then bnd (xpt E 49 (nxt s)) (fun s => lfc E E.2.2.2.1 s 3) else .inl (7, s.1)) else if E.1 s.1 = 28 then (if E.2.2.2.2.2 = true then bnd (xpt E 49 (nxt s)) (fun s => lfc E E.2.2.2.1 s 4) else .inl (7, s.1)) else if E.1 s.1 = 57 then bnd (gin s) (fun s => bnd (spd s) (fun s => bnd (rd E f 0 (nxt s)) (fun s => .inr (gou (emt s 5 0))))) else if E.1 s.1 = 44 then bnd (gin s) (fun s => bnd (rd E f 3 (nxt s)) (fun s => bnd (xpt E 45 s) (fun s => .inr (gou s)))) else .inl (2, s.1))
    split
    · exact bj_lef hs
    split
    · exact bj_lef hs
    split
    · exact bj_lfc hs
    split
    · rename_i e
      split
      · exact bj_nw hm (tk_k hm hs e (by decide) (by decide))
      · exact bj_l hs
    split
    · rename_i e
      split
      · exact bj_nw hm (tk_k hm hs e (by decide) (by decide))
      · exact bj_l hs
    split
    · rename_i e
      have a1 := tk_k hm hs e (by decide) (by decide)
      refine bj_b (bj_gin hs) (fun y h1 => ?_)
      have e1 := (gin_s h1).1
      subst e1
      refine bj_b (bj_spd hs) (fun x h3 => bj_b (ih 0 _ (by omega) ?_) (fun _ _ => bj_r))
      have e2 : x.1 = s.1 := (spd_s h3).1
      show x.1 + 1 ≤ m
      omega
    split
    · rename_i e
      have a1 := tk_k hm hs e (by decide) (by decide)
      refine bj_b (bj_gin hs) (fun y h1 => ?_)
      have e1 := (gin_s h1).1
      subst e1
      refine bj_b (ih 3 _ (by omega) a1) (fun z hz => bj_b (bj_xpt (rd_pr hm f 3 _ z (by omega) a1 hz).1) (fun _ _ => bj_r))
    · exact bj_l hs
  | f + 1, 1, s, _, hs => by
    have ih := rd_bj hm f
    show bj m (bnd (rd E f 0 s) (rd E f 2))
    refine bj_b (ih 0 s (by omega) hs) (fun y hy => ?_)
    have a1 := rd_pr hm f 0 s y (by omega) hs hy
    have a2 : s.1 + 1 ≤ y.1 := a1.2
    exact ih 2 y (by omega) a1.1
  | f + 1, 2, s, _, hs => by
    have ih := rd_bj hm f
    show bj m (if E.1 s.1 = 58 ∨ E.1 s.1 = 59 then bnd (spd s) (fun z => bnd (rd E f 0 (nxt z)) (fun z => rd E f 2 (emt z (if E.1 s.1 = 58 then 11 else 12) 0))) else .inr s)
    split
    · rename_i e
      have a1 : s.1 + 1 ≤ m := by rcases e with e | e <;> exact tk_k hm hs e (by decide) (by decide)
      refine bj_b (bj_spd hs) (fun y h1 => ?_)
      have e1 := (spd_s h1).1
      have a2 : (nxt y).1 ≤ m := by show y.1 + 1 ≤ m; omega
      refine bj_b (ih 0 (nxt y) (by omega) a2) (fun x h3 => ?_)
      have a3 := rd_pr hm f 0 (nxt y) x (by omega) a2 h3
      have a4 : y.1 + 1 + 1 ≤ x.1 := a3.2
      exact ih 2 (emt x _ 0) (by omega) a3.1
    · exact bj_r
  | f + 1, 3, s, _, hs => by
    have ih := rd_bj hm f
    show bj m (bnd (rd E f 1 s) (rd E f 4))
    refine bj_b (ih 1 s (by omega) hs) (fun y hy => ?_)
    have a1 := rd_pr hm f 1 s y (by omega) hs hy
    have a2 : s.1 + 1 ≤ y.1 := a1.2
    exact ih 4 y (by omega) a1.1
  | f + 1, 4, s, _, hs => by
    have ih := rd_bj hm f
    show bj m (if E.1 s.1 = 56 ∨ E.1 s.1 = 57 then bnd (spd s) (fun z => bnd (rd E f 1 (nxt z)) (fun z => rd E f 4 (emt z (if E.1 s.1 = 56 then 9 else 10) 0))) else .inr s)
    split
    · rename_i e
      have a1 : s.1 + 1 ≤ m := by rcases e with e | e <;> exact tk_k hm hs e (by decide) (by decide)
      refine bj_b (bj_spd hs) (fun y h1 => ?_)
      have e1 := (spd_s h1).1
      have a2 : (nxt y).1 ≤ m := by show y.1 + 1 ≤ m; omega
      refine bj_b (ih 1 (nxt y) (by omega) a2) (fun x h3 => ?_)
      have a3 := rd_pr hm f 1 (nxt y) x (by omega) a2 h3
      have a4 : y.1 + 1 + 1 ≤ x.1 := a3.2
      exact ih 4 (emt x _ 0) (by omega) a3.1
    · exact bj_r
  | f + 1, 5, s, _, hs => by
    have ih := rd_bj hm f
    show bj m (if E.1 s.1 = 25 then bnd (gin s) (fun s => bnd (spd s) (fun s => bnd (rd E f 5 (nxt s)) (fun s => .inr (gou (emt s 6 0))))) else if E.1 s.1 = 46 then bnd (gin s) (fun s => bnd (rd E f 8 (nxt s)) (fun s => bnd (xpt E 47 s) (fun s => .inr (gou s)))) else bnd (rd E f 3 s) (fun s => if cmo (E.1 s.1) = -1 then .inl (2, s.1) else bnd (spd s) (fun z => if cmo (E.1 s.1) = 7 then nsm E (nxt z) else bnd (rd E f 3 (nxt z)) (fun z => .inr (emt z (cmo (E.1 s.1)) 0)))))
    split
    · rename_i e
      have a1 := tk_k hm hs e (by decide) (by decide)
      refine bj_b (bj_gin hs) (fun y h1 => ?_)
      have e1 := (gin_s h1).1
      subst e1
      refine bj_b (bj_spd hs) (fun x h3 => bj_b (ih 5 _ (by omega) ?_) (fun _ _ => bj_r))
      have e2 : x.1 = s.1 := (spd_s h3).1
      show x.1 + 1 ≤ m
      omega
    split
    · rename_i e
      have a1 := tk_k hm hs e (by decide) (by decide)
      refine bj_b (bj_gin hs) (fun y h1 => ?_)
      have e1 := (gin_s h1).1
      subst e1
      refine bj_b (ih 8 _ (by omega) a1) (fun z hz => bj_b (bj_xpt (rd_pr hm f 8 _ z (by omega) a1 hz).1) (fun _ _ => bj_r))
    · refine bj_b (ih 3 s (by omega) hs) (fun y hy => ?_)
      have a1 := rd_pr hm f 3 s y (by omega) hs hy
      split
      · exact bj_l a1.1
      rename_i hc
      have a3 : y.1 + 1 ≤ m := tk_m hm a1.1 (fun e => hc (by rw [e]; rfl)) (fun e => hc (by rw [e]; rfl))
      refine bj_b (bj_spd a1.1) (fun x h3 => ?_)
      have e3 := (spd_s h3).1
      split
      · exact bj_nsm (s := nxt x) (by show x.1 + 1 ≤ m; omega)
      · exact bj_b (ih 3 (nxt x) (by omega) (by show x.1 + 1 ≤ m; omega)) (fun _ _ => bj_r)
  | f + 1, 6, s, _, hs => by
    have ih := rd_bj hm f
    show bj m (bnd (rd E f 5 s) (rd E f 7))
    refine bj_b (ih 5 s (by omega) hs) (fun y hy => ?_)
    have a1 := rd_pr hm f 5 s y (by omega) hs hy
    have a2 : s.1 + 1 ≤ y.1 := a1.2
    exact ih 7 y (by omega) a1.1
  | f + 1, 7, s, _, hs => by
    have ih := rd_bj hm f
    show bj m (if E.1 s.1 = 7 then bnd (spd s) (fun z => bnd (rd E f 5 (nxt z)) (fun z => rd E f 7 (emt z 19 0))) else .inr s)
    split
    · rename_i e
      have a1 : s.1 + 1 ≤ m := by exact tk_k hm hs e (by decide) (by decide)
      refine bj_b (bj_spd hs) (fun y h1 => ?_)
      have e1 := (spd_s h1).1
      have a2 : (nxt y).1 ≤ m := by show y.1 + 1 ≤ m; omega
      refine bj_b (ih 5 (nxt y) (by omega) a2) (fun x h3 => ?_)
      have a3 := rd_pr hm f 5 (nxt y) x (by omega) a2 h3
      have a4 : y.1 + 1 + 1 ≤ x.1 := a3.2
      exact ih 7 (emt x _ 0) (by omega) a3.1
    · exact bj_r
  | f + 1, 8, s, _, hs => by
    have ih := rd_bj hm f
    show bj m (bnd (rd E f 6 s) (rd E f 9))
    refine bj_b (ih 6 s (by omega) hs) (fun y hy => ?_)
    have a1 := rd_pr hm f 6 s y (by omega) hs hy
    have a2 : s.1 + 1 ≤ y.1 := a1.2
    exact ih 9 y (by omega) a1.1
  | f + 1, 9, s, _, hs => by
    have ih := rd_bj hm f
    show bj m (if E.1 s.1 = 30 then bnd (spd s) (fun z => bnd (rd E f 6 (nxt z)) (fun z => rd E f 9 (emt z 20 0))) else .inr s)
    split
    · rename_i e
      have a1 : s.1 + 1 ≤ m := by exact tk_k hm hs e (by decide) (by decide)
      refine bj_b (bj_spd hs) (fun y h1 => ?_)
      have e1 := (spd_s h1).1
      have a2 : (nxt y).1 ≤ m := by show y.1 + 1 ≤ m; omega
      refine bj_b (ih 6 (nxt y) (by omega) a2) (fun x h3 => ?_)
      have a3 := rd_pr hm f 6 (nxt y) x (by omega) a2 h3
      have a4 : y.1 + 1 + 1 ≤ x.1 := a3.2
      exact ih 9 (emt x _ 0) (by omega) a3.1
    · exact bj_r
  | f + 1, md + 10, s, hmd, _ => by omega
end BJF
/-! REFUSALS STAND AT TOKENS THAT WERE LOOKED AT: statements -/
section BJP
variable {B : Nat → Nat} {n m i i' b e ti c k w f : Nat} {sc : sc_T} {row : Option Nat} {tg : Option (Nat × Nat)} {nl nl' : Option Nat} {tr : Nat → Option tr_T} {T : tb_S} {p : Nat × Nat} {nm : Int64}
def bp {α : Type} (m : Nat) (r : pz_T α) : Prop := ∀ c i, r = .inl (c, i) → i ≤ m
set_option maxRecDepth 100000 in
theorem bp_b {α β : Type} {r : pz_T α} {g : α → pz_T β} (h : bp m r) (k : ∀ a, r = .inr a → bp m (g a)) : bp m (pb r g) := by
  intro c i e
  cases r with
  | inl x => exact h c i (by have e : (.inl x : pz_T β) = .inl (c, i) := e; cases e; rfl)
  | inr a => exact k a rfl c i e
set_option maxRecDepth 100000 in
theorem bp_l {α : Type} {c : Int32} {j : Nat} (h : j ≤ m) : bp m (.inl (c, j) : pz_T α) := fun c q e => by cases e; exact h
set_option maxRecDepth 100000 in
theorem bp_r {α : Type} {a : α} : bp m (.inr a : pz_T α) := fun c q e => by cases e
set_option maxRecDepth 100000 in
theorem bp_i {α : Type} {p : Prop} [Decidable p] {x y : pz_T α} (h1 : p → bp m x) (h2 : ¬ p → bp m y) : bp m (if p then x else y) := by
  by_cases h : p
  · rw [if_pos h]
    exact h1 h
  · rw [if_neg h]
    exact h2 h
set_option maxRecDepth 100000 in
theorem xpP_b {K : tv2} (hi : i ≤ m) : bp m (xpP K w i) := bp_i (fun _ => bp_r) (fun _ => bp_l hi)
set_option maxRecDepth 100000 in
theorem rEvt_b {K : tv2} (hi : i ≤ m) : bp m (rEvt K i) := by
  unfold rEvt
  split
  · exact bp_l hi
  · exact bp_r
set_option maxRecDepth 100000 in
theorem rTab_b {K : tv2} (hi : i ≤ m) : bp m (rTab K sc i) := bp_i (fun _ => bp_i (fun _ => bp_l hi) (fun _ => bp_r)) (fun _ => bp_l hi)
set_option maxRecDepth 100000 in
theorem rCol_b {K : tv2} {acc : List Nat} (hi : i ≤ m) : bp m (rCol K sc b acc i) := bp_i (fun _ => bp_i (fun _ => bp_l hi) (fun _ => bp_i (fun _ => bp_l hi) (fun _ => bp_r))) (fun _ => bp_l hi)
set_option maxRecDepth 100000 in
theorem rFm_b {E : fe_T} (hE : E.1 = kd B n) (hm : lst B n m) (hi : i ≤ m) {md : Nat} (hmd : md = 3 ∨ md = 8) : bp m (rFm E md i nl) := by
  have hz := rd_bj (E := E) (m := m) (by rw [hE]; exact hm.2) 6000 md (i, [], 0, nl) (by omega) hi
  intro c j e
  unfold rFm at e
  split at e
  · rename_i x hx
    cases e
    exact hz c j hx
  · cases e
set_option maxRecDepth 100000 in
theorem rPar_b {E : fe_T} (hE : E.1 = kd B n) (hm : lst B n m) (h6 : m ≤ 600) : ∀ (f i : Nat) (nl : Option Nat), i ≤ m → bp m (rPar E f i nl)
  | 0, i, nl, hi => bp_l (Nat.zero_le m)
  | f + 1, i, nl, hi => by
    have pz : bp m (rPt E i nl) := bp_i (fun _ => bp_r) (fun _ => bp_b (rFm_b hE hm hi (Or.inl rfl)) (fun _ _ => bp_r))
    refine bp_b pz (fun x hx => bp_i (fun h48 => bp_b ?_ (fun _ _ => bp_r)) (fun _ => bp_r))
    have hx1 : i + 1 ≤ x.2.1 ∧ x.2.1 ≤ m := by
      unfold rPt at hx
      split at hx
      · rename_i h14
        cases hx
        rw [hE] at h14
        exact ⟨Nat.le_refl _, st1 hm hi h14 (by decide) (by decide)⟩
      · obtain ⟨y, hy, hx⟩ := pb_inr hx
        cases hx
        exact rFm_m hE hm hi (Or.inl rfl) hy
    rw [hE] at h48
    exact rPar_b hE hm h6 f _ _ (st1 hm hx1.2 h48 (by decide) (by decide))
set_option maxRecDepth 100000 in
theorem rPar_m {E : fe_T} (hE : E.1 = kd B n) (hm : lst B n m) : ∀ (f i : Nat) (nl : Option Nat) (x : List (Option (List op_T)) × Nat × Option Nat), i ≤ m → rPar E f i nl = .inr x → x.2.1 ≤ m
  | 0, i, nl, x, hi, h => by cases h
  | f + 1, i, nl, x, hi, h => by
    obtain ⟨y, h1, h2⟩ := pb_inr h
    have hx1 : y.2.1 ≤ m := by
      unfold rPt at h1
      split at h1
      · rename_i h14
        cases h1
        rw [hE] at h14
        exact st1 hm hi h14 (by decide) (by decide)
      · obtain ⟨z, hy, hx⟩ := pb_inr h1
        cases hx
        exact (rFm_m hE hm hi (Or.inl rfl) hy).2
    split at h2
    · rename_i h48
      obtain ⟨z, h3, h4⟩ := pb_inr h2
      cases h4
      rw [hE] at h48
      exact rPar_m hE hm f _ _ z (st1 hm hx1 h48 (by decide) (by decide)) h3
    · cases h2
      exact hx1
set_option maxRecDepth 100000 in
theorem rSet_b {E : fe_T} (hE : E.1 = kd B n) (hm : lst B n m) (h6 : m ≤ 600) : ∀ (f : Nat) (acc : List Nat) (i : Nat) (nl : Option Nat), i ≤ m → bp m (rSet (tkP B n) sc E b f acc i nl)
  | 0, acc, i, nl, hi => bp_l (Nat.zero_le m)
  | f + 1, acc, i, nl, hi => by
    refine bp_b (rCol_b hi) (fun c hc => ?_)
    have h1 := rCol_m hm hi hc
    refine bp_b (xpP_b h1) (fun j hj => ?_)
    have h2 := xpP_m hm h1 (by decide) (by decide) hj
    refine bp_b (rFm_b hE hm h2 (Or.inl rfl)) (fun x hx => bp_i (fun h48 => bp_b ?_ (fun _ _ => bp_r)) (fun _ => bp_r))
    have h5 := rFm_m hE hm h2 (Or.inl rfl) hx
    have h48 : kd B n x.2.1 = 48 := h48
    exact rSet_b hE hm h6 f _ _ _ (st1 hm h5.2 h48 (by decide) (by decide))
set_option maxRecDepth 100000 in
theorem rChg_b (hm : lst B n m) (h6 : m ≤ 600) (hi : i ≤ m) : bp m (rChg (tkP B n) sc tg i nl) := by
  refine bp_b (rEvt_b hi) (fun ev he => ?_)
  have h1 := rEvt_m hm hi he
  refine bp_b (rTab_b h1) (fun tb ht => ?_)
  have h2 := rTab_m hm h1 ht
  refine bp_i (fun _ => ?_) (fun _ => bp_b ?_ (fun s hs => ?_))
  · refine bp_b (xpP_b h2) (fun j hj => ?_)
    have h3 := xpP_m hm h2 (by decide) (by decide) hj
    refine bp_b (rPar_b rfl hm h6 601 j nl h3) (fun p hp => ?_)
    have h4 := rPar_m rfl hm 601 j nl p h3 hp
    exact bp_i (fun _ => bp_i (fun _ => bp_r) (fun _ => bp_l h4)) (fun _ => bp_l h4)
  · refine bp_i (fun _ => bp_b (xpP_b h2) (fun j hj => ?_)) (fun _ => bp_r)
    exact rSet_b rfl hm h6 601 [] j nl (xpP_m hm h2 (by decide) (by decide) hj)
  · have hs1 : s.2.1 ≤ m := by
      unfold rUpd at hs
      split at hs
      · obtain ⟨j, hj, hs⟩ := pb_inr hs
        exact rSet_m rfl hm 601 [] j nl s (xpP_m hm h2 (by decide) (by decide) hj) hs
      · cases hs
        exact h2
    refine bp_i (fun h43 => ?_) (fun _ => bp_r)
    have h43 : kd B n s.2.1 = 43 := h43
    exact bp_b (rFm_b rfl hm (st1 hm hs1 h43 (by decide) (by decide)) (Or.inr rfl)) (fun _ _ => bp_r)
set_option maxRecDepth 100000 in
theorem rNew_b {K : tv2} {g : Int64 → Int32} {x : Int32} (hi : i ≤ m) : bp m (rNew K g x i) := bp_i (fun _ => bp_i (fun _ => bp_i (fun _ => bp_l hi) (fun _ => bp_r)) (fun _ => bp_l hi)) (fun _ => bp_l hi)
set_option maxRecDepth 100000 in
theorem rTim_b {K : tv2} (hi : i ≤ m) : bp m (rTim K i) := bp_i (fun _ => bp_r) (fun _ => bp_i (fun _ => bp_r) (fun _ => bp_l hi))
set_option maxRecDepth 100000 in
theorem rAct_b (hm : lst B n m) (h6 : m ≤ 600) (hi : i ≤ m) : bp m (rAct (tkP B n) sc p ti i nl) := by
  refine bp_i (fun h21 => ?_) (fun _ => bp_i (fun h32 => ?_) (fun _ => rChg_b hm h6 hi))
  · have h21 : kd B n i = 21 := h21
    have h1 := st1 hm hi h21 (by decide) (by decide)
    refine bp_i (fun _ => bp_l hi) (fun _ => bp_b (rCol_b h1) (fun c hc => ?_))
    have h2 := rCol_m hm h1 hc
    refine bp_b (xpP_b h2) (fun j hj => bp_b (rFm_b rfl hm (xpP_m hm h2 (by decide) (by decide) hj) (Or.inl rfl)) (fun _ _ => bp_r))
  · have h32 : kd B n i = 32 := h32
    exact bp_i (fun _ => bp_r) (fun _ => bp_l (st1 hm hi h32 (by decide) (by decide)))
set_option maxRecDepth 100000 in
theorem rTrg_b (hm : lst B n m) (h6 : m ≤ 600) (hi : i + 1 ≤ m) : bp m (rTrg (tkP B n) sc tr i nl) := by
  refine bp_b (rNew_b hi) (fun nm hn => ?_)
  have m1 := rNew_m hm hi hn
  refine bp_b (rTim_b m1) (fun ti ht => ?_)
  have m2 := rTim_m hm m1 ht
  refine bp_b (rEvt_b m2) (fun ev he => ?_)
  have m3 := rEvt_m hm m2 he
  refine bp_b (xpP_b m3) (fun j hj => ?_)
  have m4 := xpP_m hm m3 (by decide) (by decide) hj
  refine bp_b (rTab_b m4) (fun tb hb => ?_)
  have h1 := rTab_m hm m4 hb
  refine bp_b ?_ (fun w hw => ?_)
  · refine bp_i (fun h42 => ?_) (fun _ => bp_r)
    have h42 : kd B n tb.2 = 42 := h42
    exact bp_b (rFm_b rfl hm (st1 hm h1 h42 (by decide) (by decide)) (Or.inr rfl)) (fun _ _ => bp_r)
  · have h2 : w.2.1 ≤ m := by
      unfold rWhn at hw
      split at hw
      · rename_i h42
        have h42 : kd B n tb.2 = 42 := h42
        obtain ⟨x, hx, hw⟩ := pb_inr hw
        cases hw
        exact (rFm_m rfl hm (st1 hm h1 h42 (by decide) (by decide)) (Or.inr rfl) hx).2
      · cases hw
        exact h1
    refine bp_b (xpP_b h2) (fun j2 hj2 => bp_b (rAct_b hm h6 (xpP_m hm h2 (by decide) (by decide) hj2)) (fun _ _ => bp_r))
set_option maxRecDepth 100000 in
theorem rNam_b (hm : lst B n m) : ∀ (f : Nat) (acc : List Nat) (i : Nat), i ≤ m → bp m (rNam (tkP B n) sc b f acc i)
  | 0, acc, i, hi => bp_l (Nat.zero_le m)
  | f + 1, acc, i, hi => by
    refine bp_b (rCol_b hi) (fun c hc => bp_i (fun h48 => bp_b ?_ (fun _ _ => bp_r)) (fun _ => bp_r))
    have h48 : kd B n c.2 = 48 := h48
    exact rNam_b hm f _ _ (st1 hm (rCol_m hm hi hc) h48 (by decide) (by decide))
set_option maxRecDepth 100000 in
theorem rInt_b (hm : lst B n m) (hi : i ≤ m) : bp m (rInt (tkP B n) i) := bp_i (fun h57 => bp_i (fun _ => bp_r) (fun _ => bp_l (st1 hm hi h57 (by decide) (by decide)))) (fun _ => bp_i (fun _ => bp_r) (fun _ => bp_l hi))
set_option maxRecDepth 100000 in
theorem rOn_b (hm : lst B n m) (hi : i ≤ m) (h1 : w ≠ 1) (h2 : w ≠ 2) : bp m (rOn (tkP B n) w i) := by
  refine bp_i (fun hw => ?_) (fun _ => bp_r)
  have := st1 hm hi hw h1 h2
  unfold rAcn
  split
  · exact bp_l this
  · exact bp_r
set_option maxRecDepth 100000 in
theorem rNnl_b (hi : i ≤ m) : bp m (rNnl (tkP B n) T b c i nl) := bp_i (fun _ => bp_i (fun _ => bp_l hi) (fun _ => bp_r)) (fun _ => bp_r)
set_option maxRecDepth 100000 in
theorem rItm_b (hm : lst B n m) (h6 : m ≤ 600) (hi : i ≤ m) : bp m (rItm (tkP B n) T b i nl) := by
  have key : ∀ k, kd B n i ≠ 1 → kd B n i ≠ 2 → bp m (rKey (tkP B n) T b k i nl) := fun k h1 h2 => by
    have hi1 := st1 hm hi rfl h1 h2
    refine bp_i (fun _ => bp_l hi) (fun _ => bp_b (xpP_b hi1) (fun j hj => ?_))
    have h3 := xpP_m hm hi1 (by decide) (by decide) hj
    refine bp_b (rNam_b hm 7 [] j h3) (fun y hy => bp_b (xpP_b (rNam_m hm 7 [] j y h3 hy)) (fun j2 hj2 => bp_r))
  refine bp_i (fun h3 => ?_) (fun _ => bp_i (fun h => key 1 (by have h : kd B n i = 31 := h; omega) (by have h : kd B n i = 31 := h; omega)) (fun _ => bp_i (fun h => key 2 (by have h : kd B n i = 40 := h; omega) (by have h : kd B n i = 40 := h; omega)) (fun _ => bp_i (fun h12 => ?_) (fun _ => bp_i (fun h33 => ?_) (fun _ => bp_l hi)))))
  · have h3 : kd B n i = 3 := h3
    have hi1 := st1 hm hi h3 (by decide) (by decide)
    refine bp_i (fun _ => bp_i (fun _ => bp_l hi) (fun hw => ?_)) (fun _ => bp_l hi)
    refine bp_i (fun h14 => ?_) (fun _ => rNnl_b hi1)
    have h14 : kd B n (i + 1) = 14 := h14
    have h4 := st1 hm hi1 h14 (by decide) (by decide)
    exact bp_b (rInt_b hm h4) (fun x hx => rNnl_b (rInt_m hm h4 hx))
  · have h12 : kd B n i = 12 := h12
    have hi1 := st1 hm hi h12 (by decide) (by decide)
    exact bp_i (fun _ => bp_l hi) (fun _ => bp_b (rFm_b rfl hm hi1 (Or.inr rfl)) (fun x hx => bp_r))
  · have h33 : kd B n i = 33 := h33
    have hi1 := st1 hm hi h33 (by decide) (by decide)
    refine bp_i (fun _ => bp_l hi) (fun _ => bp_b (xpP_b hi1) (fun j hj => ?_))
    have m1 := xpP_m hm hi1 (by decide) (by decide) hj
    refine bp_b (rNam_b hm 7 [] j m1) (fun y hy => ?_)
    have m2 := rNam_m hm 7 [] j y m1 hy
    refine bp_b (xpP_b m2) (fun j2 hj2 => ?_)
    have m3 := xpP_m hm m2 (by decide) (by decide) hj2
    refine bp_b (xpP_b m3) (fun j3 hj3 => ?_)
    have m4 := xpP_m hm m3 (by decide) (by decide) hj3
    refine bp_b (rTab_b m4) (fun tb ht => ?_)
    have m5 := rTab_m hm m4 ht
    refine bp_b (xpP_b m5) (fun j4 hj4 => ?_)
    have m6 := xpP_m hm m5 (by decide) (by decide) hj4
    refine bp_b (rNam_b hm 7 [] j4 m6) (fun ts hts => ?_)
    have h4 := rNam_m hm 7 [] j4 ts m6 hts
    refine bp_i (fun h45 => bp_i (fun _ => ?_) (fun _ => bp_l h4)) (fun _ => bp_l h4)
    have h45 : kd B n ts.2 = 45 := h45
    have h5 := st1 hm h4 h45 (by decide) (by decide)
    refine bp_b (rOn_b hm h5 (by decide) (by decide)) (fun d hd => ?_)
    have h7 := rOn_m hm h5 (by decide) (by decide) hd
    exact bp_b (rOn_b hm h7 (by decide) (by decide)) (fun u hu => bp_r)
set_option maxRecDepth 100000 in
theorem rEnd_b (hi : i ≤ m) : bp m (rEnd (tkP B n) T b i nl) := bp_i (fun _ => bp_i (fun _ => bp_r) (fun _ => bp_l hi)) (fun _ => bp_l hi)
set_option maxRecDepth 100000 in
theorem rIts_b (hm : lst B n m) (h6 : m ≤ 600) (hb : b < 6) : ∀ (f : Nat) (T : tb_S) (i : Nat) (nl : Option Nat), i ≤ m → wok T → bp m (rIts (tkP B n) b f T i nl)
  | 0, T, i, nl, hi, hW => rEnd_b hi
  | f + 1, T, i, nl, hi, hW => by
    refine bp_i (fun h48 => ?_) (fun _ => rEnd_b hi)
    have h48 : kd B n i = 48 := h48
    have hi1 := st1 hm hi h48 (by decide) (by decide)
    have hg := rItm_g (nl := nl) hm h6 hi1 hW hb
    exact bp_b (rItm_b hm h6 hi1) (fun x hx => rIts_b hm h6 hb f _ _ _ (hg.2 x hx).2 (hg.2 x hx).1)
set_option maxRecDepth 100000 in
theorem rTbl_b (hm : lst B n m) (h6 : m ≤ 600) (hi : i + 1 ≤ m) (hW : wok T) : bp m (rTbl (tkP B n) T i nl) := by
  refine bp_b (rNew_b hi) (fun nm hn => ?_)
  have m1 := rNew_m hm hi hn
  refine bp_b (xpP_b m1) (fun j hj => ?_)
  have m2 := xpP_m hm m1 (by decide) (by decide) hj
  obtain ⟨b, eb, hb6, _⟩ := tbN_s (rNew_s hn).2.1
  have enat : (tbN T.1.1).toNatClampNeg = b := by rw [eb, nK_nat (by omega)]
  rw [enat]
  have hg := rItm_g (T := nwT T b nm.1) (b := b) (nl := nl) hm h6 m2 hW hb6
  exact bp_b (rItm_b hm h6 m2) (fun x hx => rIts_b hm h6 hb6 600 _ _ _ (hg.2 x hx).2 (hg.2 x hx).1)
set_option maxRecDepth 100000 in
theorem rThr_b {K : tv2} {x : Int32} (hi : i ≤ m) : bp m (rThr K x i) := bp_i (fun _ => bp_i (fun _ => bp_l hi) (fun _ => bp_r)) (fun _ => bp_l hi)
set_option maxRecDepth 100000 in
theorem rDrp_b (hm : lst B n m) (hi : i + 1 ≤ m) : bp m (rDrp (tkP B n) sc tr i nl) := by
  refine bp_i (fun h37 => ?_) (fun _ => bp_i (fun h39 => ?_) (fun _ => bp_l hi))
  · have h37 : kd B n (i + 1) = 37 := h37
    exact bp_b (rTab_b (st1 hm hi h37 (by decide) (by decide))) (fun _ _ => bp_r)
  · have h39 : kd B n (i + 1) = 39 := h39
    exact bp_b (rThr_b (st1 hm hi h39 (by decide) (by decide))) (fun _ _ => bp_r)
set_option maxRecDepth 100000 in
theorem rBck_b {mk : Nat × (Nat → Int64)} (hm : lst B n m) (hi : i + 1 ≤ m) : bp m (rBck (tkP B n) mk i nl) := by
  refine bp_i (fun h38 => ?_) (fun _ => bp_r)
  have h38 : kd B n (i + 1) = 38 := h38
  exact bp_b (rThr_b (st1 hm hi h38 (by decide) (by decide))) (fun _ _ => bp_r)
set_option maxRecDepth 100000 in
theorem rMrk_b {mk : Nat × (Nat → Int64)} (hi : i + 1 ≤ m) : bp m (rMrk (tkP B n) mk i nl) := bp_i (fun _ => bp_i (fun _ => bp_l hi) (fun _ => bp_r)) (fun _ => bp_l hi)
set_option maxRecDepth 100000 in
theorem rNum_b {K : tv2} {lt : Bool} {ru : Nat → Option ru_T} (hi : i ≤ m) : bp m (rNum K lt ru i) := bp_i (fun _ => bp_i (fun _ => bp_r) (fun _ => bp_l hi)) (fun _ => bp_l hi)
set_option maxRecDepth 100000 in
theorem rNms_b {lt : Bool} {ru : Nat → Option ru_T} (hm : lst B n m) : ∀ (f : Nat) (a : Int32) (i : Nat), i ≤ m → bp m (rNms (tkP B n) lt ru f a i)
  | 0, a, i, hi => bp_r
  | f + 1, a, i, hi => by
    refine bp_b (rNum_b hi) (fun x hx => bp_i (fun h48 => ?_) (fun _ => bp_r))
    have h1 : x.2 ≤ m := by
      unfold rNum at hx
      split at hx
      · rename_i h4
        split at hx
        · cases hx
          exact st1 hm hi h4 (by decide) (by decide)
        · cases hx
      · cases hx
    have h48 : kd B n x.2 = 48 := h48
    exact rNms_b hm f _ _ (st1 hm h1 h48 (by decide) (by decide))
set_option maxRecDepth 100000 in
theorem rWhi_b {lt : Bool} {ru : Nat → Option ru_T} (hm : lst B n m) (hi : i + 1 ≤ m) : bp m (rWhi (tkP B n) lt ru i nl) := bp_i (fun _ => bp_r) (fun _ => bp_b (rNms_b hm 600 0 (i + 1) hi) (fun _ _ => bp_r))
set_option maxRecDepth 100000 in
theorem rEnd_m (hm : lst B n m) (hi : i ≤ m) {x : tb_S × Nat × Option Nat} (h : rEnd (tkP B n) T b i nl = .inr x) : x.2.1 ≤ m := by
  unfold rEnd at h
  split at h
  · rename_i h45
    split at h
    · cases h
      exact st1 hm hi h45 (by decide) (by decide)
    · cases h
  · cases h
set_option maxRecDepth 100000 in
theorem rIts_m (hm : lst B n m) (h6 : m ≤ 600) (hb : b < 6) : ∀ (f : Nat) (T : tb_S) (i : Nat) (nl : Option Nat) (x : tb_S × Nat × Option Nat), i ≤ m → wok T → rIts (tkP B n) b f T i nl = .inr x → x.2.1 ≤ m
  | 0, T, i, nl, x, hi, hW, h => rEnd_m hm hi h
  | f + 1, T, i, nl, x, hi, hW, h => by
    have h : (if (tkP B n).1 i = 48 then pb (rItm (tkP B n) T b (i + 1) nl) (fun x => rIts (tkP B n) b f x.1 x.2.1 x.2.2) else rEnd (tkP B n) T b i nl) = .inr x := h
    split at h
    · rename_i h48
      have hi1 := st1 hm hi h48 (by decide) (by decide)
      obtain ⟨y, h1, h⟩ := pb_inr h
      have hg := rItm_g (nl := nl) hm h6 hi1 hW hb
      exact rIts_m hm h6 hb f _ _ _ x (hg.2 y h1).2 (hg.2 y h1).1 h
    · exact rEnd_m hm hi h
set_option maxRecDepth 100000 in
theorem rTbl_m (hm : lst B n m) (h6 : m ≤ 600) (hi : i + 1 ≤ m) (hW : wok T) {x : tb_S × Nat × Option Nat} (h : rTbl (tkP B n) T i nl = .inr x) : x.2.1 ≤ m := by
  obtain ⟨nm, hn, h⟩ := pb_inr h
  have m1 := rNew_m hm hi hn
  obtain ⟨b, eb, hb6, _⟩ := tbN_s (rNew_s hn).2.1
  have enat : (tbN T.1.1).toNatClampNeg = b := by rw [eb, nK_nat (by omega)]
  rw [enat] at h
  obtain ⟨j, hj, h⟩ := pb_inr h
  have m2 := xpP_m hm m1 (by decide) (by decide) hj
  obtain ⟨y, h1, h⟩ := pb_inr h
  have hg := rItm_g (T := nwT T b nm.1) (b := b) (nl := nl) hm h6 m2 hW hb6
  exact rIts_m hm h6 hb6 600 _ _ _ x (hg.2 y h1).2 (hg.2 y h1).1 h
set_option maxRecDepth 100000 in
theorem rChg_m (hm : lst B n m) (hi : i ≤ m) {x : ac_T × Nat × Option Nat} (h : rChg (tkP B n) sc tg i nl = .inr x) : x.2.1 ≤ m := by
  obtain ⟨ev, he, h⟩ := pb_inr h
  have h1 := rEvt_m hm hi he
  obtain ⟨tb, ht, h⟩ := pb_inr h
  have h2 := rTab_m hm h1 ht
  split at h
  · obtain ⟨j, hj, h⟩ := pb_inr h
    have h3 := xpP_m hm h2 (by decide) (by decide) hj
    obtain ⟨p, hp, h⟩ := pb_inr h
    have h4 := rPar_m rfl hm 601 j nl p h3 hp
    split at h
    · rename_i h45
      split at h
      · cases h
        exact st1 hm h4 h45 (by decide) (by decide)
      · cases h
    · cases h
  · obtain ⟨s, hs, h⟩ := pb_inr h
    have hs1 : s.2.1 ≤ m := by
      unfold rUpd at hs
      split at hs
      · obtain ⟨j, hj, hs⟩ := pb_inr hs
        exact rSet_m rfl hm 601 [] j nl s (xpP_m hm h2 (by decide) (by decide) hj) hs
      · cases hs
        exact h2
    unfold rWhr at h
    split at h
    · rename_i h43
      obtain ⟨y, hy, h⟩ := pb_inr h
      cases h
      exact (rFm_m rfl hm (st1 hm hs1 h43 (by decide) (by decide)) (Or.inr rfl) hy).2
    · cases h
      exact hs1
set_option maxRecDepth 100000 in
theorem rAct_m (hm : lst B n m) (hi : i ≤ m) {x : ac_T × Nat × Option Nat} (h : rAct (tkP B n) sc p ti i nl = .inr x) : x.2.1 ≤ m := by
  unfold rAct at h
  split at h
  · rename_i h21
    have h1 := st1 hm hi h21 (by decide) (by decide)
    unfold rLet at h
    split at h
    · cases h
    · obtain ⟨c, hc, h⟩ := pb_inr h
      obtain ⟨j, hj, h⟩ := pb_inr h
      obtain ⟨y, hy, h⟩ := pb_inr h
      cases h
      exact (rFm_m rfl hm (xpP_m hm (rCol_m hm h1 hc) (by decide) (by decide) hj) (Or.inl rfl) hy).2
  · split at h
    · rename_i h32
      have h1 := st1 hm hi h32 (by decide) (by decide)
      unfold rRai at h
      split at h
      · rename_i h4
        cases h
        exact st1 hm h1 h4 (by decide) (by decide)
      · cases h
    · exact rChg_m hm hi h
set_option maxRecDepth 100000 in
theorem rTrg_m (hm : lst B n m) (hi : i + 1 ≤ m) {x : tr_T × Nat × Option Nat} (h : rTrg (tkP B n) sc tr i nl = .inr x) : x.2.1 ≤ m := by
  obtain ⟨nm, hn, h⟩ := pb_inr h
  have m1 := rNew_m hm hi hn
  obtain ⟨ti, ht, h⟩ := pb_inr h
  have m2 := rTim_m hm m1 ht
  obtain ⟨ev, he, h⟩ := pb_inr h
  have m3 := rEvt_m hm m2 he
  obtain ⟨j, hj, h⟩ := pb_inr h
  have m4 := xpP_m hm m3 (by decide) (by decide) hj
  obtain ⟨tb, hb, h⟩ := pb_inr h
  have h1 := rTab_m hm m4 hb
  obtain ⟨w, hw, h⟩ := pb_inr h
  have h2 : w.2.1 ≤ m := by
    unfold rWhn at hw
    split at hw
    · rename_i h42
      have h42 : kd B n tb.2 = 42 := h42
      obtain ⟨x, hx, hw⟩ := pb_inr hw
      cases hw
      exact (rFm_m rfl hm (st1 hm h1 h42 (by decide) (by decide)) (Or.inr rfl) hx).2
    · cases hw
      exact h1
  obtain ⟨j2, hj2, h⟩ := pb_inr h
  obtain ⟨a, ha, h⟩ := pb_inr h
  cases h
  exact rAct_m hm (xpP_m hm h2 (by decide) (by decide) hj2) ha
set_option maxRecDepth 100000 in
theorem rThr_m {x : Int32} (hm : lst B n m) (hi : i ≤ m) {y : Unit × Nat} (h : rThr (tkP B n) x i = .inr y) : y.2 ≤ m := by
  unfold rThr at h
  split at h
  · rename_i h3
    split at h
    · cases h
    · cases h
      exact st1 hm hi h3 (by decide) (by decide)
  · cases h
set_option maxRecDepth 100000 in
theorem rDrp_m (hm : lst B n m) (hi : i + 1 ≤ m) {x : (Nat × Int32) × Nat × Option Nat} (h : rDrp (tkP B n) sc tr i nl = .inr x) : x.2.1 ≤ m := by
  unfold rDrp at h
  split at h
  · rename_i h37
    obtain ⟨b, hb, h⟩ := pb_inr h
    cases h
    exact rTab_m hm (st1 hm hi h37 (by decide) (by decide)) hb
  · split at h
    · rename_i h39
      obtain ⟨u, hu, h⟩ := pb_inr h
      cases h
      exact rThr_m hm (st1 hm hi h39 (by decide) (by decide)) hu
    · cases h
set_option maxRecDepth 100000 in
theorem rBck_m {mk : Nat × (Nat → Int64)} (hm : lst B n m) (hi : i + 1 ≤ m) {x : Int32 × Nat × Option Nat} (h : rBck (tkP B n) mk i nl = .inr x) : x.2.1 ≤ m := by
  unfold rBck at h
  split at h
  · rename_i h38
    obtain ⟨u, hu, h⟩ := pb_inr h
    cases h
    exact rThr_m hm (st1 hm hi h38 (by decide) (by decide)) hu
  · cases h
    exact hi
set_option maxRecDepth 100000 in
theorem rMrk_m {mk : Nat × (Nat → Int64)} (hm : lst B n m) (hi : i + 1 ≤ m) {x : Int64 × Nat × Option Nat} (h : rMrk (tkP B n) mk i nl = .inr x) : x.2.1 ≤ m := by
  unfold rMrk at h
  split at h
  · rename_i h3
    split at h
    · cases h
    · cases h
      exact st1 hm hi h3 (by decide) (by decide)
  · cases h
set_option maxRecDepth 100000 in
theorem rNum_m {lt : Bool} {ru : Nat → Option ru_T} (hm : lst B n m) (hi : i ≤ m) {x : Int32 × Nat} (hx : rNum (tkP B n) lt ru i = .inr x) : x.2 ≤ m := by
  unfold rNum at hx
  split at hx
  · rename_i h4
    split at hx
    · cases hx
      exact st1 hm hi h4 (by decide) (by decide)
    · cases hx
  · cases hx
set_option maxRecDepth 100000 in
theorem rNms_m {lt : Bool} {ru : Nat → Option ru_T} (hm : lst B n m) : ∀ (f : Nat) (a : Int32) (i : Nat) (x : Int32 × Nat), i ≤ m → rNms (tkP B n) lt ru f a i = .inr x → x.2 ≤ m
  | 0, a, i, x, hi, h => by
    cases h
    exact hi
  | f + 1, a, i, x, hi, h => by
    obtain ⟨y, hy, h⟩ := pb_inr h
    have h1 := rNum_m hm hi hy
    split at h
    · rename_i h48
      exact rNms_m hm f _ _ x (st1 hm h1 h48 (by decide) (by decide)) h
    · cases h
      exact h1
set_option maxRecDepth 100000 in
theorem rWhi_m {lt : Bool} {ru : Nat → Option ru_T} (hm : lst B n m) (hi : i + 1 ≤ m) {x : Int32 × Nat × Option Nat} (h : rWhi (tkP B n) lt ru i nl = .inr x) : x.2.1 ≤ m := by
  unfold rWhi at h
  split at h
  · rename_i h6
    cases h
    exact st1 hm hi h6 (by decide) (by decide)
  · obtain ⟨y, hy, h⟩ := pb_inr h
    cases h
    exact rNms_m hm 600 0 (i + 1) y hi hy
end BJP
