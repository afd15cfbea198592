
/-! A STATEMENT IS READ: the fuel is enough -/
section FUE
variable {B : Nat → Nat} {n m i i' b e ti c k w f : Nat} {sc : sc_T} {row : Option Nat} {tg : Option (Nat × Nat)} {nl nl' : Option Nat} {tr : Nat → Option tr_T} {T : tb_S}
set_option maxRecDepth 100000 in
theorem nzp_pb {α β : Type} {r : pz_T α} {g : α → pz_T β} (h : nzp r) (k : ∀ a, r = .inr a → nzp (g a)) : nzp (pb r g) := by
  intro j e
  cases hr : r with
  | inl x =>
    rw [hr] at e
    have e : (.inl x : pz_T β) = .inl (0, j) := e
    cases e
    exact h j hr
  | inr a =>
    rw [hr] at e
    exact k a hr j e
set_option maxRecDepth 100000 in
theorem nzp_l {α : Type} {c : Int32} {j : Nat} (h : c ≠ 0) : nzp (.inl (c, j) : pz_T α) := fun q e => by cases e; exact h rfl
set_option maxRecDepth 100000 in
theorem nzp_r {α : Type} {a : α} : nzp (.inr a : pz_T α) := fun q e => by cases e
set_option maxRecDepth 100000 in
theorem nzp_i {α : Type} {p : Prop} [Decidable p] {x y : pz_T α} (h1 : p → nzp x) (h2 : ¬ p → nzp y) : nzp (if p then x else y) := by
  by_cases h : p
  · rw [if_pos h]
    exact h1 h
  · rw [if_neg h]
    exact h2 h
/-! one token on -/
set_option maxRecDepth 100000 in
theorem st1 (hm : lst B n m) (hi : i ≤ m) (h : kd B n i = w) (h1 : w ≠ 1) (h2 : w ≠ 2) : i + 1 ≤ m := by
  by_cases e : i = m
  · subst e
    rcases hm.2 with z | z <;> omega
  · omega
set_option maxRecDepth 100000 in
theorem xpP_s {K : tv2} {j : Nat} (h : xpP K w i = .inr j) : K.1 i = w ∧ j = i + 1 := by
  unfold xpP at h
  split at h
  · rename_i hk
    cases h
    exact ⟨hk, rfl⟩
  · cases h
set_option maxRecDepth 100000 in
theorem xpP_z {K : tv2} : nzp (xpP K w i) := nzp_i (fun _ => nzp_r) (fun _ => nzp_l (by decide))
set_option maxRecDepth 100000 in
theorem rEvt_z {K : tv2} : nzp (rEvt K i) := by
  unfold rEvt
  split
  · exact nzp_l (by decide)
  · exact nzp_r
set_option maxRecDepth 100000 in
theorem rTab_z {K : tv2} : nzp (rTab K sc i) := nzp_i (fun _ => nzp_i (fun _ => nzp_l (by decide)) (fun _ => nzp_r)) (fun _ => nzp_l (by decide))
set_option maxRecDepth 100000 in
theorem rCol_z {K : tv2} {acc : List Nat} : nzp (rCol K sc b acc i) := nzp_i (fun _ => nzp_i (fun _ => nzp_l (by decide)) (fun _ => nzp_i (fun _ => nzp_l (by decide)) (fun _ => nzp_r))) (fun _ => nzp_l (by decide))
set_option maxRecDepth 100000 in
theorem rEvt_m (hm : lst B n m) (hi : i ≤ m) {x : Nat × Nat} (h : rEvt (tkP B n) i = .inr x) : x.2 ≤ m := by
  unfold rEvt at h
  split at h
  · cases h
  · rename_i e' he
    cases h
    rcases evt_s he with ⟨h, _⟩ | ⟨h, _⟩ | ⟨h, _⟩
    · exact st1 hm hi h (by decide) (by decide)
    · exact st1 hm hi h (by decide) (by decide)
    · exact st1 hm hi h (by decide) (by decide)
set_option maxRecDepth 100000 in
theorem rTab_m (hm : lst B n m) (hi : i ≤ m) {x : Nat × Nat} (h : rTab (tkP B n) sc i = .inr x) : x.2 ≤ m := by
  by_cases h3 : (tkP B n).1 i = 3
  · rw [(rTab_i h).1]
    exact st1 hm hi h3 (by decide) (by decide)
  · rw [rTab_2 h3] at h
    cases h
set_option maxRecDepth 100000 in
theorem rCol_m (hm : lst B n m) (hi : i ≤ m) {acc : List Nat} {x : Nat × Nat} (h : rCol (tkP B n) sc b acc i = .inr x) : x.2 ≤ m := by
  by_cases h3 : (tkP B n).1 i = 3
  · rw [rCol_i h]
    exact st1 hm hi h3 (by decide) (by decide)
  · rw [rCol_2 h3] at h
    cases h
set_option maxRecDepth 100000 in
theorem xpP_m (hm : lst B n m) (hi : i ≤ m) {j : Nat} (h1 : w ≠ 1) (h2 : w ≠ 2) (h : xpP (tkP B n) w i = .inr j) : j ≤ m := by
  obtain ⟨a, rfl⟩ := xpP_s h
  exact st1 hm hi a h1 h2
set_option maxRecDepth 100000 in
theorem rFm_z {E : fe_T} (hE : E.1 = kd B n) (hm : lst B n m) (h6 : m ≤ 600) (hi : i ≤ m) {md : Nat} (hmd : md = 3 ∨ md = 8) : nzp (rFm E md i nl) := by
  have hz := rd_nz (E := E) (m := m) (by rw [hE]; exact hm.2) 6000 md (i, [], 0, nl) (by omega) hi (by
    have : rk md ≤ 100 := by rcases hmd with rfl | rfl <;> decide
    show 8 * (m - i) + rk md ≤ 6000
    omega)
  intro j e
  unfold rFm at e
  split at e
  · rename_i x hx
    cases e
    exact hz j hx
  · cases e
set_option maxRecDepth 100000 in
theorem rFm_m {E : fe_T} (hE : E.1 = kd B n) (hm : lst B n m) (hi : i ≤ m) {md : Nat} (hmd : md = 3 ∨ md = 8) {x : List op_T × Nat × Option Nat} (h : rFm E md i nl = .inr x) : i + 1 ≤ x.2.1 ∧ x.2.1 ≤ m := by
  unfold rFm at h
  split at h
  · cases h
  · rename_i z hz
    cases h
    have := rd_pr (E := E) (m := m) (by rw [hE]; exact hm.2) 6000 md _ z (by omega) hi hz
    rcases hmd with rfl | rfl
    · exact ⟨this.2, this.1⟩
    · exact ⟨this.2, this.1⟩
set_option maxRecDepth 100000 in
theorem rPar_z {E : fe_T} (hE : E.1 = kd B n) (hm : lst B n m) (h6 : m ≤ 600) : ∀ (f i : Nat) (nl : Option Nat), i ≤ m → m + 1 ≤ i + f → nzp (rPar E f i nl)
  | 0, i, nl, hi, hf => absurd hf (by omega)
  | f + 1, i, nl, hi, hf => by
    have pz : nzp (rPt E i nl) := nzp_i (fun _ => nzp_r) (fun _ => nzp_pb (rFm_z hE hm h6 hi (Or.inl rfl)) (fun _ _ => nzp_r))
    refine nzp_pb pz (fun x hx => nzp_i (fun h48 => nzp_pb ?_ (fun _ _ => nzp_r)) (fun _ => nzp_r))
    have hx1 : i + 1 ≤ x.2.1 ∧ x.2.1 ≤ m := by
      unfold rPt at hx
      split at hx
      · rename_i h14
        cases hx
        rw [hE] at h14
        exact ⟨Nat.le_refl _, st1 hm hi h14 (by decide) (by decide)⟩
      · obtain ⟨y, hy, hx⟩ := pb_inr hx
        cases hx
        exact rFm_m hE hm hi (Or.inl rfl) hy
    rw [hE] at h48
    have := st1 hm hx1.2 h48 (by decide) (by decide)
    exact rPar_z hE hm h6 f _ _ this (by omega)
set_option maxRecDepth 100000 in
theorem rSet_z {E : fe_T} (hE : E.1 = kd B n) (hm : lst B n m) (h6 : m ≤ 600) : ∀ (f : Nat) (acc : List Nat) (i : Nat) (nl : Option Nat), i ≤ m → m + 1 ≤ i + f → nzp (rSet (tkP B n) sc E b f acc i nl)
  | 0, acc, i, nl, hi, hf => absurd hf (by omega)
  | f + 1, acc, i, nl, hi, hf => by
    refine nzp_pb rCol_z (fun c hc => nzp_pb xpP_z (fun j hj => ?_))
    have h1 := rCol_m hm hi hc
    have h2 := xpP_m hm h1 (by decide) (by decide) hj
    have h3 := (xpP_s hj).2
    have h4 := rCol_i hc
    refine nzp_pb (rFm_z hE hm h6 h2 (Or.inl rfl)) (fun x hx => nzp_i (fun h48 => nzp_pb ?_ (fun _ _ => nzp_r)) (fun _ => nzp_r))
    have h5 := rFm_m hE hm h2 (Or.inl rfl) hx
    have h48 : kd B n x.2.1 = 48 := h48
    have := st1 hm h5.2 h48 (by decide) (by decide)
    exact rSet_z hE hm h6 f _ _ _ this (by omega)
set_option maxRecDepth 100000 in
theorem rSet_m {E : fe_T} (hE : E.1 = kd B n) (hm : lst B n m) : ∀ (f : Nat) (acc : List Nat) (i : Nat) (nl : Option Nat) (x : (List Nat × List (Option (List op_T))) × Nat × Option Nat), i ≤ m → rSet (tkP B n) sc E b f acc i nl = .inr x → x.2.1 ≤ m
  | 0, acc, i, nl, x, hi, h => by cases h
  | f + 1, acc, i, nl, x, hi, h => by
    rw [rSet] at h
    obtain ⟨c, hc, h⟩ := pb_inr h
    obtain ⟨j, hj, h⟩ := pb_inr h
    obtain ⟨y, hy, h⟩ := pb_inr h
    have h2 := xpP_m hm (rCol_m hm hi hc) (by decide) (by decide) hj
    have h5 := rFm_m hE hm h2 (Or.inl rfl) hy
    split at h
    · rename_i h48
      have h48 : kd B n y.2.1 = 48 := h48
      obtain ⟨z, hz, h⟩ := pb_inr h
      cases h
      exact rSet_m hE hm f _ _ _ z (st1 hm h5.2 h48 (by decide) (by decide)) hz
    · cases h
      exact h5.2
set_option maxRecDepth 100000 in
theorem rChg_z (hm : lst B n m) (h6 : m ≤ 600) (hi : i ≤ m) : nzp (rChg (tkP B n) sc tg i nl) := by
  refine nzp_pb rEvt_z (fun ev he => nzp_pb rTab_z (fun tb ht => ?_))
  have h1 := rEvt_m hm hi he
  have h2 := rTab_m hm h1 ht
  refine nzp_i (fun _ => ?_) (fun _ => nzp_pb ?_ (fun s hs => ?_))
  · refine nzp_pb xpP_z (fun j hj => nzp_pb (rPar_z rfl hm h6 601 j nl (xpP_m hm h2 (by decide) (by decide) hj) (by omega)) (fun p _ => ?_))
    exact nzp_i (fun _ => nzp_i (fun _ => nzp_r) (fun _ => nzp_l (by decide))) (fun _ => nzp_l (by decide))
  · refine nzp_i (fun _ => nzp_pb xpP_z (fun j hj => ?_)) (fun _ => nzp_r)
    exact rSet_z rfl hm h6 601 [] j nl (xpP_m hm h2 (by decide) (by decide) hj) (by omega)
  · have hs1 : s.2.1 ≤ m := by
      unfold rUpd at hs
      split at hs
      · obtain ⟨j, hj, hs⟩ := pb_inr hs
        exact rSet_m rfl hm 601 [] j nl s (xpP_m hm h2 (by decide) (by decide) hj) hs
      · cases hs
        exact h2
    refine nzp_i (fun h43 => ?_) (fun _ => nzp_r)
    have h43 : kd B n s.2.1 = 43 := h43
    exact nzp_pb (rFm_z rfl hm h6 (st1 hm hs1 h43 (by decide) (by decide)) (Or.inr rfl)) (fun _ _ => nzp_r)
end FUE
