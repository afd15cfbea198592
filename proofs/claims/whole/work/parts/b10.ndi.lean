
/-! A TABLE IS READ: nodes that are left, how far it goes -/
section NDI
variable {K : tv2} {sc : sc_T} {E : fe_T} {i i' b e c k r d1 : Nat} {nl nl' : Option Nat} {Tb T' : tb_S} {u : ru_T} {cs ts : List Nat}
set_option maxRecDepth 100000 in
theorem smN_up {f g : Nat → Nat} : ∀ (n k : Nat), (∀ j, k ≤ j → j < k + n → j ≠ r → g j = f j) → k ≤ r → r < k + n → smN g n k + f r = smN f n k + g r
  | 0, k, _, h1, h2 => by omega
  | n + 1, k, h, h1, h2 => by
    show g k + smN g n (k + 1) + f r = f k + smN f n (k + 1) + g r
    by_cases e : r = k
    · subst e
      have hs : smN g n (r + 1) = smN f n (r + 1) := by
        have : ∀ (n k : Nat), r < k → (∀ j, k ≤ j → j < k + n → g j = f j) → smN g n k = smN f n k := by
          intro n
          induction n with
          | zero => intro k _ _; rfl
          | succ n ih =>
            intro k hk hh
            show g k + smN g n (k + 1) = f k + smN f n (k + 1)
            rw [hh k (Nat.le_refl _) (by omega), ih (k + 1) (by omega) (fun j a b => hh j (by omega) (by omega))]
        exact this n (r + 1) (by omega) (fun j a b => h j (by omega) (by omega) (by omega))
      omega
    · have h3 := smN_up n (k + 1) (fun j a b c => h j (by omega) (by omega) c) (by omega) (by omega)
      have h4 := h k (Nat.le_refl _) (by omega) (fun z => e z.symm)
      omega
def ndT (T : tb_S) : Nat := smN (fun i => ndU (T.2.2 i)) 24 0
set_option maxRecDepth 100000 in
theorem addR_n (h : ruN Tb.2.2 ≠ -1) : ndT (addR Tb u) = ndT Tb + ndU (some u) := by
  obtain ⟨s, h1, h2, h3⟩ := ruN_s h
  have hn : (ruN Tb.2.2).toNatClampNeg = s := by rw [h1]; exact nK_nat (by omega)
  have e1 : (addR Tb u).2.2 s = some u := by
    show (if s = (ruN Tb.2.2).toNatClampNeg then some u else Tb.2.2 s) = some u
    rw [if_pos hn.symm]
  have := smN_up (r := s) (f := fun i => ndU (Tb.2.2 i)) (g := fun i => ndU ((addR Tb u).2.2 i)) 24 0 (fun j _ _ hj => by
    show ndU (if j = (ruN Tb.2.2).toNatClampNeg then some u else Tb.2.2 j) = _
    rw [if_neg (by rw [hn]; exact hj)]) (by omega) (by omega)
  simp only [h3, e1] at this
  have h0 : ndU none = 0 := rfl
  unfold ndT
  omega
/-! it goes on, and what is left is less by what the rules hold -/
def okY (Tb : tb_S) (i : Nat) (nl : Option Nat) (x : pz_T (tb_S × Nat × Option Nat)) : Prop := ∀ T' i' nl', x = .inr (T', i', nl') → i ≤ i' ∧ ∀ k, nl = some k → ∃ k', nl' = some k' ∧ ndT T' + k' = ndT Tb + k
set_option maxRecDepth 100000 in
theorem okY_l {q : Int32 × Nat} : okY Tb i nl (.inl q) := fun _ _ _ h => by cases h
set_option maxRecDepth 100000 in
theorem okY_s {j : Nat} {x : pz_T (tb_S × Nat × Option Nat)} (h : okY Tb j nl x) (hj : i ≤ j) : okY Tb i nl x := fun T' i' nl' e => ⟨Nat.le_trans hj (h T' i' nl' e).1, (h T' i' nl' e).2⟩
set_option maxRecDepth 100000 in
theorem okY_i {p : Prop} [Decidable p] {x y : pz_T (tb_S × Nat × Option Nat)} (h1 : p → okY Tb i nl x) (h2 : ¬ p → okY Tb i nl y) : okY Tb i nl (if p then x else y) := by
  by_cases h : p
  · rw [if_pos h]
    exact h1 h
  · rw [if_neg h]
    exact h2 h
set_option maxRecDepth 100000 in
theorem okY_b {α : Type} {x : pz_T α} {g : α → pz_T (tb_S × Nat × Option Nat)} (h : ∀ a, x = .inr a → okY Tb i nl (g a)) : okY Tb i nl (pb x g) := fun T' i' nl' e => by
  obtain ⟨a, h1, h2⟩ := pb_inr e
  exact h a h1 T' i' nl' h2
set_option maxRecDepth 100000 in
theorem okY_r (h : i ≤ i') : okY Tb i nl (.inr (Tb, i', nl)) := fun T' j nl' e => by
  cases e
  exact ⟨h, fun k hk => ⟨k, hk, rfl⟩⟩
set_option maxRecDepth 100000 in
theorem okY_a (hr : ruN Tb.2.2 ≠ -1) (h : i ≤ i') (hu : rCk u = none) : okY Tb i nl (.inr (addR Tb u, i', nl)) := fun T' j nl' e => by
  cases e
  refine ⟨h, fun k hk => ⟨k, hk, ?_⟩⟩
  rw [addR_n hr]
  have h0 : ndU (some u) = 0 := by
    show ndF (rCk u) = 0
    rw [hu]
    rfl
  omega
set_option maxRecDepth 100000 in
theorem okY_t {T2 : tb_S} {x : pz_T (tb_S × Nat × Option Nat)} (h : okY T2 i nl x) (ht : ndT T2 = ndT Tb) : okY Tb i nl x := fun T' j nl' e => ⟨(h T' j nl' e).1, fun k hk => by rw [← ht]; exact (h T' j nl' e).2 k hk⟩
set_option maxRecDepth 100000 in
theorem rDef_p : i ≤ (rDef K i).2 := by
  unfold rDef
  split
  · exact Nat.le_succ i
  · exact Nat.le_refl i
set_option maxRecDepth 100000 in
theorem rNam_p : ∀ (f : Nat) (acc : List Nat) (i : Nat) (x : List Nat × Nat), rNam K sc b f acc i = .inr x → i ≤ x.2
  | 0, acc, i, x, h => by cases h
  | f + 1, acc, i, x, h => by
    rw [rNam] at h
    obtain ⟨c, h1, h⟩ := pb_inr h
    have hc : c.2 = i + 1 := by
      unfold rCol at h1
      split at h1
      · split at h1
        · cases h1
        · split at h1
          · cases h1
          · cases h1
            rfl
      · cases h1
    split at h
    · obtain ⟨y, h2, h⟩ := pb_inr h
      cases h
      have := rNam_p f _ _ y h2
      show i ≤ y.2
      omega
    · cases h
      show i ≤ c.2
      omega
set_option maxRecDepth 100000 in
theorem rTab_p {x : Nat × Nat} (h : rTab K sc i = .inr x) : i ≤ x.2 := by
  unfold rTab at h
  split at h
  · split at h
    · cases h
    · cases h
      exact Nat.le_succ i
  · cases h
set_option maxRecDepth 100000 in
theorem rOn_p {w : Nat} {x : Nat × Nat} (h : rOn K w i = .inr x) : i ≤ x.2 := by
  unfold rOn at h
  split at h
  · unfold rAcn at h
    split at h
    · cases h
    · cases h
      show i ≤ i + 1 + 1
      omega
  · cases h
    exact Nat.le_refl i
set_option maxRecDepth 100000 in
theorem rInt_p {x : Int64 × Nat} (h : rInt K i = .inr x) : i ≤ x.2 := by
  unfold rInt at h
  split at h
  · split at h
    · cases h
      show i ≤ i + 1 + 1
      omega
    · cases h
  · split at h
    · cases h
      exact Nat.le_succ i
    · cases h
set_option maxRecDepth 100000 in
theorem rFm_p {md : Nat} {x : List op_T × Nat × Option Nat} (h : rFm E md i nl = .inr x) : i ≤ x.2.1 := by
  unfold rFm at h
  cases hr : rd E 6000 md (i, [], 0, nl) with
  | inl q =>
    rw [hr] at h
    cases h
  | inr z =>
    rw [hr] at h
    cases h
    exact (rd_fle _ _ _ _ hr).1
set_option maxRecDepth 100000 in
theorem rNnl_n : okY Tb i nl (rNnl K Tb b c i nl) := okY_i (fun _ => okY_i (fun _ => okY_l) (fun h => okY_a h (Nat.le_succ i) rfl)) (fun _ => okY_r (Nat.le_refl i))
set_option maxRecDepth 100000 in
theorem rItm_n : okY Tb i nl (rItm K Tb b i nl) := by
  refine okY_i (fun _ => ?_) (fun _ => okY_i (fun _ => ?_) (fun _ => okY_i (fun _ => ?_) (fun _ => okY_i (fun _ => ?_) (fun _ => okY_i (fun _ => ?_) (fun _ => okY_l)))))
  · refine okY_i (fun _ => okY_i (fun _ => okY_l) (fun _ => ?_)) (fun _ => okY_l)
    refine okY_s (j := i + 1) (okY_t (T2 := addC Tb b (K.2 i)) ?_ rfl) (Nat.le_succ i)
    refine okY_i (fun _ => okY_b (fun x hx => ?_)) (fun _ => rNnl_n)
    exact okY_s (okY_t (T2 := setD (addC Tb b (K.2 i)) b (Tb.1.2.1 b) (some x.1.toInt32)) rNnl_n rfl) (Nat.le_trans (Nat.le_succ _) (rInt_p hx))
  · exact okY_i (fun _ => okY_l) (fun h => okY_b (fun j hj => okY_b (fun y hy => okY_b (fun j2 hj2 => okY_a h (by
      have h1 := (xpP_s hj).2
      have h2 := rNam_p _ _ _ _ hy
      have h3 := (xpP_s hj2).2
      have h4 := rDef_p (K := K) (i := j2)
      omega) rfl))))
  · exact okY_i (fun _ => okY_l) (fun h => okY_b (fun j hj => okY_b (fun y hy => okY_b (fun j2 hj2 => okY_a h (by
      have h1 := (xpP_s hj).2
      have h2 := rNam_p _ _ _ _ hy
      have h3 := (xpP_s hj2).2
      have h4 := rDef_p (K := K) (i := j2)
      omega) rfl))))
  · refine okY_i (fun _ => okY_l) (fun h => okY_b (fun x hx => fun T' j nl' e => ?_))
    cases e
    have h1 := rFm_p hx
    have h2 := rDef_p (K := K) (i := x.2.1)
    refine ⟨by omega, fun k hk => ?_⟩
    rcases rFm_nd (O := x.1) (i' := x.2.1) (nl' := x.2.2) hx with ⟨g1, _⟩ | ⟨a, c, g1, g2, g3⟩
    · rw [hk] at g1
      cases g1
    · rw [hk] at g1
      cases g1
      refine ⟨c, g2, ?_⟩
      rw [addR_n h]
      show ndT Tb + x.1.length + c = _
      omega
  · refine okY_i (fun _ => okY_l) (fun h => okY_b (fun j hj => okY_b (fun y hy => okY_b (fun j2 hj2 => okY_b (fun j3 hj3 => okY_b (fun tb htb => okY_b (fun j4 hj4 => okY_b (fun ts hts => okY_i (fun _ => okY_i (fun _ => okY_b (fun dd hd => okY_b (fun uu hu => okY_a h ?_ rfl))) (fun _ => okY_l)) (fun _ => okY_l)))))))))
    have h1 := (xpP_s hj).2
    have h2 := rNam_p _ _ _ _ hy
    have h3 := (xpP_s hj2).2
    have h4 := (xpP_s hj3).2
    have h5 := rTab_p htb
    have h6 := (xpP_s hj4).2
    have h7 := rNam_p _ _ _ _ hts
    have h8 := rOn_p hd
    have h9 := rOn_p hu
    have h10 := rDef_p (K := K) (i := uu.2)
    omega
end NDI
