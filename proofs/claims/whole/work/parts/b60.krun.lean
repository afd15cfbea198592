
/-! ONE SIDE AND THE WORLD: a statement is run, whatever it is -/
section KRN
variable {L : Nat} {xs : Nat → Int32} {B : Nat → Nat} {n m d sl : Nat} {C C' C1 : co_T} {t t' u t1 : ab_H} {Ks : List Nat} {W : wo_T} {M : Nat → Bool} {sl0 : Nat} {t0 : ab_H}
set_option maxRecDepth 100000 in
theorem KI_c (h1 : ∀ k j, k ≠ 1 → k ≠ 75 → k ≠ 24 → C'.1 k j = C.1 k j) (h2 : ∀ k j, k ≠ 140 → C'.2.1 k j = C.2.1 k j) (h3 : C'.2.2 = C.2.2) (K : KI C t Ks W) : KI C' t Ks W := by
  obtain ⟨k1, k2, k3, k4, k5⟩ := K
  have fv : frVm (mBk Ks) t t := fun j z => ⟨bkO_h k1 j z, rfl⟩
  exact ⟨k1, KSc_g ⟨fun j => h1 8 j (by omega) (by omega) (by omega), fun k j h => h2 k j (by omega), fun k j _ => by rw [h3]⟩ (tlK_e tlE_r) k2, KRo_g (fun k j h => h1 k j (by omega) (by omega) (by omega)) (fun j => h2 14 j (by omega)) k3, KTx_g (fun j h => h1 6 j (by omega) (by omega) (by omega)) (fun j => h2 19 j (by omega)) k4, KAs_g (fun k j _ => by rw [h3]) fv k4.2.2.2.1 k5⟩
/-! the last cell is not hidden -/
set_option maxRecDepth 100000 in
theorem msk_sp {N : Nat} {c : ab_C} (hM : ∀ j, M j = true → j < N) (hl : N ≤ t1.length) (e : msk M u = t1 ++ [c]) : ∃ u1, u = u1 ++ [c] ∧ msk M u1 = t1 := by
  rcases List.eq_nil_or_concat u with rfl | ⟨l, b, rfl⟩
  · have := congrArg List.length e
    simp [msk] at this
  · have hq : msk M (l ++ [b]) = msk M l ++ [bif M l.length then dC else b] := by
      unfold msk
      rw [List.mapIdx_append]
      simp
    rw [List.concat_eq_append, hq] at e
    have hh := List.append_inj' e rfl
    have e1 : l.length = t1.length := by
      have := congrArg List.length hh.1
      rwa [msk_l] at this
    have e2 : M l.length = false := by
      cases hb : M l.length with
      | false => rfl
      | true =>
        have := hM _ hb
        omega
    rw [e2] at hh
    refine ⟨l, ?_, hh.1⟩
    rw [List.concat_eq_append]
    have := hh.2
    injection this with this
    rw [show b = c from this]
/-! what is told, as one side keeps it -/
def vK (C : co_T) (x : Nat) : Int32 := if x = 0 then C.1 1 9 else if x = 1 then C.1 1 10 else if x = 2 then C.1 24 9 else if x = 3 then C.1 24 10 else if x = 4 then C.1 24 11 else if x = 5 then C.1 24 7 else C.1 24 8
/-! what the other side keeps is left alone -/
def loE (C C' : co_T) : Prop := ∀ k j, 76 ≤ k → C'.1 k j = C.1 k j ∧ C'.2.1 k j = C.2.1 k j ∧ C'.2.2 k j = C.2.2 k j
set_option maxRecDepth 100000 in
theorem loE_r : loE C C := fun _ _ _ => ⟨rfl, rfl, rfl⟩
set_option maxRecDepth 100000 in
theorem loE_t {C1 C2 C3 : co_T} (h : loE C1 C2) (g : loE C2 C3) : loE C1 C3 := fun k j hk => ⟨(g k j hk).1.trans (h k j hk).1, (g k j hk).2.1.trans (h k j hk).2.1, (g k j hk).2.2.trans (h k j hk).2.2⟩
set_option maxRecDepth 100000 in
theorem loE_k (h1 : ∀ k j, 76 ≤ k → C'.1 k j = C.1 k j) (h2 : ∀ k j, 76 ≤ k → C'.2.1 k j = C.2.1 k j) (h3 : ∀ k j, 76 ≤ k → C'.2.2 k j = C.2.2 k j) : loE C C' := fun k j hk => ⟨h1 k j hk, h2 k j hk, h3 k j hk⟩
set_option maxRecDepth 100000 in
theorem loE_I {a b : Nat} {v : Int32} (ha : a < 76) : loE C (sI C a b v) := fun k j hk => ⟨by rw [sI_1, if_neg (by omega)], rfl, rfl⟩
set_option maxRecDepth 100000 in
theorem loE_Q {a b : Nat} {v : Option Nat} (ha : a < 76) : loE C (sQ C a b v) := fun k j hk => ⟨rfl, rfl, by rw [sQ_3, if_neg (by omega)]⟩
set_option maxRecDepth 100000 in
theorem loE_D (f : frD C C') : loE C C' := loE_k (fun k j hk => f.1 k j (by omega) (by omega) (by omega) (by omega) (by omega)) (fun k j hk => f.2.1 k j (by omega) (by omega)) (fun k j hk => f.2.2 k j (by omega) (by omega))
/-! how carrying out ends -/
def PXk (C : co_T) (u : ab_H) (r : xr_T) : Option Value → ab_H → Nat → Prop := fun v h q => some (.int (nI r.1)) = v ∧ (∃ C' t' Ks', (KI C' t' Ks' r.2.2 ∧ vEq r.1 (vK C') r.2.1 ∧ t'.length ≤ u.length + 6 ∧ loE C C') ∧ MH C' t' = h) ∧ q ≤ 1710
/-! how a run ends -/
def PRk (m : Nat) (C : co_T) (t : ab_H) (W : wo_T) (sl : Nat) (r : xr_T) : Option Value → ab_H → Nat → Prop := fun v h q => some (.int (nI r.1)) = v ∧ (∃ C' t' Ks', (KI C' t' Ks' r.2.2 ∧ C'.1 1 4 = 0 ∧ (∀ x, x < 8 → C'.1 75 x = ans r.1 r.2.1 (dfW W r.2.2) x) ∧ t'.length ≤ t.length + 4 * m + 7 ∧ loE C C') ∧ MH C' t' = h) ∧ q ≤ sl + 25 * m + 1720
set_option maxRecDepth 100000 in
theorem ntC_75 {e x : Nat} {v : Nat → Int32} {g : Int32} (hx : x < 8) : (ntC C e v g).1 75 x = ans e v g x := by
  have h : x = 0 ∨ x = 1 ∨ x = 2 ∨ x = 3 ∨ x = 4 ∨ x = 5 ∨ x = 6 ∨ x = 7 := by omega
  rcases h with rfl | rfl | rfl | rfl | rfl | rfl | rfl | rfl <;> rfl
set_option maxRecDepth 100000 in
theorem ntC_o {e k j : Nat} {v : Nat → Int32} {g : Int32} (h : k ≠ 75) : (ntC C e v g).1 k j = C.1 k j := by
  unfold ntC
  rw [sI_1, if_neg (by omega), sI_1, if_neg (by omega), sI_1, if_neg (by omega), sI_1, if_neg (by omega), sI_1, if_neg (by omega), sI_1, if_neg (by omega), sI_1, if_neg (by omega), sI_1, if_neg (by omega)]
/-! the end of a run -/
set_option maxRecDepth 100000 in
theorem kEnd {C0 : co_T} {r : xr_T} {z2 : Int32} {T0 : Nat} (hlo : loE C0 C) (he : r.1 < 8) (K : KI C t Ks r.2.2) (hv : vEq r.1 (vK C) r.2.1) (hl : t.length ≤ T0 + 4 * m + 7) (hs : sl ≤ sl0 + 25 * m + 1720) (ht0 : t0.length = T0) : Wd L xs (d + 1) y_9 (53, [(3, .int (nI r.1)), (2, .int z2), (1, .int (nI (totF (wR W) 6 0 0))), (0, .ref 100)], [], MH C t, sl) (PRk m C0 t0 W sl0 r) nX := by
  have w := m_10 (L := L) (xs := xs) (d := d) (sl := 0) (t := t) (C := sI C 1 4 0) (rs := wR r.2.2) (fun b hb => (K.2.2.1.1 b hb).2.1)
  refine Wd_q (t_9 (v := vK C) he rfl rfl rfl rfl rfl rfl rfl w) (fun v h q hq => ?_) (fun _ _ _ e => e)
  obtain ⟨rfl, rfl, rfl⟩ := hq
  refine ⟨rfl, ⟨ntC (sI C 1 4 0) r.1 (vK C) (nI (totF (wR r.2.2) 6 0 0) - nI (totF (wR W) 6 0 0)), t, Ks, ⟨KI_c (C := C) (fun k j h1 h2 _ => ?_) (fun _ _ _ => rfl) rfl K, ?_, fun x hx => ?_, by omega, loE_t hlo (fun k j hk => ⟨by rw [ntC_o (by omega), sI_1, if_neg (by omega)], rfl, rfl⟩)⟩, rfl⟩, hs⟩
  · rw [ntC_o h2, sI_1, if_neg (by omega)]
  · rw [ntC_o (by omega), sI_1, if_pos ⟨rfl, rfl⟩]
  · rw [ntC_75 hx]
    exact ans_e hv x
end KRN
