
/-! ONE SIDE AND THE WORLD: a statement is run, from its text on -/
section KRM
variable {L : Nat} {xs : Nat → Int32} {B : Nat → Nat} {n m d sl : Nat} {C C' C1 : co_T} {t t' u t1 : ab_H} {Ks : List Nat} {W : wo_T}
set_option maxRecDepth 100000 in
theorem rdC_o {x : Int32} {k j : Nat} (h : k ≠ 1) (h4 : k ≠ 4) (h20 : k ≠ 20) (h21 : k ≠ 21) : (rdC B n C m x).1 k j = C.1 k j := by
  rw [rdC_1, if_neg (by omega), if_neg (by omega), if_neg (by omega), if_neg (by omega), if_neg (by omega), if_neg (by omega)]
  exact scS_f.1 k j (by omega) h4
set_option maxRecDepth 100000 in
theorem rdC_o2 {x : Int32} {k j : Nat} (h : k ≠ 1) (h5 : k ≠ 5) : (rdC B n C m x).2.1 k j = C.2.1 k j := scS_f.2.1 k j (by omega) h5
set_option maxRecDepth 100000 in
theorem rdC_o3 {x : Int32} {k j : Nat} (h : k ≠ 1) (h3 : k ≠ 3) (h20 : k ≠ 20) : (rdC B n C m x).2.2 k j = C.2.2 k j := vb_q (by omega) h3 h20
set_option maxRecDepth 100000 in
theorem KI_rd {x : Int32} (K : KI C t Ks W) : KI (rdC B n C m x) t Ks W := by
  obtain ⟨k1, k2, k3, k4, k5⟩ := K
  have fv : frVm (mBk Ks) t t := fun j z => ⟨bkO_h k1 j z, rfl⟩
  exact ⟨k1, KSc_g ⟨fun j => rdC_o (by omega) (by omega) (by omega) (by omega), fun k j h => rdC_o2 (by omega) (by omega), fun k j h => rdC_o3 (by omega) (by omega) (by omega)⟩ (tlK_e tlE_r) k2, KRo_g (fun k j h => rdC_o (by omega) (by omega) (by omega) (by omega)) (fun j => rdC_o2 (by omega) (by omega)) k3, KTx_g (fun j h => rdC_o (by omega) (by omega) (by omega) (by omega)) (fun j => rdC_o2 (by omega) (by omega)) k4, KAs_g (fun k j h => rdC_o3 (by omega) (by omega) (by omega)) fv k4.2.2.2.1 k5⟩
set_option maxRecDepth 100000 in
theorem KI_sa (K : KI C t Ks W) : KI (saC C) t Ks W := KI_c (fun k j _ _ h => by rw [sI_1, if_neg (by omega), sI_1, if_neg (by omega)]) (fun _ _ _ => rfl) rfl K
set_option maxRecDepth 100000 in
theorem tpK_sa (Tp : tpK C B n) : tpK (saC C) B n := Tp
set_option maxRecDepth 100000 in
theorem lo_rd {x : Int32} : loE C (rdC B n (saC C) m x) := loE_k (fun k j hk => (rdC_o (by omega) (by omega) (by omega) (by omega)).trans (by rw [sI_1, if_neg (by omega), sI_1, if_neg (by omega)])) (fun k j hk => rdC_o2 (by omega) (by omega)) (fun k j hk => rdC_o3 (by omega) (by omega) (by omega))
/-! what a reading ends with, as a state: well, or refused -/
def qP {α : Type} (B : Nat → Nat) (n m : Nat) (C : co_T) (mt : ab_H) (r : pz_T (α × Nat × Option Nat)) (Q : α → co_T → ab_H → Prop) : Option Value → co_T → ab_H → Nat → Prop := fun v C' mt' q => none = v ∧ ∃ x a i' nl', (r = .inr (a, i', nl') ∧ Q a C' mt' ∧ kd B n i' = 2 ∧ i' ≤ m) ∧ (frD (rdC B n C m x) C' ∧ C'.2.2 20 3 = some (kd B n 0)) ∧ tlE mt mt' ∧ mt'.length ≤ mt.length + 4 * m ∧ q ≤ 25 * m
def qX {α : Type} (B : Nat → Nat) (n m : Nat) (C : co_T) (mt : ab_H) (r : pz_T (α × Nat × Option Nat)) : Nat → co_T → ab_H → Nat → Prop := fun a C' mt' q => ∃ x c j t1 s, ((r = .inl (c, j) ∨ (∃ a nl', r = .inr (a, j, nl') ∧ kd B n j ≠ 2 ∧ c = 2)) ∧ flt B n C' c j) ∧ frD (rdC B n C m x) C' ∧ tlE mt t1 ∧ t1.length ≤ mt.length + 4 * m ∧ s ≤ 25 * m ∧ mt' = t1 ++ [.inr (12, [])] ∧ 241 + t1.length = a ∧ s + 6 = q
set_option maxRecDepth 100000 in
theorem fnW_r {α : Type} {r : pz_T (α × Nat × Option Nat)} {f : α → xr_T} {c : Int32} {j : Nat} (h : r = .inl (c, j) ∨ (∃ a nl', r = .inr (a, j, nl') ∧ kd B n j ≠ 2 ∧ c = 2)) : fnW W B n r f = refW W B n (c, j) := by
  rcases h with h | ⟨a, nl, h, h2, rfl⟩
  · rw [h]; rfl
  · rw [h]
    exact if_neg h2
set_option maxRecDepth 100000 in
theorem fnW_s {α : Type} {r : pz_T (α × Nat × Option Nat)} {f : α → xr_T} {a : α} {i' : Nat} {nl' : Option Nat} (h : r = .inr (a, i', nl')) (h2 : kd B n i' = 2) : fnW W B n r f = f a := by
  rw [h]
  exact if_pos h2
set_option maxRecDepth 100000 in
theorem bp_j {α : Type} {r : pz_T (α × Nat × Option Nat)} {c : Int32} {j : Nat} (hb : bp m r) (hr : ∀ x, r = .inr x → x.2.1 ≤ m) (h : r = .inl (c, j) ∨ (∃ a nl', r = .inr (a, j, nl') ∧ kd B n j ≠ 2 ∧ c = 2)) : j ≤ m := by
  rcases h with h | ⟨a, nl, h, _⟩
  · exact hb c j h
  · exact hr _ h
/-! a refusal, behind undo -/
set_option maxRecDepth 100000 in
theorem kRef {C0 : co_T} {c : Int32} {j : Nat} {z2 : Int32} {t0 : ab_H} {sl0 : Nat} (hlo : loE C0 C) (K : KI C t Ks W) (F : flt B n C c j) (h7 : C.1 24 7 = 0 ∧ C.1 24 8 = 0) (hl : t.length ≤ t0.length + 4 * m + 7) (hs : sl ≤ sl0 + 25 * m + 1720) : Wd L xs (d + 1) y_9 (53, [(3, .int (nI 1)), (2, .int z2), (1, .int (nI (totF (wR W) 6 0 0))), (0, .ref 100)], [], MH C t, sl) (PRk m C0 t0 W sl0 (refW W B n (c, j))) nX :=
  kEnd (r := refW W B n (c, j)) hlo (by show 1 < 8; omega) K ⟨fun _ => ⟨F.1, F.2⟩, fun e => (by cases e), fun e => (by cases e), h7.1, h7.2⟩ hl hs rfl
set_option maxRecDepth 100000 in
theorem kRun {α : Type} {r : pz_T (α × Nat × Option Nat)} {Q : α → co_T → ab_H → Prop} {f : α → xr_T} (hA : wAll W) (K : KI C t Ks W) (Tp : tpK C B n) (hm : lst B n m) (hb : bp m r) (hr : ∀ x, r = .inr x → x.2.1 ≤ m)
    (rd : ∀ x P X, lfK x (if isN (kd B n 0) = true then some (400 - ndS (wU W) (wG W)) else none) → KI (rdC B n (saC C) m x) t Ks W → tkS B n m (rdC B n (saC C) m x) 0 → RX (rdC B n (saC C) m x) (wT W).1 none none false → ctV B n m (rdC B n (saC C) m x) (msk (mBk Ks) t) 0 r Q P X → Wd L xs (d + 1 + 63) y_12 (60, [(0, .ref 120)], [], MH (rdC B n (saC C) m x) (msk (mBk Ks) t), 0) P X)
    (he : ∀ a, (f a).1 < 8)
    (ex : ∀ a i' nl' C' u, r = .inr (a, i', nl') → Q a C' (msk (mBk Ks) u) → KI C' u Ks W → C'.2.2 20 3 = some (kd B n 0) → C'.1 20 10 = -1 → (C'.1 24 7 = 0 ∧ C'.1 24 8 = 0) → Wd L xs (d + 64) y_100 (0, [(0, .ref 100)], [], MH C' u, 0) (PXk C' u (f a)) nX) :
    Wd L xs (d + 65) y_9 (0, [(0, .ref 100)], [], MH C t, sl) (PRk m C t W sl (fnW W B n r f)) nX := by
  have K0 := KI_sa K
  have hM : ∀ j, mBk Ks j = true → j < t.length := bkO_h K.1
  have w0 := m_10 (L := L) (xs := xs) (d := d + 64) (sl := 0) (t := t) (C := C) (rs := wR W) (fun b hb => (K.2.2.1.1 b hb).2.1)
  have wr : Wd L xs (d + 1 + 63) y_12 (0, [(0, .ref 120)], [], MH (saC C) (msk (mBk Ks) t), 0) (fun v h q => ∃ C' t', MH C' t' = h ∧ qP B n m (saC C) (msk (mBk Ks) t) r Q v C' t' q) (fun a h q => ∃ C' t', MH C' t' = h ∧ qX B n m (saC C) (msk (mBk Ks) t) r a C' t' q) := by
    refine d12s (tpK_sa Tp) hm K0.2.1.1 K0.2.1.2.1 (fun i g hg => (hA.1.2.1 i g hg).2.2.2) hA.1.2.2.1 (fun x hx _ => ?_)
    refine rd x _ _ hx (KI_rd K0) (rdC_S (tpK_sa Tp) hm) (rdC_R K0.2.1.1) ⟨fun a i' nl' C' t' sl' e1 e2 e3 e4 e5 e6 e7 e8 => ?_, fun c j C' t' sl' a h q e1 e2 e3 e4 e5 e6 e7 => ?_⟩
    · have hi := hr _ e1
      have hi : i' ≤ m := hi
      exact ⟨C', t', rfl, rfl, x, a, i', nl', ⟨e1, e2, e8, hi⟩, ⟨e4.1, e4.2.trans vb_3⟩, e5, by omega, by omega⟩
    · have hj := bp_j hb hr e1
      obtain ⟨f1, f2, f3⟩ := e7
      exact ⟨C', _, f2, x, c, j, t', sl', ⟨e1, e2⟩, e3, e4, by omega, by omega, rfl, f1, f3⟩
  refine e_9 (d := d + 64) w0 (W_mk (M := mBk Ks) wr hM (fun v h q hq => hq) (fun a h q hq => hq)) (fun v h q hq => ?_) (fun a h q hq => ?_)
  · obtain ⟨C2, u2, rfl, ⟨hv, x, a, i', nl', ⟨e1, e2, e3, e4⟩, ⟨e5, e6⟩, e7, e8, e9⟩, fv⟩ := hq
    refine ⟨hv, C2, u2, rfl, ?_⟩
    have K2 := KI_D e5 e7 fv (KI_rd K0)
    have h10 : C2.1 20 10 = -1 := (e5.1 20 10 (by omega) (by omega) (by omega) (by omega) (by omega)).trans (by rw [rdC_1, if_neg (by omega), if_neg (by omega), if_neg (by omega), if_neg (by omega), if_pos ⟨rfl, rfl⟩])
    have h24 : ∀ j, C2.1 24 j = (saC C).1 24 j := fun j => (e5.1 24 j (by omega) (by omega) (by omega) (by omega) (by omega)).trans (rdC_o (by omega) (by omega) (by omega) (by omega))
    have wx := ex a i' nl' C2 u2 e1 e2 K2 e6 h10 ⟨(h24 7).trans rfl, (h24 8).trans rfl⟩
    rw [fnW_s e1 e3]
    rw [msk_l, msk_l] at e8
    refine c_9 (d := d + 64) wx (fun v h q hq => ?_)
    obtain ⟨rfl, ⟨C3, t3, Ks3, ⟨K3, v3, l3, o3⟩, rfl⟩, q3⟩ := hq
    exact ⟨nI (f a).1, C3, t3, rfl, rfl, kEnd (loE_t lo_rd (loE_t (loE_D e5) o3)) (he a) K3 v3 (by omega) (by omega) rfl⟩
  · obtain ⟨C2, u2, rfl, ⟨x, c, j, t1, s, ⟨e1, e2⟩, e5, e7, e8, e9, e10, rfl, e12⟩, fv⟩ := hq
    have hl1 : t.length ≤ t1.length := by
      have := tlE_len e7
      rwa [msk_l] at this
    obtain ⟨u1, rfl, e13⟩ := msk_sp hM hl1 e10
    have l1 : u1.length = t1.length := by rw [← e13, msk_l]
    refine ⟨C2, u1, s, ⟨by rw [l1], rfl, e12⟩, ?_⟩
    have K2 := KI_D e5 (by rw [e10]; exact fun k z hz => tl_app (e7 k z hz)) fv (KI_rd K0)
    have h10 : C2.1 20 10 = -1 := (e5.1 20 10 (by omega) (by omega) (by omega) (by omega) (by omega)).trans (by rw [rdC_1, if_neg (by omega), if_neg (by omega), if_neg (by omega), if_neg (by omega), if_pos ⟨rfl, rfl⟩])
    have h24 : ∀ j, C2.1 24 j = (saC C).1 24 j := fun j => (e5.1 24 j (by omega) (by omega) (by omega) (by omega) (by omega)).trans (rdC_o (by omega) (by omega) (by omega) (by omega))
    rw [fnW_r e1]
    rw [msk_l] at e8
    refine u_9 (d := d + 64) (m_97n (d := d + 62) (sl := 0) h10) (fun v h q hq => ?_)
    obtain ⟨rfl, rfl, rfl⟩ := hq
    refine ⟨rfl, C2, _, rfl, kRef (loE_t lo_rd (loE_D e5)) K2 e2 ⟨(h24 7).trans rfl, (h24 8).trans rfl⟩ ?_ (by omega)⟩
    rw [List.length_append, List.length_cons, List.length_nil]
    omega
end KRM
