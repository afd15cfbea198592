
/-! THE LAW: what holds between two calls -/
section LWI
variable {L : Nat} {xs : Nat → Int32} {B : Nat → Nat} {n m : Nat} {C C' C0 C1 : co_T} {t t0 t1 : ab_H} {d sl sl0 sl1 i i0 i1 j b e ti k k0 kc ks w c : Nat} {sc : sc_T} {row : Option Nat} {tg : Option (Nat × Nat)} {nl : Option Nat} {kd0 tb0 : Int32} {P : Option Value → ab_H → Nat → Prop} {X : Nat → ab_H → Nat → Prop} {cs : List Nat} {ss : List (Option (List op_T))} {E : fe_T} {tr : Nat → Option tr_T} {C2 : co_T} {t' u : ab_H} {Ks : List Nat} {W : wo_T} {an : Nat → Int32} {v : Int64}
def LI (C : co_T) (t : ab_H) (Ks : List Nat) (W : wo_T) (B : Nat → Nat) (n : Nat) (an : Nat → Int32) : Prop := KI C t Ks W ∧ MI C W ∧ wAll W ∧ (tpK C B n ∧ tpM C B n) ∧ (∀ x, x < 8 → C.1 75 x = an x) ∧ ∀ x, x < 8 → tld C (nI x) = an x
set_option maxRecDepth 100000 in
theorem tld_g {x : Int32} (h1 : ∀ j, j ≠ 0 → j ≠ 73 → C'.1 76 j = C.1 76 j) (h2 : C'.2.1 76 92 = C.2.1 76 92) : tld C' x = tld C x := by
  unfold tld
  rw [h1 102 (by omega) (by omega), h1 8 (by omega) (by omega), h1 9 (by omega) (by omega), h1 90 (by omega) (by omega), h1 91 (by omega) (by omega), h1 93 (by omega) (by omega), h1 95 (by omega) (by omega), h1 101 (by omega) (by omega), h2]
set_option maxRecDepth 100000 in
theorem LI_g (h1 : ∀ k j, ¬ (k = 76 ∧ (j = 0 ∨ j = 73)) → C'.1 k j = C.1 k j) (h2 : ∀ k j, k ≠ 140 → k ≠ 124 → C'.2.1 k j = C.2.1 k j) (h3 : C'.2.2 = C.2.2) (hl : tlK (msk (mBk Ks) t) (msk (mBk Ks) t')) (fv : frVm (mBk Ks) t t') (H : LI C t Ks W B n an) : LI C' t' Ks W B n an := by
  obtain ⟨⟨k1, k2, k3, k4, k5⟩, M, hA, ⟨p1, p2⟩, a1, a2⟩ := H
  refine ⟨⟨bkO_f k1 fv, KSc_g ⟨fun j => h1 8 j (by omega), fun k j h => h2 k j (by omega) (by omega), fun k j _ => by rw [h3]⟩ hl k2, KRo_g (fun k j h => h1 k j (by omega)) (fun j => h2 14 j (by omega) (by omega)) k3, KTx_g (fun j h => h1 6 j (by omega)) (fun j => h2 19 j (by omega) (by omega)) k4, KAs_g (fun k j _ => by rw [h3]) fv k4.2.2.2.1 k5⟩, ?_, hA, ⟨⟨(h1 1 4 (by omega)).trans p1.1, p1.2.1, fun i hi => ⟨(p1.2.2 i hi).1, (h1 2 i (by omega)).trans (p1.2.2 i hi).2⟩⟩, (h1 76 2 (by omega)).trans p2.1, p2.2.1, fun i hi => ⟨(p2.2.2 i hi).1, (h1 77 i (by omega)).trans (p2.2.2 i hi).2⟩⟩, fun x hx => (h1 75 x (by omega)).trans (a1 x hx), fun x hx => (tld_g (fun j a b => h1 76 j (by omega)) (h2 76 92 (by omega) (by omega))).trans (a2 x hx)⟩
  obtain ⟨z, hz⟩ := M.2.2.2.2
  exact ⟨MSc_O (C := C) ⟨fun k j a b c => h1 k j (by omega), fun k j a b => h2 k j (by omega) (by omega), h1 76 48 (by omega), h1 76 49 (by omega)⟩ M.1, MRo_c (C := C) (fun k j hk => h1 k j (by omega)) (fun j => h2 116 j (by omega) (by omega)) M.2.1, ⟨(h1 76 69 (by omega)).trans M.2.2.1.1, MWt_e (fun j hj => h1 91 j (by omega)) M.2.2.1.2.1, (h1 76 70 (by omega)).trans M.2.2.1.2.2.1, M.2.2.1.2.2.2.1, fun j hj => (h2 123 j (by omega) (by omega)).trans (M.2.2.1.2.2.2.2 j hj)⟩, ⟨fun z => RWs_c (fun i _ => h1 _ _ (by omega)) (fun i _ => h2 _ _ (by omega) (by omega)) (fun i _ => ⟨h1 _ _ (by omega), h1 _ _ (by omega)⟩) (M.2.2.2.1.1 z), fun j hj => RWs_c (fun i _ => h1 _ _ (by omega)) (fun i _ => h2 _ _ (by omega) (by omega)) (fun i _ => ⟨h1 _ _ (by omega), h1 _ _ (by omega)⟩) (M.2.2.2.1.2 j hj)⟩, z, (h1 76 74 (by omega)).trans hz⟩
set_option maxRecDepth 100000 in
theorem fv_r (H : KI C t Ks W) : frVm (mBk Ks) t t := fun j z => ⟨bkO_h H.1 j z, rfl⟩
set_option maxRecDepth 100000 in
theorem fv_a {q : ab_H} (H : KI C t Ks W) : frVm (mBk Ks) t (t ++ q) := fun j z => by
  have := bkO_h H.1 j z
  exact ⟨by rw [List.length_append]; omega, List.getElem?_append_left this⟩
set_option maxRecDepth 100000 in
theorem LI_J (H : LI C t Ks W B n an) : LI (sJ C 140 0 v) t Ks W B n an := LI_g (C := C) (fun _ _ _ => rfl) (fun k j a _ => by rw [sJ_2, if_neg (by omega)]) rfl (tlK_e tlE_r) (fv_r H.1) H
set_option maxRecDepth 100000 in
theorem LI_0 {x : Int32} (H : LI C t Ks W B n an) : LI (sI C 76 0 x) t Ks W B n an := LI_g (C := C) (fun k j h => by rw [sI_1, if_neg (by omega)]) (fun _ _ _ _ => rfl) rfl (tlK_e tlE_r) (fv_r H.1) H
set_option maxRecDepth 100000 in
theorem LI_a {q : ab_H} (H : LI C t Ks W B n an) : LI C (t ++ q) Ks W B n an := LI_g (C := C) (fun _ _ _ => rfl) (fun _ _ _ _ => rfl) rfl (by rw [msk_a H.1.1]; exact tlK_e tlE_a) (fv_a H.1) H
/-! how the law goes on behind a call -/
def LC (L : Nat) (xs : Nat → Int32) (d i : Nat) (P : Option Value → ab_H → Nat → Prop) (X : Nat → ab_H → Nat → Prop) (t : ab_H) (n sl : Nat) : Prop := ∀ C' t' Ks' W' B' n' an' s, LI C' t' Ks' W' B' n' an' → t'.length + 4 * n' ≤ t.length + 4 * n + 40 → s + 25 * n' ≤ sl + 25 * n + 2100 → Wd L xs d y_296 (769, al4 i, [], MH C' t', s) P X
set_option maxRecDepth 100000 in
theorem ob_2A {r : Int32} (hi : i + 4 ≤ L) (hL : L < 2147483648) (H : LI C t Ks W B n an) (kk : LC L xs (d + 1) i P X t n sl) (w1 : Wd L xs d y_165 (0, [(0, .ref 100), (1, .int (xs (i + 1))), (2, .ref 240)], [], MH C t, 0) (Rt (some (.int (nI 0))) (MH (sJ C 140 0 (r.toInt64)) t) 0) nX) (w2 : Wd L xs d y_287 (0, [(0, .ref 176), (1, .int (xs (i + 1)))], [], MH (sJ C 140 0 (r.toInt64)) t, 0) (Rt (some (.int r)) (MH (sI (sJ C 140 0 (r.toInt64)) 76 0 (nI 0)) t) 0) nX) : Wd L xs (d + 1) y_296 (209, al4 i, [], MH C t, sl) P X := by
  refine lw_2 hi hL w1 (fun v h q hq => ?_)
  obtain ⟨rfl, rfl, rfl⟩ := hq
  refine ⟨0, _, t, rfl, rfl, by omega, _, w2, fun v2 h2 q2 hq2 => ?_⟩
  obtain ⟨rfl, rfl, rfl⟩ := hq2
  exact ⟨r, _, t, rfl, rfl, rfl, fun _ => rfl, kk _ t Ks W B n an _ (LI_0 (LI_J H)) (by omega) (by omega)⟩
set_option maxRecDepth 100000 in
theorem ob_2B {r : Int32} {ci : Nat} (hi : i + 4 ≤ L) (hL : L < 2147483648) (H : LI C t Ks W B n an) (kk : LC L xs (d + 1) i P X t n sl) (hk : k < 8) (hk0 : 0 < k) (w1 : Wd L xs d y_165 (0, [(0, .ref 100), (1, .int (xs (i + 1))), (2, .ref 240)], [], MH C t, 0) (Rt (some (.int (nI k))) (MH C (t ++ [.inr (ci, [])])) 6) nX) (w2 : Wd L xs d y_287 (0, [(0, .ref 176), (1, .int (xs (i + 1)))], [], MH C (t ++ [.inr (ci, [])]), 0) (Rt (some (.int r)) (MH (sI C 76 0 (nI k)) (t ++ [.inr (ci, [])])) 0) nX) : Wd L xs (d + 1) y_296 (209, al4 i, [], MH C t, sl) P X := by
  refine lw_2 hi hL w1 (fun v h q hq => ?_)
  obtain ⟨rfl, rfl, rfl⟩ := hq
  refine ⟨k, C, _, rfl, rfl, hk, _, w2, fun v2 h2 q2 hq2 => ?_⟩
  obtain ⟨rfl, rfl, rfl⟩ := hq2
  exact ⟨r, _, _, rfl, rfl, rfl, fun z => by omega, kk _ _ Ks W B n an _ (LI_0 (LI_a H)) (by rw [List.length_append]; show t.length + 1 + _ ≤ _; omega) (by omega)⟩
set_option maxRecDepth 100000 in
theorem ob_3A {r : Int32} (hi : i + 4 ≤ L) (hL : L < 2147483648) (H : LI C t Ks W B n an) (kk : LC L xs (d + 1) i P X t n sl) (w1 : Wd L xs d y_167 (0, [(0, .ref 100), (1, .int (xs (i + 1))), (2, .ref 240)], [], MH C t, 0) (Rt (some (.int (nI 0))) (MH (sJ C 140 0 (r.toInt64)) t) 0) nX) (w2 : Wd L xs d y_288 (0, [(0, .ref 176), (1, .int (xs (i + 1)))], [], MH (sJ C 140 0 (r.toInt64)) t, 0) (Rt (some (.int r)) (MH (sI (sJ C 140 0 (r.toInt64)) 76 0 (nI 0)) t) 0) nX) : Wd L xs (d + 1) y_296 (265, al4 i, [], MH C t, sl) P X := by
  refine lw_3 hi hL w1 (fun v h q hq => ?_)
  obtain ⟨rfl, rfl, rfl⟩ := hq
  refine ⟨0, _, t, rfl, rfl, by omega, _, w2, fun v2 h2 q2 hq2 => ?_⟩
  obtain ⟨rfl, rfl, rfl⟩ := hq2
  exact ⟨r, _, t, rfl, rfl, rfl, fun _ => rfl, kk _ t Ks W B n an _ (LI_0 (LI_J H)) (by omega) (by omega)⟩
set_option maxRecDepth 100000 in
theorem ob_3B {r : Int32} {ci : Nat} (hi : i + 4 ≤ L) (hL : L < 2147483648) (H : LI C t Ks W B n an) (kk : LC L xs (d + 1) i P X t n sl) (hk : k < 8) (hk0 : 0 < k) (w1 : Wd L xs d y_167 (0, [(0, .ref 100), (1, .int (xs (i + 1))), (2, .ref 240)], [], MH C t, 0) (Rt (some (.int (nI k))) (MH C (t ++ [.inr (ci, [])])) 6) nX) (w2 : Wd L xs d y_288 (0, [(0, .ref 176), (1, .int (xs (i + 1)))], [], MH C (t ++ [.inr (ci, [])]), 0) (Rt (some (.int r)) (MH (sI C 76 0 (nI k)) (t ++ [.inr (ci, [])])) 0) nX) : Wd L xs (d + 1) y_296 (265, al4 i, [], MH C t, sl) P X := by
  refine lw_3 hi hL w1 (fun v h q hq => ?_)
  obtain ⟨rfl, rfl, rfl⟩ := hq
  refine ⟨k, C, _, rfl, rfl, hk, _, w2, fun v2 h2 q2 hq2 => ?_⟩
  obtain ⟨rfl, rfl, rfl⟩ := hq2
  exact ⟨r, _, _, rfl, rfl, rfl, fun z => by omega, kk _ _ Ks W B n an _ (LI_0 (LI_a H)) (by rw [List.length_append]; show t.length + 1 + _ ≤ _; omega) (by omega)⟩
set_option maxRecDepth 100000 in
theorem ob_4 (hi : i + 4 ≤ L) (hL : L < 2147483648) (H : LI C t Ks W B n an) (kk : LC L xs (d + 1) i P X t n sl) (w : ∀ a : Int64, (∃ r : Int32, Wd L xs d y_172 (0, [(0, .ref 100), (1, .int (xs (i + 1))), (2, .long a), (4, .ref 240)], [], MH C t, 0) (Rt (some (.int (nI 0))) (MH (sJ C 140 0 (r.toInt64)) t) 0) nX ∧ Wd L xs d y_289 (0, [(0, .ref 176), (1, .int (xs (i + 1))), (2, .long a)], [], MH (sJ C 140 0 (r.toInt64)) t, 0) (Rt (some (.int r)) (MH (sI (sJ C 140 0 (r.toInt64)) 76 0 (nI 0)) t) 0) nX) ∨ (∃ (k ci : Nat) (r : Int32), k < 8 ∧ 0 < k ∧ Wd L xs d y_172 (0, [(0, .ref 100), (1, .int (xs (i + 1))), (2, .long a), (4, .ref 240)], [], MH C t, 0) (Rt (some (.int (nI k))) (MH C (t ++ [.inr (ci, [])])) 6) nX ∧ Wd L xs d y_289 (0, [(0, .ref 176), (1, .int (xs (i + 1))), (2, .long a)], [], MH C (t ++ [.inr (ci, [])]), 0) (Rt (some (.int r)) (MH (sI C 76 0 (nI k)) (t ++ [.inr (ci, [])])) 0) nX)) : Wd L xs (d + 1) y_296 (321, al4 i, [], MH C t, sl) P X := by
  refine lw_4 (Pk := fun a v h q => (∃ r : Int32, some (.int (nI 0)) = v ∧ MH (sJ C 140 0 (r.toInt64)) t = h ∧ 0 = q ∧ Wd L xs d y_289 (0, [(0, .ref 176), (1, .int (xs (i + 1))), (2, .long a)], [], MH (sJ C 140 0 (r.toInt64)) t, 0) (Rt (some (.int r)) (MH (sI (sJ C 140 0 (r.toInt64)) 76 0 (nI 0)) t) 0) nX) ∨ (∃ (k ci : Nat) (r : Int32), k < 8 ∧ 0 < k ∧ some (.int (nI k)) = v ∧ MH C (t ++ [.inr (ci, [])]) = h ∧ 6 = q ∧ Wd L xs d y_289 (0, [(0, .ref 176), (1, .int (xs (i + 1))), (2, .long a)], [], MH C (t ++ [.inr (ci, [])]), 0) (Rt (some (.int r)) (MH (sI C 76 0 (nI k)) (t ++ [.inr (ci, [])])) 0) nX)) hi hL (fun a => ?_) (fun a v h q hq => ?_)
  · rcases w a with ⟨r, w1, w2⟩ | ⟨k, ci, r, h1, h2, w1, w2⟩
    · exact Wd_q w1 (fun v h q hq => Or.inl ⟨r, hq.1, hq.2.1, hq.2.2, w2⟩) (fun _ _ _ e => e)
    · exact Wd_q w1 (fun v h q hq => Or.inr ⟨k, ci, r, h1, h2, hq.1, hq.2.1, hq.2.2, w2⟩) (fun _ _ _ e => e)
  · rcases hq with ⟨r, rfl, rfl, rfl, w2⟩ | ⟨k, ci, r, h1, h2, rfl, rfl, rfl, w2⟩
    · refine ⟨0, _, t, rfl, rfl, by omega, _, w2, fun v2 h2 q2 hq2 => ?_⟩
      obtain ⟨rfl, rfl, rfl⟩ := hq2
      exact ⟨r, _, t, rfl, rfl, rfl, fun _ => rfl, kk _ t Ks W B n an _ (LI_0 (LI_J H)) (by omega) (by omega)⟩
    · refine ⟨k, C, _, rfl, rfl, h1, _, w2, fun v2 h2 q2 hq2 => ?_⟩
      obtain ⟨rfl, rfl, rfl⟩ := hq2
      exact ⟨r, _, _, rfl, rfl, rfl, fun z => by omega, kk _ _ Ks W B n an _ (LI_0 (LI_a H)) (by rw [List.length_append]; show t.length + 1 + _ ≤ _; omega) (by omega)⟩
set_option maxRecDepth 100000 in
theorem ob_5A {r : Int64} (hi : i + 4 ≤ L) (hL : L < 2147483648) (H : LI C t Ks W B n an) (kk : LC L xs (d + 1) i P X t n sl) (w1 : Wd L xs d y_174 (0, [(0, .ref 100), (1, .int (xs (i + 1))), (2, .int (xs (i + 2))), (3, .ref 240)], [], MH C t, 0) (Rt (some (.int (nI 0))) (MH (sJ C 140 0 (r)) t) 0) nX) (w2 : Wd L xs d y_290 (0, [(0, .ref 176), (1, .int (xs (i + 1))), (2, .int (xs (i + 2)))], [], MH (sJ C 140 0 (r)) t, 0) (Rt (some (.long r)) (MH (sI (sJ C 140 0 (r)) 76 0 (nI 0)) t) 0) nX) : Wd L xs (d + 1) y_296 (421, al4 i, [], MH C t, sl) P X := by
  refine lw_5 hi hL w1 (fun v h q hq => ?_)
  obtain ⟨rfl, rfl, rfl⟩ := hq
  refine ⟨0, _, t, rfl, rfl, by omega, _, w2, fun v2 h2 q2 hq2 => ?_⟩
  obtain ⟨rfl, rfl, rfl⟩ := hq2
  exact ⟨r, _, t, rfl, rfl, rfl, fun _ => rfl, kk _ t Ks W B n an _ (LI_0 (LI_J H)) (by omega) (by omega)⟩
set_option maxRecDepth 100000 in
theorem ob_5B {r : Int64} {ci : Nat} (hi : i + 4 ≤ L) (hL : L < 2147483648) (H : LI C t Ks W B n an) (kk : LC L xs (d + 1) i P X t n sl) (hk : k < 8) (hk0 : 0 < k) (w1 : Wd L xs d y_174 (0, [(0, .ref 100), (1, .int (xs (i + 1))), (2, .int (xs (i + 2))), (3, .ref 240)], [], MH C t, 0) (Rt (some (.int (nI k))) (MH C (t ++ [.inr (ci, [])])) 6) nX) (w2 : Wd L xs d y_290 (0, [(0, .ref 176), (1, .int (xs (i + 1))), (2, .int (xs (i + 2)))], [], MH C (t ++ [.inr (ci, [])]), 0) (Rt (some (.long r)) (MH (sI C 76 0 (nI k)) (t ++ [.inr (ci, [])])) 0) nX) : Wd L xs (d + 1) y_296 (421, al4 i, [], MH C t, sl) P X := by
  refine lw_5 hi hL w1 (fun v h q hq => ?_)
  obtain ⟨rfl, rfl, rfl⟩ := hq
  refine ⟨k, C, _, rfl, rfl, hk, _, w2, fun v2 h2 q2 hq2 => ?_⟩
  obtain ⟨rfl, rfl, rfl⟩ := hq2
  exact ⟨r, _, _, rfl, rfl, rfl, fun z => by omega, kk _ _ Ks W B n an _ (LI_0 (LI_a H)) (by rw [List.length_append]; show t.length + 1 + _ ≤ _; omega) (by omega)⟩
set_option maxRecDepth 100000 in
theorem ob_6A {r : Int64} (hi : i + 4 ≤ L) (hL : L < 2147483648) (H : LI C t Ks W B n an) (kk : LC L xs (d + 1) i P X t n sl) (w1 : Wd L xs d y_176 (0, [(0, .ref 100), (1, .int (xs (i + 1))), (2, .int (xs (i + 2))), (3, .int (xs (i + 3))), (4, .ref 240)], [], MH C t, 0) (Rt (some (.int (nI 0))) (MH (sJ C 140 0 (r)) t) 0) nX) (w2 : Wd L xs d y_291 (0, [(0, .ref 176), (1, .int (xs (i + 1))), (2, .int (xs (i + 2))), (3, .int (xs (i + 3)))], [], MH (sJ C 140 0 (r)) t, 0) (Rt (some (.long r)) (MH (sI (sJ C 140 0 (r)) 76 0 (nI 0)) t) 0) nX) : Wd L xs (d + 1) y_296 (488, al4 i, [], MH C t, sl) P X := by
  refine lw_6 hi hL w1 (fun v h q hq => ?_)
  obtain ⟨rfl, rfl, rfl⟩ := hq
  refine ⟨0, _, t, rfl, rfl, by omega, _, w2, fun v2 h2 q2 hq2 => ?_⟩
  obtain ⟨rfl, rfl, rfl⟩ := hq2
  exact ⟨r, _, t, rfl, rfl, rfl, fun _ => rfl, kk _ t Ks W B n an _ (LI_0 (LI_J H)) (by omega) (by omega)⟩
set_option maxRecDepth 100000 in
theorem ob_6B {r : Int64} {ci : Nat} (hi : i + 4 ≤ L) (hL : L < 2147483648) (H : LI C t Ks W B n an) (kk : LC L xs (d + 1) i P X t n sl) (hk : k < 8) (hk0 : 0 < k) (w1 : Wd L xs d y_176 (0, [(0, .ref 100), (1, .int (xs (i + 1))), (2, .int (xs (i + 2))), (3, .int (xs (i + 3))), (4, .ref 240)], [], MH C t, 0) (Rt (some (.int (nI k))) (MH C (t ++ [.inr (ci, [])])) 6) nX) (w2 : Wd L xs d y_291 (0, [(0, .ref 176), (1, .int (xs (i + 1))), (2, .int (xs (i + 2))), (3, .int (xs (i + 3)))], [], MH C (t ++ [.inr (ci, [])]), 0) (Rt (some (.long r)) (MH (sI C 76 0 (nI k)) (t ++ [.inr (ci, [])])) 0) nX) : Wd L xs (d + 1) y_296 (488, al4 i, [], MH C t, sl) P X := by
  refine lw_6 hi hL w1 (fun v h q hq => ?_)
  obtain ⟨rfl, rfl, rfl⟩ := hq
  refine ⟨k, C, _, rfl, rfl, hk, _, w2, fun v2 h2 q2 hq2 => ?_⟩
  obtain ⟨rfl, rfl, rfl⟩ := hq2
  exact ⟨r, _, _, rfl, rfl, rfl, fun z => by omega, kk _ _ Ks W B n an _ (LI_0 (LI_a H)) (by rw [List.length_append]; show t.length + 1 + _ ≤ _; omega) (by omega)⟩
set_option maxRecDepth 100000 in
theorem ob_7A {r : Int32} (hi : i + 4 ≤ L) (hL : L < 2147483648) (H : LI C t Ks W B n an) (kk : LC L xs (d + 1) i P X t n sl) (w1 : Wd L xs d y_178 (0, [(0, .ref 100), (1, .int (xs (i + 1))), (2, .int (xs (i + 2))), (3, .ref 240)], [], MH C t, 0) (Rt (some (.int (nI 0))) (MH (sJ C 140 0 (r.toInt64)) t) 0) nX) (w2 : Wd L xs d y_292 (0, [(0, .ref 176), (1, .int (xs (i + 1))), (2, .int (xs (i + 2)))], [], MH (sJ C 140 0 (r.toInt64)) t, 0) (Rt (some (.int r)) (MH (sI (sJ C 140 0 (r.toInt64)) 76 0 (nI 0)) t) 0) nX) : Wd L xs (d + 1) y_296 (567, al4 i, [], MH C t, sl) P X := by
  refine lw_7 hi hL w1 (fun v h q hq => ?_)
  obtain ⟨rfl, rfl, rfl⟩ := hq
  refine ⟨0, _, t, rfl, rfl, by omega, _, w2, fun v2 h2 q2 hq2 => ?_⟩
  obtain ⟨rfl, rfl, rfl⟩ := hq2
  exact ⟨r, _, t, rfl, rfl, rfl, fun _ => rfl, kk _ t Ks W B n an _ (LI_0 (LI_J H)) (by omega) (by omega)⟩
set_option maxRecDepth 100000 in
theorem ob_7B {r : Int32} {ci : Nat} (hi : i + 4 ≤ L) (hL : L < 2147483648) (H : LI C t Ks W B n an) (kk : LC L xs (d + 1) i P X t n sl) (hk : k < 8) (hk0 : 0 < k) (w1 : Wd L xs d y_178 (0, [(0, .ref 100), (1, .int (xs (i + 1))), (2, .int (xs (i + 2))), (3, .ref 240)], [], MH C t, 0) (Rt (some (.int (nI k))) (MH C (t ++ [.inr (ci, [])])) 6) nX) (w2 : Wd L xs d y_292 (0, [(0, .ref 176), (1, .int (xs (i + 1))), (2, .int (xs (i + 2)))], [], MH C (t ++ [.inr (ci, [])]), 0) (Rt (some (.int r)) (MH (sI C 76 0 (nI k)) (t ++ [.inr (ci, [])])) 0) nX) : Wd L xs (d + 1) y_296 (567, al4 i, [], MH C t, sl) P X := by
  refine lw_7 hi hL w1 (fun v h q hq => ?_)
  obtain ⟨rfl, rfl, rfl⟩ := hq
  refine ⟨k, C, _, rfl, rfl, hk, _, w2, fun v2 h2 q2 hq2 => ?_⟩
  obtain ⟨rfl, rfl, rfl⟩ := hq2
  exact ⟨r, _, _, rfl, rfl, rfl, fun z => by omega, kk _ _ Ks W B n an _ (LI_0 (LI_a H)) (by rw [List.length_append]; show t.length + 1 + _ ≤ _; omega) (by omega)⟩
set_option maxRecDepth 100000 in
theorem ob_8A {r : Int64} (hi : i + 4 ≤ L) (hL : L < 2147483648) (H : LI C t Ks W B n an) (kk : LC L xs (d + 1) i P X t n sl) (w1 : Wd L xs d y_181 (0, [(0, .ref 100), (1, .int (xs (i + 1))), (2, .int (xs (i + 2))), (3, .ref 240)], [], MH C t, 0) (Rt (some (.int (nI 0))) (MH (sJ C 140 0 (r)) t) 0) nX) (w2 : Wd L xs d y_293 (0, [(0, .ref 176), (1, .int (xs (i + 1))), (2, .int (xs (i + 2)))], [], MH (sJ C 140 0 (r)) t, 0) (Rt (some (.long r)) (MH (sI (sJ C 140 0 (r)) 76 0 (nI 0)) t) 0) nX) : Wd L xs (d + 1) y_296 (635, al4 i, [], MH C t, sl) P X := by
  refine lw_8 hi hL w1 (fun v h q hq => ?_)
  obtain ⟨rfl, rfl, rfl⟩ := hq
  refine ⟨0, _, t, rfl, rfl, by omega, _, w2, fun v2 h2 q2 hq2 => ?_⟩
  obtain ⟨rfl, rfl, rfl⟩ := hq2
  exact ⟨r, _, t, rfl, rfl, rfl, fun _ => rfl, kk _ t Ks W B n an _ (LI_0 (LI_J H)) (by omega) (by omega)⟩
set_option maxRecDepth 100000 in
theorem ob_8B {r : Int64} {ci : Nat} (hi : i + 4 ≤ L) (hL : L < 2147483648) (H : LI C t Ks W B n an) (kk : LC L xs (d + 1) i P X t n sl) (hk : k < 8) (hk0 : 0 < k) (w1 : Wd L xs d y_181 (0, [(0, .ref 100), (1, .int (xs (i + 1))), (2, .int (xs (i + 2))), (3, .ref 240)], [], MH C t, 0) (Rt (some (.int (nI k))) (MH C (t ++ [.inr (ci, [])])) 6) nX) (w2 : Wd L xs d y_293 (0, [(0, .ref 176), (1, .int (xs (i + 1))), (2, .int (xs (i + 2)))], [], MH C (t ++ [.inr (ci, [])]), 0) (Rt (some (.long r)) (MH (sI C 76 0 (nI k)) (t ++ [.inr (ci, [])])) 0) nX) : Wd L xs (d + 1) y_296 (635, al4 i, [], MH C t, sl) P X := by
  refine lw_8 hi hL w1 (fun v h q hq => ?_)
  obtain ⟨rfl, rfl, rfl⟩ := hq
  refine ⟨k, C, _, rfl, rfl, hk, _, w2, fun v2 h2 q2 hq2 => ?_⟩
  obtain ⟨rfl, rfl, rfl⟩ := hq2
  exact ⟨r, _, _, rfl, rfl, rfl, fun z => by omega, kk _ _ Ks W B n an _ (LI_0 (LI_a H)) (by rw [List.length_append]; show t.length + 1 + _ ≤ _; omega) (by omega)⟩
set_option maxRecDepth 100000 in
theorem ob_9B {r : Int32} {ci : Nat} (hi : i + 4 ≤ L) (hL : L < 2147483648) (H : LI C t Ks W B n an) (kk : LC L xs (d + 1) i P X t n sl) (hk : k < 8) (hk0 : 0 < k) (w1 : Wd L xs d y_183 (0, [(0, .ref 100), (1, .int (xs (i + 1))), (2, .ref 240)], [], MH C t, 0) (Rt (some (.int (nI k))) (MH C (t ++ [.inr (ci, [])])) 6) nX) (w2 : Wd L xs d y_294 (0, [(0, .ref 176), (1, .int (xs (i + 1)))], [], MH C (t ++ [.inr (ci, [])]), 0) (Rt (some (.int r)) (MH (sI C 76 0 (nI k)) (t ++ [.inr (ci, [])])) 0) nX) : Wd L xs (d + 1) y_296 (702, al4 i, [], MH C t, sl) P X := by
  refine lw_9 hi hL w1 (fun v h q hq => ?_)
  obtain ⟨rfl, rfl, rfl⟩ := hq
  refine ⟨k, C, _, rfl, rfl, hk, _, w2, fun v2 h2 q2 hq2 => ?_⟩
  obtain ⟨rfl, rfl, rfl⟩ := hq2
  exact ⟨r, _, _, rfl, rfl, rfl, fun z => by omega, kk _ _ Ks W B n an _ (LI_0 (LI_a H)) (by rw [List.length_append]; show t.length + 1 + _ ≤ _; omega) (by omega)⟩
end LWI
