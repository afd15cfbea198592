
/-! THE LAW: call after call -/
section LWL
variable {L : Nat} {xs : Nat → Int32} {B : Nat → Nat} {n d s i c : Nat} {C : co_T} {t h : ab_H} {P : Option Value → ab_H → Nat → Prop} {X : Nat → ab_H → Nat → Prop}
set_option maxRecDepth 100000 in
theorem LI_S (h1 : ∀ k j, isob k = true → C.1 k j = 0 ∧ C.2.1 k j = 0 ∧ C.2.2 k j = none) (h2 : ∀ k ty n l i, SK[k]? = some (0, ty, n, l) → i < n → C.1 k i = sI0 k i) (h3 : ∀ k ty n l i, SK[k]? = some (1, ty, n, l) → i < n → C.2.1 k i = 0) (h4 : ∀ k ty n l i, SK[k]? = some (2, ty, n, l) → i < n → C.2.2 k i = sR0 k i) : LI C [] [] wZ (fun _ => 0) 0 (fun x => if x < 5 then -1 else 0) := by
  have f : ∀ j, C.1 76 j = 0 := fun j => (h1 76 j rfl).1
  have ha : ∀ q, q < 7 → asK C q = none := fun q hq => by
    unfold asK
    by_cases e : q = 0
    · rw [if_pos e]; exact (h1 6 9 rfl).2.2
    · rw [if_neg e]; exact h4 18 7 6 [] (q - 1) rfl (by omega)
  refine ⟨KI_Z ⟨fun k h => (by cases h), fun k k' h => (by cases h)⟩ (fun b hb => ⟨h3 7 1 6 [] b rfl hb, h2 8 0 6 [] b rfl hb, h2 16 0 6 [] b rfl hb, h2 17 0 6 [] b rfl hb⟩) (fun i hi => h4 11 5 24 [] i rfl hi) (fun i hi => h4 12 6 8 [] i rfl hi) (fun j hj => ⟨?_, ?_, ?_⟩) ⟨(h1 6 7 rfl).1, (h1 6 8 rfl).1, (h1 6 12 rfl).1⟩ ⟨fun q hq => Or.inl (ha q hq), fun q q' k hq hq' e1 e2 => ?_⟩, MI_Z (fun b hb => ⟨h2 78 3 6 [] b rfl hb, h2 117 0 6 [] b rfl hb, h2 118 0 6 [] b rfl hb⟩) (fun i hi => h2 83 3 24 [] i rfl hi) (fun i hi => Or.inl (h2 91 3 24 [] i rfl hi)) (fun i hi => h2 95 3 8 [] i rfl hi) ⟨Or.inl (f 48), Or.inl (f 49)⟩ (f 69) (f 70) ⟨false, f 74⟩, wAll_Z, ⟨⟨(h1 1 4 rfl).1, by omega, fun i hi => by omega⟩, f 2, by omega, fun i hi => by omega⟩, fun x hx => h2 75 0 8 [] x rfl hx, fun x hx => ?_⟩
  · rw [h4 30 9 14 [] j rfl hj]; show some (131 + j) = _; congr 1; omega
  · rw [h4 45 9 14 [] j rfl hj]; show some (146 + j) = _; congr 1; omega
  · rw [h4 60 10 14 [] j rfl hj]; show some (161 + j) = _; congr 1; omega
  · rw [ha q hq] at e1; cases e1
  · have h : x = 0 ∨ x = 1 ∨ x = 2 ∨ x = 3 ∨ x = 4 ∨ x = 5 ∨ x = 6 ∨ x = 7 := by omega
    rcases h with rfl | rfl | rfl | rfl | rfl | rfl | rfl | rfl <;> simp only [tld, f] <;> rfl
def lawQ : Option Value → ab_H → Nat → Prop := fun v h n => some (.int 1) = v ∧ h.length ≤ 601024 ∧ n ≤ 7293034
set_option maxRecDepth 100000 in
theorem w_and15 (x : Int32) : 0 ≤ (x &&& 15).toInt ∧ (x &&& 15).toInt < 16 := by
  have h1 : (x &&& 15).toBitVec.toNat ≤ 15 := by
    rw [Int32.toBitVec_and, BitVec.toNat_and]
    exact Nat.and_le_right
  have h2 : (x &&& 15).toInt = (x &&& 15).toBitVec.toInt := rfl
  rw [h2, BitVec.toInt_eq_toNat_of_lt (by omega)]
  omega
set_option maxRecDepth 100000 in
theorem w_i16 {x : Int32} (h0 : 0 ≤ x.toInt) (h1 : x.toInt < 16) : x = 0 ∨ x = 1 ∨ x = 2 ∨ x = 3 ∨ x = 4 ∨ x = 5 ∨ x = 6 ∨ x = 7 ∨ x = 8 ∨ x = 9 ∨ x = 10 ∨ x = 11 ∨ x = 12 ∨ x = 13 ∨ x = 14 ∨ x = 15 := by
  simp [← Int32.toInt_inj]
  omega
set_option maxRecDepth 100000 in
theorem lw_L4 (hL : L ≤ 2048) : (nI L - 4).toInt = (L : Int) - 4 := by
  rw [sub_int (by rw [nK_int (by omega)]; show _ ≤ (L : Int) - 4; omega) (by rw [nK_int (by omega)]; show (L : Int) - 4 < _; omega), nK_int (by omega)]
  rfl
set_option maxRecDepth 100000 in
theorem lw_ex (hL : L ≤ 2048) (hi : i ≤ 4000) (hc : ¬ (i + 4 ≤ L)) (hh : h.length ≤ 601024) (hs : s ≤ 7293034) : Wd L xs d y_296 (23, al4 i, [], h, s) lawQ nX := by
  refine w_p (pc1 := 25) rfl rfl ?_
  refine w_p (pc1 := 26) rfl rfl ?_
  refine w_m0 (pc1 := 27) rfl rfl (h_lnS) rfl ?_
  refine w_p (pc1 := 28) (st1 := .int 4 :: _) rfl rfl ?_
  refine w_p (pc1 := 29) rfl rfl ?_
  refine w_t (a := 775) (b := 32) (cb_gt_t (by rw [lw_L4 hL, nK_int (by omega)]; omega)) rfl rfl ?_
  refine w_p (pc1 := 776) (st1 := .int 1 :: _) rfl rfl ?_
  refine w_r rfl rfl rfl (fun _ _ => rfl) rfl ?_
  exact ⟨rfl, hh, hs⟩
set_option maxRecDepth 100000 in
theorem lw_hd {z : Int32} (hL : L ≤ 2048) (hc : i + 4 ≤ L) (hz : xs i &&& 15 = z) (k : Wd L xs d y_296 (39, al4 i, [.int z], h, s) P X) : Wd L xs d y_296 (23, al4 i, [], h, s) P X := by
  subst hz
  refine w_p (pc1 := 25) rfl rfl ?_
  refine w_p (pc1 := 26) rfl rfl ?_
  refine w_m0 (pc1 := 27) rfl rfl (h_lnS) rfl ?_
  refine w_p (pc1 := 28) (st1 := .int 4 :: _) rfl rfl ?_
  refine w_p (pc1 := 29) rfl rfl ?_
  refine w_f (a := 775) (b := 32) (cb_gt_f (by rw [lw_L4 hL, nK_int (by omega)]; omega)) rfl rfl ?_
  refine w_p (pc1 := 33) rfl rfl ?_
  refine w_p (pc1 := 35) rfl rfl ?_
  refine w_m0 (pc1 := 36) rfl rfl (n_xs (e := i) (by omega) (by omega)) rfl ?_
  refine w_p (pc1 := 38) (st1 := .int 15 :: _) rfl rfl ?_
  refine w_p (pc1 := 39) rfl rfl ?_
  exact k
set_option maxRecDepth 100000 in
theorem lw_nx (k : Wd L xs d y_296 (23, al4 (i + 4), [], h, s) P X) : Wd L xs d y_296 (769, al4 i, [], h, s) P X := by
  refine w_iinc (pc1 := 772) (u := nI i) (z := nI (i + 4)) (al1 := [(4, .int (nI (i + 4))), (3, .ref 240), (2, .ref 176), (1, .ref 100), (0, .ref 0)]) rfl rfl rfl (by rw [show (Int32.ofInt 4) = nI 4 from rfl]; exact nK_add) rfl rfl ?_
  refine w_p (pc1 := 23) rfl rfl ?_
  exact k
set_option maxRecDepth 100000 in
theorem law_lp (hL : L ≤ 2048) : ∀ (f c : Nat) (C : co_T) (t : ab_H) (Ks : List Nat) (W : wo_T) (B : Nat → Nat) (n : Nat) (an : Nat → Int32) (s : Nat), c + f = 513 → LI C t Ks W B n an → t.length + 4 * n ≤ 40 * c → s + 25 * n ≤ 80247 + 2100 * c → Wd L xs 100 y_296 (23, al4 (4 * c), [], MH C t, s) lawQ nX
  | 0, c, C, t, Ks, W, B, n, an, s, hf, H, ht, hs => lw_ex hL (by omega) (by omega) (by rw [MH_len]; omega) (by omega)
  | f + 1, c, C, t, Ks, W, B, n, an, s, hf, H, ht, hs => by
    by_cases hc : 4 * c + 4 ≤ L
    · have kk : LC L xs (34 + 66) (4 * c) lawQ nX t n s := fun C' t' Ks' W' B' n' an' s' H' ht' hs' => by
        refine lw_nx ?_
        have := law_lp hL f (c + 1) C' t' Ks' W' B' n' an' s' (by omega) H' (by omega) (by omega)
        rwa [show 4 * (c + 1) = 4 * c + 4 from by omega] at this
      have hL2 : L < 2147483648 := by omega
      have st : ∀ (z : Int32) (pc : Nat), xs (4 * c) &&& 15 = z → ab_p y_296.1.2.2.1 (.tableswitch 730 0 10 #[57, 157, 170, 226, 282, 382, 449, 528, 596, 663, 719]) 57 39 (al4 (4 * c)) [.int z] = some (pc, al4 (4 * c), []) → Wd L xs (34 + 66) y_296 (pc, al4 (4 * c), [], MH C t, s) lawQ nX → Wd L xs 100 y_296 (23, al4 (4 * c), [], MH C t, s) lawQ nX := fun z pc hz e w => lw_hd hL hc hz (w_p rfl e w)
      have hb := w_and15 (xs (4 * c))
      have dflt : Wd L xs (34 + 66) y_296 (769, al4 (4 * c), [], MH C t, s) lawQ nX := kk C t Ks W B n an s H (by omega) (by omega)
      rcases w_i16 hb.1 hb.2 with e | e | e | e | e | e | e | e | e | e | e | e | e | e | e | e
      · exact st _ 96 e rfl (la_0 (d := 34) hc hL2 H kk)
      · exact st _ 196 e rfl (la_1 (d := 34) H kk)
      · exact st _ 209 e rfl (la_2 (d := 34) hc hL2 H kk)
      · exact st _ 265 e rfl (la_3 (d := 34) hc hL2 H kk)
      · exact st _ 321 e rfl (la_4 (d := 34) hc hL2 H kk)
      · exact st _ 421 e rfl (la_5 (d := 34) hc hL2 H kk)
      · exact st _ 488 e rfl (la_6 (d := 34) hc hL2 H kk)
      · exact st _ 567 e rfl (la_7 (d := 34) hc hL2 H kk)
      · exact st _ 635 e rfl (la_8 (d := 34) hc hL2 H kk)
      · exact st _ 702 e rfl (la_9 (d := 34) hc hL2 H kk)
      · exact st _ 758 e rfl (la_10 (d := 34) H kk)
      · exact st _ 769 e rfl dflt
      · exact st _ 769 e rfl dflt
      · exact st _ 769 e rfl dflt
      · exact st _ 769 e rfl dflt
      · exact st _ 769 e rfl dflt
    · exact lw_ex hL (by omega) hc (by rw [MH_len]; omega) (by omega)
set_option maxRecDepth 100000 in
theorem bd_l : bd 100 2048 84000 := ⟨by decide, by decide⟩
set_option maxRecDepth 100000 in
theorem law_all (hL : L ≤ 2048) : ∃ r, Ez L xs 2048 84000 law_y (0, [(0, .ref 0)], [], [], 0) r ∧ wq lawQ nX r := by
  obtain ⟨C, hC, h1, h2, h3, h4⟩ := hc0_m
  have w := law_lp (xs := xs) hL 513 0 C [] [] wZ (fun _ => 0) 0 (fun x => if x < 5 then -1 else 0) 80247 (by omega) (LI_S h1 h2 h3 h4) (Nat.le_refl _) (by omega)
  rw [← hC] at w
  obtain ⟨r, hr, hq⟩ := w 2048 84000 bd_l
  exact ⟨r, z_start hr, hq⟩
end LWL
