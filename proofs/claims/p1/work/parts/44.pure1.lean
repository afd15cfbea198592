/-! A SCRIPT OF AT MOST ONE CALL: the law answers 1 -/
section PU1
variable {L : Nat} {xs : Nat → Int32}
def kfin (k : Option ev_K) : Bool := match k with
  | some k => decide (k.1 = 769) && leq aeq k.2.1 (al0 0) && leq veq k.2.2.1 [] && decide (k.2.2.2.1.length ≤ 600002) && decide (k.2.2.2.2 ≤ 7293034)
  | none => false
set_option maxRecDepth 100000 in
theorem kfin_s {k : Option ev_K} (h : kfin k = true) : ∃ H n, k = some (769, al0 0, [], H, n) ∧ H.length ≤ 600002 ∧ n ≤ 7293034 := by
  cases k with
  | none => cases h
  | some k =>
    obtain ⟨a, b, c, e, f⟩ := k
    simp only [kfin, Bool.and_eq_true, decide_eq_true_eq] at h
    obtain ⟨⟨⟨⟨h1, h2⟩, h3⟩, h4⟩, h5⟩ := h
    exact ⟨e, f, by rw [h1, leq_s aeq_s h2, leq_s (fun _ _ => veq_s) h3], h4, h5⟩
def kr1 : Option ev_K := ev_u 100000 769 2048 84000 law_y 50 (196, al0 0, [], kh kc0, 80247)
def kr2 : Option ev_K := ev_u 100000 769 2048 84000 law_y 50 (758, al0 0, [], kh kc0, 80247)
set_option maxRecDepth 100000 in
theorem kr_c : (kfin kr1 && kfin kr2) = true := by decide +kernel
set_option maxRecDepth 100000 in
theorem bd_l : bd 100 2048 84000 := ⟨by decide, by decide⟩
set_option maxRecDepth 100000 in
theorem lx_cl {pc : Nat} {xs : Nat → Int32} (h : kfin (ev_u 100000 769 2048 84000 law_y 50 (pc, al0 0, [], kh kc0, 80247)) = true) : ∃ r, Ez 4 xs 2048 84000 law_y (pc, al0 0, [], kh kc0, 80247) r ∧ wq lawP nX r := by
  obtain ⟨H, n, e, h1, h2⟩ := kfin_s h
  obtain ⟨r, hr, hq⟩ := lx_end (xs := xs) (d := 100) h1 h2 2048 84000 bd_l
  exact ⟨r, Ez_u 50 e hr, hq⟩
set_option maxRecDepth 100000 in
theorem and15 (x : Int32) : 0 ≤ (x &&& 15).toInt ∧ (x &&& 15).toInt < 16 := by
  have h1 : (x &&& 15).toBitVec.toNat ≤ 15 := by
    rw [Int32.toBitVec_and, BitVec.toNat_and]
    exact Nat.and_le_right
  have h2 : (x &&& 15).toInt = (x &&& 15).toBitVec.toInt := rfl
  rw [h2, BitVec.toInt_eq_toNat_of_lt (by omega)]
  omega
set_option maxRecDepth 100000 in
theorem i16 {x : Int32} (h0 : 0 ≤ x.toInt) (h1 : x.toInt < 16) : x = 0 ∨ x = 1 ∨ x = 2 ∨ x = 3 ∨ x = 4 ∨ x = 5 ∨ x = 6 ∨ x = 7 ∨ x = 8 ∨ x = 9 ∨ x = 10 ∨ x = 11 ∨ x = 12 ∨ x = 13 ∨ x = 14 ∨ x = 15 := by
  simp [← Int32.toInt_inj]
  omega
set_option maxRecDepth 100000 in
theorem lx_head {h : ab_H} {r : Outcome × ab_H × Nat} {z : Int32} (hz : xs 0 &&& 15 = z) (k : Ez 4 xs 2048 84000 law_y (39, al0 0, [.int z], h, 80247) r) : Ez 4 xs 2048 84000 law_y (23, al0 0, [], h, 80247) r := by
  subst hz
  refine z_p (pc1 := 25) rfl rfl ?_
  refine z_p (pc1 := 26) rfl rfl ?_
  refine z_m (pc1 := 27) (du := 0) rfl rfl h_lnS rfl ?_
  refine z_p (pc1 := 28) rfl rfl ?_
  refine z_p (pc1 := 29) rfl rfl ?_
  refine z_f (a := 775) (b := 32) rfl rfl rfl ?_
  refine z_p (pc1 := 33) rfl rfl ?_
  refine z_p (pc1 := 35) rfl rfl ?_
  refine z_m (pc1 := 36) (du := 0) rfl rfl (h_xs rfl) rfl ?_
  refine z_p (pc1 := 38) rfl rfl ?_
  refine z_p (pc1 := 39) rfl rfl ?_
  exact k
set_option maxRecDepth 100000 in
theorem one_call (hL : L ≤ 4) : ∃ r, Ez L xs 2048 84000 law_y (0, [(0, .ref 0)], [], [], 0) r ∧ wq lawP nX r := by
  obtain ⟨C, hC, h1, h2, h3, h4⟩ := hc0_m
  have hlen : (kh kc0).length ≤ 600002 := by
    rw [hC, MH_len]
    decide
  by_cases hl : L < 4
  · obtain ⟨r, hr, hq⟩ := lx_lt (xs := xs) (d := 100) hl hlen 2048 84000 bd_l
    exact ⟨r, z_start hr, hq⟩
  obtain rfl : L = 4 := by omega
  have F : frK C := ⟨fun i hi => h3 7 1 6 [] i rfl hi, fun i hi => h2 8 0 6 [] i rfl hi, fun i hi => h4 11 5 24 [] i rfl hi, fun i hi => h4 12 6 8 [] i rfl hi, (h1 6 12 rfl).1, (h1 6 7 rfl).1, (h1 1 4 rfl).1⟩
  have G : frM C := ⟨fun i hi => h2 78 3 6 [] i rfl hi, fun i hi => h2 83 3 24 [] i rfl hi, fun i hi => h2 95 3 8 [] i rfl hi, (h1 76 70 rfl).1, (h1 76 69 rfl).1, (h1 76 2 rfl).1⟩
  have hD : ∀ (x : Int32) (v : Int64), 0 ≤ x.toInt → x.toInt < 8 → (C.1 75 x.toNatClampNeg).toInt64 = (tld (sJ C 140 0 v) x).toInt64 := by
    intro x v hx0 hx1
    have e : ∀ i, i < 8 → C.1 75 i = sI0 75 i := fun i hi => h2 75 0 8 [] i rfl hi
    have f : ∀ j, (sJ C 140 0 v).1 76 j = 0 := fun j => (h1 76 j rfl).1
    rw [e _ (nat_of hx0 hx1)]
    rcases i8 hx0 hx1 with rfl | rfl | rfl | rfl | rfl | rfl | rfl | rfl <;> simp only [tld, f] <;> rfl
  obtain ⟨r, hr, hq⟩ : ∃ r, Ez 4 xs 2048 84000 law_y (39, al0 0, [.int (xs 0 &&& 15)], kh kc0, 80247) r ∧ wq lawP nX r := by
    generalize hz : xs 0 &&& 15 = z
    have hb := and15 (xs 0)
    rw [hz] at hb
    have go : ∀ pc, Wd 4 xs 100 y_296 (pc, al0 0, [], MH C [], 80247) lawP nX → ∃ r, Ez 4 xs 2048 84000 law_y (pc, al0 0, [], kh kc0, 80247) r ∧ wq lawP nX r := by
      intro pc w
      rw [hC]
      exact w 2048 84000 bd_l
    have c := kr_c
    rw [Bool.and_eq_true] at c
    have st : ∀ (z : Int32) (pc : Nat), ab_p law_y.1.2.2.1 (.tableswitch 730 0 10 #[57, 157, 170, 226, 282, 382, 449, 528, 596, 663, 719]) 57 39 (al0 0) [.int z] = some (pc, al0 0, []) → (∃ r, Ez 4 xs 2048 84000 law_y (pc, al0 0, [], kh kc0, 80247) r ∧ wq lawP nX r) → ∃ r, Ez 4 xs 2048 84000 law_y (39, al0 0, [.int z], kh kc0, 80247) r ∧ wq lawP nX r := by
      rintro z pc e ⟨r, hr, hq⟩
      exact ⟨r, z_p rfl e hr, hq⟩
    have dflt : ∃ r, Ez 4 xs 2048 84000 law_y (769, al0 0, [], kh kc0, 80247) r ∧ wq lawP nX r := lx_end (xs := xs) (d := 100) hlen (by decide) 2048 84000 bd_l
    rcases i16 hb.1 hb.2 with rfl | rfl | rfl | rfl | rfl | rfl | rfl | rfl | rfl | rfl | rfl | rfl | rfl | rfl | rfl | rfl
    · exact st _ 96 rfl (go _ (lc_0 F G))
    · exact st _ 196 rfl (lx_cl c.1)
    · exact st _ 209 rfl (go _ (lc_2 hD))
    · exact st _ 265 rfl (go _ (lc_3 F G))
    · exact st _ 321 rfl (go _ (lc_4 F G))
    · exact st _ 421 rfl (go _ (lc_5 F G))
    · exact st _ 488 rfl (go _ (lc_6 F G))
    · exact st _ 567 rfl (go _ (lc_7 F G))
    · exact st _ 635 rfl (go _ (lc_8 F G))
    · exact st _ 702 rfl (go _ (lc_9 F G))
    · exact st _ 758 rfl (lx_cl c.2)
    · exact st _ 769 rfl dflt
    · exact st _ 769 rfl dflt
    · exact st _ 769 rfl dflt
    · exact st _ 769 rfl dflt
    · exact st _ 769 rfl dflt
  exact ⟨r, z_start (lx_head rfl hr), hq⟩
end PU1
