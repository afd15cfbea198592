
/-! THE OTHER SIDE'S ENGINE: a change begins -/
def frH (F : Nat) (C C' : co_T) : Prop := (∀ k j, ¬ (k = 76 ∧ (j = 73 ∨ j = 74 ∨ j = 89)) → ¬ (k = 134 ∧ j = F) → ¬ (k = 133 ∧ 40 * F ≤ j ∧ j < 40 * F + 40) → C'.1 k j = C.1 k j) ∧ (∀ k j, k ≠ 124 → C'.2.1 k j = C.2.1 k j) ∧ C'.2.2 = C.2.2
set_option maxRecDepth 100000 in
theorem frH_r {F : Nat} {C : co_T} : frH F C C := ⟨fun _ _ _ _ _ => rfl, fun _ _ _ => rfl, rfl⟩
set_option maxRecDepth 100000 in
theorem frH_t {F : Nat} {C1 C2 C3 : co_T} (h : frH F C1 C2) (g : frH F C2 C3) : frH F C1 C3 := ⟨fun k j a b c => (g.1 k j a b c).trans (h.1 k j a b c), fun k j a => (g.2.1 k j a).trans (h.2.1 k j a), g.2.2.trans h.2.2⟩
set_option maxRecDepth 100000 in
theorem frH_W {F : Nat} {C C' : co_T} (h : frW C C') : frH F C C' := ⟨fun k j a _ _ => h.1 k j (by omega), h.2.1, h.2.2⟩
set_option maxRecDepth 100000 in
theorem frH_9 {F : Nat} {C : co_T} {z : Int32} : frH F C (sI C 76 89 z) := ⟨fun k j a _ _ => by rw [sI_1, if_neg (by omega)], fun _ _ _ => rfl, rfl⟩
set_option maxRecDepth 100000 in
theorem frH_m {F : Nat} {C : co_T} {z : Int32} : frH F C (sI C 134 F z) := ⟨fun k j _ b _ => by rw [sI_1, if_neg (by omega)], fun _ _ _ => rfl, rfl⟩
set_option maxRecDepth 100000 in
theorem frH_i {F j : Nat} {C : co_T} {z : Int32} (h : 40 * F ≤ j ∧ j < 40 * F + 40) : frH F C (sI C 133 j z) := ⟨fun k i _ _ c => by rw [sI_1, if_neg (by omega)], fun _ _ _ => rfl, rfl⟩
set_option maxRecDepth 100000 in
theorem frH_Q {F : Nat} {C C' : co_T} (h : frH F C C') : frQ F C C' := ⟨fun k j _ b c e => h.1 k j (by omega) (by omega) (by omega), fun k j a _ _ => h.2.1 k j (by omega), h.2.2⟩
set_option maxRecDepth 100000 in
theorem frH_V {F : Nat} {C C' : co_T} (h : frH F C C') : frV C C' := ⟨fun j => h.1 115 j (by omega) (by omega) (by omega), fun j => h.1 117 j (by omega) (by omega) (by omega), fun j => h.1 118 j (by omega) (by omega) (by omega), fun j => h.2.1 116 j (by omega)⟩
def idsM (C : co_T) (F : Nat) (is : List Int32) : Prop := ∀ j x, is[j]? = some x → C.1 133 (40 * F + j) = x
/-! how it ends: the rows found, or by a division -/
def BCP (C0 : co_T) (t : ab_H) (F sl : Nat) (x : Option (List Int32)) : Option Value → ab_H → Nat → Prop := fun v0 h m => none = v0 ∧ (∃ C', ((x = none ∧ C'.1 76 89 = 4 ∧ C'.1 76 74 = 1 ∧ frH F C0 C') ∨ (∃ is, x = some is ∧ C'.1 76 89 = 0 ∧ C'.1 76 74 = 0 ∧ C'.1 134 F = nI is.length ∧ is.length ≤ 40 ∧ idsM C' F is ∧ frH F C0 C')) ∧ MH C' t = h) ∧ sl = m
section ME6
variable {L : Nat} {xs : Nat → Int32} {C : co_T} {t : ab_H} {d sl b f p k w2 w3 F u D v row : Nat} {S : st_T} {N O : rw_F} {r : ro_T} {σ : es_T} {a : ac_T}
set_option maxRecDepth 100000 in
theorem lp_250x {C0 : co_T} {n : Nat} {kd : Int32} (hF : F < 40) (hb : b < 6) (hp : p ≤ 40) (hn : C.1 117 b = nI n) (hn4 : n ≤ 40) (hk : k ≤ n) (h9 : C.1 76 89 = 4) (h7 : C.1 76 74 = 1) (hkd : C.1 110 p = kd) (hf : frH F C0 C) : Wd L xs (d + 4) y_250 (61, [(5, .int (nI (k))), (4, .int (nI (b))), (3, .int (nI (F))), (0, .ref 176), (1, .int (nI (p))), (2, .int (nI (row)))], [], MH C t, sl) (fun v0 h m => none = v0 ∧ (∃ C', (C'.1 76 89 = 4 ∧ C'.1 76 74 = 1 ∧ frH F C0 C') ∧ MH C' t = h) ∧ sl = m) nX := by
  by_cases hkn : k = n
  · skip
    refine w_p (pc1 := 63) rfl rfl ?_
    refine w_p (pc1 := 64) rfl rfl ?_
    refine w_m0 (pc1 := 67) rfl rfl (h_gC rfl rfl rfl rfl) rfl ?_
    refine w_p (pc1 := 69) rfl rfl ?_
    refine w_m0 (pc1 := 70) (st1 := .int (nI (n)) :: _) rfl rfl (n_ile (e := b) rfl rfl rfl (by omega) (hn)) rfl ?_
    refine w_t (a := 199) (b := 73) (bN_ge_t (a := k) (b := n) (by omega) (by omega) (by omega)) rfl rfl ?_
    refine w_r rfl rfl rfl (fun _ _ => rfl) rfl ?_
    exact ⟨rfl, ⟨C, ⟨h9, h7, hf⟩, rfl⟩, rfl⟩
  · by_cases hk0 : kd.toInt ≤ 0
    · skip
      refine w_p (pc1 := 63) rfl rfl ?_
      refine w_p (pc1 := 64) rfl rfl ?_
      refine w_m0 (pc1 := 67) rfl rfl (h_gC rfl rfl rfl rfl) rfl ?_
      refine w_p (pc1 := 69) rfl rfl ?_
      refine w_m0 (pc1 := 70) (st1 := .int (nI (n)) :: _) rfl rfl (n_ile (e := b) rfl rfl rfl (by omega) (hn)) rfl ?_
      refine w_f (a := 199) (b := 73) (bN_ge_f (a := k) (b := n) (by omega) (by omega) (by omega)) rfl rfl ?_
      refine w_p (pc1 := 74) rfl rfl ?_
      refine w_m0 (pc1 := 77) rfl rfl (h_gC rfl rfl rfl rfl) rfl ?_
      refine w_p (pc1 := 78) rfl rfl ?_
      refine w_m0 (pc1 := 79) (st1 := .int (kd) :: _) rfl rfl (n_ile (e := p) rfl rfl rfl (by omega) (hkd)) rfl ?_
      refine w_t (a := 199) (b := 82) (cb_le_t (by exact hk0)) rfl rfl ?_
      refine w_r rfl rfl rfl (fun _ _ => rfl) rfl ?_
      exact ⟨rfl, ⟨C, ⟨h9, h7, hf⟩, rfl⟩, rfl⟩
    · skip
      refine w_p (pc1 := 63) rfl rfl ?_
      refine w_p (pc1 := 64) rfl rfl ?_
      refine w_m0 (pc1 := 67) rfl rfl (h_gC rfl rfl rfl rfl) rfl ?_
      refine w_p (pc1 := 69) rfl rfl ?_
      refine w_m0 (pc1 := 70) (st1 := .int (nI (n)) :: _) rfl rfl (n_ile (e := b) rfl rfl rfl (by omega) (hn)) rfl ?_
      refine w_f (a := 199) (b := 73) (bN_ge_f (a := k) (b := n) (by omega) (by omega) (by omega)) rfl rfl ?_
      refine w_p (pc1 := 74) rfl rfl ?_
      refine w_m0 (pc1 := 77) rfl rfl (h_gC rfl rfl rfl rfl) rfl ?_
      refine w_p (pc1 := 78) rfl rfl ?_
      refine w_m0 (pc1 := 79) (st1 := .int (kd) :: _) rfl rfl (n_ile (e := p) rfl rfl rfl (by omega) (hkd)) rfl ?_
      refine w_f (a := 199) (b := 82) (cb_le_f (by show (0 : Int) < kd.toInt; omega)) rfl rfl ?_
      refine w_p (pc1 := 83) rfl rfl ?_
      refine w_m0 (pc1 := 86) (st1 := .int 4 :: _) rfl rfl (h_gIe (j := 89) rfl rfl rfl rfl rfl (h9)) rfl ?_
      refine w_t (a := 199) (b := 89) rfl rfl rfl ?_
      refine w_r rfl rfl rfl (fun _ _ => rfl) rfl ?_
      exact ⟨rfl, ⟨C, ⟨h9, h7, hf⟩, rfl⟩, rfl⟩
set_option maxRecDepth 100000 in
theorem lp_250 {C0 : co_T} {s : Nat} {V0 : Option (List Int32)} (hF : F < 40) (hb : b < 6) (hp : p ≤ 40) (hW : RWM C0 (sWd S) σ.1) (hkd : C0.1 110 p = nI (aKd a)) (hk1 : 1 ≤ aKd a) (hk2 : aKd a ≤ 2) (hs : s ≤ 619) (hwh : whM C0 p s (aWh a)) (hok : okT2 (sWd S b) w2 w3 (aWh a)) (hro : row < 40) (hw2 : w2 ≤ 6) (hw3 : w3 ≤ 6) (hbN : bfM C0 136 row w2 N) (hbO : bfM C0 137 row w3 O) : ∀ (suf pre : List ro_T) (is : List Int32) (C : co_T), pre ++ suf = (σ.1 b).1 → frH F C0 C → C.1 76 89 = 0 → C.1 76 74 = 0 → C.1 134 F = nI is.length → is.length ≤ pre.length → idsM C F is → (fnR (fun r => tst r.2 N O (aWh a)) suf).map (fun x => is ++ x) = V0 → Wd L xs (d + 4) y_250 (61, [(5, .int (nI (pre.length))), (4, .int (nI (b))), (3, .int (nI (F))), (0, .ref 176), (1, .int (nI (p))), (2, .int (nI (row)))], [], MH C t, sl) (BCP C0 t F sl V0) nX
  | [], pre, is, C, hp0, hf, h9, hz, hm, hil, hid, hV => by
    rw [List.append_nil] at hp0
    have hl2 := congrArg List.length hp0
    obtain ⟨g1, g2, g3, g4⟩ := RWM_V (frH_V hf) hW b hb
    have hV : some (is ++ []) = V0 := hV
    rw [List.append_nil] at hV
    refine w_p (pc1 := 63) rfl rfl ?_
    refine w_p (pc1 := 64) rfl rfl ?_
    refine w_m0 (pc1 := 67) rfl rfl (h_gC rfl rfl rfl rfl) rfl ?_
    refine w_p (pc1 := 69) rfl rfl ?_
    refine w_m0 (pc1 := 70) (st1 := .int (nI ((σ.1 b).1.length)) :: _) rfl rfl (n_ile (e := b) rfl rfl rfl (by omega) (g2)) rfl ?_
    refine w_t (a := 199) (b := 73) (bN_ge_t (a := pre.length) (b := (σ.1 b).1.length) (by omega) (by omega) (by omega)) rfl rfl ?_
    refine w_r rfl rfl rfl (fun _ _ => rfl) rfl ?_
    exact ⟨rfl, ⟨C, Or.inr ⟨is, hV.symm, h9, hz, hm, by omega, hid, hf⟩, rfl⟩, rfl⟩
  | r :: suf, pre, is, C, hp0, hf, h9, hz, hm, hil, hid, hV => by
    obtain ⟨h1, h2, h3⟩ := get_ap hp0
    have hW1 := RWM_V (frH_V hf) hW
    obtain ⟨g1, g2, g3, g4⟩ := hW1 b hb
    have hkd1 : C.1 110 p = nI (aKd a) := (hf.1 110 p (by omega) (by omega) (by omega)).trans hkd
    have e0 : fnR (fun r => tst r.2 N O (aWh a)) (r :: suf) = match tst r.2 N O (aWh a) with | none => none | some y => (fnR (fun r => tst r.2 N O (aWh a)) suf).map (fun x => bif y then r.1 :: x else x) := rfl
    have hrid : C.1 115 (40 * b + pre.length) = r.1 := by rw [show 40 * b + pre.length = b * 40 + pre.length by omega]; exact (g4 _ _ h1).1
    have hyes : ∀ C1, frH F C0 C1 → C1.1 76 89 = 0 → C1.1 76 74 = 0 → C1.1 134 F = nI is.length → idsM C1 F is → tst r.2 N O (aWh a) = some true → Wd L xs (d + 4) y_250 (61, [(5, .int (nI (pre.length + 1))), (4, .int (nI (b))), (3, .int (nI (F))), (0, .ref 176), (1, .int (nI (p))), (2, .int (nI (row)))], [], MH (sI (sI C1 133 (40 * F + is.length) r.1) 134 F (nI (is.length + 1))) t, sl) (BCP C0 t F sl V0) nX := by
      intro C1 k1 k2 k3 k4 k5 k6
      have ih := lp_250 (V0 := V0) hF hb hp hW hkd hk1 hk2 hs hwh hok hro hw2 hw3 hbN hbO suf (pre ++ [r]) (is ++ [r.1]) (sI (sI C1 133 (40 * F + is.length) r.1) 134 F (nI (is.length + 1))) h3 (frH_t k1 (frH_t (frH_i (by omega)) frH_m)) (by rw [sI_1, if_neg (by omega), sI_1, if_neg (by omega)]; exact k2) (by rw [sI_1, if_neg (by omega), sI_1, if_neg (by omega)]; exact k3) (by rw [sI_1, if_pos ⟨rfl, rfl⟩, len_s]) (by rw [len_s, len_s]; omega) (fun j x hj => ?_) (by
        rw [← hV, e0, k6]
        show _ = ((fnR (fun r => tst r.2 N O (aWh a)) suf).map (fun x => r.1 :: x)).map (fun x => is ++ x)
        rw [Option.map_map]
        congr 1
        funext x
        exact (List.append_cons is r.1 x).symm)
      · rw [len_s] at ih
        exact ih
      · rw [sI_1, if_neg (by omega), sI_1]
        by_cases e : j < is.length
        · rw [List.getElem?_append_left e] at hj
          rw [if_neg (by omega)]
          exact k5 j x hj
        · have hjl := get_lt hj
          rw [len_s] at hjl
          obtain rfl : j = is.length := by omega
          rw [List.getElem?_append_right (Nat.le_refl _), Nat.sub_self] at hj
          cases hj
          rw [if_pos ⟨rfl, rfl⟩]
    have hno : ∀ C1, frH F C0 C1 → C1.1 76 89 = 0 → C1.1 76 74 = 0 → C1.1 134 F = nI is.length → idsM C1 F is → tst r.2 N O (aWh a) = some false → Wd L xs (d + 4) y_250 (61, [(5, .int (nI (pre.length + 1))), (4, .int (nI (b))), (3, .int (nI (F))), (0, .ref 176), (1, .int (nI (p))), (2, .int (nI (row)))], [], MH C1 t, sl) (BCP C0 t F sl V0) nX := by
      intro C1 k1 k2 k3 k4 k5 k6
      have ih := lp_250 (V0 := V0) hF hb hp hW hkd hk1 hk2 hs hwh hok hro hw2 hw3 hbN hbO suf (pre ++ [r]) is C1 h3 k1 k2 k3 k4 (by rw [len_s]; omega) k5 (by
        rw [← hV, e0, k6]
        show _ = ((fnR (fun r => tst r.2 N O (aWh a)) suf).map (fun x => x)).map (fun x => is ++ x)
        cases fnR (fun r => tst r.2 N O (aWh a)) suf <;> rfl)
      rw [len_s] at ih
      exact ih
    have hundo : ∀ C1, frH F C0 C1 → C1.1 76 89 = 4 → C1.1 76 74 = 1 → tst r.2 N O (aWh a) = none → Wd L xs (d + 4) y_250 (61, [(5, .int (nI (pre.length + 1))), (4, .int (nI (b))), (3, .int (nI (F))), (0, .ref 176), (1, .int (nI (p))), (2, .int (nI (row)))], [], MH C1 t, sl) (BCP C0 t F sl V0) nX := by
      intro C1 k1 k2 k7 k6
      obtain ⟨w1, w2', w3', w4'⟩ := RWM_V (frH_V k1) hW b hb
      refine Wd_q (lp_250x (C0 := C0) hF hb hp w2' w3' (by omega) k2 k7 rfl k1) (fun v0 h m hq => ?_) (fun _ _ _ e => e)
      obtain ⟨z1, ⟨C2, ⟨z2, z0, z3⟩, z4⟩, z5⟩ := hq
      exact ⟨z1, ⟨C2, Or.inl ⟨by rw [← hV, e0, k6]; rfl, z2, z0, z3⟩, z4⟩, z5⟩
    cases hww : aWh a with
    | none =>
      rw [hww] at hwh
      have hw112 : C.1 112 p = -1 := (hf.1 112 p (by omega) (by omega) (by omega)).trans hwh.1
      have htt : tst r.2 N O (aWh a) = some true := by rw [hww]; rfl
      refine w_p (pc1 := 63) rfl rfl ?_
      refine w_p (pc1 := 64) rfl rfl ?_
      refine w_m0 (pc1 := 67) rfl rfl (h_gC rfl rfl rfl rfl) rfl ?_
      refine w_p (pc1 := 69) rfl rfl ?_
      refine w_m0 (pc1 := 70) (st1 := .int (nI ((σ.1 b).1.length)) :: _) rfl rfl (n_ile (e := b) rfl rfl rfl (by omega) (g2)) rfl ?_
      refine w_f (a := 199) (b := 73) (bN_ge_f (a := pre.length) (b := (σ.1 b).1.length) (by omega) (by omega) (by omega)) rfl rfl ?_
      refine w_p (pc1 := 74) rfl rfl ?_
      refine w_m0 (pc1 := 77) rfl rfl (h_gC rfl rfl rfl rfl) rfl ?_
      refine w_p (pc1 := 78) rfl rfl ?_
      refine w_m0 (pc1 := 79) (st1 := .int (nI (aKd a)) :: _) rfl rfl (n_ile (e := p) rfl rfl rfl (by omega) (hkd1)) rfl ?_
      refine w_f (a := 199) (b := 82) (bN_le_f (a := aKd a) (b := 0) (by omega) (by omega) (by omega)) rfl rfl ?_
      refine w_p (pc1 := 83) rfl rfl ?_
      refine w_m0 (pc1 := 86) (st1 := .int 0 :: _) rfl rfl (h_gIe (j := 89) rfl rfl rfl rfl rfl (h9)) rfl ?_
      refine w_f (a := 199) (b := 89) rfl rfl rfl ?_
      refine w_p (pc1 := 90) rfl rfl ?_
      refine w_m0 (pc1 := 93) rfl rfl (h_gC rfl rfl rfl rfl) rfl ?_
      refine w_p (pc1 := 94) rfl rfl ?_
      refine w_m0 (pc1 := 95) (st1 := .int (-1) :: _) rfl rfl (n_ile (e := p) rfl rfl rfl (by omega) (hw112)) rfl ?_
      refine w_p (pc1 := 96) (st1 := .int (-1) :: _) rfl rfl ?_
      refine w_f (a := 103) (b := 99) rfl rfl rfl ?_
      refine w_p (pc1 := 100) (st1 := .long 1 :: _) rfl rfl ?_
      refine w_p (pc1 := 133) rfl rfl ?_
      refine w_p (pc1 := 135) (al1 := [(6, .long 1), (5, .int (nI (pre.length))), (4, .int (nI (b))), (3, .int (nI (F))), (0, .ref 176), (1, .int (nI (p))), (2, .int (nI (row)))]) rfl rfl ?_
      refine w_p (pc1 := 136) rfl rfl ?_
      refine w_m0 (pc1 := 139) (st1 := .int 0 :: _) rfl rfl (h_gIe (j := 74) rfl rfl rfl rfl rfl (hz)) rfl ?_
      refine w_t (a := 147) (b := 142) rfl rfl rfl ?_
      refine w_p (pc1 := 149) rfl rfl ?_
      refine w_p (pc1 := 150) (st1 := .long 1 :: _) rfl rfl ?_
      refine w_p (pc1 := 151) (st1 := .int 0 :: _) rfl rfl ?_
      refine w_f (a := 193) (b := 154) rfl rfl rfl ?_
      refine w_p (pc1 := 155) rfl rfl ?_
      refine w_m0 (pc1 := 158) rfl rfl (h_gC rfl rfl rfl rfl) rfl ?_
      refine w_p (pc1 := 160) (st1 := .int 40 :: _) rfl rfl ?_
      refine w_p (pc1 := 161) rfl rfl ?_
      refine w_imul (pc1 := 162) (u := nI (40)) (v := nI (F)) (z := nI (40 * F)) rfl (nK_mul) rfl ?_
      refine w_p (pc1 := 163) rfl rfl ?_
      refine w_m0 (pc1 := 166) rfl rfl (h_gC rfl rfl rfl rfl) rfl ?_
      refine w_p (pc1 := 167) rfl rfl ?_
      refine w_m0 (pc1 := 168) (st1 := .int (nI (is.length)) :: _) rfl rfl (n_ile (e := F) rfl rfl rfl (by omega) (hm)) rfl ?_
      refine w_iadd (pc1 := 169) (u := nI (40 * F)) (v := nI (is.length)) (z := nI (40 * F + (is.length))) rfl (nK_add) rfl ?_
      refine w_p (pc1 := 170) rfl rfl ?_
      refine w_m0 (pc1 := 173) rfl rfl (h_gC rfl rfl rfl rfl) rfl ?_
      refine w_p (pc1 := 175) (st1 := .int 40 :: _) rfl rfl ?_
      refine w_p (pc1 := 177) rfl rfl ?_
      refine w_imul (pc1 := 178) (u := nI (40)) (v := nI (b)) (z := nI (40 * b)) rfl (nK_mul) rfl ?_
      refine w_p (pc1 := 180) rfl rfl ?_
      refine w_iadd (pc1 := 181) (u := nI (40 * b)) (v := nI (pre.length)) (z := nI (40 * b + (pre.length))) rfl (nK_add) rfl ?_
      refine w_m0 (pc1 := 182) (st1 := .int (r.1) :: _) rfl rfl (n_ile (e := 40 * b + (pre.length)) rfl rfl rfl (by omega) (hrid)) rfl ?_
      refine w_m0 (pc1 := 183) rfl rfl (n_is (e := 40 * F + (is.length)) rfl rfl rfl (by omega)) rfl ?_
      refine w_p (pc1 := 184) rfl rfl ?_
      refine w_m0 (pc1 := 187) rfl rfl (h_gC rfl rfl rfl rfl) rfl ?_
      refine w_p (pc1 := 188) rfl rfl ?_
      refine w_p (pc1 := 189) rfl rfl ?_
      refine w_m0 (pc1 := 190) (st1 := .int (nI (is.length)) :: _) rfl rfl (n_ile (e := F) rfl rfl rfl (by omega) ((by rw [sI_1, if_neg (by omega)]; exact hm))) rfl ?_
      refine w_p (pc1 := 191) (st1 := .int 1 :: _) rfl rfl ?_
      refine w_iadd (pc1 := 192) (u := nI (is.length)) (v := nI (1)) (z := nI (is.length + 1)) rfl (nK_add) rfl ?_
      refine w_m0 (pc1 := 193) rfl rfl (n_is (e := F) rfl rfl rfl (by omega)) rfl ?_
      refine w_iinc (pc1 := 196) (u := nI (pre.length)) (z := nI (pre.length + 1)) (al1 := [(5, .int (nI (pre.length + 1))), (6, .long 1), (4, .int (nI (b))), (3, .int (nI (F))), (0, .ref 176), (1, .int (nI (p))), (2, .int (nI (row)))]) rfl rfl rfl nK_1 rfl rfl ?_
      refine w_p (pc1 := 61) rfl rfl ?_
      refine Wd_al (al := [(5, .int (nI (pre.length + 1))), (4, .int (nI (b))), (3, .int (nI (F))), (0, .ref 176), (1, .int (nI (p))), (2, .int (nI (row)))]) (sba_p [0, 2, 3, 4, 5, 6] rfl rfl) ?_
      exact hyes C hf h9 hz hm hid htt
    | some Q =>
      rw [hww] at hwh hok
      obtain ⟨wh1, wh2, wh3, wh4⟩ := hwh
      have hw112 : C.1 112 p = nI s := (hf.1 112 p (by omega) (by omega) (by omega)).trans wh1
      have hw113 : C.1 113 p = nI (s + Q.length) := (hf.1 113 p (by omega) (by omega) (by omega)).trans wh2
      have hE : envM C (6 * (40 * b + pre.length)) row (sWd S b) w2 w3 r.2 N O := ⟨⟨by omega, fun c hc => by rw [show 6 * (40 * b + pre.length) + c = (b * 40 + pre.length) * 6 + c by omega]; exact (g4 _ _ h1).2 c hc⟩, ⟨hro, hw2, hw3⟩, fun c hc => (hf.2.1 136 _ (by decide)).trans (hbN c hc), fun c hc => (hf.2.1 137 _ (by decide)).trans (hbO c hc)⟩
      have hwk := m_251 (L := L) (xs := xs) (t := t) (d := d) (sl := 0) (g := false) (z := false) (p := p) (a := s) (e := s + Q.length) (l := Q) hp wh3 rfl (fun j q hj => by rw [hf.1 106 _ (by omega) (by omega) (by omega), hf.2.1 107 _ (by decide)]; exact wh4 j q hj) hE hok.2 hz
      obtain ⟨bv, hbv⟩ := fl_test (R := r.2) (N := N) (O := O) hok.2
      have hv : rsM (f_l true r.2 N O Q []) = t_M bv := by rw [hbv]; rfl
      have e1 : tst r.2 N O (some Q) = match f_l false r.2 N O Q [] with | none => none | some st => (match st with | .inr (some true) :: _ => some true | _ => some false) := rfl
      have hk0 : ∀ C1, frW C C1 → frH F C0 C1 ∧ C1.1 76 89 = 0 ∧ C1.1 134 F = nI is.length ∧ idsM C1 F is := fun C1 f2 => ⟨frH_t hf (frH_W f2), (f2.1 76 89 (by omega)).trans h9, (f2.1 134 F (by omega)).trans hm, fun j x hj => (f2.1 133 _ (by omega)).trans (hid j x hj)⟩
      cases hfl : f_l false r.2 N O Q [] with
      | none =>
        have htt : tst r.2 N O (aWh a) = none := by rw [hww, e1, hfl]

        rcases bv with _ | _ | _
        · skip
          refine w_p (pc1 := 63) rfl rfl ?_
          refine w_p (pc1 := 64) rfl rfl ?_
          refine w_m0 (pc1 := 67) rfl rfl (h_gC rfl rfl rfl rfl) rfl ?_
          refine w_p (pc1 := 69) rfl rfl ?_
          refine w_m0 (pc1 := 70) (st1 := .int (nI ((σ.1 b).1.length)) :: _) rfl rfl (n_ile (e := b) rfl rfl rfl (by omega) (g2)) rfl ?_
          refine w_f (a := 199) (b := 73) (bN_ge_f (a := pre.length) (b := (σ.1 b).1.length) (by omega) (by omega) (by omega)) rfl rfl ?_
          refine w_p (pc1 := 74) rfl rfl ?_
          refine w_m0 (pc1 := 77) rfl rfl (h_gC rfl rfl rfl rfl) rfl ?_
          refine w_p (pc1 := 78) rfl rfl ?_
          refine w_m0 (pc1 := 79) (st1 := .int (nI (aKd a)) :: _) rfl rfl (n_ile (e := p) rfl rfl rfl (by omega) (hkd1)) rfl ?_
          refine w_f (a := 199) (b := 82) (bN_le_f (a := aKd a) (b := 0) (by omega) (by omega) (by omega)) rfl rfl ?_
          refine w_p (pc1 := 83) rfl rfl ?_
          refine w_m0 (pc1 := 86) (st1 := .int 0 :: _) rfl rfl (h_gIe (j := 89) rfl rfl rfl rfl rfl (h9)) rfl ?_
          refine w_f (a := 199) (b := 89) rfl rfl rfl ?_
          refine w_p (pc1 := 90) rfl rfl ?_
          refine w_m0 (pc1 := 93) rfl rfl (h_gC rfl rfl rfl rfl) rfl ?_
          refine w_p (pc1 := 94) rfl rfl ?_
          refine w_m0 (pc1 := 95) (st1 := .int (nI (s)) :: _) rfl rfl (n_ile (e := p) rfl rfl rfl (by omega) (hw112)) rfl ?_
          refine w_p (pc1 := 96) (st1 := .int (-1) :: _) rfl rfl ?_
          refine w_t (a := 103) (b := 99) (cb_ne_t (by exact nK_m1 (by omega))) rfl rfl ?_
          refine w_p (pc1 := 104) rfl rfl ?_
          refine w_p (pc1 := 105) rfl rfl ?_
          refine w_p (pc1 := 106) rfl rfl ?_
          refine w_m0 (pc1 := 109) rfl rfl (h_gC rfl rfl rfl rfl) rfl ?_
          refine w_p (pc1 := 110) rfl rfl ?_
          refine w_m0 (pc1 := 111) (st1 := .int (nI (s)) :: _) rfl rfl (n_ile (e := p) rfl rfl rfl (by omega) (hw112)) rfl ?_
          refine w_p (pc1 := 112) rfl rfl ?_
          refine w_m0 (pc1 := 115) rfl rfl (h_gC rfl rfl rfl rfl) rfl ?_
          refine w_p (pc1 := 116) rfl rfl ?_
          refine w_m0 (pc1 := 117) (st1 := .int (nI (s + Q.length)) :: _) rfl rfl (n_ile (e := p) rfl rfl rfl (by omega) (hw113)) rfl ?_
          refine w_p (pc1 := 119) (st1 := .int 6 :: _) rfl rfl ?_
          refine w_p (pc1 := 121) (st1 := .int 40 :: _) rfl rfl ?_
          refine w_p (pc1 := 123) rfl rfl ?_
          refine w_imul (pc1 := 124) (u := nI (40)) (v := nI (b)) (z := nI (40 * b)) rfl (nK_mul) rfl ?_
          refine w_p (pc1 := 126) rfl rfl ?_
          refine w_iadd (pc1 := 127) (u := nI (40 * b)) (v := nI (pre.length)) (z := nI (40 * b + (pre.length))) rfl (nK_add) rfl ?_
          refine w_imul (pc1 := 128) (u := nI (6)) (v := nI (40 * b + (pre.length))) (z := nI (6 * (40 * b + (pre.length)))) rfl (nK_mul) rfl ?_
          refine w_p (pc1 := 129) rfl rfl ?_
          refine w_p (pc1 := 130) (st1 := .int 0 :: _) rfl rfl ?_
          refine w_ji (pc1 := 133) (vs := [.ref 176, .int (nI (p)), .int (nI (s)), .int (nI (s + Q.length)), .int (nI (6 * (40 * b + (pre.length)))), .int (nI (row)), .int 0]) (rest := []) (hwk) rfl rfl rfl (fun _ _ => rfl) rfl (by exact cl_v my_251 rfl rfl rfl (Nat.le_of_ble_eq_true rfl) rfl (MH_obj rfl rfl) rfl (by decide) rfl rfl) (by rfl) (Nat.le_of_ble_eq_true rfl) (Nat.le_of_ble_eq_true rfl) rfl (fun v h m hq => ?_) (fun _ _ _ e => e.elim)
          obtain ⟨rfl, ⟨C1, ⟨f1, f2⟩, rfl⟩, rfl⟩ := hq
          rw [hv]
          have f1 : C1.1 76 74 = 1 := by rw [f1, hfl]; rfl
          obtain ⟨k1, k2, k4, k5⟩ := hk0 C1 f2
          have hri1 : C1.1 115 (40 * b + pre.length) = r.1 := (f2.1 115 _ (by omega)).trans hrid
          refine w_p (pc1 := 135) (al1 := [(6, .long (t_M none)), (5, .int (nI (pre.length))), (4, .int (nI (b))), (3, .int (nI (F))), (0, .ref 176), (1, .int (nI (p))), (2, .int (nI (row)))]) rfl rfl ?_
          refine w_p (pc1 := 136) rfl rfl ?_
          refine w_m0 (pc1 := 139) (st1 := .int 1 :: _) rfl rfl (h_gIe (j := 74) rfl rfl rfl rfl rfl (f1)) rfl ?_
          refine w_f (a := 147) (b := 142) rfl rfl rfl ?_
          refine w_p (pc1 := 143) rfl rfl ?_
          refine w_p (pc1 := 144) (st1 := .int 4 :: _) rfl rfl ?_
          refine w_je (pc1 := 147) (vs := [.ref 176, .int 4]) (rest := []) (st1 := []) (m_256 (d := d + 3) (sl := 0) k2) rfl rfl rfl (fun _ _ => rfl) rfl (by exact cl_v my_256 rfl rfl rfl (Nat.le_of_ble_eq_true rfl) rfl (MH_obj rfl rfl) rfl (by decide) rfl rfl) (by rfl) (Nat.le_of_ble_eq_true rfl) (Nat.le_of_ble_eq_true rfl) rfl (by rfl) ?_
          refine w_p (pc1 := 149) rfl rfl ?_
          refine w_p (pc1 := 150) (st1 := .long 1 :: _) rfl rfl ?_
          refine w_p (pc1 := 151) rfl rfl ?_
          refine w_t (a := 193) (b := 154) (lb_ne_t (by decide)) rfl rfl ?_
          refine w_iinc (pc1 := 196) (u := nI (pre.length)) (z := nI (pre.length + 1)) (al1 := [(5, .int (nI (pre.length + 1))), (6, .long (t_M none)), (4, .int (nI (b))), (3, .int (nI (F))), (0, .ref 176), (1, .int (nI (p))), (2, .int (nI (row)))]) rfl rfl rfl nK_1 rfl rfl ?_
          refine w_p (pc1 := 61) rfl rfl ?_
          refine Wd_al (al := [(5, .int (nI (pre.length + 1))), (4, .int (nI (b))), (3, .int (nI (F))), (0, .ref 176), (1, .int (nI (p))), (2, .int (nI (row)))]) (sba_p [0, 2, 3, 4, 5, 6] rfl rfl) ?_
          exact hundo _ (frH_t k1 frH_9) rfl (by rw [sI_1, if_neg (by omega)]; exact f1) htt
        · skip
          refine w_p (pc1 := 63) rfl rfl ?_
          refine w_p (pc1 := 64) rfl rfl ?_
          refine w_m0 (pc1 := 67) rfl rfl (h_gC rfl rfl rfl rfl) rfl ?_
          refine w_p (pc1 := 69) rfl rfl ?_
          refine w_m0 (pc1 := 70) (st1 := .int (nI ((σ.1 b).1.length)) :: _) rfl rfl (n_ile (e := b) rfl rfl rfl (by omega) (g2)) rfl ?_
          refine w_f (a := 199) (b := 73) (bN_ge_f (a := pre.length) (b := (σ.1 b).1.length) (by omega) (by omega) (by omega)) rfl rfl ?_
          refine w_p (pc1 := 74) rfl rfl ?_
          refine w_m0 (pc1 := 77) rfl rfl (h_gC rfl rfl rfl rfl) rfl ?_
          refine w_p (pc1 := 78) rfl rfl ?_
          refine w_m0 (pc1 := 79) (st1 := .int (nI (aKd a)) :: _) rfl rfl (n_ile (e := p) rfl rfl rfl (by omega) (hkd1)) rfl ?_
          refine w_f (a := 199) (b := 82) (bN_le_f (a := aKd a) (b := 0) (by omega) (by omega) (by omega)) rfl rfl ?_
          refine w_p (pc1 := 83) rfl rfl ?_
          refine w_m0 (pc1 := 86) (st1 := .int 0 :: _) rfl rfl (h_gIe (j := 89) rfl rfl rfl rfl rfl (h9)) rfl ?_
          refine w_f (a := 199) (b := 89) rfl rfl rfl ?_
          refine w_p (pc1 := 90) rfl rfl ?_
          refine w_m0 (pc1 := 93) rfl rfl (h_gC rfl rfl rfl rfl) rfl ?_
          refine w_p (pc1 := 94) rfl rfl ?_
          refine w_m0 (pc1 := 95) (st1 := .int (nI (s)) :: _) rfl rfl (n_ile (e := p) rfl rfl rfl (by omega) (hw112)) rfl ?_
          refine w_p (pc1 := 96) (st1 := .int (-1) :: _) rfl rfl ?_
          refine w_t (a := 103) (b := 99) (cb_ne_t (by exact nK_m1 (by omega))) rfl rfl ?_
          refine w_p (pc1 := 104) rfl rfl ?_
          refine w_p (pc1 := 105) rfl rfl ?_
          refine w_p (pc1 := 106) rfl rfl ?_
          refine w_m0 (pc1 := 109) rfl rfl (h_gC rfl rfl rfl rfl) rfl ?_
          refine w_p (pc1 := 110) rfl rfl ?_
          refine w_m0 (pc1 := 111) (st1 := .int (nI (s)) :: _) rfl rfl (n_ile (e := p) rfl rfl rfl (by omega) (hw112)) rfl ?_
          refine w_p (pc1 := 112) rfl rfl ?_
          refine w_m0 (pc1 := 115) rfl rfl (h_gC rfl rfl rfl rfl) rfl ?_
          refine w_p (pc1 := 116) rfl rfl ?_
          refine w_m0 (pc1 := 117) (st1 := .int (nI (s + Q.length)) :: _) rfl rfl (n_ile (e := p) rfl rfl rfl (by omega) (hw113)) rfl ?_
          refine w_p (pc1 := 119) (st1 := .int 6 :: _) rfl rfl ?_
          refine w_p (pc1 := 121) (st1 := .int 40 :: _) rfl rfl ?_
          refine w_p (pc1 := 123) rfl rfl ?_
          refine w_imul (pc1 := 124) (u := nI (40)) (v := nI (b)) (z := nI (40 * b)) rfl (nK_mul) rfl ?_
          refine w_p (pc1 := 126) rfl rfl ?_
          refine w_iadd (pc1 := 127) (u := nI (40 * b)) (v := nI (pre.length)) (z := nI (40 * b + (pre.length))) rfl (nK_add) rfl ?_
          refine w_imul (pc1 := 128) (u := nI (6)) (v := nI (40 * b + (pre.length))) (z := nI (6 * (40 * b + (pre.length)))) rfl (nK_mul) rfl ?_
          refine w_p (pc1 := 129) rfl rfl ?_
          refine w_p (pc1 := 130) (st1 := .int 0 :: _) rfl rfl ?_
          refine w_ji (pc1 := 133) (vs := [.ref 176, .int (nI (p)), .int (nI (s)), .int (nI (s + Q.length)), .int (nI (6 * (40 * b + (pre.length)))), .int (nI (row)), .int 0]) (rest := []) (hwk) rfl rfl rfl (fun _ _ => rfl) rfl (by exact cl_v my_251 rfl rfl rfl (Nat.le_of_ble_eq_true rfl) rfl (MH_obj rfl rfl) rfl (by decide) rfl rfl) (by rfl) (Nat.le_of_ble_eq_true rfl) (Nat.le_of_ble_eq_true rfl) rfl (fun v h m hq => ?_) (fun _ _ _ e => e.elim)
          obtain ⟨rfl, ⟨C1, ⟨f1, f2⟩, rfl⟩, rfl⟩ := hq
          rw [hv]
          have f1 : C1.1 76 74 = 1 := by rw [f1, hfl]; rfl
          obtain ⟨k1, k2, k4, k5⟩ := hk0 C1 f2
          have hri1 : C1.1 115 (40 * b + pre.length) = r.1 := (f2.1 115 _ (by omega)).trans hrid
          refine w_p (pc1 := 135) (al1 := [(6, .long (t_M (some false))), (5, .int (nI (pre.length))), (4, .int (nI (b))), (3, .int (nI (F))), (0, .ref 176), (1, .int (nI (p))), (2, .int (nI (row)))]) rfl rfl ?_
          refine w_p (pc1 := 136) rfl rfl ?_
          refine w_m0 (pc1 := 139) (st1 := .int 1 :: _) rfl rfl (h_gIe (j := 74) rfl rfl rfl rfl rfl (f1)) rfl ?_
          refine w_f (a := 147) (b := 142) rfl rfl rfl ?_
          refine w_p (pc1 := 143) rfl rfl ?_
          refine w_p (pc1 := 144) (st1 := .int 4 :: _) rfl rfl ?_
          refine w_je (pc1 := 147) (vs := [.ref 176, .int 4]) (rest := []) (st1 := []) (m_256 (d := d + 3) (sl := 0) k2) rfl rfl rfl (fun _ _ => rfl) rfl (by exact cl_v my_256 rfl rfl rfl (Nat.le_of_ble_eq_true rfl) rfl (MH_obj rfl rfl) rfl (by decide) rfl rfl) (by rfl) (Nat.le_of_ble_eq_true rfl) (Nat.le_of_ble_eq_true rfl) rfl (by rfl) ?_
          refine w_p (pc1 := 149) rfl rfl ?_
          refine w_p (pc1 := 150) (st1 := .long 1 :: _) rfl rfl ?_
          refine w_p (pc1 := 151) rfl rfl ?_
          refine w_t (a := 193) (b := 154) (lb_ne_t (by decide)) rfl rfl ?_
          refine w_iinc (pc1 := 196) (u := nI (pre.length)) (z := nI (pre.length + 1)) (al1 := [(5, .int (nI (pre.length + 1))), (6, .long (t_M (some false))), (4, .int (nI (b))), (3, .int (nI (F))), (0, .ref 176), (1, .int (nI (p))), (2, .int (nI (row)))]) rfl rfl rfl nK_1 rfl rfl ?_
          refine w_p (pc1 := 61) rfl rfl ?_
          refine Wd_al (al := [(5, .int (nI (pre.length + 1))), (4, .int (nI (b))), (3, .int (nI (F))), (0, .ref 176), (1, .int (nI (p))), (2, .int (nI (row)))]) (sba_p [0, 2, 3, 4, 5, 6] rfl rfl) ?_
          exact hundo _ (frH_t k1 frH_9) rfl (by rw [sI_1, if_neg (by omega)]; exact f1) htt
        · skip
          refine w_p (pc1 := 63) rfl rfl ?_
          refine w_p (pc1 := 64) rfl rfl ?_
          refine w_m0 (pc1 := 67) rfl rfl (h_gC rfl rfl rfl rfl) rfl ?_
          refine w_p (pc1 := 69) rfl rfl ?_
          refine w_m0 (pc1 := 70) (st1 := .int (nI ((σ.1 b).1.length)) :: _) rfl rfl (n_ile (e := b) rfl rfl rfl (by omega) (g2)) rfl ?_
          refine w_f (a := 199) (b := 73) (bN_ge_f (a := pre.length) (b := (σ.1 b).1.length) (by omega) (by omega) (by omega)) rfl rfl ?_
          refine w_p (pc1 := 74) rfl rfl ?_
          refine w_m0 (pc1 := 77) rfl rfl (h_gC rfl rfl rfl rfl) rfl ?_
          refine w_p (pc1 := 78) rfl rfl ?_
          refine w_m0 (pc1 := 79) (st1 := .int (nI (aKd a)) :: _) rfl rfl (n_ile (e := p) rfl rfl rfl (by omega) (hkd1)) rfl ?_
          refine w_f (a := 199) (b := 82) (bN_le_f (a := aKd a) (b := 0) (by omega) (by omega) (by omega)) rfl rfl ?_
          refine w_p (pc1 := 83) rfl rfl ?_
          refine w_m0 (pc1 := 86) (st1 := .int 0 :: _) rfl rfl (h_gIe (j := 89) rfl rfl rfl rfl rfl (h9)) rfl ?_
          refine w_f (a := 199) (b := 89) rfl rfl rfl ?_
          refine w_p (pc1 := 90) rfl rfl ?_
          refine w_m0 (pc1 := 93) rfl rfl (h_gC rfl rfl rfl rfl) rfl ?_
          refine w_p (pc1 := 94) rfl rfl ?_
          refine w_m0 (pc1 := 95) (st1 := .int (nI (s)) :: _) rfl rfl (n_ile (e := p) rfl rfl rfl (by omega) (hw112)) rfl ?_
          refine w_p (pc1 := 96) (st1 := .int (-1) :: _) rfl rfl ?_
          refine w_t (a := 103) (b := 99) (cb_ne_t (by exact nK_m1 (by omega))) rfl rfl ?_
          refine w_p (pc1 := 104) rfl rfl ?_
          refine w_p (pc1 := 105) rfl rfl ?_
          refine w_p (pc1 := 106) rfl rfl ?_
          refine w_m0 (pc1 := 109) rfl rfl (h_gC rfl rfl rfl rfl) rfl ?_
          refine w_p (pc1 := 110) rfl rfl ?_
          refine w_m0 (pc1 := 111) (st1 := .int (nI (s)) :: _) rfl rfl (n_ile (e := p) rfl rfl rfl (by omega) (hw112)) rfl ?_
          refine w_p (pc1 := 112) rfl rfl ?_
          refine w_m0 (pc1 := 115) rfl rfl (h_gC rfl rfl rfl rfl) rfl ?_
          refine w_p (pc1 := 116) rfl rfl ?_
          refine w_m0 (pc1 := 117) (st1 := .int (nI (s + Q.length)) :: _) rfl rfl (n_ile (e := p) rfl rfl rfl (by omega) (hw113)) rfl ?_
          refine w_p (pc1 := 119) (st1 := .int 6 :: _) rfl rfl ?_
          refine w_p (pc1 := 121) (st1 := .int 40 :: _) rfl rfl ?_
          refine w_p (pc1 := 123) rfl rfl ?_
          refine w_imul (pc1 := 124) (u := nI (40)) (v := nI (b)) (z := nI (40 * b)) rfl (nK_mul) rfl ?_
          refine w_p (pc1 := 126) rfl rfl ?_
          refine w_iadd (pc1 := 127) (u := nI (40 * b)) (v := nI (pre.length)) (z := nI (40 * b + (pre.length))) rfl (nK_add) rfl ?_
          refine w_imul (pc1 := 128) (u := nI (6)) (v := nI (40 * b + (pre.length))) (z := nI (6 * (40 * b + (pre.length)))) rfl (nK_mul) rfl ?_
          refine w_p (pc1 := 129) rfl rfl ?_
          refine w_p (pc1 := 130) (st1 := .int 0 :: _) rfl rfl ?_
          refine w_ji (pc1 := 133) (vs := [.ref 176, .int (nI (p)), .int (nI (s)), .int (nI (s + Q.length)), .int (nI (6 * (40 * b + (pre.length)))), .int (nI (row)), .int 0]) (rest := []) (hwk) rfl rfl rfl (fun _ _ => rfl) rfl (by exact cl_v my_251 rfl rfl rfl (Nat.le_of_ble_eq_true rfl) rfl (MH_obj rfl rfl) rfl (by decide) rfl rfl) (by rfl) (Nat.le_of_ble_eq_true rfl) (Nat.le_of_ble_eq_true rfl) rfl (fun v h m hq => ?_) (fun _ _ _ e => e.elim)
          obtain ⟨rfl, ⟨C1, ⟨f1, f2⟩, rfl⟩, rfl⟩ := hq
          rw [hv]
          have f1 : C1.1 76 74 = 1 := by rw [f1, hfl]; rfl
          obtain ⟨k1, k2, k4, k5⟩ := hk0 C1 f2
          have hri1 : C1.1 115 (40 * b + pre.length) = r.1 := (f2.1 115 _ (by omega)).trans hrid
          refine w_p (pc1 := 135) (al1 := [(6, .long (t_M (some true))), (5, .int (nI (pre.length))), (4, .int (nI (b))), (3, .int (nI (F))), (0, .ref 176), (1, .int (nI (p))), (2, .int (nI (row)))]) rfl rfl ?_
          refine w_p (pc1 := 136) rfl rfl ?_
          refine w_m0 (pc1 := 139) (st1 := .int 1 :: _) rfl rfl (h_gIe (j := 74) rfl rfl rfl rfl rfl (f1)) rfl ?_
          refine w_f (a := 147) (b := 142) rfl rfl rfl ?_
          refine w_p (pc1 := 143) rfl rfl ?_
          refine w_p (pc1 := 144) (st1 := .int 4 :: _) rfl rfl ?_
          refine w_je (pc1 := 147) (vs := [.ref 176, .int 4]) (rest := []) (st1 := []) (m_256 (d := d + 3) (sl := 0) k2) rfl rfl rfl (fun _ _ => rfl) rfl (by exact cl_v my_256 rfl rfl rfl (Nat.le_of_ble_eq_true rfl) rfl (MH_obj rfl rfl) rfl (by decide) rfl rfl) (by rfl) (Nat.le_of_ble_eq_true rfl) (Nat.le_of_ble_eq_true rfl) rfl (by rfl) ?_
          refine w_p (pc1 := 149) rfl rfl ?_
          refine w_p (pc1 := 150) (st1 := .long 1 :: _) rfl rfl ?_
          refine w_p (pc1 := 151) rfl rfl ?_
          refine w_f (a := 193) (b := 154) (lb_ne_f (by rfl)) rfl rfl ?_
          refine w_p (pc1 := 155) rfl rfl ?_
          refine w_m0 (pc1 := 158) rfl rfl (h_gC rfl rfl rfl rfl) rfl ?_
          refine w_p (pc1 := 160) (st1 := .int 40 :: _) rfl rfl ?_
          refine w_p (pc1 := 161) rfl rfl ?_
          refine w_imul (pc1 := 162) (u := nI (40)) (v := nI (F)) (z := nI (40 * F)) rfl (nK_mul) rfl ?_
          refine w_p (pc1 := 163) rfl rfl ?_
          refine w_m0 (pc1 := 166) rfl rfl (h_gC rfl rfl rfl rfl) rfl ?_
          refine w_p (pc1 := 167) rfl rfl ?_
          refine w_m0 (pc1 := 168) (st1 := .int (nI (is.length)) :: _) rfl rfl (n_ile (e := F) rfl rfl rfl (by omega) ((by rw [sI_1, if_neg (by omega)]; exact k4))) rfl ?_
          refine w_iadd (pc1 := 169) (u := nI (40 * F)) (v := nI (is.length)) (z := nI (40 * F + (is.length))) rfl (nK_add) rfl ?_
          refine w_p (pc1 := 170) rfl rfl ?_
          refine w_m0 (pc1 := 173) rfl rfl (h_gC rfl rfl rfl rfl) rfl ?_
          refine w_p (pc1 := 175) (st1 := .int 40 :: _) rfl rfl ?_
          refine w_p (pc1 := 177) rfl rfl ?_
          refine w_imul (pc1 := 178) (u := nI (40)) (v := nI (b)) (z := nI (40 * b)) rfl (nK_mul) rfl ?_
          refine w_p (pc1 := 180) rfl rfl ?_
          refine w_iadd (pc1 := 181) (u := nI (40 * b)) (v := nI (pre.length)) (z := nI (40 * b + (pre.length))) rfl (nK_add) rfl ?_
          refine w_m0 (pc1 := 182) (st1 := .int (r.1) :: _) rfl rfl (n_ile (e := 40 * b + (pre.length)) rfl rfl rfl (by omega) ((by rw [sI_1, if_neg (by omega)]; exact hri1))) rfl ?_
          refine w_m0 (pc1 := 183) rfl rfl (n_is (e := 40 * F + (is.length)) rfl rfl rfl (by omega)) rfl ?_
          refine w_p (pc1 := 184) rfl rfl ?_
          refine w_m0 (pc1 := 187) rfl rfl (h_gC rfl rfl rfl rfl) rfl ?_
          refine w_p (pc1 := 188) rfl rfl ?_
          refine w_p (pc1 := 189) rfl rfl ?_
          refine w_m0 (pc1 := 190) (st1 := .int (nI (is.length)) :: _) rfl rfl (n_ile (e := F) rfl rfl rfl (by omega) ((by rw [sI_1, if_neg (by omega), sI_1, if_neg (by omega)]; exact k4))) rfl ?_
          refine w_p (pc1 := 191) (st1 := .int 1 :: _) rfl rfl ?_
          refine w_iadd (pc1 := 192) (u := nI (is.length)) (v := nI (1)) (z := nI (is.length + 1)) rfl (nK_add) rfl ?_
          refine w_m0 (pc1 := 193) rfl rfl (n_is (e := F) rfl rfl rfl (by omega)) rfl ?_
          refine w_iinc (pc1 := 196) (u := nI (pre.length)) (z := nI (pre.length + 1)) (al1 := [(5, .int (nI (pre.length + 1))), (6, .long (t_M (some true))), (4, .int (nI (b))), (3, .int (nI (F))), (0, .ref 176), (1, .int (nI (p))), (2, .int (nI (row)))]) rfl rfl rfl nK_1 rfl rfl ?_
          refine w_p (pc1 := 61) rfl rfl ?_
          refine Wd_al (al := [(5, .int (nI (pre.length + 1))), (4, .int (nI (b))), (3, .int (nI (F))), (0, .ref 176), (1, .int (nI (p))), (2, .int (nI (row)))]) (sba_p [0, 2, 3, 4, 5, 6] rfl rfl) ?_
          refine hundo _ (frH_t k1 (frH_t frH_9 (frH_t (frH_i (by omega)) frH_m))) ?_ ?_ htt
          · rw [sI_1, if_neg (by omega), sI_1, if_neg (by omega), sI_1, if_pos ⟨rfl, rfl⟩]
          · rw [sI_1, if_neg (by omega), sI_1, if_neg (by omega), sI_1, if_neg (by omega)]
            exact f1
      | some st =>
        have hv3 := fl_t Q [] st hfl
        rw [hbv] at hv3
        cases hv3
        rcases bv with _ | _ | _
        · skip
          refine w_p (pc1 := 63) rfl rfl ?_
          refine w_p (pc1 := 64) rfl rfl ?_
          refine w_m0 (pc1 := 67) rfl rfl (h_gC rfl rfl rfl rfl) rfl ?_
          refine w_p (pc1 := 69) rfl rfl ?_
          refine w_m0 (pc1 := 70) (st1 := .int (nI ((σ.1 b).1.length)) :: _) rfl rfl (n_ile (e := b) rfl rfl rfl (by omega) (g2)) rfl ?_
          refine w_f (a := 199) (b := 73) (bN_ge_f (a := pre.length) (b := (σ.1 b).1.length) (by omega) (by omega) (by omega)) rfl rfl ?_
          refine w_p (pc1 := 74) rfl rfl ?_
          refine w_m0 (pc1 := 77) rfl rfl (h_gC rfl rfl rfl rfl) rfl ?_
          refine w_p (pc1 := 78) rfl rfl ?_
          refine w_m0 (pc1 := 79) (st1 := .int (nI (aKd a)) :: _) rfl rfl (n_ile (e := p) rfl rfl rfl (by omega) (hkd1)) rfl ?_
          refine w_f (a := 199) (b := 82) (bN_le_f (a := aKd a) (b := 0) (by omega) (by omega) (by omega)) rfl rfl ?_
          refine w_p (pc1 := 83) rfl rfl ?_
          refine w_m0 (pc1 := 86) (st1 := .int 0 :: _) rfl rfl (h_gIe (j := 89) rfl rfl rfl rfl rfl (h9)) rfl ?_
          refine w_f (a := 199) (b := 89) rfl rfl rfl ?_
          refine w_p (pc1 := 90) rfl rfl ?_
          refine w_m0 (pc1 := 93) rfl rfl (h_gC rfl rfl rfl rfl) rfl ?_
          refine w_p (pc1 := 94) rfl rfl ?_
          refine w_m0 (pc1 := 95) (st1 := .int (nI (s)) :: _) rfl rfl (n_ile (e := p) rfl rfl rfl (by omega) (hw112)) rfl ?_
          refine w_p (pc1 := 96) (st1 := .int (-1) :: _) rfl rfl ?_
          refine w_t (a := 103) (b := 99) (cb_ne_t (by exact nK_m1 (by omega))) rfl rfl ?_
          refine w_p (pc1 := 104) rfl rfl ?_
          refine w_p (pc1 := 105) rfl rfl ?_
          refine w_p (pc1 := 106) rfl rfl ?_
          refine w_m0 (pc1 := 109) rfl rfl (h_gC rfl rfl rfl rfl) rfl ?_
          refine w_p (pc1 := 110) rfl rfl ?_
          refine w_m0 (pc1 := 111) (st1 := .int (nI (s)) :: _) rfl rfl (n_ile (e := p) rfl rfl rfl (by omega) (hw112)) rfl ?_
          refine w_p (pc1 := 112) rfl rfl ?_
          refine w_m0 (pc1 := 115) rfl rfl (h_gC rfl rfl rfl rfl) rfl ?_
          refine w_p (pc1 := 116) rfl rfl ?_
          refine w_m0 (pc1 := 117) (st1 := .int (nI (s + Q.length)) :: _) rfl rfl (n_ile (e := p) rfl rfl rfl (by omega) (hw113)) rfl ?_
          refine w_p (pc1 := 119) (st1 := .int 6 :: _) rfl rfl ?_
          refine w_p (pc1 := 121) (st1 := .int 40 :: _) rfl rfl ?_
          refine w_p (pc1 := 123) rfl rfl ?_
          refine w_imul (pc1 := 124) (u := nI (40)) (v := nI (b)) (z := nI (40 * b)) rfl (nK_mul) rfl ?_
          refine w_p (pc1 := 126) rfl rfl ?_
          refine w_iadd (pc1 := 127) (u := nI (40 * b)) (v := nI (pre.length)) (z := nI (40 * b + (pre.length))) rfl (nK_add) rfl ?_
          refine w_imul (pc1 := 128) (u := nI (6)) (v := nI (40 * b + (pre.length))) (z := nI (6 * (40 * b + (pre.length)))) rfl (nK_mul) rfl ?_
          refine w_p (pc1 := 129) rfl rfl ?_
          refine w_p (pc1 := 130) (st1 := .int 0 :: _) rfl rfl ?_
          refine w_ji (pc1 := 133) (vs := [.ref 176, .int (nI (p)), .int (nI (s)), .int (nI (s + Q.length)), .int (nI (6 * (40 * b + (pre.length)))), .int (nI (row)), .int 0]) (rest := []) (hwk) rfl rfl rfl (fun _ _ => rfl) rfl (by exact cl_v my_251 rfl rfl rfl (Nat.le_of_ble_eq_true rfl) rfl (MH_obj rfl rfl) rfl (by decide) rfl rfl) (by rfl) (Nat.le_of_ble_eq_true rfl) (Nat.le_of_ble_eq_true rfl) rfl (fun v h m hq => ?_) (fun _ _ _ e => e.elim)
          obtain ⟨rfl, ⟨C1, ⟨f1, f2⟩, rfl⟩, rfl⟩ := hq
          rw [hv]
          have f1 : C1.1 76 74 = 0 := by rw [f1, hfl]; rfl
          obtain ⟨k1, k2, k4, k5⟩ := hk0 C1 f2
          have hri1 : C1.1 115 (40 * b + pre.length) = r.1 := (f2.1 115 _ (by omega)).trans hrid
          refine w_p (pc1 := 135) (al1 := [(6, .long (t_M none)), (5, .int (nI (pre.length))), (4, .int (nI (b))), (3, .int (nI (F))), (0, .ref 176), (1, .int (nI (p))), (2, .int (nI (row)))]) rfl rfl ?_
          refine w_p (pc1 := 136) rfl rfl ?_
          refine w_m0 (pc1 := 139) (st1 := .int 0 :: _) rfl rfl (h_gIe (j := 74) rfl rfl rfl rfl rfl (f1)) rfl ?_
          refine w_t (a := 147) (b := 142) rfl rfl rfl ?_
          refine w_p (pc1 := 149) rfl rfl ?_
          refine w_p (pc1 := 150) (st1 := .long 1 :: _) rfl rfl ?_
          refine w_p (pc1 := 151) rfl rfl ?_
          refine w_t (a := 193) (b := 154) (lb_ne_t (by decide)) rfl rfl ?_
          refine w_iinc (pc1 := 196) (u := nI (pre.length)) (z := nI (pre.length + 1)) (al1 := [(5, .int (nI (pre.length + 1))), (6, .long (t_M none)), (4, .int (nI (b))), (3, .int (nI (F))), (0, .ref 176), (1, .int (nI (p))), (2, .int (nI (row)))]) rfl rfl rfl nK_1 rfl rfl ?_
          refine w_p (pc1 := 61) rfl rfl ?_
          refine Wd_al (al := [(5, .int (nI (pre.length + 1))), (4, .int (nI (b))), (3, .int (nI (F))), (0, .ref 176), (1, .int (nI (p))), (2, .int (nI (row)))]) (sba_p [0, 2, 3, 4, 5, 6] rfl rfl) ?_
          exact hno C1 k1 k2 f1 k4 k5 (by rw [hww, e1, hfl])
        · skip
          refine w_p (pc1 := 63) rfl rfl ?_
          refine w_p (pc1 := 64) rfl rfl ?_
          refine w_m0 (pc1 := 67) rfl rfl (h_gC rfl rfl rfl rfl) rfl ?_
          refine w_p (pc1 := 69) rfl rfl ?_
          refine w_m0 (pc1 := 70) (st1 := .int (nI ((σ.1 b).1.length)) :: _) rfl rfl (n_ile (e := b) rfl rfl rfl (by omega) (g2)) rfl ?_
          refine w_f (a := 199) (b := 73) (bN_ge_f (a := pre.length) (b := (σ.1 b).1.length) (by omega) (by omega) (by omega)) rfl rfl ?_
          refine w_p (pc1 := 74) rfl rfl ?_
          refine w_m0 (pc1 := 77) rfl rfl (h_gC rfl rfl rfl rfl) rfl ?_
          refine w_p (pc1 := 78) rfl rfl ?_
          refine w_m0 (pc1 := 79) (st1 := .int (nI (aKd a)) :: _) rfl rfl (n_ile (e := p) rfl rfl rfl (by omega) (hkd1)) rfl ?_
          refine w_f (a := 199) (b := 82) (bN_le_f (a := aKd a) (b := 0) (by omega) (by omega) (by omega)) rfl rfl ?_
          refine w_p (pc1 := 83) rfl rfl ?_
          refine w_m0 (pc1 := 86) (st1 := .int 0 :: _) rfl rfl (h_gIe (j := 89) rfl rfl rfl rfl rfl (h9)) rfl ?_
          refine w_f (a := 199) (b := 89) rfl rfl rfl ?_
          refine w_p (pc1 := 90) rfl rfl ?_
          refine w_m0 (pc1 := 93) rfl rfl (h_gC rfl rfl rfl rfl) rfl ?_
          refine w_p (pc1 := 94) rfl rfl ?_
          refine w_m0 (pc1 := 95) (st1 := .int (nI (s)) :: _) rfl rfl (n_ile (e := p) rfl rfl rfl (by omega) (hw112)) rfl ?_
          refine w_p (pc1 := 96) (st1 := .int (-1) :: _) rfl rfl ?_
          refine w_t (a := 103) (b := 99) (cb_ne_t (by exact nK_m1 (by omega))) rfl rfl ?_
          refine w_p (pc1 := 104) rfl rfl ?_
          refine w_p (pc1 := 105) rfl rfl ?_
          refine w_p (pc1 := 106) rfl rfl ?_
          refine w_m0 (pc1 := 109) rfl rfl (h_gC rfl rfl rfl rfl) rfl ?_
          refine w_p (pc1 := 110) rfl rfl ?_
          refine w_m0 (pc1 := 111) (st1 := .int (nI (s)) :: _) rfl rfl (n_ile (e := p) rfl rfl rfl (by omega) (hw112)) rfl ?_
          refine w_p (pc1 := 112) rfl rfl ?_
          refine w_m0 (pc1 := 115) rfl rfl (h_gC rfl rfl rfl rfl) rfl ?_
          refine w_p (pc1 := 116) rfl rfl ?_
          refine w_m0 (pc1 := 117) (st1 := .int (nI (s + Q.length)) :: _) rfl rfl (n_ile (e := p) rfl rfl rfl (by omega) (hw113)) rfl ?_
          refine w_p (pc1 := 119) (st1 := .int 6 :: _) rfl rfl ?_
          refine w_p (pc1 := 121) (st1 := .int 40 :: _) rfl rfl ?_
          refine w_p (pc1 := 123) rfl rfl ?_
          refine w_imul (pc1 := 124) (u := nI (40)) (v := nI (b)) (z := nI (40 * b)) rfl (nK_mul) rfl ?_
          refine w_p (pc1 := 126) rfl rfl ?_
          refine w_iadd (pc1 := 127) (u := nI (40 * b)) (v := nI (pre.length)) (z := nI (40 * b + (pre.length))) rfl (nK_add) rfl ?_
          refine w_imul (pc1 := 128) (u := nI (6)) (v := nI (40 * b + (pre.length))) (z := nI (6 * (40 * b + (pre.length)))) rfl (nK_mul) rfl ?_
          refine w_p (pc1 := 129) rfl rfl ?_
          refine w_p (pc1 := 130) (st1 := .int 0 :: _) rfl rfl ?_
          refine w_ji (pc1 := 133) (vs := [.ref 176, .int (nI (p)), .int (nI (s)), .int (nI (s + Q.length)), .int (nI (6 * (40 * b + (pre.length)))), .int (nI (row)), .int 0]) (rest := []) (hwk) rfl rfl rfl (fun _ _ => rfl) rfl (by exact cl_v my_251 rfl rfl rfl (Nat.le_of_ble_eq_true rfl) rfl (MH_obj rfl rfl) rfl (by decide) rfl rfl) (by rfl) (Nat.le_of_ble_eq_true rfl) (Nat.le_of_ble_eq_true rfl) rfl (fun v h m hq => ?_) (fun _ _ _ e => e.elim)
          obtain ⟨rfl, ⟨C1, ⟨f1, f2⟩, rfl⟩, rfl⟩ := hq
          rw [hv]
          have f1 : C1.1 76 74 = 0 := by rw [f1, hfl]; rfl
          obtain ⟨k1, k2, k4, k5⟩ := hk0 C1 f2
          have hri1 : C1.1 115 (40 * b + pre.length) = r.1 := (f2.1 115 _ (by omega)).trans hrid
          refine w_p (pc1 := 135) (al1 := [(6, .long (t_M (some false))), (5, .int (nI (pre.length))), (4, .int (nI (b))), (3, .int (nI (F))), (0, .ref 176), (1, .int (nI (p))), (2, .int (nI (row)))]) rfl rfl ?_
          refine w_p (pc1 := 136) rfl rfl ?_
          refine w_m0 (pc1 := 139) (st1 := .int 0 :: _) rfl rfl (h_gIe (j := 74) rfl rfl rfl rfl rfl (f1)) rfl ?_
          refine w_t (a := 147) (b := 142) rfl rfl rfl ?_
          refine w_p (pc1 := 149) rfl rfl ?_
          refine w_p (pc1 := 150) (st1 := .long 1 :: _) rfl rfl ?_
          refine w_p (pc1 := 151) rfl rfl ?_
          refine w_t (a := 193) (b := 154) (lb_ne_t (by decide)) rfl rfl ?_
          refine w_iinc (pc1 := 196) (u := nI (pre.length)) (z := nI (pre.length + 1)) (al1 := [(5, .int (nI (pre.length + 1))), (6, .long (t_M (some false))), (4, .int (nI (b))), (3, .int (nI (F))), (0, .ref 176), (1, .int (nI (p))), (2, .int (nI (row)))]) rfl rfl rfl nK_1 rfl rfl ?_
          refine w_p (pc1 := 61) rfl rfl ?_
          refine Wd_al (al := [(5, .int (nI (pre.length + 1))), (4, .int (nI (b))), (3, .int (nI (F))), (0, .ref 176), (1, .int (nI (p))), (2, .int (nI (row)))]) (sba_p [0, 2, 3, 4, 5, 6] rfl rfl) ?_
          exact hno C1 k1 k2 f1 k4 k5 (by rw [hww, e1, hfl])
        · skip
          refine w_p (pc1 := 63) rfl rfl ?_
          refine w_p (pc1 := 64) rfl rfl ?_
          refine w_m0 (pc1 := 67) rfl rfl (h_gC rfl rfl rfl rfl) rfl ?_
          refine w_p (pc1 := 69) rfl rfl ?_
          refine w_m0 (pc1 := 70) (st1 := .int (nI ((σ.1 b).1.length)) :: _) rfl rfl (n_ile (e := b) rfl rfl rfl (by omega) (g2)) rfl ?_
          refine w_f (a := 199) (b := 73) (bN_ge_f (a := pre.length) (b := (σ.1 b).1.length) (by omega) (by omega) (by omega)) rfl rfl ?_
          refine w_p (pc1 := 74) rfl rfl ?_
          refine w_m0 (pc1 := 77) rfl rfl (h_gC rfl rfl rfl rfl) rfl ?_
          refine w_p (pc1 := 78) rfl rfl ?_
          refine w_m0 (pc1 := 79) (st1 := .int (nI (aKd a)) :: _) rfl rfl (n_ile (e := p) rfl rfl rfl (by omega) (hkd1)) rfl ?_
          refine w_f (a := 199) (b := 82) (bN_le_f (a := aKd a) (b := 0) (by omega) (by omega) (by omega)) rfl rfl ?_
          refine w_p (pc1 := 83) rfl rfl ?_
          refine w_m0 (pc1 := 86) (st1 := .int 0 :: _) rfl rfl (h_gIe (j := 89) rfl rfl rfl rfl rfl (h9)) rfl ?_
          refine w_f (a := 199) (b := 89) rfl rfl rfl ?_
          refine w_p (pc1 := 90) rfl rfl ?_
          refine w_m0 (pc1 := 93) rfl rfl (h_gC rfl rfl rfl rfl) rfl ?_
          refine w_p (pc1 := 94) rfl rfl ?_
          refine w_m0 (pc1 := 95) (st1 := .int (nI (s)) :: _) rfl rfl (n_ile (e := p) rfl rfl rfl (by omega) (hw112)) rfl ?_
          refine w_p (pc1 := 96) (st1 := .int (-1) :: _) rfl rfl ?_
          refine w_t (a := 103) (b := 99) (cb_ne_t (by exact nK_m1 (by omega))) rfl rfl ?_
          refine w_p (pc1 := 104) rfl rfl ?_
          refine w_p (pc1 := 105) rfl rfl ?_
          refine w_p (pc1 := 106) rfl rfl ?_
          refine w_m0 (pc1 := 109) rfl rfl (h_gC rfl rfl rfl rfl) rfl ?_
          refine w_p (pc1 := 110) rfl rfl ?_
          refine w_m0 (pc1 := 111) (st1 := .int (nI (s)) :: _) rfl rfl (n_ile (e := p) rfl rfl rfl (by omega) (hw112)) rfl ?_
          refine w_p (pc1 := 112) rfl rfl ?_
          refine w_m0 (pc1 := 115) rfl rfl (h_gC rfl rfl rfl rfl) rfl ?_
          refine w_p (pc1 := 116) rfl rfl ?_
          refine w_m0 (pc1 := 117) (st1 := .int (nI (s + Q.length)) :: _) rfl rfl (n_ile (e := p) rfl rfl rfl (by omega) (hw113)) rfl ?_
          refine w_p (pc1 := 119) (st1 := .int 6 :: _) rfl rfl ?_
          refine w_p (pc1 := 121) (st1 := .int 40 :: _) rfl rfl ?_
          refine w_p (pc1 := 123) rfl rfl ?_
          refine w_imul (pc1 := 124) (u := nI (40)) (v := nI (b)) (z := nI (40 * b)) rfl (nK_mul) rfl ?_
          refine w_p (pc1 := 126) rfl rfl ?_
          refine w_iadd (pc1 := 127) (u := nI (40 * b)) (v := nI (pre.length)) (z := nI (40 * b + (pre.length))) rfl (nK_add) rfl ?_
          refine w_imul (pc1 := 128) (u := nI (6)) (v := nI (40 * b + (pre.length))) (z := nI (6 * (40 * b + (pre.length)))) rfl (nK_mul) rfl ?_
          refine w_p (pc1 := 129) rfl rfl ?_
          refine w_p (pc1 := 130) (st1 := .int 0 :: _) rfl rfl ?_
          refine w_ji (pc1 := 133) (vs := [.ref 176, .int (nI (p)), .int (nI (s)), .int (nI (s + Q.length)), .int (nI (6 * (40 * b + (pre.length)))), .int (nI (row)), .int 0]) (rest := []) (hwk) rfl rfl rfl (fun _ _ => rfl) rfl (by exact cl_v my_251 rfl rfl rfl (Nat.le_of_ble_eq_true rfl) rfl (MH_obj rfl rfl) rfl (by decide) rfl rfl) (by rfl) (Nat.le_of_ble_eq_true rfl) (Nat.le_of_ble_eq_true rfl) rfl (fun v h m hq => ?_) (fun _ _ _ e => e.elim)
          obtain ⟨rfl, ⟨C1, ⟨f1, f2⟩, rfl⟩, rfl⟩ := hq
          rw [hv]
          have f1 : C1.1 76 74 = 0 := by rw [f1, hfl]; rfl
          obtain ⟨k1, k2, k4, k5⟩ := hk0 C1 f2
          have hri1 : C1.1 115 (40 * b + pre.length) = r.1 := (f2.1 115 _ (by omega)).trans hrid
          refine w_p (pc1 := 135) (al1 := [(6, .long (t_M (some true))), (5, .int (nI (pre.length))), (4, .int (nI (b))), (3, .int (nI (F))), (0, .ref 176), (1, .int (nI (p))), (2, .int (nI (row)))]) rfl rfl ?_
          refine w_p (pc1 := 136) rfl rfl ?_
          refine w_m0 (pc1 := 139) (st1 := .int 0 :: _) rfl rfl (h_gIe (j := 74) rfl rfl rfl rfl rfl (f1)) rfl ?_
          refine w_t (a := 147) (b := 142) rfl rfl rfl ?_
          refine w_p (pc1 := 149) rfl rfl ?_
          refine w_p (pc1 := 150) (st1 := .long 1 :: _) rfl rfl ?_
          refine w_p (pc1 := 151) rfl rfl ?_
          refine w_f (a := 193) (b := 154) (lb_ne_f (by rfl)) rfl rfl ?_
          refine w_p (pc1 := 155) rfl rfl ?_
          refine w_m0 (pc1 := 158) rfl rfl (h_gC rfl rfl rfl rfl) rfl ?_
          refine w_p (pc1 := 160) (st1 := .int 40 :: _) rfl rfl ?_
          refine w_p (pc1 := 161) rfl rfl ?_
          refine w_imul (pc1 := 162) (u := nI (40)) (v := nI (F)) (z := nI (40 * F)) rfl (nK_mul) rfl ?_
          refine w_p (pc1 := 163) rfl rfl ?_
          refine w_m0 (pc1 := 166) rfl rfl (h_gC rfl rfl rfl rfl) rfl ?_
          refine w_p (pc1 := 167) rfl rfl ?_
          refine w_m0 (pc1 := 168) (st1 := .int (nI (is.length)) :: _) rfl rfl (n_ile (e := F) rfl rfl rfl (by omega) (k4)) rfl ?_
          refine w_iadd (pc1 := 169) (u := nI (40 * F)) (v := nI (is.length)) (z := nI (40 * F + (is.length))) rfl (nK_add) rfl ?_
          refine w_p (pc1 := 170) rfl rfl ?_
          refine w_m0 (pc1 := 173) rfl rfl (h_gC rfl rfl rfl rfl) rfl ?_
          refine w_p (pc1 := 175) (st1 := .int 40 :: _) rfl rfl ?_
          refine w_p (pc1 := 177) rfl rfl ?_
          refine w_imul (pc1 := 178) (u := nI (40)) (v := nI (b)) (z := nI (40 * b)) rfl (nK_mul) rfl ?_
          refine w_p (pc1 := 180) rfl rfl ?_
          refine w_iadd (pc1 := 181) (u := nI (40 * b)) (v := nI (pre.length)) (z := nI (40 * b + (pre.length))) rfl (nK_add) rfl ?_
          refine w_m0 (pc1 := 182) (st1 := .int (r.1) :: _) rfl rfl (n_ile (e := 40 * b + (pre.length)) rfl rfl rfl (by omega) (hri1)) rfl ?_
          refine w_m0 (pc1 := 183) rfl rfl (n_is (e := 40 * F + (is.length)) rfl rfl rfl (by omega)) rfl ?_
          refine w_p (pc1 := 184) rfl rfl ?_
          refine w_m0 (pc1 := 187) rfl rfl (h_gC rfl rfl rfl rfl) rfl ?_
          refine w_p (pc1 := 188) rfl rfl ?_
          refine w_p (pc1 := 189) rfl rfl ?_
          refine w_m0 (pc1 := 190) (st1 := .int (nI (is.length)) :: _) rfl rfl (n_ile (e := F) rfl rfl rfl (by omega) ((by rw [sI_1, if_neg (by omega)]; exact k4))) rfl ?_
          refine w_p (pc1 := 191) (st1 := .int 1 :: _) rfl rfl ?_
          refine w_iadd (pc1 := 192) (u := nI (is.length)) (v := nI (1)) (z := nI (is.length + 1)) rfl (nK_add) rfl ?_
          refine w_m0 (pc1 := 193) rfl rfl (n_is (e := F) rfl rfl rfl (by omega)) rfl ?_
          refine w_iinc (pc1 := 196) (u := nI (pre.length)) (z := nI (pre.length + 1)) (al1 := [(5, .int (nI (pre.length + 1))), (6, .long (t_M (some true))), (4, .int (nI (b))), (3, .int (nI (F))), (0, .ref 176), (1, .int (nI (p))), (2, .int (nI (row)))]) rfl rfl rfl nK_1 rfl rfl ?_
          refine w_p (pc1 := 61) rfl rfl ?_
          refine Wd_al (al := [(5, .int (nI (pre.length + 1))), (4, .int (nI (b))), (3, .int (nI (F))), (0, .ref 176), (1, .int (nI (p))), (2, .int (nI (row)))]) (sba_p [0, 2, 3, 4, 5, 6] rfl rfl) ?_
          exact hyes C1 k1 k2 f1 k4 k5 (by rw [hww, e1, hfl])
end ME6
