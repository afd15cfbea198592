/-! BOTH SIDES READ THE SAME TOKENS, 2: the other side's registers behind the step -/
section SAM
variable {C : co_T} {B : Nat → Nat} {n a i : Nat}
def mTk (k : Nat) : Int32 := if k = 2 then 0 else if k = 3 then 1 else if k = 4 then 2 else if k ≤ 43 then 3 else 4
def mIs (k : Nat) (v : Int64) : Int64 := if k = 2 then 0 else if k = 53 then 160 else if k = 55 then 162 else v
/-! what may change: the six ints and the long of the token and of the fault -/
def frT (C C' : co_T) : Prop := (∀ k j, ¬ (k = 76 ∧ (j = 3 ∨ j = 4 ∨ j = 5 ∨ j = 6 ∨ j = 8 ∨ j = 9)) → C'.1 k j = C.1 k j) ∧ (∀ k j, ¬ (k = 76 ∧ j = 7) → C'.2.1 k j = C.2.1 k j) ∧ C'.2.2 = C.2.2
set_option maxRecDepth 100000 in
theorem frT_r : frT C C := ⟨fun _ _ _ => rfl, fun _ _ _ => rfl, rfl⟩
set_option maxRecDepth 100000 in
theorem frT_t {C1 C2 C3 : co_T} (h : frT C1 C2) (g : frT C2 C3) : frT C1 C3 := ⟨fun k j z => (g.1 k j z).trans (h.1 k j z), fun k j z => (g.2.1 k j z).trans (h.2.1 k j z), g.2.2.trans h.2.2⟩
set_option maxRecDepth 100000 in
theorem frT_I {j : Nat} {v : Int32} (hj : j = 3 ∨ j = 4 ∨ j = 5 ∨ j = 6 ∨ j = 8 ∨ j = 9) : frT C (sI C 76 j v) := ⟨fun k q z => by rw [sI_1, if_neg (by omega)], fun _ _ _ => rfl, rfl⟩
set_option maxRecDepth 100000 in
theorem frT_J {v : Int64} : frT C (sJ C 76 7 v) := ⟨fun _ _ _ => rfl, fun k q z => by rw [sJ_2, if_neg z], rfl⟩
set_option maxRecDepth 100000 in
theorem frT_f {c q : Int32} : frT C (fl_ C c q) := by
  unfold fl_
  split
  · exact frT_t (frT_I (by omega)) (frT_I (by omega))
  · exact frT_r
set_option maxRecDepth 100000 in
theorem frT_1 : frT C (nx1 C a) := frT_t (frT_t (frT_I (by omega)) (frT_I (by omega))) (frT_I (by omega))
set_option maxRecDepth 100000 in
theorem frT_rl {p e : Nat} {v : Int64} : frT C (rlF C p e v) := by
  unfold rlF
  refine frT_t (frT_t ?_ (frT_I (by omega))) (frT_I (by omega))
  split
  · exact frT_t frT_J frT_f
  · exact frT_J
set_option maxRecDepth 100000 in
theorem frT_rf {p e : Nat} {v : Int64} : frT C (rfF C p e v) := by
  unfold rfF
  refine frT_t (frT_t ?_ (frT_I (by omega))) (frT_I (by omega))
  split
  · exact frT_t frT_J frT_f
  · exact frT_J
set_option maxRecDepth 100000 in
theorem frT_nx : frT C (nxM B n C a) := by
  unfold nxM
  split
  · exact frT_t (frT_t (frT_t (frT_t frT_1 (frT_I (by omega))) (frT_I (by omega))) (frT_I (by omega))) frT_J
  · have hs : frT C (sg2 C B n a) := frT_t (frT_t (frT_t frT_1 (frT_I (by omega))) frT_J) (frT_I (by omega))
    cases isL (B a) <;> cases isF (B a) <;> cases isSg (B a) <;> simp only [cond_true, cond_false]
    · exact frT_t hs frT_f
    · exact hs
    · exact frT_t frT_1 frT_rf
    · exact frT_t frT_1 frT_rf
    · exact frT_t frT_1 frT_rl
    · exact frT_t frT_1 frT_rl
    · exact frT_t frT_1 frT_rl
    · exact frT_t frT_1 frT_rl
/-! the registers of a token that can be read, and of one that can't -/
def rgM (C C' : co_T) (k : Nat) (v : Int64) (a e : Nat) : Prop := C'.1 76 4 = mTk k ∧ C'.2.1 76 7 = mIs k v ∧ C'.1 76 5 = nI a ∧ C'.1 76 6 = nI e ∧ C'.1 76 8 = C.1 76 8 ∧ C'.1 76 9 = C.1 76 9
def rgB (C C' : co_T) (n a : Nat) : Prop := C'.1 76 5 = nI a ∧ (∃ e, C'.1 76 6 = nI e ∧ a < e ∧ e ≤ n) ∧ (C.1 76 8 = 0 → C'.1 76 8 = 1 ∧ C'.1 76 9 = nI a) ∧ (C.1 76 8 ≠ 0 → C'.1 76 8 = C.1 76 8 ∧ C'.1 76 9 = C.1 76 9)
set_option maxRecDepth 100000 in
theorem fl_f {c q : Int32} : (C.1 76 8 = 0 → (fl_ C c q).1 76 8 = c ∧ (fl_ C c q).1 76 9 = q) ∧ (C.1 76 8 ≠ 0 → (fl_ C c q).1 76 8 = C.1 76 8 ∧ (fl_ C c q).1 76 9 = C.1 76 9) := by
  unfold fl_
  constructor
  · intro h
    rw [if_pos h]
    exact ⟨rfl, rfl⟩
  · intro h
    rw [if_neg h]
    exact ⟨rfl, rfl⟩
set_option maxRecDepth 100000 in
theorem rgB_of {D : co_T} {u q : Int32} {e : Nat} (h8 : D.1 76 8 = C.1 76 8) (h9 : D.1 76 9 = C.1 76 9) (h5 : D.1 76 5 = nI a) (he : a < e ∧ e ≤ n) (hq : q = nI a) : rgB C (sI (sI (fl_ D 1 q) 76 4 u) 76 6 (nI e)) n a := by
  refine ⟨?_, ⟨e, rfl, he⟩, fun h0 => ?_, fun h0 => ?_⟩
  · show (fl_ D 1 q).1 76 5 = _
    rw [flt_1 (by omega)]
    exact h5
  · show (fl_ D 1 q).1 76 8 = 1 ∧ (fl_ D 1 q).1 76 9 = nI a
    have := (fl_f (C := D) (c := 1) (q := q)).1 (by rw [h8]; exact h0)
    exact ⟨this.1, this.2.trans hq⟩
  · show (fl_ D 1 q).1 76 8 = C.1 76 8 ∧ (fl_ D 1 q).1 76 9 = C.1 76 9
    have := (fl_f (C := D) (c := 1) (q := q)).2 (by rw [h8]; exact h0)
    exact ⟨this.1.trans h8, this.2.trans h9⟩
/-! the end -/
set_option maxRecDepth 100000 in
theorem nx_e (h : n ≤ a) (ha : a ≤ n) : rgM C (nxM B n C a) 2 0 a a := by
  obtain rfl : a = n := by omega
  unfold nxM
  rw [if_pos h]
  exact ⟨rfl, rfl, rfl, rfl, rfl, rfl⟩
/-! letters -/
set_option maxRecDepth 100000 in
theorem LF {b : Nat} (h : isL b = true) : isF b = false := by
  simp only [isL, Bool.and_eq_true, decide_eq_true_eq] at h
  simp only [isF, Bool.and_eq_false_iff, decide_eq_false_iff_not]
  omega
set_option maxRecDepth 100000 in
theorem nx_l (hB : ∀ j, j < n → B j < 256) (ha : a < n) (hl : isL (B a) = true) :
    (9 ≤ tkE B n a - a → rgB C (nxM B n C a) n a) ∧ (tkE B n a - a ≤ 8 → spt (ltV B (tkE B n a - a) a 0) 59 0 ≠ 1 ∧ rgM C (nxM B n C a) (spt (ltV B (tkE B n a - a) a 0) 59 0) (ltV B (tkE B n a - a) a 0) a (tkE B n a)) := by
  have hq : (atL B n a || atF B n a) = true := by rw [atL, hl, decide_eq_true ha]; rfl
  have he : adv (fun i => atL B n i || atF B n i) (n - a) a = tkE B n a := by
    rw [adv_1 ha hq]
    unfold tkE
    rw [hl]
    rfl
  have hle := tkE_le (B := B) ha
  constructor
  · intro h9
    unfold nxM
    rw [if_neg (by omega), hl, cond_true, he, rlF, if_pos (by omega)]
    exact rgB_of rfl rfl rfl hle rfl
  · intro h8
    have hlet : ∀ j, a ≤ j → j < tkE B n a → atL B n j = true ∨ atF B n j = true := by
      have g : ∀ (q : Nat → Bool) (f p j : Nat), p ≤ j → j < adv q f p → q j = true := by
        intro q f
        induction f with
        | zero =>
          intro p j h1 h2
          rw [adv] at h2
          omega
        | succ f ih =>
          intro p j h1 h2
          rw [adv] at h2
          cases hp : q p with
          | false =>
            rw [hp, cond_false] at h2
            omega
          | true =>
            rw [hp, cond_true] at h2
            by_cases e : j = p
            · rw [e]; exact hp
            · exact ih (p + 1) j (by omega) h2
      intro j h1 h2
      have := g (fun i => atL B n i || atF B n i) (n - a) a j h1 (by rw [he]; exact h2)
      simpa using this
    have h128 : ∀ j, a ≤ j → j < a + (tkE B n a - a) → B j < 128 := by
      intro j h1 h2
      rcases hlet j h1 (by omega) with h | h
      · simp only [atL, isL, Bool.and_eq_true, decide_eq_true_eq] at h
        omega
      · simp only [atF, isF, Bool.and_eq_true, decide_eq_true_eq] at h
        omega
    have hv : rlV B n a (n - a) a 0 = ltV B (tkE B n a - a) a 0 := by
      rw [rlV_N (n - a) a 0 (Nat.le_refl _) (by rw [he]; exact h8), he, ltV_N _ _ _ (fun j h1 h2 => by have := h128 j h1 h2; omega)]
    have hnat : (ltV B (tkE B n a - a) a 0).toBitVec.toNat = ntV B (tkE B n a - a) a 0 := by
      rw [ltV_N _ _ _ (fun j h1 h2 => by have := h128 j h1 h2; omega), ltN_nat _ a 0 0 (by omega) (Or.inr ⟨rfl, rfl⟩) h128]
      rfl
    have hab : 97 ≤ B a ∧ B a ≤ 122 := by simpa [isL] using hl
    have hb := ntV_b (B := B) (f := tkE B n a - a - 1) (p := a) hab.1 hab.2
    rw [show tkE B n a - a - 1 + 1 = tkE B n a - a by omega] at hb
    unfold nxM
    rw [if_neg (by omega), hl, cond_true, he, rlF, if_neg (by omega), hv]
    generalize hw : ltV B (tkE B n a - a) a 0 = w at hnat ⊢
    cases hwd : isWd w with
    | true =>
      have h5 := spt_w hwd
      refine ⟨by omega, ?_, ?_, rfl, rfl, rfl, rfl⟩
      · show (3 : Int32) = _
        unfold mTk
        rw [if_neg (by omega), if_neg (by omega), if_neg (by omega), if_pos (by omega)]
      · show w = _
        unfold mIs
        rw [if_neg (by omega), if_neg (by omega), if_neg (by omega)]
    | false =>
      have h3 : spt w 59 0 = 3 := spt_n hwd (by omega) (by omega)
      rw [h3]
      exact ⟨by decide, rfl, rfl, rfl, rfl, rfl, rfl⟩
/-! figures -/
set_option maxRecDepth 100000 in
theorem nx_f (ha : a < n) (hl : isL (B a) = false) (hf : isF (B a) = true) :
    (10 ≤ tkE B n a - a → rgB C (nxM B n C a) n a) ∧ (tkE B n a - a ≤ 9 → rgM C (nxM B n C a) 4 (dgV B (tkE B n a - a) a 0) a (tkE B n a)) := by
  have hq : atF B n a = true := by rw [atF, hf, decide_eq_true ha]; rfl
  have he : adv (atF B n) (n - a) a = tkE B n a := by
    rw [adv_1 ha hq]
    unfold tkE
    rw [hl, hf]
    rfl
  have hle := tkE_le (B := B) ha
  constructor
  · intro h10
    unfold nxM
    rw [if_neg (by omega), hl, cond_false, hf, cond_true, he, rfF, if_pos (by omega)]
    exact rgB_of rfl rfl rfl hle rfl
  · intro h9
    have hv : rfV B n a (n - a) a 0 = dgV B (tkE B n a - a) a 0 := by
      rw [dgV_N (n - a) a 0 (Nat.le_refl _) (by rw [he]; exact h9), he]
    unfold nxM
    rw [if_neg (by omega), hl, cond_false, hf, cond_true, he, rfF, if_neg (by omega), hv]
    exact ⟨rfl, rfl, rfl, rfl, rfl, rfl⟩
/-! signs -/
set_option maxRecDepth 100000 in
theorem nl_0 : ∀ b : Fin 256, nl 0 b.1 = (nI b.1).toInt64 := by decide +kernel
set_option maxRecDepth 100000 in
theorem sg_2 : spt (nl (nl 0 60) 61) 59 0 = 53 ∧ spt (nl (nl 0 62) 61) 59 0 = 55 := by decide +kernel
set_option maxRecDepth 100000 in
theorem sg_no : ∀ b : Fin 256, isSg b.1 = true → sgK b.1 ≠ 53 ∧ sgK b.1 ≠ 55 := by decide +kernel
set_option maxRecDepth 100000 in
theorem rgB_s {D : co_T} {q : Int32} {e : Nat} (h8 : D.1 76 8 = C.1 76 8) (h9 : D.1 76 9 = C.1 76 9) (h5 : D.1 76 5 = nI a) (h6 : D.1 76 6 = nI e) (he : a < e ∧ e ≤ n) (hq : q = nI a) : rgB C (fl_ D 1 q) n a := by
  refine ⟨?_, ⟨e, ?_, he⟩, fun h0 => ?_, fun h0 => ?_⟩
  · rw [flt_1 (by omega)]
    exact h5
  · rw [flt_1 (by omega)]
    exact h6
  · have := (fl_f (C := D) (c := 1) (q := q)).1 (by rw [h8]; exact h0)
    exact ⟨this.1, this.2.trans hq⟩
  · have := (fl_f (C := D) (c := 1) (q := q)).2 (by rw [h8]; exact h0)
    exact ⟨this.1.trans h8, this.2.trans h9⟩
set_option maxRecDepth 100000 in
theorem nx_s (hB : ∀ j, j < n → B j < 256) (ha : a < n) (hl : isL (B a) = false) (hf : isF (B a) = false) :
    (spt (ltV B (tkE B n a - a) a 0) 59 0 = 3 ∨ spt (ltV B (tkE B n a - a) a 0) 59 0 = 1 → rgB C (nxM B n C a) n a) ∧ (spt (ltV B (tkE B n a - a) a 0) 59 0 ≠ 3 → spt (ltV B (tkE B n a - a) a 0) 59 0 ≠ 1 → rgM C (nxM B n C a) (spt (ltV B (tkE B n a - a) a 0) 59 0) (ltV B (tkE B n a - a) a 0) a (tkE B n a)) := by
  have hb := hB a ha
  have ht := sg_tab ⟨B a, hb⟩
  simp only [hl, hf, Bool.false_eq_true, false_or] at ht
  by_cases h2 : (B a = 60 ∨ B a = 62) ∧ a + 1 < n ∧ B (a + 1) = 61
  · have htw : two B n a = true := by
      unfold two bt
      rw [if_pos h2.2.1, h2.2.2]
      rcases h2.1 with h | h <;> rw [h] <;> rfl
    have he : tkE B n a = a + 2 := by
      unfold tkE
      rw [hl, hf, cond_false, cond_false, if_pos h2]
    have hsg : isSg (B a) = true := by rcases h2.1 with h | h <;> rw [h] <;> rfl
    have hlt : ltV B (tkE B n a - a) a 0 = nl (nl 0 (B a)) 61 := by
      rw [he, show a + 2 - a = 2 by omega, ltV_N 2 a 0 (fun j h3 h4 => by
        by_cases e : j = a
        · rw [e]; exact hb
        · obtain rfl : j = a + 1 := by omega
          rw [h2.2.2]
          decide)]
      rw [ltN, ltN, ltN, h2.2.2]
    rw [hlt, he]
    unfold nxM sg2 sgV
    rw [if_neg (by omega), hl, hf, hsg, htw]
    simp only [cond_true, cond_false]
    rcases h2.1 with h | h
    · rw [h, sg_2.1]
      exact ⟨fun e => by omega, fun _ _ => ⟨rfl, rfl, rfl, rfl, rfl, rfl⟩⟩
    · rw [h, sg_2.2]
      exact ⟨fun e => by omega, fun _ _ => ⟨rfl, rfl, rfl, rfl, rfl, rfl⟩⟩
  · have htw : two B n a = false := by
      cases h : two B n a with
      | false => rfl
      | true =>
        exfalso
        unfold two bt at h
        simp only [Bool.and_eq_true, Bool.or_eq_true, decide_eq_true_eq] at h
        apply h2
        by_cases h3 : a + 1 < n
        · rw [if_pos h3] at h
          exact ⟨h.1, h3, h.2⟩
        · rw [if_neg h3] at h
          exact absurd h.2 (by decide)
    have he : tkE B n a = a + 1 := by
      unfold tkE
      rw [hl, hf, cond_false, cond_false, if_neg h2]
    have hlt : ltV B (tkE B n a - a) a 0 = (nI (B a)).toInt64 := by
      rw [he, show a + 1 - a = 1 by omega, ltV_N 1 a 0 (fun j h3 h4 => by
        obtain rfl : j = a := by omega
        exact hb)]
      rw [ltN, ltN]
      exact nl_0 ⟨B a, hb⟩
    rw [hlt, he]
    have hK : spt ((nI (B a)).toInt64) 59 0 = sgK (B a) := rfl
    rw [hK]
    rcases ht with ⟨h1, h3, h4, h5⟩ | ⟨h1, h3⟩
    · refine ⟨fun e => by omega, fun _ _ => ?_⟩
      have hno := sg_no ⟨B a, hb⟩ h1
      simp only at hno
      unfold nxM sg2 sgV
      rw [if_neg (by omega), hl, hf, h1, htw]
      simp only [cond_true, cond_false]
      refine ⟨?_, ?_, rfl, rfl, rfl, rfl⟩
      · show (4 : Int32) = _
        unfold mTk
        rw [if_neg (by omega), if_neg (by omega), if_neg (by omega), if_neg (by omega)]
      · show (nI (B a)).toInt64 = _
        unfold mIs
        rw [if_neg (by omega), if_neg hno.1, if_neg hno.2]
    · refine ⟨fun _ => ?_, fun z1 z2 => absurd h3 (by omega)⟩
      unfold nxM sg2 sgV
      rw [if_neg (by omega), hl, hf, h1, htw]
      simp only [cond_true, cond_false]
      exact rgB_s rfl rfl rfl rfl ⟨by omega, by omega⟩ rfl
/-! the token of number i -/
set_option maxRecDepth 100000 in
theorem nx_tok (hB : ∀ j, j < n → B j < 256) : (kd B n i = 1 → rgB C (nxM B n C (tkA B n i)) n (tkA B n i)) ∧ (kd B n i ≠ 1 → rgM C (nxM B n C (tkA B n i)) (kd B n i) (vl B n i) (tkA B n i) (tkZ B n i)) := by
  have ha := tkA_le (B := B) (n := n) i
  by_cases hn : n ≤ tkA B n i
  · have hk : kd B n i = 2 := by unfold kd tkK; rw [if_pos hn]
    have hz : tkZ B n i = tkA B n i := by unfold tkZ tkZ1; rw [if_neg (by omega)]
    rw [hk, hz]
    refine ⟨fun e => by omega, fun _ => ?_⟩
    have := nx_e (C := C) (B := B) hn ha
    exact ⟨this.1, this.2.1, this.2.2⟩
  · have hlt : tkA B n i < n := by omega
    have hz : tkZ B n i = tkE B n (tkA B n i) := by unfold tkZ tkZ1; rw [if_pos hlt]
    cases hl : isL (B (tkA B n i)) with
    | true =>
      have hF : atF B n (tkA B n i) = false := by rw [atF, LF hl, Bool.and_false]
      have hL : atL B n (tkA B n i) = true := by rw [atL, hl, decide_eq_true hlt]; rfl
      have hv : vl B n i = ltV B (tkE B n (tkA B n i) - tkA B n i) (tkA B n i) 0 := by unfold vl tkV; rw [hF, cond_false, hz]
      have hk : kd B n i = if 8 < tkE B n (tkA B n i) - tkA B n i then 1 else spt (vl B n i) 59 0 := by unfold kd tkK; rw [if_neg hn, hF, hL, hz]; rfl
      have h := nx_l (C := C) hB hlt hl
      by_cases h8 : 8 < tkE B n (tkA B n i) - tkA B n i
      · rw [if_pos h8] at hk
        exact ⟨fun _ => h.1 (by omega), fun z => absurd hk z⟩
      · rw [if_neg h8] at hk
        have g := h.2 (by omega)
        rw [← hv, ← hk, ← hz] at g
        exact ⟨fun e => absurd e g.1, fun _ => g.2⟩
    | false =>
      have hL : atL B n (tkA B n i) = false := by rw [atL, hl, Bool.and_false]
      cases hf : isF (B (tkA B n i)) with
      | true =>
        have hF : atF B n (tkA B n i) = true := by rw [atF, hf, decide_eq_true hlt]; rfl
        have hv : vl B n i = dgV B (tkE B n (tkA B n i) - tkA B n i) (tkA B n i) 0 := by unfold vl tkV; rw [hF, cond_true, hz]
        have hk : kd B n i = if 9 < tkE B n (tkA B n i) - tkA B n i then 1 else 4 := by unfold kd tkK; rw [if_neg hn, hF, hz]; rfl
        have h := nx_f (C := C) hlt hl hf
        by_cases h9 : 9 < tkE B n (tkA B n i) - tkA B n i
        · rw [if_pos h9] at hk
          exact ⟨fun _ => h.1 (by omega), fun z => absurd hk z⟩
        · rw [if_neg h9] at hk
          have g := h.2 (by omega)
          rw [← hv, ← hz] at g
          rw [hk]
          exact ⟨fun e => by omega, fun _ => g⟩
      | false =>
        have hF : atF B n (tkA B n i) = false := by rw [atF, hf, Bool.and_false]
        have hv : vl B n i = ltV B (tkE B n (tkA B n i) - tkA B n i) (tkA B n i) 0 := by unfold vl tkV; rw [hF, cond_false, hz]
        have hk : kd B n i = if spt (vl B n i) 59 0 = 3 then 1 else spt (vl B n i) 59 0 := by unfold kd tkK; rw [if_neg hn, hF, hL]; rfl
        have h := nx_s (C := C) hB hlt hl hf
        rw [← hv, ← hz] at h
        by_cases h3 : spt (vl B n i) 59 0 = 3
        · rw [if_pos h3] at hk
          exact ⟨fun _ => h.1 (Or.inl h3), fun z => absurd hk z⟩
        · rw [if_neg h3] at hk
          rw [hk]
          exact ⟨fun e => h.1 (Or.inr e), fun e => h.2 h3 e⟩
end SAM
