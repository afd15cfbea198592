
/-! THE LAW: clear -/
section LWE
variable {L : Nat} {xs : Nat → Int32} {B B' : Nat → Nat} {n n' m d sl i b l : Nat} {C C' C0 C1 C2 : co_T} {t : ab_H} {Ks : List Nat} {W : wo_T} {an : Nat → Int32} {P : Option Value → ab_H → Nat → Prop} {X : Nat → ab_H → Nat → Prop} {x : Int32} {a v : Int64} {T G : Nat → Option Nat}
/-! the world with nothing in it -/
def wZ : wo_T := (((fun _ => 0, fun _ => 0, fun _ _ => 0), fun _ _ => none, fun _ => none), fun _ => none, fun _ => ([], 0), (false, fun _ => false, fun _ => ([], 0), (0, fun _ => 0), fun _ _ => ([], 0)))
set_option maxRecDepth 100000 in
theorem wAll_Z : wAll wZ := by
  refine ⟨⟨⟨fun b hb => ⟨Nat.zero_le 6, fun z => absurd rfl z, fun _ => rfl⟩, fun i u e => (by cases e)⟩, fun i g e => (by cases e), ?_, ⟨fun i _ => rfl, fun _ => ⟨fun i => rfl, rfl⟩, Nat.zero_le 6⟩, ⟨fun b _ _ => rfl, fun z => (by cases z), fun j hj => absurd hj (Nat.not_lt_zero j)⟩⟩, fun _ _ => rfl, fun _ _ => rfl⟩
  have e : ndS (wU wZ) (wG wZ) = 0 := rfl
  rw [e]
  omega
set_option maxRecDepth 100000 in
theorem KI_Z (hb : bkO Ks t.length) (h7 : ∀ b, b < 6 → C.2.1 7 b = 0 ∧ C.1 8 b = 0 ∧ C.1 16 b = 0 ∧ C.1 17 b = 0) (h11 : ∀ i, i < 24 → C.2.2 11 i = none) (h12 : ∀ i, i < 8 → C.2.2 12 i = none) (hB : KBf C) (h6 : C.1 6 7 = 0 ∧ C.1 6 8 = 0 ∧ C.1 6 12 = 0) (hA : asP C t Ks) : KI C t Ks wZ :=
  ⟨hb, ⟨⟨⟨fun b h => (h7 b h).1, fun b h => ⟨(h7 b h).2.1, Nat.zero_le 6, fun c hc => absurd hc (Nat.not_lt_zero c)⟩⟩, fun b c h hc => absurd hc (Nat.not_lt_zero c), fun i hi => h11 i hi⟩, fun i hi => h12 i hi, hB⟩, ⟨fun b h => ⟨Nat.zero_le 6, (h7 b h).2.2.1, Nat.zero_le 40, fun k r hr => (by cases hr)⟩, fun q hq => (h7 q hq).2.2.2⟩, ⟨h6.1, fun i hi => (by rw [h6.2.1]; exact bbI_0 i), h6.2.2, Nat.zero_le 6, fun j hj => absurd hj (Nat.not_lt_zero j)⟩, hA, fun z => (by cases z), fun j hj => absurd hj (Nat.not_lt_zero j)⟩
set_option maxRecDepth 100000 in
theorem MI_Z (h78 : ∀ b, b < 6 → C.1 78 b = 0 ∧ C.1 117 b = 0 ∧ C.1 118 b = 1) (h83 : ∀ i, i < 24 → C.1 83 i = 0) (h91 : ∀ i, i < 24 → C.1 91 i = 0 ∨ C.1 91 i = 1) (h95 : ∀ i, i < 8 → C.1 95 i = 0) (bo : (C.1 76 48 = 0 ∨ C.1 76 48 = 1) ∧ (C.1 76 49 = 0 ∨ C.1 76 49 = 1)) (h69 : C.1 76 69 = 0) (h70 : C.1 76 70 = 0) (hz : ∃ z, C.1 76 74 = ck z) : MI C wZ :=
  ⟨⟨⟨fun q hq hn => absurd rfl hn, fun q hq _ => (h78 q hq).1, fun q hq => Or.inl ⟨rfl, h83 q hq⟩, bo⟩, fun i hi => h95 i hi, fun g u hg e => (by cases e)⟩, ⟨fun b hb => ⟨Nat.zero_le 6, (h78 b hb).2.1, Nat.zero_le 40, fun k r hr => (by cases hr)⟩, fun q hq => (h78 q hq).2.2⟩, ⟨h69, ⟨h91, fun j hj hn => absurd rfl hn⟩, h70, Nat.zero_le 6, fun j hj => absurd hj (Nat.not_lt_zero j)⟩, ⟨fun z => (by cases z), fun j hj => absurd hj (Nat.not_lt_zero j)⟩, hz⟩
/-! what is there while one side drops all -/
def tbL (T : Nat → Option Nat) (b j : Nat) : Option Nat := match T j with
  | none => none
  | some c => if c < b then none else some c
set_option maxRecDepth 100000 in
theorem tbL_n {j : Nat} (h : T j = none) : tbL T b j = none := by unfold tbL; rw [h]
set_option maxRecDepth 100000 in
theorem tbL_s {j c : Nat} (h : T j = some c) : tbL T b j = if c < b then none else some c := by unfold tbL; rw [h]
set_option maxRecDepth 100000 in
theorem tbL_0 {j c : Nat} (h : T j = some c) (hc : c < b) : tbL T b j = none := by rw [tbL_s h, if_pos hc]
set_option maxRecDepth 100000 in
theorem tbL_1 {j c : Nat} (h : T j = some c) (hc : ¬ c < b) : tbL T b j = some c := by rw [tbL_s h, if_neg hc]
def ClQ (C0 : co_T) (T G : Nat → Option Nat) (b : Nat) (C : co_T) : Prop := (∀ k j, ¬ ((k = 8 ∨ k = 16 ∨ k = 17) ∧ j < b) → C.1 k j = C0.1 k j) ∧ (∀ j, j < b → C.2.1 7 j = 0 ∧ C.1 8 j = 0 ∧ C.1 16 j = 0 ∧ C.1 17 j = 0) ∧ (∀ k j, ¬ (k = 7 ∧ j < b) → C.2.1 k j = C0.2.1 k j) ∧ (∀ k j, k ≠ 11 → k ≠ 12 → C.2.2 k j = C0.2.2 k j) ∧ (∀ j, j < 24 → C.2.2 11 j = if tbL T b j = none then none else C0.2.2 11 j) ∧ (∀ j, j < 8 → C.2.2 12 j = if tbL G b j = none then none else C0.2.2 12 j)
set_option maxRecDepth 100000 in
theorem ClQ_t (Q : ClQ C0 T G b C) (S : SLt C0 t 11 0 24 T) : SLt C t 11 0 24 (tbL T b) := fun j _ hj => by
  have h := S j (Nat.zero_le j) hj
  have q := Q.2.2.2.2.1 j hj
  cases e : T j with
  | none =>
    rw [tbL_n e] at q ⊢
    exact q.trans (if_pos rfl)
  | some c =>
    rw [e] at h
    by_cases hc : c < b
    · rw [tbL_0 e hc] at q ⊢
      exact q.trans (if_pos rfl)
    · rw [tbL_1 e hc] at q ⊢
      obtain ⟨k, x, l, h1, h2, h3⟩ := h
      exact ⟨k, x, l, by rw [q, if_neg (fun z => by cases z)]; exact h1, h2, h3⟩
set_option maxRecDepth 100000 in
theorem ClQ_g (Q : ClQ C0 T G b C) (S : SLg C0 t 12 0 8 G) : SLg C t 12 0 8 (tbL G b) := fun j _ hj => by
  have h := S j (Nat.zero_le j) hj
  have q := Q.2.2.2.2.2 j hj
  cases e : G j with
  | none =>
    rw [tbL_n e] at q ⊢
    exact q.trans (if_pos rfl)
  | some c =>
    rw [e] at h
    by_cases hc : c < b
    · rw [tbL_0 e hc] at q ⊢
      exact q.trans (if_pos rfl)
    · rw [tbL_1 e hc] at q ⊢
      obtain ⟨k, x, l, h1, h2, h3⟩ := h
      exact ⟨k, x, l, by rw [q, if_neg (fun z => by cases z)]; exact h1, h2, h3⟩
set_option maxRecDepth 100000 in
theorem ClQ_u {j : Nat} {x y z : Option Nat} (hx : x = if tbL T b j = none then none else y) (hz : z = if 0 ≤ j ∧ tbL T b j = some b then none else x) : z = if tbL T (b + 1) j = none then none else y := by
  cases e : T j with
  | none =>
    rw [tbL_n e] at hx hz ⊢
    rw [if_pos rfl] at hx ⊢
    rw [hz, hx]
    split <;> rfl
  | some c =>
    by_cases h1 : c < b
    · rw [tbL_0 e h1] at hx hz
      rw [tbL_0 e (by omega)]
      rw [if_pos rfl] at hx ⊢
      rw [hz, hx]
      split <;> rfl
    · rw [tbL_1 e h1] at hx hz
      rw [if_neg (fun q => by cases q)] at hx
      by_cases h2 : c = b
      · rw [tbL_0 e (by omega), if_pos rfl, hz, if_pos ⟨Nat.zero_le j, by rw [h2]⟩]
      · rw [tbL_1 e (by omega), if_neg (fun q => by cases q), hz, if_neg (fun q => h2 (by injection q.2)), hx]
set_option maxRecDepth 100000 in
theorem ClQ_s (Q : ClQ C0 T G b C) (h1 : drS (dpC C b) C1 11 0 24 b (tbL T b)) (h2 : drS C1 C2 12 0 8 b (tbL G b)) : ClQ C0 T G (b + 1) C2 := by
  obtain ⟨q1, q2, q3, q4, q5, q6⟩ := Q
  obtain ⟨a1, a2, a3, a4⟩ := h1
  obtain ⟨b1, b2, b3, b4⟩ := h2
  have eI : ∀ k j, C2.1 k j = (dpC C b).1 k j := fun k j => by rw [b1, a1]
  have eJ : ∀ k j, C2.2.1 k j = (dpC C b).2.1 k j := fun k j => by rw [b2, a2]
  have eI2 : ∀ k j, ¬ ((k = 8 ∨ k = 16 ∨ k = 17) ∧ j = b) → (dpC C b).1 k j = C.1 k j := fun k j h => by
    unfold dpC
    rw [sI_1, if_neg (by omega), sI_1, if_neg (by omega), sI_1, if_neg (by omega)]
    rfl
  have eJ2 : ∀ k j, ¬ (k = 7 ∧ j = b) → (dpC C b).2.1 k j = C.2.1 k j := fun k j h => by
    show (sJ C 7 b 0).2.1 k j = _
    rw [sJ_2, if_neg h]
  have e8 : (dpC C b).1 8 b = 0 := by
    unfold dpC
    rw [sI_1, if_neg (by omega), sI_1, if_neg (by omega), sI_1, if_pos ⟨rfl, rfl⟩]
  have e16 : (dpC C b).1 16 b = 0 := by
    unfold dpC
    rw [sI_1, if_neg (by omega), sI_1, if_pos ⟨rfl, rfl⟩]
  have e17 : (dpC C b).1 17 b = 0 := by
    unfold dpC
    rw [sI_1, if_pos ⟨rfl, rfl⟩]
  have e7 : (dpC C b).2.1 7 b = 0 := by
    show (sJ C 7 b 0).2.1 7 b = 0
    rw [sJ_2, if_pos ⟨rfl, rfl⟩]
  refine ⟨fun k j h => ?_, fun j hj => ?_, fun k j h => ?_, fun k j h1 h2 => ?_, fun j hj => ?_, fun j hj => ?_⟩
  · rw [eI, eI2 k j (by omega)]; exact q1 k j (by omega)
  · by_cases e : j = b
    · rw [e]; exact ⟨(eJ 7 b).trans e7, (eI 8 b).trans e8, (eI 16 b).trans e16, (eI 17 b).trans e17⟩
    · rw [eJ, eI, eI, eI, eJ2 7 j (by omega), eI2 8 j (by omega), eI2 16 j (by omega), eI2 17 j (by omega)]
      exact q2 j (by omega)
  · rw [eJ, eJ2 k j (by omega)]; exact q3 k j (by omega)
  · exact (b3 k j h2).trans ((a3 k j h1).trans (q4 k j h1 h2))
  · exact ClQ_u (q5 j hj) ((b3 11 j (by omega)).trans (a4 j hj))
  · refine ClQ_u (q6 j hj) ?_
    rw [b4 j hj, a3 12 j (by omega)]
    rfl
set_option maxRecDepth 100000 in
theorem tbL_e {j : Nat} (h : T j ≠ some b) : tbL T (b + 1) j = tbL T b j := by
  cases e : T j with
  | none => rw [tbL_n e, tbL_n e]
  | some c =>
    have hc : c ≠ b := fun z => h (by rw [e, z])
    by_cases h1 : c < b
    · rw [tbL_0 e h1, tbL_0 e (by omega)]
    · rw [tbL_1 e h1, tbL_1 e (by omega)]
set_option maxRecDepth 100000 in
theorem ClQ_n (h7 : C.2.1 7 b = 0) (h8 : C0.1 8 b = 0 ∧ C0.1 16 b = 0 ∧ C0.1 17 b = 0) (hT : ∀ j, T j ≠ some b) (hG : ∀ j, G j ≠ some b) (Q : ClQ C0 T G b C) : ClQ C0 T G (b + 1) C := by
  obtain ⟨q1, q2, q3, q4, q5, q6⟩ := Q
  refine ⟨fun k j h => ?_, fun j hj => ?_, fun k j h => q3 k j (by omega), q4, fun j hj => ?_, fun j hj => ?_⟩
  · exact q1 k j (by omega)
  · by_cases e : j = b
    · rw [e]
      exact ⟨h7, (q1 8 b (by omega)).trans h8.1, (q1 16 b (by omega)).trans h8.2.1, (q1 17 b (by omega)).trans h8.2.2⟩
    · exact q2 j (by omega)
  · rw [tbL_e (hT j)]; exact q5 j hj
  · rw [tbL_e (hG j)]; exact q6 j hj
set_option maxRecDepth 100000 in
theorem ClQ_0 (S : SLt C t 11 0 24 T) (S2 : SLg C t 12 0 8 G) : ClQ C T G 0 C := by
  refine ⟨fun _ _ _ => rfl, fun j hj => by omega, fun _ _ _ => rfl, fun _ _ _ _ => rfl, fun j hj => ?_, fun j hj => ?_⟩
  · have h := S j (Nat.zero_le j) hj
    cases e : T j with
    | none => rw [e] at h; rw [tbL_n e, if_pos rfl]; exact h
    | some c => rw [tbL_1 e (by omega), if_neg (fun z => by cases z)]
  · have h := S2 j (Nat.zero_le j) hj
    cases e : G j with
    | none => rw [e] at h; rw [tbL_n e, if_pos rfl]; exact h
    | some c => rw [tbL_1 e (by omega), if_neg (fun z => by cases z)]
set_option maxRecDepth 100000 in
theorem clC_1 {k j : Nat} (h : ¬ (k = 76 ∧ (j = 2 ∨ j = 69 ∨ j = 70 ∨ j = 93 ∨ j = 95 ∨ j = 101 ∨ j = 102))) : (clC C).1 k j = C.1 k j := by
  rw [sI_1, if_neg (by omega), sI_1, if_neg (by omega), sI_1, if_neg (by omega), sI_1, if_neg (by omega), sI_1, if_neg (by omega), sI_1, if_neg (by omega), sI_1, if_neg (by omega)]
/-! one side drops all -/
set_option maxRecDepth 100000 in
theorem k_clr (H : LI C t Ks W B n an) : Wd L xs (d + 3) y_159 (0, [(0, .ref 100)], [], MH C t, sl) (fun v h q => none = v ∧ (∃ C1 C2 C3, (∃ C', ClQ (sI C 1 4 0) (tbU (wU W)) (tbG (wG W)) 6 C' ∧ enC C' = C1) ∧ flU C1 C2 75 8 (fun _ => 0) ∧ flU C2 C3 75 5 (fun _ => -1) ∧ MH C3 t = h) ∧ sl = q) nX := by
  have hA := H.2.2.1.1
  have hM : ∀ j, mBk Ks j = true → j < t.length := bkO_h H.1.1
  have K0 : KSc (sI C 1 4 0) (msk (mBk Ks) t) W := H.1.2.1
  have S1 := SLt_K hA K0
  have S2 := SLg_K hA K0
  refine m_159 (d := d + 1) (R := fun C1 => ∃ C', ClQ (sI C 1 4 0) (tbU (wU W)) (tbG (wG W)) 6 C' ∧ enC C' = C1) ?_
  refine Wd_q (m_160 (d := d + 1) (sl := 0) (Q := ClQ (sI C 1 4 0) (tbU (wU W)) (tbG (wG W))) (fun b C' hb Q => ?_) (ClQ_0 S1 S2)) (fun v h q hq => ?_) (fun _ _ _ e => e)
  · by_cases z : C'.2.1 7 b = 0
    · have hT : isT C' b = false := by unfold isT; rw [decide_eq_true z]; rfl
      have z0 : (wT W).1.1 b = 0 := (K0.1.1.1 b hb).symm.trans ((Q.2.2.1 7 b (by omega)).symm.trans z)
      have w0 := (hA.1.1 b hb).2.2 z0
      have r0 : wR W b = ([], 0) := hA.2.2.2.2.1 b hb z0
      refine Wd_q (m_98n (d := d) (sl := 0) hb hT) (fun v h q hq => ⟨hq.1, ⟨C', ClQ_n z ⟨?_, ?_, ?_⟩ (fun j hj => ?_) (fun j hj => ?_) Q, hq.2.1⟩, hq.2.2⟩) (fun _ _ _ e => e)
      · exact (K0.1.1.2 b hb).1.trans (by rw [w0]; rfl)
      · exact (H.1.2.2.1.1 b hb).2.1.trans (by rw [r0]; rfl)
      · exact (H.1.2.2.1.2 b hb).trans (by rw [r0])
      · unfold tbU at hj
        cases e : wU W j with
        | none => rw [e] at hj; cases hj
        | some u =>
          rw [e] at hj
          have hj : some (rTb u) = some b := hj
          injection hj with hj
          exact (hA.1.2 j u e).2.1 (by rw [hj]; exact z0)
      · unfold tbG at hj
        cases e : wG W j with
        | none => rw [e] at hj; cases hj
        | some u =>
          rw [e] at hj
          have hj : some (gTb u) = some b := hj
          injection hj with hj
          exact (hA.2.1 j u e).2.1 (by rw [hj]; exact z0)
    · have hT : isT C' b = true := by unfold isT; rw [decide_eq_false z]; rfl
      have w := m_98 (L := L) (xs := xs) (d := d) (sl := 0) hb hT (ClQ_t Q S1) (ClQ_g Q S2)
      have w2 := W_mE (M := mBk Ks) (Q := fun v C'' q => none = v ∧ ClQ (sI C 1 4 0) (tbU (wU W)) (tbG (wG W)) (b + 1) C'' ∧ 0 = q) (Wd_q w (fun v h q hq => (by
        obtain ⟨h1, ⟨D1, D2, g1, g2, h2⟩, h3⟩ := hq
        exact ⟨D2, ⟨h1, ClQ_s Q g1 g2, h3⟩, h2⟩)) (fun _ _ _ e => e)) hM
      exact Wd_q w2 (fun v h q hq => (by
        obtain ⟨C'', ⟨h1, h2, h3⟩, h4⟩ := hq
        exact ⟨h1, ⟨C'', h2, h4⟩, h3⟩)) (fun _ _ _ e => e)
  · obtain ⟨h1, ⟨C', h2, h3⟩, h4⟩ := hq
    exact ⟨h1, ⟨enC C', ⟨C', h2, rfl⟩, h3⟩, h4⟩
set_option maxRecDepth 100000 in
theorem la_10 (H : LI C t Ks W B n an) (kk : LC L xs (d + 66) i P X t n sl) : Wd L xs (d + 66) y_296 (758, al4 i, [], MH C t, sl) P X := by
  have hA := H.2.2.1.1
  refine lw_10 (d := d + 65) (k_clr (d := d + 62) (sl := 0) H) (fun v h q hq => ?_)
  obtain ⟨rfl, ⟨C1, C2, C3, ⟨C', Q, rfl⟩, f1, f2, rfl⟩, rfl⟩ := hq
  refine ⟨C3, t, rfl, rfl, _, m_295 (d := d + 64) (sl := 0), fun v2 h2 q2 hq2 => ?_⟩
  obtain ⟨rfl, ⟨D1, D2, D3, g1, g2, g3, rfl⟩, rfl⟩ := hq2
  obtain ⟨q1, q2, q3, q4, q5, q6⟩ := Q
  have eD : ∀ k j, ¬ (k = 76 ∧ (j = 0 ∨ j = 2 ∨ j = 69 ∨ j = 70 ∨ j = 93 ∨ j = 95 ∨ j = 101 ∨ j = 102)) → ¬ ((k = 78 ∨ k = 117 ∨ k = 118) ∧ j < 6) → ¬ (k = 83 ∧ j < 24) → ¬ (k = 95 ∧ j < 8) → (clC D3).1 k j = C3.1 k j := fun k j a b c d => by
    rw [clC_1 (by omega), g3.1 k j d, g2.1 k j c, g1.1 k j b, sI_1, if_neg (by omega)]
  have eC : ∀ k j, k ≠ 75 → C3.1 k j = (enC C').1 k j := fun k j a => (f2.1 k j (by omega)).trans (f1.1 k j (by omega))
  have e2 : (clC D3).2 = C'.2 := by
    show D3.2 = C'.2
    rw [g3.2.2, g2.2.2, g1.2.2]
    show C3.2 = C'.2
    rw [f2.2.2, f1.2.2]
    rfl
  have eL : ∀ k j, k < 76 → k ≠ 75 → ¬ (k = 6 ∧ (j = 7 ∨ j = 8 ∨ j = 12)) → (clC D3).1 k j = C'.1 k j := fun k j a b c => (eD k j (by omega) (by omega) (by omega) (by omega)).trans ((eC k j b).trans (en_1 c))
  have e6 : ∀ j, (clC D3).1 6 j = (enC C').1 6 j := fun j => (eD 6 j (by omega) (by omega) (by omega) (by omega)).trans (eC 6 j (by omega))
  have eM : ∀ k j, 76 ≤ k → ¬ (k = 76 ∧ (j = 0 ∨ j = 2 ∨ j = 69 ∨ j = 70 ∨ j = 93 ∨ j = 95 ∨ j = 101 ∨ j = 102)) → ¬ ((k = 78 ∨ k = 117 ∨ k = 118) ∧ j < 6) → ¬ (k = 83 ∧ j < 24) → ¬ (k = 95 ∧ j < 8) → (clC D3).1 k j = C.1 k j := fun k j h a b c d => (eD k j a b c d).trans ((eC k j (by omega)).trans ((en_1 (by omega)).trans ((q1 k j (by omega)).trans (by rw [sI_1, if_neg (by omega)]))))
  refine ⟨clC D3, t, rfl, rfl, kk _ t Ks wZ B 0 (fun x => if x < 5 then -1 else 0) _ ⟨KI_Z H.1.1 (fun b hb => ?_) (fun j hj => ?_) (fun j hj => ?_) (fun j hj => ?_) ⟨?_, ?_, ?_⟩ ?_, MI_Z (fun b hb => ⟨?_, ?_, ?_⟩) (fun j hj => ?_) (fun j hj => ?_) (fun j hj => ?_) ?_ rfl rfl ?_, wAll_Z, ⟨⟨?_, by omega, fun j hj => by omega⟩, rfl, by omega, fun j hj => by omega⟩, fun x hx => ?_, fun x hx => ?_⟩ (by omega) (by omega)⟩
  · rw [e2, eL 8 b (by omega) (by omega) (by omega), eL 16 b (by omega) (by omega) (by omega), eL 17 b (by omega) (by omega) (by omega)]
    exact q2 b hb
  · rw [e2, q5 j hj]
    cases e : tbU (wU W) j with
    | none => rw [tbL_n e, if_pos rfl]
    | some c =>
      have hc : c < 6 := by
        unfold tbU at e
        cases e1 : wU W j with
        | none => rw [e1] at e; cases e
        | some u =>
          rw [e1] at e
          have e : some (rTb u) = some c := e
          injection e with e
          rw [← e]
          exact (hA.1.2 j u e1).1.1.2.1
      rw [tbL_0 e hc, if_pos rfl]
  · rw [e2, q6 j hj]
    cases e : tbG (wG W) j with
    | none => rw [tbL_n e, if_pos rfl]
    | some c =>
      have hc : c < 6 := by
        unfold tbG at e
        cases e1 : wG W j with
        | none => rw [e1] at e; cases e
        | some u =>
          rw [e1] at e
          have e : some (gTb u) = some c := e
          injection e with e
          rw [← e]
          exact (hA.2.1 j u e1).1.1
      rw [tbL_0 e hc, if_pos rfl]
  · rw [e2, q4 30 j (by omega) (by omega), q4 45 j (by omega) (by omega), q4 60 j (by omega) (by omega)]
    exact H.1.2.1.2.2 j hj
  · rw [e6]; exact en_6.1
  · rw [e6]; exact en_6.2.1
  · rw [e6]; exact en_6.2.2
  · exact (KAs_g (C := C) (C' := clC D3) (fun k j h => (by rw [e2]; exact q4 k j (by omega) (by omega))) (fv_r H.1) H.1.2.2.2.1.2.2.2.1 H.1.2.2.2.2).1
  · rw [clC_1 (by omega), g3.1 78 b (by omega), g2.1 78 b (by omega)]; exact (g1.2.1 b hb).1
  · rw [clC_1 (by omega), g3.1 117 b (by omega), g2.1 117 b (by omega)]; exact (g1.2.1 b hb).2.1
  · rw [clC_1 (by omega), g3.1 118 b (by omega), g2.1 118 b (by omega)]; exact (g1.2.1 b hb).2.2
  · rw [clC_1 (by omega), g3.1 83 j (by omega)]; exact g2.2.1 j hj
  · rw [eM 91 j (by omega) (by omega) (by omega) (by omega) (by omega)]; exact H.2.1.2.2.1.2.1.1 j hj
  · rw [clC_1 (by omega)]; exact g3.2.1 j hj
  · rw [eM 76 48 (by omega) (by omega) (by omega) (by omega) (by omega), eM 76 49 (by omega) (by omega) (by omega) (by omega) (by omega)]; exact H.2.1.1.1.2.2.2
  · obtain ⟨z, hz⟩ := H.2.1.2.2.2.2
    exact ⟨z, (eM 76 74 (by omega) (by omega) (by omega) (by omega) (by omega)).trans hz⟩
  · rw [eL 1 4 (by omega) (by omega) (by omega), q1 1 4 (by omega), sI_1, if_pos ⟨rfl, rfl⟩]; rfl
  · rw [eD 75 x (by omega) (by omega) (by omega) (by omega)]
    by_cases h5 : x < 5
    · exact (f2.2.1 x h5).trans (if_pos h5).symm
    · exact (f2.1 75 x (by omega)).trans ((f1.2.1 x hx).trans (if_neg h5).symm)
  · have h : x = 0 ∨ x = 1 ∨ x = 2 ∨ x = 3 ∨ x = 4 ∨ x = 5 ∨ x = 6 ∨ x = 7 := by omega
    rcases h with rfl | rfl | rfl | rfl | rfl | rfl | rfl | rfl <;> rfl
end LWE
