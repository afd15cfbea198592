
/-! THE OTHER SIDE AND THE WORLD: a statement is run, whatever it is -/
section MRN
variable {L : Nat} {xs : Nat → Int32} {B : Nat → Nat} {n m d sl : Nat} {C C' C1 : co_T} {t : ab_H} {W : wo_T} {U V : Nat → Prop}
/-! fields that nothing rests on -/
def fdO (C C' : co_T) : Prop := (∀ k j, ¬ (k = 76 ∧ j ≠ 48 ∧ j ≠ 49 ∧ j ≠ 69 ∧ j ≠ 70) → C'.1 k j = C.1 k j) ∧ (∀ k j, ¬ (k = 76) → C'.2.1 k j = C.2.1 k j) ∧ C'.2.2 = C.2.2
set_option maxRecDepth 100000 in
theorem MI_o (h : fdO C C') (hz : ∃ z, C'.1 76 74 = ck z) (H : MI C W) : MI C' W := by
  obtain ⟨⟨h1, h1b, h1c⟩, h2, h3, h4, _⟩ := H
  have e1 : ∀ k j, k ≠ 76 → C'.1 k j = C.1 k j := fun k j hk => h.1 k j (by omega)
  have e2 : ∀ k j, k ≠ 76 → C'.2.1 k j = C.2.1 k j := fun k j hk => h.2.1 k j hk
  refine ⟨⟨TM0_o h1 (fun k j a _ => h.1 k j (by omega)) (fun k j a _ => e2 k j a), fun i hi => opM_m (fun u hu => TRM_o hu (fun k j hk => e1 k j (by omega)) (fun k j hk => e2 k j (by omega))) (e1 95 i (by omega)) (h1b i hi), fun g u hg e => (e1 105 g (by omega)).trans (h1c g u hg e)⟩, ⟨fun b hb => ?_, fun q hq => (e1 118 q (by omega)).trans (h2.2 q hq)⟩, ⟨(h.1 76 69 (by omega)).trans h3.1, MWt_e (fun j hj => e1 91 j (by omega)) h3.2.1, (h.1 76 70 (by omega)).trans h3.2.2.1, h3.2.2.2.1, fun j hj => (e2 123 j (by omega)).trans (h3.2.2.2.2 j hj)⟩, ⟨fun z => RWs_c (fun i _ => e1 _ _ (by omega)) (fun i _ => e2 _ _ (by omega)) (fun i _ => ⟨e1 _ _ (by omega), e1 _ _ (by omega)⟩) (h4.1 z), fun j hj => RWs_c (fun i _ => e1 _ _ (by omega)) (fun i _ => e2 _ _ (by omega)) (fun i _ => ⟨e1 _ _ (by omega), e1 _ _ (by omega)⟩) (h4.2 j hj)⟩, hz⟩
  obtain ⟨a1, a2, a3, a4⟩ := h2.1 b hb
  exact ⟨a1, (e1 117 b (by omega)).trans a2, a3, fun k r hr => ⟨(e1 115 _ (by omega)).trans (a4 k r hr).1, fun c hc => (e2 116 _ (by omega)).trans ((a4 k r hr).2 c hc)⟩⟩
set_option maxRecDepth 100000 in
theorem MI_1 {j : Nat} {v : Int32} (hj : j ≠ 48 ∧ j ≠ 49 ∧ j ≠ 69 ∧ j ≠ 70 ∧ j ≠ 74) (H : MI C W) : MI (sI C 76 j v) W := by
  obtain ⟨z, hz⟩ := H.2.2.2.2
  exact MI_o (C := C) (C' := sI C 76 j v) ⟨fun k q h => by rw [sI_1, if_neg (by omega)], fun _ _ _ => rfl, rfl⟩ ⟨z, by rw [sI_1, if_neg (by omega)]; exact hz⟩ H
set_option maxRecDepth 100000 in
theorem rn_1 {k j : Nat} (h : ¬ (k = 76 ∧ (j = 0 ∨ j = 89 ∨ j = 74 ∨ j = 93 ∨ j = 95 ∨ j = 90 ∨ j = 91))) : (rnC C).1 k j = C.1 k j := by
  show (sI (sI (sI (sI (sI (sI (sI C 76 0 0) 76 89 0) 76 74 0) 76 93 0) 76 95 0) 76 90 (-1)) 76 91 (-1)).1 k j = _
  rw [sI_1, if_neg (by omega), sI_1, if_neg (by omega), sI_1, if_neg (by omega), sI_1, if_neg (by omega), sI_1, if_neg (by omega), sI_1, if_neg (by omega), sI_1, if_neg (by omega)]
set_option maxRecDepth 100000 in
theorem rn_0 : (rnC C).1 76 89 = 0 ∧ (rnC C).1 76 74 = 0 ∧ (rnC C).1 76 93 = 0 ∧ (rnC C).1 76 95 = 0 ∧ (rnC C).1 76 0 = 0 := by
  exact ⟨rfl, rfl, rfl, rfl, rfl⟩
set_option maxRecDepth 100000 in
theorem MI_rn (H : MI C W) : MI (rnC C) W := MI_o (C := C) (C' := rnC C) ⟨fun k j h => rn_1 (by omega), fun k j h => (by show (sJ _ 76 92 (-1)).2.1 k j = _; rw [sJ_2, if_neg (by omega)]; rfl), rfl⟩ ⟨false, rn_0.2.1⟩ H
set_option maxRecDepth 100000 in
theorem tpM_rn (T : tpM C B n) : tpM (rnC C) B n := ⟨(rn_1 (by omega)).trans T.1, T.2.1, fun i hi => ⟨(T.2.2 i hi).1, (rn_1 (by omega)).trans (T.2.2 i hi).2⟩⟩
/-! what is told, as the other side keeps it -/
def vM (C : co_T) (x : Nat) : Int32 := if x = 0 then C.1 76 8 else if x = 1 then C.1 76 9 else if x = 2 then C.1 76 90 else if x = 3 then C.1 76 91 else if x = 4 then (C.2.1 76 92).toInt32 else if x = 5 then C.1 76 93 else C.1 76 95
set_option maxRecDepth 100000 in
theorem nI_e {e k : Nat} (he : e < 8) (hk : k < 8) : (nI e = nI k) = (e = k) := propext (nK_inj (by omega) (by omega))
set_option maxRecDepth 100000 in
theorem tld_a {e x : Nat} {g : Int32} (he : e < 8) (h : C.1 76 102 = nI e) (hg : C.1 76 101 = g) (hx : x < 8) : tld C (nI x) = ans e (vM C) g x := by
  have h1 : (nI e = 1) = (e = 1) := nI_e (k := 1) he (by omega)
  have h2 : (nI e = 2) = (e = 2) := nI_e (k := 2) he (by omega)
  have h3 : (nI e = 3) = (e = 3) := nI_e (k := 3) he (by omega)
  unfold tld
  rw [h, hg]
  have hc : x = 0 ∨ x = 1 ∨ x = 2 ∨ x = 3 ∨ x = 4 ∨ x = 5 ∨ x = 6 ∨ x = 7 := by omega
  rcases hc with rfl | rfl | rfl | rfl | rfl | rfl | rfl | rfl
  · rw [if_pos (show nI 0 = 0 from rfl)]
    show (if nI e = 1 then _ else _) = (if e = 1 then _ else _)
    simp only [h1]
    rfl
  · rw [if_neg (by decide), if_pos (show nI 1 = 1 from rfl)]
    show (if nI e = 1 then _ else _) = (if e = 1 then _ else _)
    simp only [h1]
    rfl
  · rw [if_neg (by decide), if_neg (by decide), if_pos (show nI 2 = 2 from rfl)]
    show (if nI e = 2 then _ else _) = (if e = 2 then _ else _)
    simp only [h2]
    rfl
  · rw [if_neg (by decide), if_neg (by decide), if_neg (by decide), if_pos (show nI 3 = 3 from rfl)]
    show (if nI e = 2 then _ else _) = (if e = 2 then _ else _)
    simp only [h2]
    rfl
  · rw [if_neg (by decide), if_neg (by decide), if_neg (by decide), if_neg (by decide), if_pos (show nI 4 = 4 from rfl)]
    show (if nI e = 3 then _ else _) = (if e = 3 then _ else _)
    simp only [h3]
    rfl
  · rw [if_neg (by decide), if_neg (by decide), if_neg (by decide), if_neg (by decide), if_neg (by decide), if_pos (show nI 5 = 5 from rfl)]
    rfl
  · rw [if_neg (by decide), if_neg (by decide), if_neg (by decide), if_neg (by decide), if_neg (by decide), if_neg (by decide), if_pos (show nI 6 = 6 from rfl)]
    rfl
  · rw [if_neg (by decide), if_neg (by decide), if_neg (by decide), if_neg (by decide), if_neg (by decide), if_neg (by decide), if_neg (by decide)]
    rfl
/-! what one side keeps is left alone -/
def upE (C C' : co_T) : Prop := ∀ k j, k < 76 ∨ 140 ≤ k → C'.1 k j = C.1 k j ∧ C'.2.1 k j = C.2.1 k j ∧ C'.2.2 k j = C.2.2 k j
set_option maxRecDepth 100000 in
theorem upE_r : upE C C := fun _ _ _ => ⟨rfl, rfl, rfl⟩
set_option maxRecDepth 100000 in
theorem upE_t {C1 C2 C3 : co_T} (h : upE C1 C2) (g : upE C2 C3) : upE C1 C3 := fun k j hk => ⟨(g k j hk).1.trans (h k j hk).1, (g k j hk).2.1.trans (h k j hk).2.1, (g k j hk).2.2.trans (h k j hk).2.2⟩
set_option maxRecDepth 100000 in
theorem upE_k (h1 : ∀ k j, k < 76 ∨ 140 ≤ k → C'.1 k j = C.1 k j) (h2 : ∀ k j, k < 76 ∨ 140 ≤ k → C'.2.1 k j = C.2.1 k j) (h3 : C'.2.2 = C.2.2) : upE C C' := fun k j hk => ⟨h1 k j hk, h2 k j hk, by rw [h3]⟩
set_option maxRecDepth 100000 in
theorem upE_I {a b : Nat} {v : Int32} (ha : 76 ≤ a ∧ a < 140) : upE C (sI C a b v) := fun k j hk => ⟨by rw [sI_1, if_neg (by omega)], rfl, rfl⟩
set_option maxRecDepth 100000 in
theorem upE_X (f : fX U V C C') : upE C C' := upE_k (fun k j hk => f.1 k j (fun z => by unfold sxI at z; omega) (by omega)) (fun k j hk => f.2.1 k j (fun z => by unfold sxJ at z; omega) (by omega)) f.2.2.1
set_option maxRecDepth 100000 in
theorem upE_rn : upE C (rnC C) := upE_k (fun k j hk => rn_1 (by omega)) (fun k j hk => (by show (sJ _ 76 92 (-1)).2.1 k j = _; rw [sJ_2, if_neg (by omega)]; rfl)) rfl
set_option maxRecDepth 100000 in
theorem upE_F {k i : Nat} {g : Nat → Int32} (hk : 76 ≤ k ∧ k < 140) (f : flU C C' k i g) : upE C C' := upE_k (fun q j hq => f.1 q j (by omega)) (fun q j _ => by rw [f.2.2]) (by rw [f.2.2])
/-! how a run ends -/
def PRm (C : co_T) (t : ab_H) (W : wo_T) (sl : Nat) (r : xr_T) : Option Value → ab_H → Nat → Prop := fun v h q => some (.int (nI r.1)) = v ∧ (∃ C', (MI C' r.2.2 ∧ C'.1 76 2 = 0 ∧ (∀ x, x < 8 → tld C' (nI x) = ans r.1 r.2.1 (dfW W r.2.2) x) ∧ upE C C') ∧ MH C' t = h) ∧ sl = q
set_option maxRecDepth 100000 in
theorem m192 (hA : wOk W) (H : MI C W) : Wd L xs d y_192 (0, [(0, .ref 176)], [], MH C t, sl) (Rt (some (.int (nI (totF (wR W) 6 0 0)))) (MH C t) sl) nX :=
  m_192 (T := fun b => decide ((wT W).1.1 b ≠ 0)) (fun b hb => (SCM_I H.1 b hb).1) (fun b hb => (H.2.1.1 b hb).2.1) (fun b hb hf => by
    have hz : (wT W).1.1 b = 0 := by
      have := of_decide_eq_false hf
      exact Classical.not_not.mp this
    rw [hA.2.2.2.2.1 b hb hz]
    rfl)
set_option maxRecDepth 100000 in
theorem mEnd {C0 : co_T} {r : xr_T} (hup : upE C0 C) (hA : wOk r.2.2) (he : r.1 < 8) (H : MI C r.2.2) (hv : vEq r.1 (vM C) r.2.1) (h2 : C.1 76 2 = 0) : Wd L xs (d + 1) y_191 (142, [(1, .int (nI (totF (wR W) 6 0 0))), (0, .ref 176)], [], MH (sI C 76 102 (nI r.1)) t, sl) (PRm C0 t W sl r) nX := by
  have H1 := MI_1 (j := 102) (v := nI r.1) (by omega) H
  refine Wd_q (t_191 (x := nI r.1) (by rw [sI_1, if_pos ⟨rfl, rfl⟩]) (m192 (L := L) (xs := xs) (d := d) (sl := 0) (t := t) hA H1)) (fun v h q hq => ?_) (fun _ _ _ e => e)
  obtain ⟨rfl, rfl, rfl⟩ := hq
  refine ⟨rfl, ⟨sI (sI C 76 102 (nI r.1)) 76 101 (nI (totF (wR r.2.2) 6 0 0) - nI (totF (wR W) 6 0 0)), ⟨MI_1 (j := 101) (by omega) H1, ?_, fun x hx => ?_, upE_t hup (upE_t (upE_I (by omega)) (upE_I (by omega)))⟩, rfl⟩, rfl⟩
  · rw [sI_1, if_neg (by omega), sI_1, if_neg (by omega)]; exact h2
  · rw [tld_a (e := r.1) (g := dfW W r.2.2) he (by rw [sI_1, if_neg (by omega), sI_1, if_pos ⟨rfl, rfl⟩]) (by rw [sI_1, if_pos ⟨rfl, rfl⟩]; rfl) hx]
    have : ans r.1 (vM (sI (sI C 76 102 (nI r.1)) 76 101 (nI (totF (wR r.2.2) 6 0 0) - nI (totF (wR W) 6 0 0)))) (dfW W r.2.2) x = ans r.1 (vM C) (dfW W r.2.2) x := rfl
    rw [this]
    exact ans_e hv x
set_option maxRecDepth 100000 in
theorem mRun {α : Type} {r : pz_T (α × Nat × Option Nat)} {Q : α → co_T → Prop} {f : α → xr_T} (hA : wOk W) (H : MI C W) (huv : uvW W U V) (rd : Wd L xs (d + 19) y_193 (0, [(0, .ref 176)], [], MH (rnC C) t, 0) (PRS B n U V (rnC C) t r Q) nX) (ex : ∀ a i' nl' C', r = .inr (a, i', nl') → Q a C' → lfM C' nl' → MI C' W → C'.1 76 8 = 0 → (C'.1 76 89 = 0 ∧ C'.1 76 74 = 0 ∧ C'.1 76 93 = 0 ∧ C'.1 76 95 = 0) → upE C C' → Wd L xs (d + 20) y_191 (51, [(1, .int (nI (totF (wR W) 6 0 0))), (0, .ref 176)], [], MH C' t, sl) (PRm C t W sl (f a)) nX) : Wd L xs (d + 20) y_191 (0, [(0, .ref 176)], [], MH C t, sl) (PRm C t W sl (fnW W B n r f)) nX := by
  have H0 := MI_rn H
  refine e_191 (d := d + 19) (m192 hA H0) rd (fun v h q hq => ?_)
  rcases hq with ⟨rfl, ⟨C', ⟨a, i', nl', e1, e2, e3, e4, e5, e6⟩, rfl⟩, rfl⟩ | ⟨rfl, ⟨C', ⟨c, j, e1, ⟨e2, e3, e4⟩, e5⟩, rfl⟩, rfl⟩
  · refine ⟨rfl, C', t, rfl, ?_⟩
    rw [fnW_s e1 e2]
    have ef : ∀ j, j = 89 ∨ j = 74 ∨ j = 93 ∨ j = 95 → C'.1 76 j = (rnC C).1 76 j := fun j hj => fX_f e5 (by omega)
    exact ex a i' nl' C' e1 e4 e3 (MI_X hA huv e5 H0) e6 ⟨(ef 89 (by omega)).trans rn_0.1, (ef 74 (by omega)).trans rn_0.2.1, (ef 93 (by omega)).trans rn_0.2.2.1, (ef 95 (by omega)).trans rn_0.2.2.2.1⟩ (upE_t upE_rn (upE_X e5))
  · refine ⟨rfl, C', t, rfl, ?_⟩
    rw [fnW_r e1]
    have H1 := MI_1 (j := 2) (v := 0) (by omega) (MI_X hA huv e5 H0)
    have ef : ∀ j, j = 89 ∨ j = 74 ∨ j = 93 ∨ j = 95 → C'.1 76 j = (rnC C).1 76 j := fun j hj => fX_f e5 (by omega)
    refine f_191 (d := d + 20) rfl e3 (mEnd (d := d + 19) (r := refW W B n (c, j)) (upE_t upE_rn (upE_t (upE_X e5) (upE_I (by omega)))) hA (by show 1 < 8; omega) H1 ⟨fun _ => ⟨?_, ?_⟩, fun z => (by cases z), fun z => (by cases z), ?_, ?_⟩ (by rw [sI_1, if_pos ⟨rfl, rfl⟩]))
    · show (sI C' 76 2 0).1 76 8 = _
      rw [sI_1, if_neg (by omega)]; exact e2
    · show (sI C' 76 2 0).1 76 9 = _
      rw [sI_1, if_neg (by omega)]; exact e4
    · show (sI C' 76 2 0).1 76 93 = 0
      rw [sI_1, if_neg (by omega)]; exact (ef 93 (by omega)).trans rn_0.2.2.1
    · show (sI C' 76 2 0).1 76 95 = 0
      rw [sI_1, if_neg (by omega)]; exact (ef 95 (by omega)).trans rn_0.2.2.2.1
/-! not possible -/
set_option maxRecDepth 100000 in
theorem mNo {C0 : co_T} {s : Nat} (hup : upE C0 C) (hA : wOk W) (H : MI C W) (hf : C.1 76 8 = 0) (h0 : C.1 76 89 = 0 ∧ C.1 76 74 = 0 ∧ C.1 76 93 = 0 ∧ C.1 76 95 = 0) (hs : C.1 76 97 = nI s) (hx : (7 ≤ s ∧ s ≤ 12 ∧ xIn (wX W) = false) ∨ (s < 7 ∧ s ≠ 5 ∧ xIn (wX W) = true)) : Wd L xs (d + 20) y_191 (51, [(1, .int (nI (totF (wR W) 6 0 0))), (0, .ref 176)], [], MH C t, sl) (PRm C0 t W sl (xNo W)) nX := by
  have H1 := MI_1 (j := 2) (v := 0) (by omega) H
  have k := mEnd (L := L) (xs := xs) (d := d + 19) (W := W) (t := t) (sl := sl) (r := xNo W) (upE_t hup (upE_I (by omega))) hA (by show 7 < 8; omega) H1 ⟨fun z => (by cases z), fun z => (by cases z), fun z => (by cases z), (by show (sI C 76 2 0).1 76 93 = 0; rw [sI_1, if_neg (by omega)]; exact h0.2.2.1), (by show (sI C 76 2 0).1 76 95 = 0; rw [sI_1, if_neg (by omega)]; exact h0.2.2.2)⟩ (by rw [sI_1, if_pos ⟨rfl, rfl⟩])
  rcases hx with ⟨a, b, c⟩ | ⟨a, b, c⟩
  · exact xi_191 (d := d + 20) hf hs a b (by rw [H.2.2.1.1, c]; rfl) k
  · exact xo_191 (d := d + 20) hf hs a b (by rw [H.2.2.1.1, c]; rfl) k
set_option maxRecDepth 100000 in
theorem vM0 {e : Nat} (h : e = 0 ∨ e = 7) (h93 : C.1 76 93 = 0) (h95 : C.1 76 95 = 0) : vEq e (vM C) (vv 0 0 0 0 0) := ⟨fun z => by omega, fun z => by omega, fun z => by omega, h93, h95⟩
end MRN
