
/-! THE OTHER SIDE AND THE WORLD: MARK, tables -/
section MVE
variable {L : Nat} {xs : Nat → Int32} {B : Nat → Nat} {n m d sl b g i f p : Nat} {C C' C1 C2 C3 : co_T} {t : ab_H} {W : wo_T} {rs : rs_T} {v : Int64} {T' : tb_S} {l : List Nat}
set_option maxRecDepth 100000 in
theorem MI_mk (hP : smP C i f p v C') (hfp : i + f = p) (hp : p < 6) (ho : p + 1 = (xMk (wX W)).1 ∨ (i = (xMk (wX W)).1 ∧ p = (xMk (wX W)).1)) (H : MI C W) : MI C' (wT W, wG W, wR W, mkX (wX W) (wR W) v i (p + 1)) := by
  obtain ⟨C1, C2, s1, s2, rfl⟩ := hP
  have ci : ∀ k j, ¬ (k = 76 ∧ j = 70) → ¬ (119 ≤ k ∧ k ≤ 122) → (sI C2 76 70 (nI (p + 1))).1 k j = C.1 k j := fun k j h1 h2 => by
    rw [sI_1, if_neg h1, s2.1 k j (by omega) (by omega)]
    show (sI C1 76 70 (nI p)).1 k j = _
    rw [sI_1, if_neg h1]
    exact s1.1 k j h2
  have cj : ∀ k j, k ≠ 120 → k ≠ 123 → (sI C2 76 70 (nI (p + 1))).2.1 k j = C.2.1 k j := fun k j h1 h2 => by
    show C2.2.1 k j = _
    rw [s2.2.2.2.1 k j (by omega), sJ_2, if_neg (by omega)]
    show C1.2.1 k j = _
    rw [s1.2.1 k j h1, if_neg (by omega)]
  have c123 : ∀ j, (sI C2 76 70 (nI (p + 1))).2.1 123 j = if j = p then v else if i ≤ j ∧ j < i + f then C.2.1 123 (j + 1) else C.2.1 123 j := fun j => by
    show C2.2.1 123 j = _
    rw [s2.2.2.2.1 123 j (by omega), sJ_2]
    by_cases z : j = p
    · rw [if_pos ⟨rfl, z⟩, if_pos z]
    · rw [if_neg (fun y => z y.2), if_neg z]
      show C1.2.1 123 j = _
      rw [s1.2.1 123 j (by omega)]
      by_cases y : i ≤ j ∧ j < i + f
      · rw [if_pos ⟨rfl, y⟩, if_pos y]
      · rw [if_neg (fun x => y x.2), if_neg y]
  have sk : ∀ s, s < 8 → s ≠ 2 + p → ∀ wd rs, RWs C 119 (240 * (if 2 + i ≤ s ∧ s < 2 + i + f then s + 1 else s)) (1440 * (if 2 + i ≤ s ∧ s < 2 + i + f then s + 1 else s)) (6 * (if 2 + i ≤ s ∧ s < 2 + i + f then s + 1 else s)) wd rs → RWs (sI C2 76 70 (nI (p + 1))) 119 (240 * s) (1440 * s) (6 * s) wd rs := fun s hs hne wd rs h => by
    have h1 := s1.2.2.2 s hs wd rs h
    have h2 : RWs (sI C1 76 70 (nI p)) 119 (240 * s) (1440 * s) (6 * s) wd rs := RWs_c (fun i _ => by rw [sI_1, if_neg (by omega)]) (fun _ _ => rfl) (fun i _ => ⟨by rw [sI_1, if_neg (by omega)], by rw [sI_1, if_neg (by omega)]⟩) h1
    have h3 := SLC_k s2 hne (RWs_J (q := 123) (j := p) (v := v) (by omega) h2)
    exact RWs_c (fun i _ => by rw [sI_1, if_neg (by omega)]) (fun _ _ => rfl) (fun i _ => ⟨by rw [sI_1, if_neg (by omega)], by rw [sI_1, if_neg (by omega)]⟩) h3
  have sn : RWs (sI C2 76 70 (nI (p + 1))) 119 (240 * (2 + p)) (1440 * (2 + p)) (6 * (2 + p)) (wW W) (wR W) := by
    have hz : ∀ k q, ¬ (k = 76 ∧ q = 70) → ¬ (119 ≤ k ∧ k ≤ 122) → (sJ (sI C1 76 70 (nI p)) 123 p v).1 k q = C.1 k q := fun k q h1 h2 => by
      show (sI C1 76 70 (nI p)).1 k q = _
      rw [sI_1, if_neg h1]
      exact s1.1 k q h2
    have h0 : RWs (sJ (sI C1 76 70 (nI p)) 123 p v) 115 0 0 0 (wW W) (wR W) := RWs_c (C := C) (fun i _ => hz _ _ (by omega) (by omega)) (fun i _ => by
        rw [sJ_2, if_neg (by omega)]
        show C1.2.1 (115 + 1) (0 + i) = _
        rw [s1.2.1 _ _ (by omega), if_neg (by omega)]) (fun i _ => ⟨hz _ _ (by omega) (by omega), hz _ _ (by omega) (by omega)⟩) (RWs_M.mpr H.2.1)
    have h1 := SLC_W s2 h0
    exact RWs_c (fun i _ => by rw [sI_1, if_neg (by omega)]) (fun _ _ => rfl) (fun i _ => ⟨by rw [sI_1, if_neg (by omega)], by rw [sI_1, if_neg (by omega)]⟩) h1
  refine ⟨MSc_O (C := C) (W := W) ⟨fun k j a b c => ci k j (by omega) (by omega), fun k j a b => cj k j (by omega) (by omega), ci 76 48 (by omega) (by omega), ci 76 49 (by omega) (by omega)⟩ H.1, MRo_c (C := C) (fun k j hk => ci k j (by omega) (by omega)) (fun j => cj 116 j (by omega) (by omega)) H.2.1, ⟨(ci 76 69 (by omega) (by omega)).trans H.2.2.1.1, MWt_e (fun j hj => ci 91 j (by omega) (by omega)) H.2.2.1.2.1, (by rw [sI_1, if_pos ⟨rfl, rfl⟩]; rfl), (by show p + 1 ≤ 6; omega), fun j hj => ?_⟩, ⟨fun z => ?_, fun j hj => ?_⟩, ?_⟩
  · have hj : j < p + 1 := hj
    rw [c123]
    show _ = shF (xMk (wX W)).2 v i (p + 1) j
    unfold shF
    by_cases z : j = p
    · rw [if_pos z, if_pos (by omega), if_pos (by omega)]
    · rw [if_neg z]
      by_cases y : i ≤ j ∧ j < i + f
      · rw [if_pos y, if_pos (by omega), if_neg (by omega)]
        exact H.2.2.1.2.2.2.2 (j + 1) (by omega)
      · rw [if_neg y, if_neg (by omega)]
        exact H.2.2.1.2.2.2.2 j (by omega)
  · exact sk 1 (by omega) (by omega) _ _ (by rw [if_neg (by omega)]; exact H.2.2.2.1.1 z)
  · have hj : j < p + 1 := hj
    show RWs (sI C2 76 70 (nI (p + 1))) 119 (240 * (2 + j)) (1440 * (2 + j)) (6 * (2 + j)) (wW W) (shF (xMr (wX W)) (wR W) i (p + 1) j)
    unfold shF
    by_cases z : j = p
    · rw [if_pos (by omega), if_pos (by omega), z]
      exact sn
    · by_cases y : i ≤ j ∧ j < i + f
      · rw [if_pos (by omega), if_neg (by omega)]
        refine sk (2 + j) (by omega) (by omega) _ _ ?_
        rw [if_pos (by omega)]
        exact H.2.2.2.1.2 (j + 1) (by omega)
      · rw [if_neg (by omega)]
        refine sk (2 + j) (by omega) (by omega) _ _ ?_
        rw [if_neg (by omega)]
        exact H.2.2.2.1.2 j (by omega)
  · obtain ⟨z, hz⟩ := H.2.2.2.2
    exact ⟨z, (ci 76 74 (by omega) (by omega)).trans hz⟩
set_option maxRecDepth 100000 in
theorem sm_up (hP : smP C i f p v C') : upE C C' := by
  obtain ⟨C1, C2, s1, s2, rfl⟩ := hP
  refine upE_k (fun k j hk => ?_) (fun k j hk => ?_) ?_
  · rw [sI_1, if_neg (by omega), s2.1 k j (by omega) (by omega)]
    show (sI C1 76 70 (nI p)).1 k j = _
    rw [sI_1, if_neg (by omega)]
    exact s1.1 k j (by omega)
  · show C2.2.1 k j = _
    rw [s2.2.2.2.1 k j (by omega), sJ_2, if_neg (by omega)]
    show C1.2.1 k j = _
    rw [s1.2.1 k j (by omega), if_neg (by omega)]
  · exact s2.2.2.2.2.2.trans s1.2.2.1
set_option maxRecDepth 100000 in
theorem me_22 {C0 : co_T} (hup : upE C0 C) (hA : wAll W) (hW : wOk (xMrk W v).2.2) (hn : ¬ (mkF (xMk (wX W)) v = -1 ∧ 6 ≤ (xMk (wX W)).1)) (hQ : C.1 76 97 = 10 ∧ C.2.1 76 99 = v ∧ C.1 76 98 = mkF (xMk (wX W)) v) (H : MI C W) (hf : C.1 76 8 = 0) (h0 : C.1 76 89 = 0 ∧ C.1 76 74 = 0 ∧ C.1 76 93 = 0 ∧ C.1 76 95 = 0) : Wd L xs (d + 20) y_191 (51, [(1, .int (nI (totF (wR W) 6 0 0))), (0, .ref 176)], [], MH C t, sl) (PRm C0 t W sl (xMrk W v)) nX := by
  have H1 := MI_1 (j := 2) (v := 0) (by omega) H
  have e : ∀ j, j ≠ 2 → (sI C 76 2 0).1 76 j = C.1 76 j := fun j hj => e2_o hj
  cases hx : xIn (wX W) with
  | false =>
    rw [xMrk_out hx]
    exact mNo (s := 10) hup hA.1 H hf h0 hQ.1 (Or.inl ⟨by omega, by omega, hx⟩)
  | true =>
    have hu : C.1 76 69 = 1 := by rw [H.2.2.1.1, hx]; rfl
    have h6 := hA.1.2.2.2.1.2.2
    have key : ∀ i f p, mkI (wX W) v = (i, p + 1) → i + f = p → p < 6 → (p + 1 = (xMk (wX W)).1 ∨ (i = (xMk (wX W)).1 ∧ p = (xMk (wX W)).1)) → Wd L xs (d + 18) y_281 (0, [(0, .ref 176)], [], MH (sI C 76 2 0) t, 0) (fun v' h' q => none = v' ∧ (∃ C', smP (sI C 76 2 0) i f p v C' ∧ MH C' t = h') ∧ 0 = q) nX → Wd L xs (d + 20) y_191 (51, [(1, .int (nI (totF (wR W) 6 0 0))), (0, .ref 176)], [], MH C t, sl) (PRm C0 t W sl (xMrk W v)) nX := fun i f p k1 k2 k3 k4 w => by
      rw [xMrk_in hx k1] at hW ⊢
      refine i_191 (d := d + 19) (s := 10) hf hQ.1 (by omega) (by omega) hu (m_279_10 (d := d + 18) (sl := 0) (P := fun v' h' q => v' = some (.int (nI 0)) ∧ (∃ C', smP (sI C 76 2 0) i f p v C' ∧ MH C' t = h') ∧ q = 0) ((e 97 (by omega)).trans hQ.1) w (fun v' h q hq => ?_)) (fun v' h q hq => ?_)
      · obtain ⟨rfl, z, rfl⟩ := hq
        exact ⟨rfl, rfl, z, rfl⟩
      · obtain ⟨rfl, ⟨C', z, rfl⟩, rfl⟩ := hq
        have ef : ∀ j, j ≠ 70 → C'.1 76 j = (sI C 76 2 0).1 76 j := fun j hj => by
          obtain ⟨C1, C2, s1, s2, rfl⟩ := z
          rw [sI_1, if_neg (by omega), s2.1 76 j (by omega) (by omega)]
          show (sI C1 76 70 (nI p)).1 76 j = _
          rw [sI_1, if_neg (by omega)]
          exact s1.1 76 j (by omega)
        exact ⟨nI 0, C', t, rfl, rfl, mEnd (d := d + 19) (r := xOk (wT W, wG W, wR W, mkX (wX W) (wR W) v i (p + 1))) (upE_t hup (upE_t (upE_I (by omega)) (sm_up z))) hW (by show 0 < 8; omega) (MI_mk z k2 k3 k4 H1) (vM0 (Or.inl rfl) ((ef 93 (by omega)).trans ((e 93 (by omega)).trans h0.2.2.1)) ((ef 95 (by omega)).trans ((e 95 (by omega)).trans h0.2.2.2))) ((ef 2 (by omega)).trans (by rw [sI_1, if_pos ⟨rfl, rfl⟩]))⟩
    have h70 : (sI C 76 2 0).1 76 70 = nI (xMk (wX W)).1 := H1.2.2.1.2.2.1
    by_cases hz : mkF (xMk (wX W)) v = -1
    · have h5 : (xMk (wX W)).1 < 6 := Nat.lt_of_not_le (fun z => hn ⟨hz, z⟩)
      exact key (xMk (wX W)).1 0 (xMk (wX W)).1 (if_pos hz) rfl h5 (Or.inr ⟨rfl, rfl⟩) (m_281n (d := d + 17) (sl := 0) h5 ((e 98 (by omega)).trans (hQ.2.2.trans hz)) h70 hQ.2.1)
    · obtain ⟨i, f1, f2, f3⟩ := mkF_b h6 hz
      have hp : mkI (wX W) v = (i, (xMk (wX W)).1 - 1 + 1) := by
        unfold mkI
        rw [if_neg hz, f3, show (xMk (wX W)).1 - 1 + 1 = (xMk (wX W)).1 by omega]
      exact key i ((xMk (wX W)).1 - 1 - i) ((xMk (wX W)).1 - 1) hp (by omega) (by omega) (Or.inl (by omega)) (m_281f (d := d + 17) (sl := 0) h6 (by omega) ((e 98 (by omega)).trans (hQ.2.2.trans f1)) h70 hQ.2.1)
/-! a table stands -/
set_option maxRecDepth 100000 in
theorem MI_tb (hA : wOk W) (hx : xIn (wX W) = false) (hz : (wT W).1.1 b = 0) (hT6 : ∀ q, q < 6 → T'.1.2.1 q ≤ 6) (hTw : ∀ q, q ≠ b → T'.1.2.1 q = (wT W).1.2.1 q) (M : TMo C b T' l none) (h : slR l (ntM C b) C' l.length) (H : MI C W) : MI C' (T', W.2) := by
  obtain ⟨⟨m1, m2, m3, m4⟩, m5, m6, ⟨m7, m8, m9, m10⟩, m11, _, m12⟩ := M
  obtain ⟨h1, h2, h3⟩ := h
  have hrs := hA.2.2.2.2.1 b m2 hz
  have ci : ∀ k j, k ≠ 83 → ¬ ((k = 78 ∨ k = 117 ∨ k = 118) ∧ j = b) → C'.1 k j = C.1 k j := fun k j a c => (h1 k j a).trans (by unfold ntM; rw [sI_1, if_neg (by omega), sI_1, if_neg (by omega), sI_1, if_neg (by omega)])
  have cj : ∀ k j, C'.2.1 k j = C.2.1 k j := fun k j => by rw [h3]; rfl
  have c78 : C'.1 78 b = 1 := (h1 78 b (by omega)).trans (by unfold ntM; rw [sI_1, if_neg (by omega), sI_1, if_neg (by omega), sI_1, if_pos ⟨rfl, rfl⟩])
  have c117 : C'.1 117 b = 0 := (h1 117 b (by omega)).trans (by unfold ntM; rw [sI_1, if_neg (by omega), sI_1, if_pos ⟨rfl, rfl⟩])
  have c118 : C'.1 118 b = 1 := (h1 118 b (by omega)).trans (by unfold ntM; rw [sI_1, if_pos ⟨rfl, rfl⟩])
  have c83 : ∀ q, C'.1 83 q = if q ∈ l then 1 else C.1 83 q := fun q => by
    rw [h2 q, List.take_length]
    by_cases z : q ∈ l
    · rw [if_pos z, if_pos z]
    · rw [if_neg z, if_neg z]
      unfold ntM
      rw [sI_1, if_neg (by omega), sI_1, if_neg (by omega), sI_1, if_neg (by omega)]
  refine ⟨⟨⟨fun q hq hn => ?_, fun q hq hn => ?_, fun r hr => ?_, ?_⟩, fun i hi => ?_, fun i u hi hu => (ci 105 i (by omega) (by omega)).trans (H.1.2.2 i u hi hu)⟩, ⟨fun q hq => ⟨hT6 q hq, ?_, (H.2.1.1 q hq).2.2.1, fun k r hr => ?_⟩, fun q hq => ?_⟩, ⟨(ci 76 69 (by omega) (by omega)).trans H.2.2.1.1, ⟨fun j hj => (by rw [ci 91 j (by omega) (by omega)]; exact H.2.2.1.2.1.1 j hj), fun j hj hn => ?_⟩, (ci 76 70 (by omega) (by omega)).trans H.2.2.1.2.2.1, H.2.2.1.2.2.2.1, fun j hj => (cj 123 j).trans (H.2.2.1.2.2.2.2 j hj)⟩, ⟨fun z => (by have z : xIn (wX W) = true := z; rw [hx] at z; cases z), fun j hj => (by have hj : j < (xMk (wX W)).1 := hj; rw [(hA.2.2.2.1.2.1 hx).2] at hj; omega)⟩, ?_⟩
  · obtain ⟨n1, n2, n3, n4⟩ := m5 q hq hn
    refine ⟨?_, (cj 79 q).trans n2, TBM_o n3 (fun j => ci 80 j (by omega) (by omega)) (fun j => cj 81 j), fun c hc => (cj 82 _).trans (n4 c hc)⟩
    by_cases z : q = b
    · rw [z]; exact c78
    · exact (ci 78 q (by omega) (by omega)).trans (n1 z)
  · by_cases z : q = b
    · rw [z] at hn; exact absurd hn m4
    · exact (ci 78 q (by omega) (by omega)).trans (m6 q hq hn)
  · rcases m11 r hr (fun z => by cases z) with ⟨e1, e2, e3⟩ | ⟨u, e1, e2, e3, e4⟩
    · refine Or.inl ⟨e1, ?_⟩
      rw [c83, if_neg e3]; exact e2
    · refine Or.inr ⟨u, e1, RUM_l (fun j _ => ⟨ci 106 _ (by omega) (by omega), cj 107 _⟩) (fun k a b c d f => ci k r (by omega) (by omega)) (fun k j a _ => ci k _ (by omega) (by omega)) (ci 113 r (by omega) (by omega)) e3 e2, e3, ?_⟩
      rw [c83]
      by_cases z : r ∈ l
      · rw [if_pos z]
      · rw [if_neg z]
        rcases e4 with y | y
        · exact y
        · exact absurd y.2 z
  · rw [ci 76 48 (by omega) (by omega), ci 76 49 (by omega) (by omega)]; exact m12
  · exact opM_m (fun u hu => TRM_o hu (fun k j hk => ci k j (by omega) (by omega)) (fun k j _ => cj k j)) (ci 95 i (by omega) (by omega)) (H.1.2.1 i hi)
  · by_cases z : q = b
    · show C'.1 117 q = nI (wR W q).1.length
      rw [z, c117, hrs]; rfl
    · exact (ci 117 q (by omega) (by omega)).trans (H.2.1.1 q hq).2.1
  · have hr : (wR W q).1[k]? = some r := hr
    obtain ⟨z1, z2⟩ := (H.2.1.1 q hq).2.2.2 k r hr
    refine ⟨(ci 115 _ (by omega) (by omega)).trans z1, fun c hc => (cj 116 _).trans (z2 c ?_)⟩
    have hc : c < T'.1.2.1 q := hc
    by_cases z : q = b
    · rw [z, hrs] at hr; cases hr
    · rw [hTw q z] at hc; exact hc
  · by_cases z : q = b
    · show C'.1 118 q = (wR W q).2 + 1
      rw [z, c118, hrs]; rfl
    · exact (ci 118 q (by omega) (by omega)).trans (H.2.1.2 q hq)
  · show C'.1 91 j = ck (xWt (wX W) j)
    rw [ci 91 j (by omega) (by omega)]
    by_cases ho : wU W j = none
    · have h83 : C.1 83 j = 0 := by
        rcases H.1.1.2.2.1 j hj with ⟨_, e2⟩ | ⟨u, e1, _⟩
        · exact e2
        · rw [show (wT W).2.2 j = none from ho] at e1; cases e1
      rcases m11 j hj (fun z => by cases z) with ⟨e1, _⟩ | ⟨u, e1, e2, e3, e4⟩
      · exact absurd e1 hn
      · rcases e4 with y | y
        · rw [h83] at y; exact absurd y (by decide)
        · rw [(m8 j y.2).2, (hA.2.2.2.1.2.1 hx).1 j]; rfl
    · exact H.2.2.1.2.1.2 j hj ho
  · obtain ⟨z, hz⟩ := H.2.2.2.2
    exact ⟨z, (ci 76 74 (by omega) (by omega)).trans hz⟩
set_option maxRecDepth 100000 in
theorem TMo_1 {j : Nat} {x : Int32} (hj : j = 2) (M : TMo C b T' l none) : TMo (sI C 76 j x) b T' l none := by
  subst hj
  have ci : ∀ k q, ¬ (k = 76 ∧ q = 2) → (sI C 76 2 x).1 k q = C.1 k q := fun k q h => by rw [sI_1, if_neg h]
  obtain ⟨⟨m1, m2, m3, m4⟩, m5, m6, ⟨m7, m8, m9, m10⟩, m11, m13, m12⟩ := M
  refine ⟨⟨(ci 76 57 (by omega)).trans m1, m2, (ci 78 b (by omega)).trans m3, m4⟩, fun q hq hn => ?_, fun q hq hn => (ci 78 q (by omega)).trans (m6 q hq hn), ⟨(ci 76 58 (by omega)).trans m7, fun x hx => ⟨(m8 x hx).1, (ci 91 x (by omega)).trans (m8 x hx).2⟩, m9, fun k y hk => (ci 114 k (by omega)).trans (m10 k y hk)⟩, fun q hq ho => ?_, fun y hy => (by cases hy), (by rw [ci 76 48 (by omega), ci 76 49 (by omega)]; exact m12)⟩
  · obtain ⟨n1, n2, n3, n4⟩ := m5 q hq hn
    exact ⟨fun z => (ci 78 q (by omega)).trans (n1 z), n2, TBM_o n3 (fun j => ci 80 j (by omega)) (fun _ => rfl), n4⟩
  · rcases m11 q hq ho with ⟨e1, e2, e3⟩ | ⟨u, e1, e2, e3, e4⟩
    · exact Or.inl ⟨e1, (ci 83 q (by omega)).trans e2, e3⟩
    · exact Or.inr ⟨u, e1, RUM_l (fun j _ => ⟨ci 106 _ (by omega), rfl⟩) (fun k a b c d f => ci k q (by omega)) (fun k j a _ => ci k _ (by omega)) (ci 113 q (by omega)) e3 e2, e3, (by rw [ci 83 q (by omega)]; exact e4)⟩
set_option maxRecDepth 100000 in
theorem me_37 {C0 : co_T} {i' : Nat} {nl' : Option Nat} (hup : upE C0 C) (hA : wAll W) (hm : lst B n m) (h6 : m ≤ 600) (h1 : 0 + 1 ≤ m) (hW : wOk (xTab W T').2.2) (hr : rTbl (tkP B n) (wT W) 0 (nlW W) = .inr (T', i', nl')) (hQ : (∃ b l', b < 6 ∧ tbN (wT W).1.1 = nI b ∧ TMo C b T' l' none) ∧ C.1 76 97 = 1) (H : MI C W) (hf : C.1 76 8 = 0) (h0 : C.1 76 89 = 0 ∧ C.1 76 74 = 0 ∧ C.1 76 93 = 0 ∧ C.1 76 95 = 0) : Wd L xs (d + 20) y_191 (51, [(1, .int (nI (totF (wR W) 6 0 0))), (0, .ref 176)], [], MH C t, sl) (PRm C0 t W sl (xTab W T')) nX := by
  obtain ⟨⟨b, l, hb, hbn, M⟩, h97⟩ := hQ
  have h97' : C.1 76 97 = nI 1 := h97
  have H1 := MI_1 (j := 2) (v := 0) (by omega) H
  have e : ∀ j, j ≠ 2 → (sI C 76 2 0).1 76 j = C.1 76 j := fun j hj => e2_o hj
  cases hx : xIn (wX W) with
  | true =>
    rw [xTab_in hx]
    exact mNo (s := 1) hup hA.1 H hf h0 h97' (Or.inr ⟨by omega, by omega, hx⟩)
  | false =>
    rw [xTab_out hx] at hW ⊢
    have hu : C.1 76 69 = 0 := by rw [H.2.2.1.1, hx]; rfl
    have hz := tbN_0 hbn hb
    obtain ⟨r1, b', nm', r2, r3, r4, r5, r6, r7, r8⟩ := rTbl_w hm h6 h1 hA.1.1 hr
    have hbb : b' = b := (nK_inj (by omega) (by omega)).mp (r2.symm.trans hbn)
    subst hbb
    have M1 := TMo_1 (x := 0) rfl M
    obtain ⟨⟨m1, m2, m3, m4⟩, m5, m6, ⟨m7, m8, m9, m10⟩, m11, _, m12⟩ := id M1
    have hl : l.length ≤ 24 := php 24 l (fun x hx => (m8 x hx).1) m9
    refine o_191 (d := d + 19) (s := 1) hf h97' (by omega) (by omega) hu (m_284_1 (d := d + 19) (sl := 0) (l := l) ((e 97 (by omega)).trans h97) hb m1 hl m7 (fun k x hk => ⟨m10 k x hk, (m8 x (List.mem_of_getElem? hk)).1⟩)) (fun v h q hq => ?_)
    obtain ⟨rfl, ⟨C', z, rfl⟩, rfl⟩ := hq
    have ef : ∀ j, C'.1 76 j = (sI C 76 2 0).1 76 j := fun j => (z.1 76 j (by omega)).trans (by unfold ntM; rw [sI_1, if_neg (by omega), sI_1, if_neg (by omega), sI_1, if_neg (by omega)])
    exact ⟨nI 0, C', t, rfl, rfl, mEnd (d := d + 19) (r := xOk (T', W.2)) (upE_t hup (upE_t (upE_I (C := C) (a := 76) (b := 2) (v := 0) (by omega)) (upE_k (C := sI C 76 2 0) (C' := C') (fun k j hk => (z.1 k j (by omega)).trans (by unfold ntM; rw [sI_1, if_neg (by omega), sI_1, if_neg (by omega), sI_1, if_neg (by omega)])) (fun k j hk => by rw [z.2.2]; rfl) (by rw [z.2.2]; rfl)))) hW (by show 0 < 8; omega) (MI_tb hA.1 hx hz (fun q hq => (r1.1 q hq).1) r7 M1 z H1) (vM0 (Or.inl rfl) ((ef 93).trans ((e 93 (by omega)).trans h0.2.2.1)) ((ef 95).trans ((e 95 (by omega)).trans h0.2.2.2))) ((ef 2).trans (by rw [sI_1, if_pos ⟨rfl, rfl⟩]))⟩
end MVE
