
/-! ONE SIDE AND THE WORLD: a table is made, from its text on; every run -/
section KTR
variable {L : Nat} {xs : Nat → Int32} {B : Nat → Nat} {n m d sl b : Nat} {C C' C0 C1 C2 : co_T} {t t' u u' mt mt' : ab_H} {Ks Ks' : List Nat} {W : wo_T} {k i : Nat} {nm : Int64} {T' : tb_S}
set_option maxRecDepth 100000 in
theorem tbB_a {q : ab_H} (h : tbB C mt b nm C' mt') : tbB C mt b nm C' (mt' ++ q) := by
  obtain ⟨C2, f, g⟩ := h
  exact ⟨C2, f, STB_t g (STB_F ⟨fun _ _ _ _ _ _ => rfl, fun _ _ _ => rfl, fun _ _ _ => rfl⟩ tlE_a)⟩
set_option maxRecDepth 100000 in
theorem tb_lo (h : tbB C mt b nm C' mt') : loE C C' := loE_k (fun k j hk => tbB_1 h (by omega) (by omega) (by omega) (by omega) (by omega) (by omega)) (fun k j hk => tbB_2 h (by omega) (by omega) (by omega) (by omega) (by omega)) (fun k j hk => tbB_3 h (by omega) (by omega) (by omega))
/-! undo, on the whole tail -/
set_option maxRecDepth 100000 in
theorem w_97 (hA : wOk W) (hb : b < 6) (hz : (wT W).1.1 b = 0) (h : tbB C (msk (mBk Ks) u) b nm C' (msk (mBk Ks) u')) (fv : frVm (mBk Ks) u u') (K : KI C u Ks W) : Wd L xs (d + 2) y_97 (0, [(0, .ref 120)], [], MH C' u', 0) (fun v h q => ∃ C3, (none = v ∧ (KI C3 u' Ks W ∧ (∀ k j, k = 1 ∨ k = 24 → C3.1 k j = C'.1 k j) ∧ loE C' C3) ∧ 0 = q) ∧ MH C3 u' = h) nX := by
  have hM : ∀ j, mBk Ks j = true → j < u'.length := bkO_h (bkO_f K.1 fv)
  obtain ⟨tbo, s1, s2⟩ := SLt_B hA hb K.2.1 h rfl
  have hT : isT C' b = true := by
    show (!decide (C'.2.1 7 b = 0)) = true
    obtain ⟨C2, ⟨_, hn⟩, _⟩ := id h
    rw [(tbB_n (j := 0) h).2.1, decide_eq_false hn]
    rfl
  have w := m_97y (L := L) (xs := xs) (d := d) (sl := 0) (t := msk (mBk Ks) u') (tbB_10 h).1 hb hT s1 (SLg_B hA K.2.1 h)
  refine W_mE (M := mBk Ks) (t := u') (Q := fun v C3 q => none = v ∧ (KI C3 u' Ks W ∧ (∀ k j, k = 1 ∨ k = 24 → C3.1 k j = C'.1 k j) ∧ loE C' C3) ∧ 0 = q) (Wd_q w (fun v h' q hq => ?_) (fun _ _ _ e => e)) hM
  obtain ⟨e1, ⟨C1, C3, g1, g2, e4⟩, e5⟩ := hq
  refine ⟨C3, ⟨e1, ⟨KI_un hA hb hz h fv s2 g1 g2 K, fun k j hk => ?_, lo_dp g1 g2⟩, e5⟩, e4⟩
  rw [g2.1, g1.1]
  unfold dpC
  rw [sI_1, if_neg (by omega), sI_1, if_neg (by omega), sI_1, if_neg (by omega)]
  rfl
set_option maxRecDepth 100000 in
theorem xTab_in (h : xIn (wX W) = true) : xTab W T' = xNo W := by unfold xTab; rw [h]; rfl
set_option maxRecDepth 100000 in
theorem xTab_out (h : xIn (wX W) = false) : xTab W T' = xOk (T', W.2) := by unfold xTab; rw [h]; rfl
set_option maxRecDepth 100000 in
theorem ex_37 (hA : wOk W) (hb : b < 6) (hz : (wT W).1.1 b = 0) (hT6 : ∀ q, q < 6 → T'.1.2.1 q ≤ 6) (hTw : ∀ q, q ≠ b → T'.1.2.1 q = (wT W).1.2.1 q) (hB : BK C' (msk (mBk Ks) u') T') (h : tbB C (msk (mBk Ks) u) b nm C' (msk (mBk Ks) u')) (fv : frVm (mBk Ks) u u') (K : KI C u Ks W) (hv : C'.2.2 20 3 = some 37) (h24 : C'.1 24 7 = 0 ∧ C'.1 24 8 = 0) : Wd L xs (d + 64) y_100 (0, [(0, .ref 100)], [], MH C' u', 0) (PXk C' u' (xTab W T')) nX := by
  have hu : C'.1 6 7 = ck (xIn (wX W)) := (tbB_1 h (by omega) (by omega) (by omega) (by omega) (by omega) (by omega)).trans K.2.2.2.1.1
  cases hx : xIn (wX W) with
  | false =>
    rw [xTab_out hx]
    have wp := m_101_37 (L := L) (xs := xs) (d := d + 62) (sl := 0) (t := u') (u := false) hv (by rw [← hx]; exact hu)
    exact p_100 (d := d + 63) wp (c_100_37 (d := d + 63) hv (kOk loE_r (KI_tb hA hx hb hz hT6 hTw hB h fv K) h24 (by omega) (by omega)))
  | true =>
    rw [xTab_in hx]
    have wp := m_101_37 (L := L) (xs := xs) (d := d + 62) (sl := 0) (t := u') (u := true) hv (by rw [← hx]; exact hu)
    refine n_100 (d := d + 63) wp (w_97 (d := d + 61) hA hb hz h fv K) (fun v h q hq => ?_)
    obtain ⟨C3, ⟨rfl, ⟨K3, e3, o3⟩, rfl⟩, rfl⟩ := hq
    exact ⟨rfl, rfl, ⟨C3, u', Ks, ⟨K3, vE0 (Or.inr rfl) ⟨(e3 24 7 (by omega)).trans h24.1, (e3 24 8 (by omega)).trans h24.2⟩, by omega, o3⟩, rfl⟩, by omega⟩
set_option maxRecDepth 100000 in
theorem tbN_0 {tn : Nat → Int64} (h : tbN tn = nI b) (hb : b < 6) : tn b = 0 := by
  have hn : tbN tn ≠ -1 := fun e => by
    rw [h] at e
    have := congrArg Int32.toInt e
    rw [nK_int (by omega)] at this
    have e1 : (-1 : Int32).toInt = -1 := rfl
    omega
  obtain ⟨s, e1, e2, e3, _⟩ := tbN_w hn
  have : s = b := (nK_inj (by omega) (by omega)).mp (e1.symm.trans h)
  rw [← this]
  exact e3
/-! how reading a table ends -/
def qPT (B : Nat → Nat) (n m : Nat) (C : co_T) (mt : ab_H) (W : wo_T) : Option Value → co_T → ab_H → Nat → Prop := fun v C' mt' q => none = v ∧ ∃ x b nm T' i' nl', (rTbl (tkP B n) (wT W) 0 (nlW W) = .inr (T', i', nl') ∧ kd B n i' = 2) ∧ (tbN (wT W).1.1 = nI b ∧ b < 6) ∧ (tbB (rdC B n C m x) mt b nm C' mt' ∧ BK C' mt' T') ∧ mt'.length ≤ mt.length + 4 * m ∧ q ≤ 25 * m
def qXT (B : Nat → Nat) (n m : Nat) (C : co_T) (mt : ab_H) (W : wo_T) : Nat → co_T → ab_H → Nat → Prop := fun a C' mt' q => ∃ x c j t1 s, ((rTbl (tkP B n) (wT W) 0 (nlW W) = .inl (c, j) ∨ (∃ a nl', rTbl (tkP B n) (wT W) 0 (nlW W) = .inr (a, j, nl') ∧ kd B n j ≠ 2 ∧ c = 2)) ∧ flt B n C' c j) ∧ ((frD (rdC B n C m x) C' ∧ t1 = mt) ∨ (∃ b nm, (tbN (wT W).1.1 = nI b ∧ b < 6) ∧ tbB (rdC B n C m x) mt b nm C' t1)) ∧ mt.length ≤ t1.length ∧ t1.length ≤ mt.length + 4 * m ∧ s ≤ 25 * m ∧ mt' = t1 ++ [.inr (12, [])] ∧ 241 + t1.length = a ∧ s + 6 = q
set_option maxRecDepth 100000 in
theorem kRunT (hA : wAll W) (K : KI C t Ks W) (Tp : tpK C B n) (hm : lst B n m) (hk : kd B n 0 = 37) : Wd L xs (d + 65) y_9 (0, [(0, .ref 100)], [], MH C t, sl) (PRk m C t W sl (fnW W B n (rTbl (tkP B n) (wT W) 0 (nlW W)) (xTab W))) nX := by
  have K0 := KI_sa K
  have hM : ∀ j, mBk Ks j = true → j < t.length := bkO_h K.1
  have h6 : m ≤ 600 := Nat.le_trans (lst_le hm) Tp.2.1
  have h1 : 0 + 1 ≤ m := st1 hm (Nat.zero_le m) hk (by decide) (by decide)
  have hW : wok (wT W) := fun q hq => (hA.1.1.1 q hq).1
  have hnx : (if isN (kd B n 0) = true then some (400 - ndS (wU W) (wG W)) else none) = nlW W := by rw [hk]; rfl
  have w0 := m_10 (L := L) (xs := xs) (d := d + 64) (sl := 0) (t := t) (C := C) (rs := wR W) (fun b hb => (K.2.2.1.1 b hb).2.1)
  have wr : Wd L xs (d + 1 + 63) y_12 (0, [(0, .ref 120)], [], MH (saC C) (msk (mBk Ks) t), 0) (fun v h q => ∃ C' t', MH C' t' = h ∧ qPT B n m (saC C) (msk (mBk Ks) t) W v C' t' q) (fun a h q => ∃ C' t', MH C' t' = h ∧ qXT B n m (saC C) (msk (mBk Ks) t) W a C' t' q) := by
    refine d12s (tpK_sa Tp) hm K0.2.1.1 K0.2.1.2.1 (fun i g hg => (hA.1.2.1 i g hg).2.2.2) hA.1.2.2.1 (fun x hx _ => ?_)
    rw [show (if isN (kd B n 0) = true then some (400 - ndS (wT W).2.2 (wG W)) else none) = nlW W from hnx] at hx
    have l6 : lfK ((rdC B n (saC C) m x).1 21 6) (nlW W) := by
      rw [rdC_1, if_neg (by omega), if_neg (by omega), if_neg (by omega), if_pos ⟨rfl, rfl⟩]
      exact hx
    refine d12_tab (nl := nlW W) (rdC_S (tpK_sa Tp) hm) hk l6 (rdC_R K0.2.1.1) (rdC_K K0.2.1.1) (fun i u hu => ?_) (rTbl_z hm h6 h1 hW) vb_3 (fun b nm C2 T' i' nl' C' t' sl' e1 e2 e3 e4 => ?_) (fun c j C' t' sl' a h q e1 e2 e3 e4 e5 e6 => ?_)
    · obtain ⟨⟨a1, a2, a3, a4⟩, _⟩ := (hA.1.1.2 i u hu).1
      exact ⟨a3, fun c hc => Nat.lt_of_lt_of_le (a4 c hc) (hA.1.1.1 _ a2).1, a2, by omega⟩
    · obtain ⟨⟨p3, p4⟩, p5, p6, ⟨p7, p8, p9⟩, p10⟩ := e3
      have hi : i' ≤ m := p3.2.2.2.1
      exact ⟨C', t', rfl, rfl, x, b, nm, T', i', nl', ⟨e1, e4⟩, ⟨e2.1, e2.2.1⟩, ⟨⟨C2, e2.2.2, p6⟩, p5⟩, by omega, by omega⟩
    · have hj : j ≤ m := by
        rcases e1 with z | ⟨a', nl', z, _⟩
        · exact rTbl_b hm h6 h1 hW c j z
        · exact rTbl_m hm h6 h1 hW z
      obtain ⟨f1, f2, f3⟩ := e6
      have hl : (msk (mBk Ks) t).length ≤ t'.length := by
        rcases e3 with ⟨_, _, z⟩ | ⟨b, nm, C2, z1, z2, z3, z4⟩
        · rw [z]; exact Nat.le_refl _
        · exact tlE_len z4.1.2
      refine ⟨C', _, f2, x, c, j, t', sl', ⟨e1, e2⟩, ?_, hl, by omega, by omega, rfl, f1, f3⟩
      rcases e3 with ⟨z1, _, z⟩ | ⟨b, nm, C2, z1, z2, z3, z4⟩
      · exact Or.inl ⟨z1, z⟩
      · exact Or.inr ⟨b, nm, ⟨z1, z2⟩, C2, z3, z4⟩
  refine e_9 (d := d + 64) w0 (W_mk (M := mBk Ks) wr hM (fun v h q hq => hq) (fun a h q hq => hq)) (fun v h q hq => ?_) (fun a h q hq => ?_)
  · obtain ⟨C2, u2, rfl, ⟨hv, x, b, nm, T', i', nl', ⟨e1, e3⟩, ⟨e4, e5⟩, ⟨e6, e7⟩, e8, e9⟩, fv⟩ := hq
    refine ⟨hv, C2, u2, rfl, ?_⟩
    have hz := tbN_0 e4 e5
    obtain ⟨r1, b', nm', r2, r3, r4, r5, r6, r7, r8⟩ := rTbl_w hm h6 h1 hA.1.1 e1
    have hbb : b' = b := (nK_inj (by omega) (by omega)).mp (r2.symm.trans e4)
    subst hbb
    have h24 : ∀ j, C2.1 24 j = (saC C).1 24 j := fun j => (tbB_1 e6 (by omega) (by omega) (by omega) (by omega) (by omega) (by omega)).trans (rdC_o (by omega) (by omega) (by omega) (by omega))
    have wx := ex_37 (L := L) (xs := xs) (d := d) hA.1 e5 hz (fun q hq => (r1.1 q hq).1) r7 e7 e6 fv (KI_rd K0) ((tbB_10 e6).2.1.trans (by rw [← hk]; exact vb_3)) ⟨(h24 7).trans rfl, (h24 8).trans rfl⟩
    rw [fnW_s e1 e3]
    rw [msk_l, msk_l] at e8
    refine c_9 (d := d + 64) wx (fun v h q hq => ?_)
    obtain ⟨rfl, ⟨C3, t3, Ks3, ⟨K3, v3, l3, o3⟩, rfl⟩, q3⟩ := hq
    refine ⟨nI (xTab W T').1, C3, t3, rfl, rfl, kEnd (loE_t lo_rd (loE_t (tb_lo e6) o3)) ?_ K3 v3 (by omega) (by omega) rfl⟩
    cases hx : xIn (wX W) with
    | true => rw [xTab_in hx]; show 7 < 8; omega
    | false => rw [xTab_out hx]; show 0 < 8; omega
  · obtain ⟨C2, u2, rfl, ⟨x, c, j, t1, s, ⟨e1, e2⟩, e5, e7, e8, e9, e10, rfl, e12⟩, fv⟩ := hq
    rw [msk_l] at e7
    obtain ⟨u1, rfl, e13⟩ := msk_sp hM e7 e10
    have l1 : u1.length = t1.length := by rw [← e13, msk_l]
    refine ⟨C2, u1, s, ⟨by rw [l1], rfl, e12⟩, ?_⟩
    rw [fnW_r e1]
    rw [msk_l] at e8
    have l2 : (u1 ++ [(.inr (12, []) : ab_C)]).length = u1.length + 1 := by rw [List.length_append]; rfl
    rcases e5 with ⟨f1, f2⟩ | ⟨b, nm, ⟨e4, e6⟩, f3⟩
    · have K2 := KI_D f1 (by rw [e10, f2]; exact tlE_a) fv (KI_rd K0)
      have h10 : C2.1 20 10 = -1 := (f1.1 20 10 (by omega) (by omega) (by omega) (by omega) (by omega)).trans (by rw [rdC_1, if_neg (by omega), if_neg (by omega), if_neg (by omega), if_neg (by omega), if_pos ⟨rfl, rfl⟩])
      have h24 : ∀ j, C2.1 24 j = (saC C).1 24 j := fun j => (f1.1 24 j (by omega) (by omega) (by omega) (by omega) (by omega)).trans (rdC_o (by omega) (by omega) (by omega) (by omega))
      refine u_9 (d := d + 64) (m_97n (d := d + 62) (sl := 0) h10) (fun v h q hq => ?_)
      obtain ⟨rfl, rfl, rfl⟩ := hq
      exact ⟨rfl, C2, _, rfl, kRef (loE_t lo_rd (loE_D f1)) K2 e2 ⟨(h24 7).trans rfl, (h24 8).trans rfl⟩ (by omega) (by omega)⟩
    · have hz := tbN_0 e4 e6
      have f3' : tbB (rdC B n (saC C) m x) (msk (mBk Ks) t) b nm C2 (msk (mBk Ks) (u1 ++ [(.inr (12, []) : ab_C)])) := by rw [e10]; exact tbB_a f3
      have h24 : ∀ j, C2.1 24 j = (saC C).1 24 j := fun j => (tbB_1 f3 (by omega) (by omega) (by omega) (by omega) (by omega) (by omega)).trans (rdC_o (by omega) (by omega) (by omega) (by omega))
      refine u_9 (d := d + 64) (w_97 (d := d + 62) hA.1 e6 hz f3' fv (KI_rd K0)) (fun v h q hq => ?_)
      obtain ⟨C3, ⟨rfl, ⟨K3, e3, o3⟩, rfl⟩, rfl⟩ := hq
      exact ⟨rfl, C3, _, rfl, kRef (loE_t lo_rd (loE_t (tb_lo f3) o3)) K3 ⟨(e3 1 9 (by omega)).trans e2.1, (e3 1 10 (by omega)).trans e2.2⟩ ⟨(e3 24 7 (by omega)).trans ((h24 7).trans rfl), (e3 24 8 (by omega)).trans ((h24 8).trans rfl)⟩ (by omega) (by omega)⟩
end KTR
