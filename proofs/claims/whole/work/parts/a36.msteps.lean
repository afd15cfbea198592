
/-! THE OTHER SIDE'S ENGINE: steps -/
section MEd
variable {L : Nat} {xs : Nat → Int32} {C C0 : co_T} {t : ab_H} {d sl b k m n F D kd i : Nat} {S : st_T} {N O : rw_F} {r : ro_T} {σ : es_T} {i0 ph nx jj : Int32} {P : Option Value → ab_H → Nat → Prop} {X : Nat → ab_H → Nat → Prop} {u : ru_T}
set_option maxRecDepth 100000 in
theorem MEn_94 {wd : Nat → Nat} (E : MEn C wd σ (D + 1) (F + 1)) (h : F ≤ 2 * D + 1) : MEn (sI (sI C 76 75 (nI F)) 76 94 (nI D)) wd σ D F :=
  ⟨RWM_V (frV_t (frV_I (by omega)) (frV_I (by omega))) E.1, fun q hq => by rw [sI_1, if_neg (by omega), sI_1, if_neg (by omega)]; exact E.2.1 q hq, ⟨E.2.2.1.1, E.2.2.1.2.1, E.2.2.1.2.2.1, E.2.2.1.2.2.2⟩, ⟨rfl, by have := E.2.2.2.1.2; omega⟩, ⟨rfl, h⟩, E.2.2.2.2.2.1, E.2.2.2.2.2.2⟩
set_option maxRecDepth 100000 in
theorem rfM_1 {is : List Int32} (hS : ∀ n, m = n + 1 → STPM L xs S n) (hm : m + D = 12) (ho : okSt S) (hF : F + 1 ≤ 2 * D) (hb : b < 6) (hi : i < 24) (hu : sRu S i = some u) (hK : rKd u = 4) (hb1 : rTg u = some b) (hd0 : dos 1 u ≠ 0) (h40 : is.length ≤ 40) : ∀ (suf pre : List Int32) (C : co_T) (σ : es_T), pre ++ suf = is → TB S σ D F b 1 i0 3 (nI i) N O C → C.1 134 F = nI is.length → C.1 135 F = nI pre.length → idsM C F is → (∀ σ' C', lop (rf1 S (stp S m) i u (dos 1 u) 1 i0 O N) suf σ = (σ', none) → TB S σ' D F b 1 i0 2 (nI (i + 1)) N O C' → frQ F C C' → Wd L xs (d + 8) y_257 (0, [(0, .ref 176)], [], MH C' t, sl) P X) → (∀ σ' e C', lop (rf1 S (stp S m) i u (dos 1 u) 1 i0 O N) suf σ = (σ', some e) → MX C' σ' → spM C' e → (∃ y, C'.1 76 74 = ck y) → frQ F C C' → P none (MH C' t) sl) → Wd L xs (d + 8) y_257 (0, [(0, .ref 176)], [], MH C t, sl) P X
  | [], pre, C, σ, hpp, B, h134, h135, hid, HN, HX => by
    rw [List.append_nil] at hpp
    subst hpp
    have hD := B.2.1.2.2.2.1.2
    refine goS (f := F) B.2.1.2.2.2.2.1.1 (by omega) B.2.1.2.2.2.2.2.1 B.2.2.1.1 (m_265_3 (by omega) B.2.2.1.2.2.2.2.1 (m_272e (by omega) B.2.2.1.2.2.2.2.2 hi h40 h134 h135)) (fun C1 hC1 => ?_)
    subst hC1
    exact HN σ _ rfl (TB_p (TB_n B)) (frQ_t (frQ_I (by omega)) (frQ_I (by omega)))
  | j :: suf, pre, C, σ, hpp, B, h134, h135, hid, HN, HX => by
    obtain ⟨h1, h2, h3⟩ := get_ap hpp
    have hid1 := hid _ _ h1
    have hD := B.2.1.2.2.2.1.2
    have hR := ho.2.1 i u hi hu
    have hRu := B.1.2.1 i hi
    rw [hu] at hRu
    obtain ⟨_, U⟩ : C.1 83 i = 1 ∧ RUM C i u := hRu
    have y1 : frY F C (sI C 135 F (nI (pre.length + 1))) := frY_m (by omega)
    have q1 := frY_Q y1
    have B1 := TB_Y y1 B
    have h134' : (sI C 135 F (nI (pre.length + 1))).1 134 F = nI is.length := by rw [sI_1, if_neg (by omega)]; exact h134
    have h135' : (sI C 135 F (nI (pre.length + 1))).1 135 F = nI (pre.length + 1) := by rw [sI_1, if_pos ⟨rfl, rfl⟩]
    have hid' : idsM (sI C 135 F (nI (pre.length + 1))) F is := fun j x hj => by rw [sI_1, if_neg (by omega)]; exact hid j x hj
    have IH := fun C' σ' B' a1 a2 a3 a4 a5 => rfM_1 hS hm ho hF hb hi hu hK hb1 hd0 h40 suf (pre ++ [j]) C' σ' h3 B' a1 a2 a3 a4 a5
    rw [len_s] at IH
    have e0 : rf1 S (stp S m) i u (dos 1 u) 1 i0 O N j σ = match fdr j (σ.1 (rTb u)).1 0 with | none => (σ, none) | some (_, r) => bif rfg u O r then (if dos 1 u = 1 then (σ, some (2, nI i, i0)) else if dos 1 u = 2 ∧ 1 = 2 then stp S m 2 (rTb u) j r.2 r.2 σ else stp S m 1 (rTb u) j r.2 (setR (dos 1 u) N (sDf S (rTb u)) r.2 (rCs u) (rOs u)) σ) else (σ, none) := rfl
    have hskip : rf1 S (stp S m) i u (dos 1 u) 1 i0 O N j σ = (σ, none) → Wd L xs (d + 8) y_257 (0, [(0, .ref 176)], [], MH (sI C 135 F (nI (pre.length + 1))) t, sl) P X := fun e1 => IH _ σ B1 h134' h135' hid' (fun σ2 C3 h1 h2 h3 => HN σ2 C3 ((lop_n e1).trans h1) h2 (frQ_t q1 h3)) (fun σ2 e C3 h1 h2 h3 h4 h5 => HX σ2 e C3 ((lop_n e1).trans h1) h2 h3 h4 (frQ_t q1 h5))
    cases hfd : fdr j (σ.1 (rTb u)).1 0 with
    | none =>
      refine goS (f := F) B.2.1.2.2.2.2.1.1 (by omega) B.2.1.2.2.2.2.2.1 B.2.2.1.1 (m_265_3 (by omega) B.2.2.1.2.2.2.2.1 (m_272n hi (by omega) hb ho U hR hK hb1 h40 h2 h134 h135 hid1 B hfd)) (fun C1 hC1 => ?_)
      subst hC1
      exact hskip (by rw [e0, hfd])
    | some kr =>
      obtain ⟨k, r⟩ := kr
      cases hx : rfg u O r with
      | false =>
        refine goS (f := F) B.2.1.2.2.2.2.1.1 (by omega) B.2.1.2.2.2.2.2.1 B.2.2.1.1 (m_265_3 (by omega) B.2.2.1.2.2.2.2.1 (m_272f_1 (k := k) (r := r) hi (by omega) hb ho U hR hK hb1 h40 h2 h134 h135 hid1 B hfd hx)) (fun C1 hC1 => ?_)
        subst hC1
        exact hskip (by
          rw [e0, hfd]
          show (bif rfg u O r then _ else _) = _
          rw [hx, cond_false])
      | true =>
        have hd4 : dos 1 u ≤ 4 := hR.2.2.2.2.2
        have hdd : dos 1 u = 1 ∨ dos 1 u = 2 ∨ dos 1 u = 3 ∨ dos 1 u = 4 := by omega
        rcases hdd with hd | hd | hd | hd
        · have e1 : rf1 S (stp S m) i u (dos 1 u) 1 i0 O N j σ = (σ, some (2, nI i, i0)) := by
            rw [e0, hfd]
            show (bif rfg u O r then _ else _) = _
            rw [hx, cond_true, hd]
            rfl
          refine goS (f := F) B.2.1.2.2.2.2.1.1 (by omega) B.2.1.2.2.2.2.2.1 B.2.2.1.1 (m_265_3 (by omega) B.2.2.1.2.2.2.2.1 (m_272s_1 (k := k) (r := r) hi (by omega) hb ho U hR hK hb1 h40 h2 h134 h135 hid1 B hfd hx hd)) (fun C1 hC1 => ?_)
          obtain ⟨z1, z2, z3, z4, z5⟩ := hC1
          exact goE z1 (HX σ _ C1 (lop_s e1) z2 z3 z4 z5)
        · have e1 : rf1 S (stp S m) i u (dos 1 u) 1 i0 O N j σ = bsR S m 1 (rTb u) j r.2 σ (some (setR 2 N (sDf S (rTb u)) r.2 (rCs u) (rOs u))) := by
            rw [e0, hfd]
            show (bif rfg u O r then _ else _) = _
            rw [hx, cond_true, hd]
            rfl
          refine goS (f := F) B.2.1.2.2.2.2.1.1 (by omega) B.2.1.2.2.2.2.2.1 B.2.2.1.1 (m_265_3 (by omega) B.2.2.1.2.2.2.2.1 (m_272_1_2 (k := k) (r := r) hi (by omega) hb ho U hR hK hb1 h40 h2 h134 h135 hid1 B hfd hx hd)) (fun C1 hC1 => ?_)
          refine bsGo (kd := 1) (F := F + 1) hS hm (by omega) hR.1.2.1 B1.1 B1.2.1 (by omega) hC1 ⟨fun h C2 f1 f2 => ?_, fun e C2 f1 f2 f3 f4 f5 => ?_⟩
          · have e2 : rf1 S (stp S m) i u (dos 1 u) 1 i0 O N j σ = ((bsR S m 1 (rTb u) j r.2 σ (some (setR 2 N (sDf S (rTb u)) r.2 (rCs u) (rOs u)))).1, none) := e1.trans (Prod.ext rfl h)
            refine IH C2 _ (TB_Q ho hb f2 f1 B1) ((f2.1 134 F (by omega) (by omega) (by omega) (by omega)).trans h134') ((f2.1 135 F (by omega) (by omega) (by omega) (by omega)).trans h135') (idsM_Q f2 (by omega) h40 hid') (fun σ2 C3 h1 h2 h3 => HN σ2 C3 ((lop_n e2).trans h1) h2 (frQ_t q1 (frQ_t (frQ_u f2 (by omega)) h3))) (fun σ2 e C3 h1 h2 h3 h4 h5 => HX σ2 e C3 ((lop_n e2).trans h1) h2 h3 h4 (frQ_t q1 (frQ_t (frQ_u f2 (by omega)) h5)))
          · have e2 : rf1 S (stp S m) i u (dos 1 u) 1 i0 O N j σ = ((bsR S m 1 (rTb u) j r.2 σ (some (setR 2 N (sDf S (rTb u)) r.2 (rCs u) (rOs u)))).1, some e) := e1.trans (Prod.ext rfl f1)
            exact HX _ e C2 (lop_s e2) f2 f3 f4 (frQ_t q1 (frQ_u f5 (by omega)))
        · have e1 : rf1 S (stp S m) i u (dos 1 u) 1 i0 O N j σ = bsR S m 1 (rTb u) j r.2 σ (some (setR 3 N (sDf S (rTb u)) r.2 (rCs u) (rOs u))) := by
            rw [e0, hfd]
            show (bif rfg u O r then _ else _) = _
            rw [hx, cond_true, hd]
            rfl
          refine goS (f := F) B.2.1.2.2.2.2.1.1 (by omega) B.2.1.2.2.2.2.2.1 B.2.2.1.1 (m_265_3 (by omega) B.2.2.1.2.2.2.2.1 (m_272_1_3 (k := k) (r := r) hi (by omega) hb ho U hR hK hb1 h40 h2 h134 h135 hid1 B hfd hx hd)) (fun C1 hC1 => ?_)
          refine bsGo (kd := 1) (F := F + 1) hS hm (by omega) hR.1.2.1 B1.1 B1.2.1 (by omega) hC1 ⟨fun h C2 f1 f2 => ?_, fun e C2 f1 f2 f3 f4 f5 => ?_⟩
          · have e2 : rf1 S (stp S m) i u (dos 1 u) 1 i0 O N j σ = ((bsR S m 1 (rTb u) j r.2 σ (some (setR 3 N (sDf S (rTb u)) r.2 (rCs u) (rOs u)))).1, none) := e1.trans (Prod.ext rfl h)
            refine IH C2 _ (TB_Q ho hb f2 f1 B1) ((f2.1 134 F (by omega) (by omega) (by omega) (by omega)).trans h134') ((f2.1 135 F (by omega) (by omega) (by omega) (by omega)).trans h135') (idsM_Q f2 (by omega) h40 hid') (fun σ2 C3 h1 h2 h3 => HN σ2 C3 ((lop_n e2).trans h1) h2 (frQ_t q1 (frQ_t (frQ_u f2 (by omega)) h3))) (fun σ2 e C3 h1 h2 h3 h4 h5 => HX σ2 e C3 ((lop_n e2).trans h1) h2 h3 h4 (frQ_t q1 (frQ_t (frQ_u f2 (by omega)) h5)))
          · have e2 : rf1 S (stp S m) i u (dos 1 u) 1 i0 O N j σ = ((bsR S m 1 (rTb u) j r.2 σ (some (setR 3 N (sDf S (rTb u)) r.2 (rCs u) (rOs u)))).1, some e) := e1.trans (Prod.ext rfl f1)
            exact HX _ e C2 (lop_s e2) f2 f3 f4 (frQ_t q1 (frQ_u f5 (by omega)))
        · have e1 : rf1 S (stp S m) i u (dos 1 u) 1 i0 O N j σ = bsR S m 1 (rTb u) j r.2 σ (some (setR 4 N (sDf S (rTb u)) r.2 (rCs u) (rOs u))) := by
            rw [e0, hfd]
            show (bif rfg u O r then _ else _) = _
            rw [hx, cond_true, hd]
            rfl
          refine goS (f := F) B.2.1.2.2.2.2.1.1 (by omega) B.2.1.2.2.2.2.2.1 B.2.2.1.1 (m_265_3 (by omega) B.2.2.1.2.2.2.2.1 (m_272_1_4 (k := k) (r := r) hi (by omega) hb ho U hR hK hb1 h40 h2 h134 h135 hid1 B hfd hx hd)) (fun C1 hC1 => ?_)
          refine bsGo (kd := 1) (F := F + 1) hS hm (by omega) hR.1.2.1 B1.1 B1.2.1 (by omega) hC1 ⟨fun h C2 f1 f2 => ?_, fun e C2 f1 f2 f3 f4 f5 => ?_⟩
          · have e2 : rf1 S (stp S m) i u (dos 1 u) 1 i0 O N j σ = ((bsR S m 1 (rTb u) j r.2 σ (some (setR 4 N (sDf S (rTb u)) r.2 (rCs u) (rOs u)))).1, none) := e1.trans (Prod.ext rfl h)
            refine IH C2 _ (TB_Q ho hb f2 f1 B1) ((f2.1 134 F (by omega) (by omega) (by omega) (by omega)).trans h134') ((f2.1 135 F (by omega) (by omega) (by omega) (by omega)).trans h135') (idsM_Q f2 (by omega) h40 hid') (fun σ2 C3 h1 h2 h3 => HN σ2 C3 ((lop_n e2).trans h1) h2 (frQ_t q1 (frQ_t (frQ_u f2 (by omega)) h3))) (fun σ2 e C3 h1 h2 h3 h4 h5 => HX σ2 e C3 ((lop_n e2).trans h1) h2 h3 h4 (frQ_t q1 (frQ_t (frQ_u f2 (by omega)) h5)))
          · have e2 : rf1 S (stp S m) i u (dos 1 u) 1 i0 O N j σ = ((bsR S m 1 (rTb u) j r.2 σ (some (setR 4 N (sDf S (rTb u)) r.2 (rCs u) (rOs u)))).1, some e) := e1.trans (Prod.ext rfl f1)
            exact HX _ e C2 (lop_s e2) f2 f3 f4 (frQ_t q1 (frQ_u f5 (by omega)))
set_option maxRecDepth 100000 in
theorem folM_1 (hS : ∀ n, m = n + 1 → STPM L xs S n) (hm : m + D = 12) (ho : okSt S) (hF : F + 1 ≤ 2 * D) (hb : b < 6) : ∀ (n2 i : Nat) (C : co_T) (σ : es_T), i + n2 = 24 → TB S σ D F b 1 i0 2 (nI i) N O C → (∀ σ' C', lop (fol1 S (stp S m) b 1 i0 O N) (rng i n2) σ = (σ', none) → TB S σ' D F b 1 i0 2 (nI 24) N O C' → frQ F C C' → Wd L xs (d + 8) y_257 (0, [(0, .ref 176)], [], MH C' t, sl) P X) → (∀ σ' e C', lop (fol1 S (stp S m) b 1 i0 O N) (rng i n2) σ = (σ', some e) → MX C' σ' → spM C' e → (∃ y, C'.1 76 74 = ck y) → frQ F C C' → P none (MH C' t) sl) → Wd L xs (d + 8) y_257 (0, [(0, .ref 176)], [], MH C t, sl) P X
  | 0, i, C, σ, hi, B, HN, HX => by
    obtain rfl : i = 24 := by omega
    exact HN σ C rfl B frQ_r
  | n2 + 1, i, C, σ, hi, B, HN, HX => by
    have hD := B.2.1.2.2.2.1.2
    have IH := fun C' σ' => folM_1 hS hm ho hF hb n2 (i + 1) C' σ' (by omega)
    refine goS (f := F) B.2.1.2.2.2.2.1.1 (by omega) B.2.1.2.2.2.2.2.1 B.2.2.1.1 (m_265_2 (by omega) B.2.2.1.2.2.2.2.1 (m_269_1 (m := m) (by omega) (by omega) hb ho B)) (fun C1 hC1 => ?_)
    rcases hC1 with ⟨e1, z1⟩ | ⟨u, is, hu, hK, hb1, hd0, e1, h40, B1, h134, h135, hid, q1⟩
    · subst z1
      exact IH _ σ (TB_n B) (fun σ2 C3 h1 h2 h3 => HN σ2 C3 ((lop_n e1).trans h1) h2 (frQ_t (frQ_I (by omega)) h3)) (fun σ2 e C3 h1 h2 h3 h4 h5 => HX σ2 e C3 ((lop_n e1).trans h1) h2 h3 h4 (frQ_t (frQ_I (by omega)) h5))
    · refine rfM_1 hS hm ho hF hb (by omega) hu hK hb1 hd0 h40 is [] C1 σ rfl B1 h134 h135 hid (fun σ2 C3 h1 h2 h3 => ?_) (fun σ2 e C3 h1 h2 h3 h4 h5 => ?_)
      · have e2 := e1.trans h1
        exact IH C3 σ2 h2 (fun σ4 C4 g1 g2 g3 => HN σ4 C4 ((lop_n e2).trans g1) g2 (frQ_t q1 (frQ_t h3 g3))) (fun σ4 e C4 g1 g2 g3 g4 g5 => HX σ4 e C4 ((lop_n e2).trans g1) g2 g3 g4 (frQ_t q1 (frQ_t h3 g5)))
      · exact HX σ2 e C3 (lop_s (e1.trans h1)) h2 h3 h4 (frQ_t q1 h5)
set_option maxRecDepth 100000 in
theorem rfM_2 {is : List Int32} (hS : ∀ n, m = n + 1 → STPM L xs S n) (hm : m + D = 12) (ho : okSt S) (hF : F + 1 ≤ 2 * D) (hb : b < 6) (hi : i < 24) (hu : sRu S i = some u) (hK : rKd u = 4) (hb1 : rTg u = some b) (hd0 : dos 2 u ≠ 0) (h40 : is.length ≤ 40) : ∀ (suf pre : List Int32) (C : co_T) (σ : es_T), pre ++ suf = is → TB S σ D F b 2 i0 3 (nI i) N O C → C.1 134 F = nI is.length → C.1 135 F = nI pre.length → idsM C F is → (∀ σ' C', lop (rf1 S (stp S m) i u (dos 2 u) 2 i0 O N) suf σ = (σ', none) → TB S σ' D F b 2 i0 2 (nI (i + 1)) N O C' → frQ F C C' → Wd L xs (d + 8) y_257 (0, [(0, .ref 176)], [], MH C' t, sl) P X) → (∀ σ' e C', lop (rf1 S (stp S m) i u (dos 2 u) 2 i0 O N) suf σ = (σ', some e) → MX C' σ' → spM C' e → (∃ y, C'.1 76 74 = ck y) → frQ F C C' → P none (MH C' t) sl) → Wd L xs (d + 8) y_257 (0, [(0, .ref 176)], [], MH C t, sl) P X
  | [], pre, C, σ, hpp, B, h134, h135, hid, HN, HX => by
    rw [List.append_nil] at hpp
    subst hpp
    have hD := B.2.1.2.2.2.1.2
    refine goS (f := F) B.2.1.2.2.2.2.1.1 (by omega) B.2.1.2.2.2.2.2.1 B.2.2.1.1 (m_265_3 (by omega) B.2.2.1.2.2.2.2.1 (m_272e (by omega) B.2.2.1.2.2.2.2.2 hi h40 h134 h135)) (fun C1 hC1 => ?_)
    subst hC1
    exact HN σ _ rfl (TB_p (TB_n B)) (frQ_t (frQ_I (by omega)) (frQ_I (by omega)))
  | j :: suf, pre, C, σ, hpp, B, h134, h135, hid, HN, HX => by
    obtain ⟨h1, h2, h3⟩ := get_ap hpp
    have hid1 := hid _ _ h1
    have hD := B.2.1.2.2.2.1.2
    have hR := ho.2.1 i u hi hu
    have hRu := B.1.2.1 i hi
    rw [hu] at hRu
    obtain ⟨_, U⟩ : C.1 83 i = 1 ∧ RUM C i u := hRu
    have y1 : frY F C (sI C 135 F (nI (pre.length + 1))) := frY_m (by omega)
    have q1 := frY_Q y1
    have B1 := TB_Y y1 B
    have h134' : (sI C 135 F (nI (pre.length + 1))).1 134 F = nI is.length := by rw [sI_1, if_neg (by omega)]; exact h134
    have h135' : (sI C 135 F (nI (pre.length + 1))).1 135 F = nI (pre.length + 1) := by rw [sI_1, if_pos ⟨rfl, rfl⟩]
    have hid' : idsM (sI C 135 F (nI (pre.length + 1))) F is := fun j x hj => by rw [sI_1, if_neg (by omega)]; exact hid j x hj
    have IH := fun C' σ' B' a1 a2 a3 a4 a5 => rfM_2 hS hm ho hF hb hi hu hK hb1 hd0 h40 suf (pre ++ [j]) C' σ' h3 B' a1 a2 a3 a4 a5
    rw [len_s] at IH
    have e0 : rf1 S (stp S m) i u (dos 2 u) 2 i0 O N j σ = match fdr j (σ.1 (rTb u)).1 0 with | none => (σ, none) | some (_, r) => bif rfg u O r then (if dos 2 u = 1 then (σ, some (2, nI i, i0)) else if dos 2 u = 2 ∧ 2 = 2 then stp S m 2 (rTb u) j r.2 r.2 σ else stp S m 1 (rTb u) j r.2 (setR (dos 2 u) N (sDf S (rTb u)) r.2 (rCs u) (rOs u)) σ) else (σ, none) := rfl
    have hskip : rf1 S (stp S m) i u (dos 2 u) 2 i0 O N j σ = (σ, none) → Wd L xs (d + 8) y_257 (0, [(0, .ref 176)], [], MH (sI C 135 F (nI (pre.length + 1))) t, sl) P X := fun e1 => IH _ σ B1 h134' h135' hid' (fun σ2 C3 h1 h2 h3 => HN σ2 C3 ((lop_n e1).trans h1) h2 (frQ_t q1 h3)) (fun σ2 e C3 h1 h2 h3 h4 h5 => HX σ2 e C3 ((lop_n e1).trans h1) h2 h3 h4 (frQ_t q1 h5))
    cases hfd : fdr j (σ.1 (rTb u)).1 0 with
    | none =>
      refine goS (f := F) B.2.1.2.2.2.2.1.1 (by omega) B.2.1.2.2.2.2.2.1 B.2.2.1.1 (m_265_3 (by omega) B.2.2.1.2.2.2.2.1 (m_272n hi (by omega) hb ho U hR hK hb1 h40 h2 h134 h135 hid1 B hfd)) (fun C1 hC1 => ?_)
      subst hC1
      exact hskip (by rw [e0, hfd])
    | some kr =>
      obtain ⟨k, r⟩ := kr
      cases hx : rfg u O r with
      | false =>
        refine goS (f := F) B.2.1.2.2.2.2.1.1 (by omega) B.2.1.2.2.2.2.2.1 B.2.2.1.1 (m_265_3 (by omega) B.2.2.1.2.2.2.2.1 (m_272f_2 (k := k) (r := r) hi (by omega) hb ho U hR hK hb1 h40 h2 h134 h135 hid1 B hfd hx)) (fun C1 hC1 => ?_)
        subst hC1
        exact hskip (by
          rw [e0, hfd]
          show (bif rfg u O r then _ else _) = _
          rw [hx, cond_false])
      | true =>
        have hd4 : dos 2 u ≤ 4 := hR.2.2.2.2.1
        have hdd : dos 2 u = 1 ∨ dos 2 u = 2 ∨ dos 2 u = 3 ∨ dos 2 u = 4 := by omega
        rcases hdd with hd | hd | hd | hd
        · have e1 : rf1 S (stp S m) i u (dos 2 u) 2 i0 O N j σ = (σ, some (2, nI i, i0)) := by
            rw [e0, hfd]
            show (bif rfg u O r then _ else _) = _
            rw [hx, cond_true, hd]
            rfl
          refine goS (f := F) B.2.1.2.2.2.2.1.1 (by omega) B.2.1.2.2.2.2.2.1 B.2.2.1.1 (m_265_3 (by omega) B.2.2.1.2.2.2.2.1 (m_272s_2 (k := k) (r := r) hi (by omega) hb ho U hR hK hb1 h40 h2 h134 h135 hid1 B hfd hx hd)) (fun C1 hC1 => ?_)
          obtain ⟨z1, z2, z3, z4, z5⟩ := hC1
          exact goE z1 (HX σ _ C1 (lop_s e1) z2 z3 z4 z5)
        · have e1 : rf1 S (stp S m) i u (dos 2 u) 2 i0 O N j σ = bsR S m 2 (rTb u) j r.2 σ (some (r.2)) := by
            rw [e0, hfd]
            show (bif rfg u O r then _ else _) = _
            rw [hx, cond_true, hd]
            rfl
          refine goS (f := F) B.2.1.2.2.2.2.1.1 (by omega) B.2.1.2.2.2.2.2.1 B.2.2.1.1 (m_265_3 (by omega) B.2.2.1.2.2.2.2.1 (m_272_2_2 (k := k) (r := r) hi (by omega) hb ho U hR hK hb1 h40 h2 h134 h135 hid1 B hfd hx hd)) (fun C1 hC1 => ?_)
          refine bsGo (kd := 2) (F := F + 1) hS hm (by omega) hR.1.2.1 B1.1 B1.2.1 (by omega) hC1 ⟨fun h C2 f1 f2 => ?_, fun e C2 f1 f2 f3 f4 f5 => ?_⟩
          · have e2 : rf1 S (stp S m) i u (dos 2 u) 2 i0 O N j σ = ((bsR S m 2 (rTb u) j r.2 σ (some (r.2))).1, none) := e1.trans (Prod.ext rfl h)
            refine IH C2 _ (TB_Q ho hb f2 f1 B1) ((f2.1 134 F (by omega) (by omega) (by omega) (by omega)).trans h134') ((f2.1 135 F (by omega) (by omega) (by omega) (by omega)).trans h135') (idsM_Q f2 (by omega) h40 hid') (fun σ2 C3 h1 h2 h3 => HN σ2 C3 ((lop_n e2).trans h1) h2 (frQ_t q1 (frQ_t (frQ_u f2 (by omega)) h3))) (fun σ2 e C3 h1 h2 h3 h4 h5 => HX σ2 e C3 ((lop_n e2).trans h1) h2 h3 h4 (frQ_t q1 (frQ_t (frQ_u f2 (by omega)) h5)))
          · have e2 : rf1 S (stp S m) i u (dos 2 u) 2 i0 O N j σ = ((bsR S m 2 (rTb u) j r.2 σ (some (r.2))).1, some e) := e1.trans (Prod.ext rfl f1)
            exact HX _ e C2 (lop_s e2) f2 f3 f4 (frQ_t q1 (frQ_u f5 (by omega)))
        · have e1 : rf1 S (stp S m) i u (dos 2 u) 2 i0 O N j σ = bsR S m 1 (rTb u) j r.2 σ (some (setR 3 N (sDf S (rTb u)) r.2 (rCs u) (rOs u))) := by
            rw [e0, hfd]
            show (bif rfg u O r then _ else _) = _
            rw [hx, cond_true, hd]
            rfl
          refine goS (f := F) B.2.1.2.2.2.2.1.1 (by omega) B.2.1.2.2.2.2.2.1 B.2.2.1.1 (m_265_3 (by omega) B.2.2.1.2.2.2.2.1 (m_272_2_3 (k := k) (r := r) hi (by omega) hb ho U hR hK hb1 h40 h2 h134 h135 hid1 B hfd hx hd)) (fun C1 hC1 => ?_)
          refine bsGo (kd := 1) (F := F + 1) hS hm (by omega) hR.1.2.1 B1.1 B1.2.1 (by omega) hC1 ⟨fun h C2 f1 f2 => ?_, fun e C2 f1 f2 f3 f4 f5 => ?_⟩
          · have e2 : rf1 S (stp S m) i u (dos 2 u) 2 i0 O N j σ = ((bsR S m 1 (rTb u) j r.2 σ (some (setR 3 N (sDf S (rTb u)) r.2 (rCs u) (rOs u)))).1, none) := e1.trans (Prod.ext rfl h)
            refine IH C2 _ (TB_Q ho hb f2 f1 B1) ((f2.1 134 F (by omega) (by omega) (by omega) (by omega)).trans h134') ((f2.1 135 F (by omega) (by omega) (by omega) (by omega)).trans h135') (idsM_Q f2 (by omega) h40 hid') (fun σ2 C3 h1 h2 h3 => HN σ2 C3 ((lop_n e2).trans h1) h2 (frQ_t q1 (frQ_t (frQ_u f2 (by omega)) h3))) (fun σ2 e C3 h1 h2 h3 h4 h5 => HX σ2 e C3 ((lop_n e2).trans h1) h2 h3 h4 (frQ_t q1 (frQ_t (frQ_u f2 (by omega)) h5)))
          · have e2 : rf1 S (stp S m) i u (dos 2 u) 2 i0 O N j σ = ((bsR S m 1 (rTb u) j r.2 σ (some (setR 3 N (sDf S (rTb u)) r.2 (rCs u) (rOs u)))).1, some e) := e1.trans (Prod.ext rfl f1)
            exact HX _ e C2 (lop_s e2) f2 f3 f4 (frQ_t q1 (frQ_u f5 (by omega)))
        · have e1 : rf1 S (stp S m) i u (dos 2 u) 2 i0 O N j σ = bsR S m 1 (rTb u) j r.2 σ (some (setR 4 N (sDf S (rTb u)) r.2 (rCs u) (rOs u))) := by
            rw [e0, hfd]
            show (bif rfg u O r then _ else _) = _
            rw [hx, cond_true, hd]
            rfl
          refine goS (f := F) B.2.1.2.2.2.2.1.1 (by omega) B.2.1.2.2.2.2.2.1 B.2.2.1.1 (m_265_3 (by omega) B.2.2.1.2.2.2.2.1 (m_272_2_4 (k := k) (r := r) hi (by omega) hb ho U hR hK hb1 h40 h2 h134 h135 hid1 B hfd hx hd)) (fun C1 hC1 => ?_)
          refine bsGo (kd := 1) (F := F + 1) hS hm (by omega) hR.1.2.1 B1.1 B1.2.1 (by omega) hC1 ⟨fun h C2 f1 f2 => ?_, fun e C2 f1 f2 f3 f4 f5 => ?_⟩
          · have e2 : rf1 S (stp S m) i u (dos 2 u) 2 i0 O N j σ = ((bsR S m 1 (rTb u) j r.2 σ (some (setR 4 N (sDf S (rTb u)) r.2 (rCs u) (rOs u)))).1, none) := e1.trans (Prod.ext rfl h)
            refine IH C2 _ (TB_Q ho hb f2 f1 B1) ((f2.1 134 F (by omega) (by omega) (by omega) (by omega)).trans h134') ((f2.1 135 F (by omega) (by omega) (by omega) (by omega)).trans h135') (idsM_Q f2 (by omega) h40 hid') (fun σ2 C3 h1 h2 h3 => HN σ2 C3 ((lop_n e2).trans h1) h2 (frQ_t q1 (frQ_t (frQ_u f2 (by omega)) h3))) (fun σ2 e C3 h1 h2 h3 h4 h5 => HX σ2 e C3 ((lop_n e2).trans h1) h2 h3 h4 (frQ_t q1 (frQ_t (frQ_u f2 (by omega)) h5)))
          · have e2 : rf1 S (stp S m) i u (dos 2 u) 2 i0 O N j σ = ((bsR S m 1 (rTb u) j r.2 σ (some (setR 4 N (sDf S (rTb u)) r.2 (rCs u) (rOs u)))).1, some e) := e1.trans (Prod.ext rfl f1)
            exact HX _ e C2 (lop_s e2) f2 f3 f4 (frQ_t q1 (frQ_u f5 (by omega)))
set_option maxRecDepth 100000 in
theorem folM_2 (hS : ∀ n, m = n + 1 → STPM L xs S n) (hm : m + D = 12) (ho : okSt S) (hF : F + 1 ≤ 2 * D) (hb : b < 6) : ∀ (n2 i : Nat) (C : co_T) (σ : es_T), i + n2 = 24 → TB S σ D F b 2 i0 2 (nI i) N O C → (∀ σ' C', lop (fol1 S (stp S m) b 2 i0 O N) (rng i n2) σ = (σ', none) → TB S σ' D F b 2 i0 2 (nI 24) N O C' → frQ F C C' → Wd L xs (d + 8) y_257 (0, [(0, .ref 176)], [], MH C' t, sl) P X) → (∀ σ' e C', lop (fol1 S (stp S m) b 2 i0 O N) (rng i n2) σ = (σ', some e) → MX C' σ' → spM C' e → (∃ y, C'.1 76 74 = ck y) → frQ F C C' → P none (MH C' t) sl) → Wd L xs (d + 8) y_257 (0, [(0, .ref 176)], [], MH C t, sl) P X
  | 0, i, C, σ, hi, B, HN, HX => by
    obtain rfl : i = 24 := by omega
    exact HN σ C rfl B frQ_r
  | n2 + 1, i, C, σ, hi, B, HN, HX => by
    have hD := B.2.1.2.2.2.1.2
    have IH := fun C' σ' => folM_2 hS hm ho hF hb n2 (i + 1) C' σ' (by omega)
    refine goS (f := F) B.2.1.2.2.2.2.1.1 (by omega) B.2.1.2.2.2.2.2.1 B.2.2.1.1 (m_265_2 (by omega) B.2.2.1.2.2.2.2.1 (m_269_2 (m := m) (by omega) (by omega) hb ho B)) (fun C1 hC1 => ?_)
    rcases hC1 with ⟨e1, z1⟩ | ⟨u, is, hu, hK, hb1, hd0, e1, h40, B1, h134, h135, hid, q1⟩
    · subst z1
      exact IH _ σ (TB_n B) (fun σ2 C3 h1 h2 h3 => HN σ2 C3 ((lop_n e1).trans h1) h2 (frQ_t (frQ_I (by omega)) h3)) (fun σ2 e C3 h1 h2 h3 h4 h5 => HX σ2 e C3 ((lop_n e1).trans h1) h2 h3 h4 (frQ_t (frQ_I (by omega)) h5))
    · refine rfM_2 hS hm ho hF hb (by omega) hu hK hb1 hd0 h40 is [] C1 σ rfl B1 h134 h135 hid (fun σ2 C3 h1 h2 h3 => ?_) (fun σ2 e C3 h1 h2 h3 h4 h5 => ?_)
      · have e2 := e1.trans h1
        exact IH C3 σ2 h2 (fun σ4 C4 g1 g2 g3 => HN σ4 C4 ((lop_n e2).trans g1) g2 (frQ_t q1 (frQ_t h3 g3))) (fun σ4 e C4 g1 g2 g3 g4 g5 => HX σ4 e C4 ((lop_n e2).trans g1) g2 g3 g4 (frQ_t q1 (frQ_t h3 g5)))
      · exact HX σ2 e C3 (lop_s (e1.trans h1)) h2 h3 h4 (frQ_t q1 h5)
/-! the after triggers, and the end of a step -/
set_option maxRecDepth 100000 in
theorem aftM (hS : ∀ k, n = k + 1 → STPM L xs S k) (hm : n + (D + 1) = 12) (ho : okSt S) (hF : F ≤ 2 * D + 1) (hb : b < 6) (hkd : kd < 3) (B : TB S σ (D + 1) F b kd i0 4 (nI 0) N O C) (G : GN L xs d t sl P X (sWd S) F D C ((fir S (stp S n) b 1 kd O (N, σ)).1.2, (fir S (stp S n) b 1 kd O (N, σ)).2)) : Wd L xs (d + 8) y_257 (0, [(0, .ref 176)], [], MH C t, sl) P X := by
  refine trM_4 hS hm ho (by omega) hb hkd 8 0 C N σ rfl B (fun N' σ' C1 h1 B1 q1 => ?_) (fun s e C1 h1 h2 h3 h4 h5 => ?_)
  · have h1 : fir S (stp S n) b 1 kd O (N, σ) = ((N', σ'), none) := h1
    rw [h1] at G
    have hD := B1.2.1.2.2.2.1.2
    refine goS (f := F) B1.2.1.2.2.2.2.1.1 (by omega) B1.2.1.2.2.2.2.2.1 B1.2.2.1.1 (m_265_4 (by omega) B1.2.2.1.2.2.2.2.1 (m_266e1 (by omega) B1.2.2.1.2.2.2.2.2 B1.2.1.2.2.2.2.1.1 B1.2.1.2.2.2.1.1)) (fun C2 hC2 => ?_)
    subst hC2
    exact G.1 rfl _ (MEn_94 B1.2.1 hF) (frQ_t q1 (frQ_t (frQ_I (by omega)) (frQ_I (by omega))))
  · have h1 : fir S (stp S n) b 1 kd O (N, σ) = (s, some e) := h1
    rw [h1] at G
    exact G.2 e C1 rfl h2 h3 h4 h5
set_option maxRecDepth 100000 in
theorem STPM_s (ho : okSt S) (hS : ∀ k, n = k + 1 → STPM L xs S k) : STPM L xs S n := by
  intro d sl t P X D F kd b i0 N O σ C hn hkd hb hF K E hs hN hO G
  have B : TB S σ (D + 1) F b kd i0 0 (nI 0) N O C := ⟨K, E, hs, hN, hO⟩
  have hm : n + (D + 1) = 12 := by omega
  refine trM_0 hS hm ho (by omega) hb hkd 8 0 C N σ rfl B (fun N' σ' C1 h1 B1 q1 => ?_) (fun s e C1 h1 h2 h3 h4 h5 => ?_)
  · have h1 : fir S (stp S n) b 0 kd O (N, σ) = ((N', σ'), none) := h1
    have er : rmS S n kd b i0 O N σ = stp2 S (stp S n) kd b i0 O N' σ' := by
      unfold rmS
      rw [h1]
    rw [er] at G
    have hD := B1.2.1.2.2.2.1.2
    refine goS (f := F) B1.2.1.2.2.2.2.1.1 (by omega) B1.2.1.2.2.2.2.2.1 B1.2.2.1.1 (m_265_0 (by omega) B1.2.2.1.2.2.2.2.1 (m_266e0 (by omega) B1.2.2.1.2.2.2.2.2)) (fun C2 hC2 => ?_)
    have B2 := TB_p (v := 1) B1
    have q2 : frQ F C (sI C1 131 F 1) := frQ_t q1 (frQ_I (by omega))
    rw [hC2] at B2 q2
    have G2 := GN_Q G q2
    clear hC2 B B1 q1 q2 G er h1 K E hs hN hO
    have hk3 : kd = 0 ∨ kd = 1 ∨ kd = 2 := by omega
    rcases hk3 with rfl | rfl | rfl
    · by_cases hl : 40 ≤ (σ'.1 b).1.length
      · have e1 : stp2 S (stp S n) 0 b i0 O N' σ' = (σ', some (6, 0, 0)) := by
          unfold stp2
          rw [if_pos rfl, if_pos hl]
        rw [e1] at G2
        refine goS (f := F) B2.2.1.2.2.2.2.1.1 (by omega) B2.2.1.2.2.2.2.2.1 B2.2.2.1.1 (m_265_1 (by omega) B2.2.2.1.2.2.2.2.1 (m_267_0f (by omega) hb ho B2 hl)) (fun C3 hC3 => ?_)
        exact GN_e (z := 6) G2 (by omega) rfl B2.2.1.2.2.1 hC3
      · have e1 : stp2 S (stp S n) 0 b i0 O N' σ' = ((fir S (stp S n) b 1 0 O (N', (rsA σ'.1 b N', σ'.2))).1.2, (fir S (stp S n) b 1 0 O (N', (rsA σ'.1 b N', σ'.2))).2) := by
          unfold stp2
          rw [if_pos rfl, if_neg hl]
        rw [e1] at G2
        refine goS (f := F) B2.2.1.2.2.2.2.1.1 (by omega) B2.2.1.2.2.2.2.2.1 B2.2.2.1.1 (m_265_1 (by omega) B2.2.2.1.2.2.2.2.1 (m_267_0 (by omega) hb ho B2 (by omega))) (fun C3 hC3 => ?_)
        exact aftM hS hm ho hF hb (by omega) hC3.1 (GN_Q G2 hC3.2)
    · have e0 : stp2 S (stp S n) 1 b i0 O N' σ' = match fdr i0 (σ'.1 b).1 0 with | none => (σ', none) | some (k, r) => (match fol S (stp S n) b 1 i0 O N' ((if 1 = 1 then rsW σ'.1 b k (r.1, N') else rsD σ'.1 b k), σ'.2) with | (σ1, some e) => (σ1, some e) | (σ1, none) => ((fir S (stp S n) b 1 1 O (N', σ1)).1.2, (fir S (stp S n) b 1 1 O (N', σ1)).2)) := rfl
      cases hfd : fdr i0 (σ'.1 b).1 0 with
      | none =>
        rw [e0, hfd] at G2
        refine goS (f := F) B2.2.1.2.2.2.2.1.1 (by omega) B2.2.1.2.2.2.2.2.1 B2.2.2.1.1 (m_265_1 (by omega) B2.2.2.1.2.2.2.2.1 (m_267_n1 (by omega) hb ho B2 hfd)) (fun C3 hC3 => ?_)
        subst hC3
        exact G2.1 rfl _ (MEn_94 (MEn_I (by omega) B2.2.1) hF) (frQ_t (frQ_I (by omega)) (frQ_t (frQ_I (by omega)) (frQ_I (by omega))))
      | some kr =>
        obtain ⟨k, r⟩ := kr
        refine goS (f := F) B2.2.1.2.2.2.2.1.1 (by omega) B2.2.1.2.2.2.2.2.1 B2.2.2.1.1 (m_265_1 (by omega) B2.2.2.1.2.2.2.2.1 (m_267_1 (k := k) (r := r) (by omega) hb ho B2 hfd)) (fun C3 hC3 => ?_)
        obtain ⟨B3, q3⟩ := hC3
        have e1 : stp2 S (stp S n) 1 b i0 O N' σ' = match fol S (stp S n) b 1 i0 O N' (rsW σ'.1 b k (r.1, N'), σ'.2) with | (σ1, some e) => (σ1, some e) | (σ1, none) => ((fir S (stp S n) b 1 1 O (N', σ1)).1.2, (fir S (stp S n) b 1 1 O (N', σ1)).2) := by rw [e0, hfd]; rfl
        have G3 := GN_Q G2 q3
        refine folM_1 hS hm ho (by omega) hb 24 0 C3 _ rfl B3 (fun σ4 C4 h1 B4 q4 => ?_) (fun σ4 e C4 h1 h2 h3 h4 h5 => ?_)
        · have h1 : fol S (stp S n) b 1 i0 O N' (rsW σ'.1 b k (r.1, N'), σ'.2) = (σ4, none) := h1
          rw [e1, h1] at G3
          have hD := B4.2.1.2.2.2.1.2
          refine goS (f := F) B4.2.1.2.2.2.2.1.1 (by omega) B4.2.1.2.2.2.2.2.1 B4.2.2.1.1 (m_265_2 (by omega) B4.2.2.1.2.2.2.2.1 (m_269e (by omega) B4.2.2.1.2.2.2.2.2)) (fun C5 hC5 => ?_)
          subst hC5
          exact aftM hS hm ho hF hb (by omega) (TB_n (TB_p B4)) (GN_Q G3 (frQ_t q4 (frQ_t (frQ_I (by omega)) (frQ_I (by omega)))))
        · have h1 : fol S (stp S n) b 1 i0 O N' (rsW σ'.1 b k (r.1, N'), σ'.2) = (σ4, some e) := h1
          rw [e1, h1] at G3
          exact G3.2 e C4 rfl h2 h3 h4 h5
    · have e0 : stp2 S (stp S n) 2 b i0 O N' σ' = match fdr i0 (σ'.1 b).1 0 with | none => (σ', none) | some (k, r) => (match fol S (stp S n) b 2 i0 O N' ((if 2 = 1 then rsW σ'.1 b k (r.1, N') else rsD σ'.1 b k), σ'.2) with | (σ1, some e) => (σ1, some e) | (σ1, none) => ((fir S (stp S n) b 1 2 O (N', σ1)).1.2, (fir S (stp S n) b 1 2 O (N', σ1)).2)) := rfl
      cases hfd : fdr i0 (σ'.1 b).1 0 with
      | none =>
        rw [e0, hfd] at G2
        refine goS (f := F) B2.2.1.2.2.2.2.1.1 (by omega) B2.2.1.2.2.2.2.2.1 B2.2.2.1.1 (m_265_1 (by omega) B2.2.2.1.2.2.2.2.1 (m_267_n2 (by omega) hb ho B2 hfd)) (fun C3 hC3 => ?_)
        subst hC3
        exact G2.1 rfl _ (MEn_94 (MEn_I (by omega) B2.2.1) hF) (frQ_t (frQ_I (by omega)) (frQ_t (frQ_I (by omega)) (frQ_I (by omega))))
      | some kr =>
        obtain ⟨k, r⟩ := kr
        refine goS (f := F) B2.2.1.2.2.2.2.1.1 (by omega) B2.2.1.2.2.2.2.2.1 B2.2.2.1.1 (m_265_1 (by omega) B2.2.2.1.2.2.2.2.1 (m_267_2 (k := k) (r := r) (by omega) hb ho B2 hfd)) (fun C3 hC3 => ?_)
        obtain ⟨B3, q3⟩ := hC3
        have e1 : stp2 S (stp S n) 2 b i0 O N' σ' = match fol S (stp S n) b 2 i0 O N' (rsD σ'.1 b k, σ'.2) with | (σ1, some e) => (σ1, some e) | (σ1, none) => ((fir S (stp S n) b 1 2 O (N', σ1)).1.2, (fir S (stp S n) b 1 2 O (N', σ1)).2) := by rw [e0, hfd]; rfl
        have G3 := GN_Q G2 q3
        refine folM_2 hS hm ho (by omega) hb 24 0 C3 _ rfl B3 (fun σ4 C4 h1 B4 q4 => ?_) (fun σ4 e C4 h1 h2 h3 h4 h5 => ?_)
        · have h1 : fol S (stp S n) b 2 i0 O N' (rsD σ'.1 b k, σ'.2) = (σ4, none) := h1
          rw [e1, h1] at G3
          have hD := B4.2.1.2.2.2.1.2
          refine goS (f := F) B4.2.1.2.2.2.2.1.1 (by omega) B4.2.1.2.2.2.2.2.1 B4.2.2.1.1 (m_265_2 (by omega) B4.2.2.1.2.2.2.2.1 (m_269e (by omega) B4.2.2.1.2.2.2.2.2)) (fun C5 hC5 => ?_)
          subst hC5
          exact aftM hS hm ho hF hb (by omega) (TB_n (TB_p B4)) (GN_Q G3 (frQ_t q4 (frQ_t (frQ_I (by omega)) (frQ_I (by omega)))))
        · have h1 : fol S (stp S n) b 2 i0 O N' (rsD σ'.1 b k, σ'.2) = (σ4, some e) := h1
          rw [e1, h1] at G3
          exact G3.2 e C4 rfl h2 h3 h4 h5
  · have h1 : fir S (stp S n) b 0 kd O (N, σ) = (s, some e) := h1
    have er : rmS S n kd b i0 O N σ = (s.2, some e) := by
      unfold rmS
      rw [h1]
    rw [er] at G
    exact G.2 e C1 rfl h2 h3 h4 h5
set_option maxRecDepth 100000 in
theorem STPM_all (ho : okSt S) : ∀ n, STPM L xs S n
  | 0 => STPM_s ho (fun k h => by cases h)
  | n + 1 => STPM_s ho (fun k h => by
    obtain rfl : n = k := by omega
    exact STPM_all ho n)
end MEd
