
/-! HOW A CHANGE ENDS, on one side -/
def okE (r : rz_T) : Prop := ∀ e, r.2 = some e → 2 ≤ e.1 ∧ e.1 ≤ 6
def okE2 {β : Type} (r : β × Option sp_T) : Prop := ∀ e, r.2 = some e → 2 ≤ e.1 ∧ e.1 ≤ 6
set_option maxRecDepth 100000 in
theorem okE_n {β : Type} {s : β} : okE2 ((s, none) : β × Option sp_T) := fun e h => by cases h
set_option maxRecDepth 100000 in
theorem okE_s {β : Type} {s : β} {e : sp_T} (h : 2 ≤ e.1 ∧ e.1 ≤ 6) : okE2 ((s, some e) : β × Option sp_T) := fun e' h' => by cases h'; exact h
set_option maxRecDepth 100000 in
theorem lop_ok {α β : Type} {f : α → β → β × Option sp_T} (h : ∀ a s, okE2 (f a s)) : ∀ (l : List α) (s : β), okE2 (lop f l s)
  | [], s => okE_n
  | a :: l, s => by
    have h0 := h a s
    cases hx : f a s with
    | mk s1 o1 =>
      cases o1 with
      | none =>
        rw [lop_n hx]
        exact lop_ok h l s1
      | some e =>
        rw [lop_s hx]
        rw [hx] at h0
        exact h0
section OKE
variable {S : st_T} {rec : sf_T} {a : ac_T} {N O : rw_F} {σ : es_T}
set_option maxRecDepth 100000 in
theorem chg1_ok (hr : ∀ kd t i O N σ, okE2 (rec kd t i O N σ)) (i : Int32) (σ : es_T) : okE2 (chg1 rec a N O i σ) := by
  unfold chg1
  split
  · exact okE_n
  · split
    · exact hr _ _ _ _ _ _
    · split
      · exact okE_s (by decide)
      · exact hr _ _ _ _ _ _
set_option maxRecDepth 100000 in
theorem chg_ok (hr : ∀ kd t i O N σ, okE2 (rec kd t i O N σ)) : okE2 (chg S rec a N O σ) := by
  unfold chg
  split
  · split
    · exact okE_s (by decide)
    · exact hr _ _ _ _ _ _
  · split
    · exact okE_s (by decide)
    · exact lop_ok (chg1_ok hr) _ _
set_option maxRecDepth 100000 in
theorem act1_ok (hr : ∀ kd t i O N σ, okE2 (rec kd t i O N σ)) (s : rw_F × es_T) : okE2 (act1 S rec O a s) := by
  unfold act1
  split
  · exact okE_s ⟨(by decide : 2 ≤ 3), (by decide : 3 ≤ 6)⟩
  · split
    · split
      · exact okE_s (by decide)
      · exact okE_n
    · exact fun e h => chg_ok hr e h
set_option maxRecDepth 100000 in
theorem fir1_ok {t ti ev : Nat} (hr : ∀ kd t i O N σ, okE2 (rec kd t i O N σ)) (g : Nat) (s : rw_F × es_T) : okE2 (fir1 S rec t ti ev O g s) := by
  unfold fir1
  split
  · exact okE_n
  · split
    · split
      · exact okE_s (by decide)
      · exact okE_n
      · exact act1_ok hr s
    · exact okE_n
set_option maxRecDepth 100000 in
theorem rf1_ok {i act ev : Nat} {u : ru_T} {i0 : Int32} (hr : ∀ kd t i O N σ, okE2 (rec kd t i O N σ)) (j : Int32) (σ : es_T) : okE2 (rf1 S rec i u act ev i0 O N j σ) := by
  unfold rf1
  split
  · exact okE_n
  · rename_i r _
    cases rfg u O r
    · exact okE_n
    · show okE2 (if act = 1 then _ else _)
      split
      · exact okE_s ⟨(by decide : 2 ≤ 2), (by decide : 2 ≤ 6)⟩
      · split
        · exact hr _ _ _ _ _ _
        · exact hr _ _ _ _ _ _
set_option maxRecDepth 100000 in
theorem fol1_ok {t ev : Nat} {i0 : Int32} (hr : ∀ kd t i O N σ, okE2 (rec kd t i O N σ)) (i : Nat) (σ : es_T) : okE2 (fol1 S rec t ev i0 O N i σ) := by
  unfold fol1
  split
  · exact okE_n
  · split
    · exact lop_ok (rf1_ok hr) _ _
    · exact okE_n
set_option maxRecDepth 100000 in
theorem stp2_ok {kd t : Nat} {i : Int32} (hr : ∀ kd t i O N σ, okE2 (rec kd t i O N σ)) : okE2 (stp2 S rec kd t i O N σ) := by
  unfold stp2
  split
  · split
    · exact okE_s ⟨by decide, by decide⟩
    · exact fun e h => lop_ok (fir1_ok hr) _ _ e h
  · split
    · exact okE_n
    · split
      · rename_i s1 e h
        have := lop_ok (fol1_ok (S := S) (t := t) (ev := kd) (i0 := i) (O := O) (N := N) hr) (rng 0 24)
        refine okE_s (?_ : 2 ≤ e.1 ∧ e.1 ≤ 6)
        exact this _ e (by
          have h2 := congrArg Prod.snd h
          exact h2)
      · exact fun e h => lop_ok (fir1_ok hr) _ _ e h
set_option maxRecDepth 100000 in
theorem stp_ok : ∀ (n kd t : Nat) (i : Int32) (O N : rw_F) (σ : es_T), okE2 (stp S n kd t i O N σ)
  | 0, _, _, _, _, _, _ => okE_s ⟨by decide, by decide⟩
  | n + 1, kd, t, i, O, N, σ => by
    unfold stp
    split
    · exact okE_s ⟨by decide, by decide⟩
    · split
      · rename_i s e h
        have := lop_ok (fir1_ok (S := S) (t := t) (ti := 0) (ev := kd) (O := O) (stp_ok n)) (rng 0 8)
        refine okE_s (?_ : 2 ≤ e.1 ∧ e.1 ≤ 6)
        exact this _ e (by
          have h2 := congrArg Prod.snd h
          exact h2)
      · exact stp2_ok (stp_ok n)
end OKE
/-! how a change ends: code and what is told, rows, steps begun, the most in one another -/
abbrev ce_T : Type := sp_T × rs_T × Nat × Nat
def chgR (S : st_T) (a : ac_T) (rs : rs_T) (p : Nat → Bool) : ce_T := match (chg S (stp S 12) a noF noF (rs, 0, 0)).2 with
  | some e => (e, rs, (chg S (stp S 12) a noF noF (rs, 0, 0)).1.2)
  | none => match lkR S (chg S (stp S 12) a noF noF (rs, 0, 0)).1.1 p (rng 0 24) with
    | none => ((0, 0, 0), (chg S (stp S 12) a noF noF (rs, 0, 0)).1.1, (chg S (stp S 12) a noF noF (rs, 0, 0)).1.2)
    | some (i, id) => ((2, nI i, id), rs, (chg S (stp S 12) a noF noF (rs, 0, 0)).1.2)
set_option maxRecDepth 100000 in
theorem lkR_c {S : st_T} {rs : rs_T} {p p' : Nat → Bool} : ∀ (l : List Nat), (∀ i, i ∈ l → p i = p' i) → lkR S rs p l = lkR S rs p' l
  | [], _ => rfl
  | i :: l, h => by
    have h1 := h i (List.mem_cons_self ..)
    have h2 := lkR_c (S := S) (rs := rs) l (fun j hj => h j (List.mem_cons_of_mem _ hj))
    show (match sRu S i with | none => lkR S rs p l | some u => bif p i && !decide (fbk u rs = -1) then some (i, fbk u rs) else lkR S rs p l) = (match sRu S i with | none => lkR S rs p' l | some u => bif p' i && !decide (fbk u rs = -1) then some (i, fbk u rs) else lkR S rs p' l)
    rw [h1, h2]
set_option maxRecDepth 100000 in
theorem rng_m : ∀ (n i j : Nat), j ∈ rng i n → i ≤ j ∧ j < i + n
  | 0, _, _, h => by cases h
  | n + 1, i, j, h => by
    have h : j ∈ i :: rng (i + 1) n := h
    rcases List.mem_cons.mp h with rfl | h
    · omega
    · have := rng_m n (i + 1) j h
      omega
/-! the tail grows: what lies in it stays -/
def tlE (t t' : ab_H) : Prop := ∀ (k : Nat) (c : ab_C), t[k]? = some c → t'[k]? = some c
set_option maxRecDepth 100000 in
theorem tlE_a {t u : ab_H} : tlE t (t ++ u) := fun _ _ h => tl_app h
set_option maxRecDepth 100000 in
theorem tlE_r {t : ab_H} : tlE t t := fun _ _ h => h
set_option maxRecDepth 100000 in
theorem tlE_t {a b c : ab_H} (h : tlE a b) (g : tlE b c) : tlE a c := fun k x e => g k x (h k x e)
set_option maxRecDepth 100000 in
theorem FO_e {t t' : ab_H} {k k1 k2 k3 : Nat} {O : List op_T} {c : Int32} {s : Nat → Int64} (h : tlE t t') (F : FO t k k1 k2 k3 O c s) : FO t' k k1 k2 k3 O c s := by
  obtain ⟨h1, ⟨f, h2, h3⟩, ⟨g, h4, h5⟩, h6⟩ := F
  exact ⟨h _ _ h1, ⟨f, h _ _ h2, h3⟩, ⟨g, h _ _ h4, h5⟩, h _ _ h6⟩
set_option maxRecDepth 100000 in
theorem foK_e {t t' : ab_H} {c : Int32} {v : Value} (h : tlE t t') : ∀ {q : Option (List op_T)}, foK t c v q → foK t' c v q
  | none, e => e
  | some O, ⟨k, k1, k2, k3, s, e, F, h6⟩ => ⟨k, k1, k2, k3, s, e, FO_e h F, h6⟩
set_option maxRecDepth 100000 in
theorem RUK_e {t t' : ab_H} {k0 : Nat} {u : ru_T} (h : tlE t t') (U : RUK t k0 u) : RUK t' k0 u := by
  obtain ⟨kc, kt, fc, ft, vc, ⟨h1, h2, h3, h4, h5⟩, h6⟩ := U
  exact ⟨kc, kt, fc, ft, vc, ⟨h _ _ h1, h _ _ h2, h _ _ h3, h4, h5⟩, foK_e h h6⟩
set_option maxRecDepth 100000 in
theorem ACK_e {t t' : ab_H} {k : Nat} {a : ac_T} (h : tlE t t') (A : ACK t k a) : ACK t' k a := by
  obtain ⟨kc, ks, fc, fs, vw, h1, h2, h3, h4, h5, h6⟩ := A
  exact ⟨kc, ks, fc, fs, vw, h _ _ h1, h _ _ h2, h3, h _ _ h4, fun j s hj => foK_e h (h5 j s hj), foK_e h h6⟩
set_option maxRecDepth 100000 in
theorem TRK_e {t t' : ab_H} {k : Nat} {g : tr_T} (h : tlE t t') (A : TRK t k g) : TRK t' k g := by
  obtain ⟨ka, vw, h1, h2, h3⟩ := A
  exact ⟨ka, vw, h _ _ h1, foK_e h h2, ACK_e h h3⟩
set_option maxRecDepth 100000 in
theorem KS_e {C : co_T} {t t' : ab_H} {S : st_T} (h : tlE t t') (K : KS C t S) : KS C t' S := ⟨K.1, fun i hi => opK_m (fun k u => RUK_e h) (K.2.1 i hi), fun i hi => opK_m (fun k u => TRK_e h) (K.2.2.1 i hi), K.2.2.2⟩
/-! what a change leaves alone -/
def frC (C C' : co_T) : Prop := (∀ k j, ¬ (15 ≤ k ∧ k ≤ 17) → ¬ (27 ≤ k ∧ k ≤ 29) → ¬ (k = 24 ∧ 6 ≤ j) → ¬ (61 ≤ k ∧ k < 75) → C'.1 k j = C.1 k j) ∧ (∀ k j, k ≠ 14 → k ≠ 26 → ¬ (32 ≤ k ∧ k < 45) → ¬ (46 ≤ k ∧ k < 60) → C'.2.1 k j = C.2.1 k j) ∧ C'.2.2 = C.2.2
set_option maxRecDepth 100000 in
theorem frC_t {C1 C2 C3 : co_T} (h : frC C1 C2) (g : frC C2 C3) : frC C1 C3 := ⟨fun k j a b c d => (g.1 k j a b c d).trans (h.1 k j a b c d), fun k j a b c d => (g.2.1 k j a b c d).trans (h.2.1 k j a b c d), g.2.2.trans h.2.2⟩
set_option maxRecDepth 100000 in
theorem frC_E {D F : Nat} {C C' : co_T} (h : frE D F C C') : frC C C' := ⟨fun k j a _ c e => h.1 k j (by omega) c (by omega), fun k j a _ c e => h.2.1 k j a (by omega) (by omega), h.2.2⟩
set_option maxRecDepth 100000 in
theorem frC_R {b : Nat} {C C' : co_T} (hb : b = 13 ∨ b = 25) (h : frR b C C') : frC C C' := ⟨fun k j a c _ _ => h.1 k j (by omega), fun k j a c _ _ => h.2.1 k j (by omega), h.2.2⟩
set_option maxRecDepth 100000 in
theorem KS_R {b : Nat} {C C' : co_T} {t : ab_H} {S : st_T} (hb : b = 13 ∨ b = 25) (h : frR b C C') (K : KS C t S) : KS C' t S := by
  obtain ⟨h1, h2, h3, h4⟩ := K
  refine ⟨fun q hq => ⟨(h.1 8 q (by omega)).trans (h1 q hq).1, fun c hc => (h.2.1 10 _ (by omega)).trans ((h1 q hq).2 c hc)⟩, ?_⟩
  rw [h.2.2]
  exact ⟨h2, h3, h4⟩
def stY (t t' : ab_H) (m : Nat) : Prop := ∃ t1, stk t t1 ∧ ((t' = t1 ∧ m = 0) ∨ (t' = t1 ++ [.inr (12, [])] ∧ m = 6))
def CHP (C : co_T) (t : ab_H) (sl : Nat) (S : st_T) (x : ce_T) : Option Value → ab_H → Nat → Prop := fun v h m => some (.int (nI x.1.1)) = v ∧ (∃ C' t' q, (KE C' (sWd S) x.2 ∧ ((x.1.1 = 2 → C'.1 24 9 = x.1.2.1 ∧ C'.1 24 10 = x.1.2.2) ∧ (x.1.1 = 3 → C'.1 24 11 = x.1.2.1)) ∧ frC C C' ∧ stY t t' q) ∧ MH C' t' = h ∧ sl + q = m)
section KCH
variable {L : Nat} {xs : Nat → Int32} {C C0 : co_T} {t : ab_H} {d sl k0 w0 : Nat} {S : st_T} {rs : rs_T} {a : ac_T} {w : Int32} {wt : Nat → Bool}
set_option maxHeartbeats 6000000 in
set_option maxRecDepth 100000 in
theorem m_105 (ho : okSt S) (K : KS C t S) (E : KE C (sWd S) (rs, 0, 0)) (A : ACK t k0 a) (hok : okA2 (sWd S) w0 0 0 a) (hk : aKd a < 3) (hw : C.1 6 8 = w) (hwt : ∀ i, i < 24 → btI w i = wt i) : Wd L xs (d + 63) y_105 (0, [(0, .ref 124), (1, .ref (241 + k0))], [], MH C t, sl) (CHP C t sl S (chgR S a rs (fun i => !wt i))) nX := by
  have hcp := m_106_25 (L := L) (xs := xs) (C := C) (t := t) (d := d + 61) (sl := 0) (wd := sWd S) (rs := rs) E.1 E.2.1
  refine w_p (pc1 := 1) rfl rfl ?_
  refine w_m0 (pc1 := 4) rfl rfl (h_gC rfl rfl rfl rfl) rfl ?_
  refine w_p (pc1 := 5) rfl rfl ?_
  refine w_m0 (pc1 := 8) rfl rfl (h_gC rfl rfl rfl rfl) rfl ?_
  refine w_ji (pc1 := 11) (vs := [.ref 125, .ref 113]) (rest := []) (hcp) rfl rfl rfl (fun _ _ => rfl) rfl (by exact cl_v my_106 rfl rfl rfl (Nat.le_of_ble_eq_true rfl) rfl (MH_obj rfl rfl) rfl (by decide) rfl rfl) (by rfl) (Nat.le_of_ble_eq_true rfl) (Nat.le_of_ble_eq_true rfl) rfl (fun v h m hq => ?_) (fun _ _ _ e => e.elim)
  obtain ⟨rfl, ⟨C1, ⟨f1, W1, l1⟩, rfl⟩, rfl⟩ := hq
  have K1 := KS_R (Or.inr rfl) f1 K
  have E1 : KE C1 (sWd S) (rs, 0, 0) := ⟨by
      unfold RWK
      rw [show C1.2.1 14 = C.2.1 14 from funext (fun j => f1.2.1 14 j (by decide)), show C1.1 15 = C.1 15 from funext (fun j => f1.1 15 j (by decide)), show C1.1 16 = C.1 16 from funext (fun j => f1.1 16 j (by decide))]
      exact E.1, fun q hq => (f1.1 17 q (by decide)).trans (E.2.1 q hq), (f1.1 24 7 (by decide)).trans E.2.2.1, E.2.2.2.1, (f1.1 24 8 (by decide)).trans E.2.2.2.2.1, E.2.2.2.2.2⟩
  have B1 : KB C1 t S (rs, 0, 0) 0 0 0 noF noF := ⟨K1, E1, ⟨by decide, by decide⟩, fun c hc => absurd hc (by omega), fun c hc => absurd hc (by omega)⟩
  have hpf := Wd_up (d := d + 62) (by omega) (m_109 (L := L) (xs := xs) (t := t) (sl := 0) (n := 12) (D := 0) ho (STP_all ho 12 1 rfl (Nat.le_refl _)) (by decide) B1 A hok hk)
  have hB : ∀ C2 : co_T, frE 0 1 C1 C2 → RWf (C2.2.1 26) (C2.1 27) (C2.1 28) (sWd S) rs ∧ ∀ q, q < 6 → C2.1 29 q = (rs q).2 := fun C2 f2 => by
      rw [show C2.2.1 26 = C1.2.1 26 from funext (fun j => f2.2.1 26 j (by decide) (by omega) (by omega)), show C2.1 27 = C1.1 27 from funext (fun j => f2.1 27 j (by omega) (by omega) (by omega)), show C2.1 28 = C1.1 28 from funext (fun j => f2.1 28 j (by omega) (by omega) (by omega))]
      exact ⟨W1, fun q hq => (f2.1 29 q (by omega) (by omega) (by omega)).trans (l1 q hq)⟩
  have hX3 : ∀ (C2 C3 : co_T) (σ : es_T), KX C2 σ → frR 13 C2 C3 → RWf (C3.2.1 14) (C3.1 15) (C3.1 16) (sWd S) rs ∧ (∀ q, q < 6 → C3.1 17 q = (rs q).2) → KE C3 (sWd S) (rs, σ.2) := fun C2 C3 σ hX f3 h => ⟨h.1, h.2, (f3.1 24 7 (by decide)).trans hX.1, hX.2.1, (f3.1 24 8 (by decide)).trans hX.2.2.1, hX.2.2.2⟩
  have hcr : chgR S a rs (fun i => !wt i) = match (chg S (stp S 12) a noF noF (rs, 0, 0)).2 with | some e => (e, rs, (chg S (stp S 12) a noF noF (rs, 0, 0)).1.2) | none => (match lkR S (chg S (stp S 12) a noF noF (rs, 0, 0)).1.1 (fun i => !wt i) (rng 0 24) with | none => ((0, 0, 0), (chg S (stp S 12) a noF noF (rs, 0, 0)).1.1, (chg S (stp S 12) a noF noF (rs, 0, 0)).1.2) | some (i, id) => ((2, nI i, id), rs, (chg S (stp S 12) a noF noF (rs, 0, 0)).1.2)) := rfl
  generalize hr : chg S (stp S 12) a noF noF (rs, 0, 0) = r at hpf hcr
  obtain ⟨σ1, ro⟩ := r
  have hpw : ∀ i, i ∈ rng 0 24 → btI (w ^^^ (-1)) i = !wt i := fun i hi => by
      have := rng_m 24 0 i hi
      rw [bbI_xor, bbI_m1 i (by omega), hwt i (by omega), Bool.xor_true]
  refine w_p (pc1 := 12) rfl rfl ?_
  refine w_p (pc1 := 13) rfl rfl ?_
  refine w_p (pc1 := 14) (st1 := .int 0 :: _) rfl rfl ?_
  refine w_ji (pc1 := 17) (vs := [.ref 124, .ref (241 + k0), .int 0]) (rest := []) (hpf) rfl rfl rfl (fun _ _ => rfl) rfl (by exact cl_v my_109 rfl rfl rfl (Nat.le_of_ble_eq_true rfl) rfl (MH_obj rfl rfl) rfl (by decide) rfl rfl) (by rfl) (Nat.le_of_ble_eq_true rfl) (Nat.le_of_ble_eq_true rfl) rfl (fun v h1 d1 hq => ?_) (fun a h1 d1 hq => ?_)
  · obtain ⟨hn0, hv, ⟨C2, t2, ⟨E2, f2, s2⟩, hh⟩, hn⟩ := hq
    subst hv; subst hh; subst hn
    have hn0 : ro = none := hn0
    subst hn0
    have hw2 : C2.1 6 8 = w := (f2.1 6 8 (by omega) (by omega) (by omega)).trans ((f1.1 6 8 (by decide)).trans hw)
    have hlk := m_145 (L := L) (xs := xs) (t := t2) (d := d + 57) (sl := 0) (w := w ^^^ (-1)) (KS_k K1 f2 s2) E2.1 ho
    rw [lkR_c _ hpw] at hlk
    refine w_p (pc1 := 37) rfl rfl ?_
    cases hx : lkR S σ1.1 (fun i => !wt i) (rng 0 24) with
    | none =>
      have hcr : chgR S a rs (fun i => !wt i) = ((0, 0, 0), σ1.1, σ1.2) := by rw [hcr, hx]
      rw [hcr]
      rw [hx] at hlk
      have hlk : Wd L xs (d + 62) y_145 (0, [(0, .ref 124), (1, .int (w ^^^ (-1)))], [], MH C2 t2, 0) (fun v h m => some (.int 0) = v ∧ (∃ t', stk t2 t' ∧ MH C2 t' = h) ∧ 0 = m) nX := hlk
      refine w_p (pc1 := 38) rfl rfl ?_
      refine w_p (pc1 := 39) rfl rfl ?_
      refine w_p (pc1 := 40) rfl rfl ?_
      refine w_m0 (pc1 := 43) rfl rfl (h_gC rfl rfl rfl rfl) rfl ?_
      refine w_m0 (pc1 := 46) (st1 := .int (w) :: _) rfl rfl (h_gIe (j := 8) rfl rfl rfl rfl rfl (hw2)) rfl ?_
      refine w_p (pc1 := 47) (st1 := .int (-1) :: _) rfl rfl ?_
      refine w_p (pc1 := 48) rfl rfl ?_
      refine w_ji (pc1 := 51) (vs := [.ref 124, _]) (rest := [.ref 124]) (hlk) rfl rfl rfl (fun _ _ => rfl) rfl (by exact cl_v my_145 rfl rfl rfl (Nat.le_of_ble_eq_true rfl) rfl (MH_obj rfl rfl) rfl (by decide) rfl rfl) (by rfl) (Nat.le_of_ble_eq_true rfl) (Nat.le_of_ble_eq_true rfl) rfl (fun v h m hq => ?_) (fun _ _ _ e => e.elim)
      obtain ⟨rfl, ⟨t3, s3, rfl⟩, rfl⟩ := hq
      refine w_m0 (pc1 := 54) rfl rfl (h_pI (j := 6) rfl rfl rfl rfl rfl rfl rfl ⟨rfl, rfl⟩ rfl) rfl ?_
      refine w_p (pc1 := 55) rfl rfl ?_
      refine w_m0 (pc1 := 58) (st1 := .int 0 :: _) rfl rfl (h_gIe (j := 6) rfl rfl rfl rfl rfl (rfl)) rfl ?_
      refine w_t (a := 72) (b := 61) rfl rfl rfl ?_
      refine w_p (pc1 := 73) rfl rfl ?_
      refine w_m0 (pc1 := 76) (st1 := .int 0 :: _) rfl rfl (h_gIe (j := 6) rfl rfl rfl rfl rfl (rfl)) rfl ?_
      refine w_r rfl rfl rfl (fun _ _ => rfl) cr_int ?_
      refine ⟨rfl, ⟨sI C2 24 6 0, t3, 0, ⟨⟨E2.1, E2.2.1, E2.2.2⟩, ⟨fun h => absurd h (by show 0 ≠ 2; decide), fun h => absurd h (by show 0 ≠ 3; decide)⟩, frC_t (frC_R (Or.inr rfl) f1) (frC_t (frC_E f2) (frC_E (frE_j (D := 0) (F := 0) (by decide)))), t3, stk_t s2 s3, Or.inl ⟨rfl, rfl⟩⟩, rfl, rfl⟩⟩
    | some y =>
      obtain ⟨i, id⟩ := y
      have hcr : chgR S a rs (fun i => !wt i) = ((2, nI i, id), rs, σ1.2) := by rw [hcr, hx]
      rw [hcr]
      rw [hx] at hlk
      have hlk : Wd L xs (d + 62) y_145 (0, [(0, .ref 124), (1, .int (w ^^^ (-1)))], [], MH C2 t2, 0) (fun v h m => some (.int 2) = v ∧ (∃ t', stk t2 t' ∧ MH (sI (sI C2 24 9 (nI i)) 24 10 id) t' = h) ∧ 0 = m) nX := hlk
      have f4 : frE 0 1 C1 (sI (sI (sI C2 24 9 (nI i)) 24 10 id) 24 6 2) := frE_t f2 (frE_t (frE_j (by decide)) (frE_t (frE_j (by decide)) (frE_j (by decide))))
      obtain ⟨hb1, hb2⟩ := hB _ f4
      have hcp2 := fun t3 => m_106_13 (L := L) (xs := xs) (t := t3) (d := d + 61) (sl := 0) hb1 hb2
      refine w_p (pc1 := 38) rfl rfl ?_
      refine w_p (pc1 := 39) rfl rfl ?_
      refine w_p (pc1 := 40) rfl rfl ?_
      refine w_m0 (pc1 := 43) rfl rfl (h_gC rfl rfl rfl rfl) rfl ?_
      refine w_m0 (pc1 := 46) (st1 := .int (w) :: _) rfl rfl (h_gIe (j := 8) rfl rfl rfl rfl rfl (hw2)) rfl ?_
      refine w_p (pc1 := 47) (st1 := .int (-1) :: _) rfl rfl ?_
      refine w_p (pc1 := 48) rfl rfl ?_
      refine w_ji (pc1 := 51) (vs := [.ref 124, _]) (rest := [.ref 124]) (hlk) rfl rfl rfl (fun _ _ => rfl) rfl (by exact cl_v my_145 rfl rfl rfl (Nat.le_of_ble_eq_true rfl) rfl (MH_obj rfl rfl) rfl (by decide) rfl rfl) (by rfl) (Nat.le_of_ble_eq_true rfl) (Nat.le_of_ble_eq_true rfl) rfl (fun v h m hq => ?_) (fun _ _ _ e => e.elim)
      obtain ⟨rfl, ⟨t3, s3, rfl⟩, rfl⟩ := hq
      refine w_m0 (pc1 := 54) rfl rfl (h_pI (j := 6) rfl rfl rfl rfl rfl rfl rfl ⟨rfl, rfl⟩ rfl) rfl ?_
      refine w_p (pc1 := 55) rfl rfl ?_
      refine w_m0 (pc1 := 58) (st1 := .int 2 :: _) rfl rfl (h_gIe (j := 6) rfl rfl rfl rfl rfl (rfl)) rfl ?_
      refine w_f (a := 72) (b := 61) rfl rfl rfl ?_
      refine w_p (pc1 := 62) rfl rfl ?_
      refine w_m0 (pc1 := 65) rfl rfl (h_gC rfl rfl rfl rfl) rfl ?_
      refine w_p (pc1 := 66) rfl rfl ?_
      refine w_m0 (pc1 := 69) rfl rfl (h_gC rfl rfl rfl rfl) rfl ?_
      refine w_ji (pc1 := 72) (vs := [.ref 113, .ref 125]) (rest := []) (hcp2 t3) rfl rfl rfl (fun _ _ => rfl) rfl (by exact cl_v my_106 rfl rfl rfl (Nat.le_of_ble_eq_true rfl) rfl (MH_obj rfl rfl) rfl (by decide) rfl rfl) (by rfl) (Nat.le_of_ble_eq_true rfl) (Nat.le_of_ble_eq_true rfl) rfl (fun v h m hq => ?_) (fun _ _ _ e => e.elim)
      obtain ⟨rfl, ⟨C3, ⟨g1, g2⟩, rfl⟩, rfl⟩ := hq
      have h6 : C3.1 24 6 = 2 := g1.1 24 6 (by decide)
      refine w_p (pc1 := 73) rfl rfl ?_
      refine w_m0 (pc1 := 76) (st1 := .int 2 :: _) rfl rfl (h_gIe (j := 6) rfl rfl rfl rfl rfl (h6)) rfl ?_
      refine w_r rfl rfl rfl (fun _ _ => rfl) cr_int ?_
      refine ⟨rfl, ⟨C3, t3, 0, ⟨hX3 (sI (sI (sI C2 24 9 (nI i)) 24 10 id) 24 6 2) C3 σ1 E2.2.2 g1 g2, ⟨fun _ => ⟨g1.1 24 9 (by decide), g1.1 24 10 (by decide)⟩, fun h => absurd h (by show 2 ≠ 3; decide)⟩, frC_t (frC_R (Or.inr rfl) f1) (frC_t (frC_E f4) (frC_R (Or.inl rfl) g1)), t3, stk_t s2 s3, Or.inl ⟨rfl, rfl⟩⟩, rfl, rfl⟩⟩
  · rcases hq with ⟨e, C2, t2, ⟨x1, x2, x3, x4, x5⟩, ha, hh, hn⟩
    · subst ha; subst hh; subst hn
      have x1 : ro = some e := x1
      subst x1
      have hcr : chgR S a rs (fun i => !wt i) = (e, rs, σ1.2) := hcr
      rw [hcr]
      obtain ⟨hb1, hb2⟩ := hB C2 x4
      have hcp2 := m_106_13 (L := L) (xs := xs) (C := C2) (t := t2 ++ [.inr (12, [])]) (d := d + 61) (sl := 0) hb1 hb2
      refine Or.inr ⟨20, ch_new (by decide) rfl, ?_⟩
      refine w_p (pc1 := 21) (al1 := [(2, _), (0, .ref 124), (1, .ref (241 + k0))]) rfl rfl ?_
      refine w_p (pc1 := 22) rfl rfl ?_
      refine w_m0 (pc1 := 25) rfl rfl (h_gC rfl rfl rfl rfl) rfl ?_
      refine w_p (pc1 := 26) rfl rfl ?_
      refine w_m0 (pc1 := 29) rfl rfl (h_gC rfl rfl rfl rfl) rfl ?_
      refine w_ji (pc1 := 32) (vs := [.ref 113, .ref 125]) (rest := []) (hcp2) rfl rfl rfl (fun _ _ => rfl) rfl (by exact cl_v my_106 rfl rfl rfl (Nat.le_of_ble_eq_true rfl) rfl (MH_obj rfl rfl) rfl (by decide) rfl rfl) (by rfl) (Nat.le_of_ble_eq_true rfl) (Nat.le_of_ble_eq_true rfl) rfl (fun v h m hq => ?_) (fun _ _ _ e => e.elim)
      obtain ⟨rfl, ⟨C3, ⟨g1, g2⟩, rfl⟩, rfl⟩ := hq
      have h6 : C3.1 24 6 = nI e.1 := (g1.1 24 6 (by decide)).trans x3.1
      refine w_p (pc1 := 33) rfl rfl ?_
      refine w_m0 (pc1 := 36) (st1 := .int (nI e.1) :: _) rfl rfl (h_gIe (j := 6) rfl rfl rfl rfl rfl (h6)) rfl ?_
      refine w_r rfl rfl rfl (fun _ _ => rfl) cr_int ?_
      refine ⟨rfl, ⟨C3, t2 ++ [.inr (12, [])], 6, ⟨hX3 C2 C3 σ1 x2 g1 g2, ⟨fun h => ⟨(g1.1 24 9 (by decide)).trans (x3.2.1 h).1, (g1.1 24 10 (by decide)).trans (x3.2.1 h).2⟩, fun h => (g1.1 24 11 (by decide)).trans (x3.2.2 h)⟩, frC_t (frC_R (Or.inr rfl) f1) (frC_t (frC_E x4) (frC_R (Or.inl rfl) g1)), t2, x5, Or.inr ⟨rfl, rfl⟩⟩, ?_, ?_⟩⟩
      · with_reducible rfl
      · omega
end KCH
