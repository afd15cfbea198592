
/-! THE OTHER SIDE'S ENGINE: a change goes on -/
def BSd (C0 C' : co_T) (F u D v : Nat) (kd tb i : Int32) (w2 w3 : Nat) (O : rw_F) (x : Option rw_F) : Prop := (x = none ∧ EDD C0 C' F 4) ∨ (∃ g, x = some g ∧ (((300 ≤ u ∨ 12 ≤ D) ∧ EDD C0 C' F 5) ∨ (u < 300 ∧ D < 12 ∧ NST C0 C' F u D v kd tb i w2 w3 g O)))
/-! how the rest goes on: the frame is gone, or all has ended -/
def GN (L : Nat) (xs : Nat → Int32) (d : Nat) (t : ab_H) (sl : Nat) (P : Option Value → ab_H → Nat → Prop) (X : Nat → ab_H → Nat → Prop) (wd : Nat → Nat) (F D : Nat) (C0 : co_T) (r : rz_T) : Prop := (r.2 = none → ∀ C', MEn C' wd r.1 D F → frQ F C0 C' → Wd L xs (d + 8) y_257 (0, [(0, .ref 176)], [], MH C' t, sl) P X) ∧ (∀ e C', r.2 = some e → MX C' r.1 → spM C' e → (∃ y, C'.1 76 74 = ck y) → frQ F C0 C' → P none (MH C' t) sl)
def rmS (S : st_T) (n kd tb : Nat) (i : Int32) (O N : rw_F) (σ : es_T) : rz_T := match fir S (stp S n) tb 0 kd O (N, σ) with
  | (s, some e) => (s.2, some e)
  | (s, none) => stp2 S (stp S n) kd tb i O s.1 s.2
def w3k (wd : Nat → Nat) (kd b : Nat) : Nat := if kd = 0 then 0 else wd b
def STPM (L : Nat) (xs : Nat → Int32) (S : st_T) (n : Nat) : Prop := ∀ (d sl : Nat) (t : ab_H) (P : Option Value → ab_H → Nat → Prop) (X : Nat → ab_H → Nat → Prop) (D F kd b : Nat) (i : Int32) (N O : rw_F) (σ : es_T) (C : co_T), n + D = 11 → kd < 3 → b < 6 → F ≤ 2 * D + 1 → MSt C S → MEn C (sWd S) σ (D + 1) (F + 1) → SFM C F (nI kd) (nI b) i 0 0 → bfM C 136 F (sWd S b) N → bfM C 137 F (w3k (sWd S) kd b) O → GN L xs d t sl P X (sWd S) F D C (rmS S n kd b i O N σ) → Wd L xs (d + 8) y_257 (0, [(0, .ref 176)], [], MH C t, sl) P X
def bsR (S : st_T) (m kd b : Nat) (i : Int32) (O : rw_F) (σ : es_T) : Option rw_F → rz_T
  | none => (σ, some byZ)
  | some f => stp S m kd b i O f σ
section ME8
variable {L : Nat} {xs : Nat → Int32} {C C0 : co_T} {t : ab_H} {d sl b p k m n w2 w3 F D row kd : Nat} {S : st_T} {N O : rw_F} {r : ro_T} {σ : es_T} {a : ac_T} {ii : Int32} {P : Option Value → ab_H → Nat → Prop} {X : Nat → ab_H → Nat → Prop}
set_option maxRecDepth 100000 in
theorem GN_Q {C1 : co_T} {z : rz_T} {wd : Nat → Nat} (G : GN L xs d t sl P X wd F D C0 z) (q : frQ F C0 C1) : GN L xs d t sl P X wd F D C1 z := ⟨fun h C' e f => G.1 h C' e (frQ_t q f), fun e C' h1 h2 h3 h4 h5 => G.2 e C' h1 h2 h3 h4 (frQ_t q h5)⟩
set_option maxRecDepth 100000 in
theorem GN_e {C1 : co_T} {wd : Nat → Nat} {z : Nat} {zz : Int32} (G : GN L xs d t sl P X wd F D C (σ, some (z, 0, 0))) (hz : z = 4 ∨ z = 5 ∨ z = 6) (hzz : zz = nI z) (hX : MX C σ) (h : EDD C C1 F zz) : Wd L xs (d + 8) y_257 (0, [(0, .ref 176)], [], MH C1 t, sl) P X := by
  subst hzz
  have h9 : C1.1 76 89 ≠ 0 := by
    rw [h.1]
    rcases hz with rfl | rfl | rfl <;> decide
  exact goE h9 (G.2 _ C1 rfl ⟨h.2.1.1.trans hX.1, hX.2.1, h.2.1.2.1.trans hX.2.2.1, hX.2.2.2⟩ ⟨h.1, fun e => absurd e (by show z ≠ 2; omega), fun e => absurd e (by show z ≠ 3; omega)⟩ h.2.1.2.2 h.2.2.1)
set_option maxRecDepth 100000 in
theorem MEn_k {C' : co_T} {wd : Nat → Nat} (h : frV C C') (h2 : ∀ j, j = 74 ∨ j = 75 ∨ j = 89 ∨ j = 93 ∨ j = 94 ∨ j = 95 → C'.1 76 j = C.1 76 j) (E : MEn C wd σ D F) : MEn C' wd σ D F :=
  ⟨RWM_V h E.1, fun q hq => (h.2.2.1 q).trans (E.2.1 q hq), ⟨(h2 93 (by omega)).trans E.2.2.1.1, E.2.2.1.2.1, (h2 95 (by omega)).trans E.2.2.1.2.2.1, E.2.2.1.2.2.2⟩, ⟨(h2 94 (by omega)).trans E.2.2.2.1.1, E.2.2.2.1.2⟩, ⟨(h2 75 (by omega)).trans E.2.2.2.2.1.1, E.2.2.2.2.1.2⟩, (h2 89 (by omega)).trans E.2.2.2.2.2.1, (h2 74 (by omega)).trans E.2.2.2.2.2.2⟩
set_option maxRecDepth 100000 in
theorem frV_I {j : Nat} {v : Int32} (hk : k ≠ 115 ∧ k ≠ 117 ∧ k ≠ 118) : frV C (sI C k j v) := ⟨fun q => by rw [sI_1, if_neg (by omega)], fun q => by rw [sI_1, if_neg (by omega)], fun q => by rw [sI_1, if_neg (by omega)], fun _ => rfl⟩
set_option maxRecDepth 100000 in
theorem MEn_I {j : Nat} {v : Int32} {wd : Nat → Nat} (hk : 119 ≤ k) (E : MEn C wd σ D F) : MEn (sI C k j v) wd σ D F := MEn_k (frV_I (by omega)) (fun q _ => by rw [sI_1, if_neg (by omega)]) E
set_option maxRecDepth 100000 in
theorem MEn_75 {G : Nat} {wd : Nat → Nat} (E : MEn C wd σ D G) (h : F ≤ 2 * D + 1) : MEn (sI C 76 75 (nI F)) wd σ D F :=
  ⟨RWM_V (frV_I (by omega)) E.1, fun q hq => by rw [sI_1, if_neg (by omega)]; exact E.2.1 q hq, ⟨E.2.2.1.1, E.2.2.1.2.1, E.2.2.1.2.2.1, E.2.2.1.2.2.2⟩, E.2.2.2.1, ⟨rfl, h⟩, E.2.2.2.2.2.1, E.2.2.2.2.2.2⟩
set_option maxRecDepth 100000 in
theorem frQ_I {f j : Nat} {v : Int32} (h : ((125 ≤ k ∧ k ≤ 132 ∨ k = 134 ∨ k = 135) ∧ f ≤ j) ∨ (k = 133 ∧ 40 * f ≤ j) ∨ (k = 76 ∧ (j = 73 ∨ j = 74 ∨ j = 75 ∨ j = 89 ∨ j = 90 ∨ j = 91 ∨ j = 93 ∨ j = 94 ∨ j = 95)) ∨ k = 115 ∨ k = 117 ∨ k = 118) : frQ f C (sI C k j v) := ⟨fun q i h1 h2 h3 h4 => by rw [sI_1, if_neg (by omega)], fun _ _ _ _ _ => rfl, rfl⟩
set_option maxRecDepth 100000 in
theorem frQ_J {f j : Nat} {v : Int64} (h : ((k = 136 ∨ k = 137) ∧ 6 * f ≤ j) ∨ (k = 116 ∨ k = 124 ∨ k = 138) ∨ (k = 76 ∧ j = 92)) : frQ f C (sJ C k j v) := ⟨fun q i _ _ _ _ => by rw [sJ_1], fun q i h1 h2 h3 => by rw [sJ_2, if_neg (by omega)], rfl⟩
set_option maxRecDepth 100000 in
theorem CFM_Q {C' : co_T} {f : Nat} {x y : Int32} (q : frQ f C C') (hf : F < f) (h : CFM C F p row x y) : CFM C' F p row x y := ⟨(q.1 125 F (by omega) (by omega) (by omega) (by omega)).trans h.1, (q.1 126 F (by omega) (by omega) (by omega) (by omega)).trans h.2.1, (q.1 127 F (by omega) (by omega) (by omega) (by omega)).trans h.2.2.1, (q.1 134 F (by omega) (by omega) (by omega) (by omega)).trans h.2.2.2.1, (q.1 135 F (by omega) (by omega) (by omega) (by omega)).trans h.2.2.2.2⟩
set_option maxRecDepth 100000 in
theorem SFM_Q {C' : co_T} {f : Nat} {x y z u v : Int32} (q : frQ f C C') (hf : F < f) (h : SFM C F x y z u v) : SFM C' F x y z u v := ⟨(q.1 125 F (by omega) (by omega) (by omega) (by omega)).trans h.1, (q.1 128 F (by omega) (by omega) (by omega) (by omega)).trans h.2.1, (q.1 129 F (by omega) (by omega) (by omega) (by omega)).trans h.2.2.1, (q.1 130 F (by omega) (by omega) (by omega) (by omega)).trans h.2.2.2.1, (q.1 131 F (by omega) (by omega) (by omega) (by omega)).trans h.2.2.2.2.1, (q.1 132 F (by omega) (by omega) (by omega) (by omega)).trans h.2.2.2.2.2⟩
set_option maxRecDepth 100000 in
theorem idsM_Q {C' : co_T} {f : Nat} {is : List Int32} (q : frQ f C C') (hf : F < f) (hi : is.length ≤ 40) (h : idsM C F is) : idsM C' F is := fun j x hj => by
  have := get_lt hj
  rw [q.1 133 _ (by omega) (by omega) (by omega) (by omega)]
  exact h j x hj
set_option maxRecDepth 100000 in
theorem bfM_Q {C' : co_T} {f w kk : Nat} {v : rw_F} (q : frQ f C C') (hf : row < f ∨ w = 0) (hw : w ≤ 6) (hkk : kk = 136 ∨ kk = 137) (h : bfM C kk row w v) : bfM C' kk row w v := fun c hc => by
  rw [q.2.1 kk _ (by omega) (by omega) (by omega)]
  exact h c hc
set_option maxRecDepth 100000 in
theorem bsGo {C' : co_T} {x : Option rw_F} (hS : ∀ n, m = n + 1 → STPM L xs S n) (hm : m + D = 12) (hkd : kd < 3) (hb : b < 6) (K : MSt C S) (E : MEn C (sWd S) σ D F) (hF : F ≤ 2 * D + 1) (hB : BSd C C' F σ.2.1 D σ.2.2 (nI kd) (nI b) ii (sWd S b) (w3k (sWd S) kd b) O x) (G : GN L xs d t sl P X (sWd S) F D C (bsR S m kd b ii O σ x)) : Wd L xs (d + 8) y_257 (0, [(0, .ref 176)], [], MH C' t, sl) P X := by
  rcases hB with ⟨hx, he⟩ | ⟨g, hx, h⟩
  · subst hx
    exact GN_e (z := 4) G (by omega) rfl E.2.2.1 he
  · subst hx
    rcases h with ⟨h1, he⟩ | ⟨h1, h2, hN⟩
    · have hs : bsR S m kd b ii O σ (some g) = (σ, some (5, 0, 0)) := by
        show stp S m kd b ii O g σ = _
        rcases h1 with h1 | h1
        · exact stp_s h1
        · obtain rfl : m = 0 := by omega
          rfl
      rw [hs] at G
      exact GN_e (z := 5) G (by omega) rfl E.2.2.1 he
    · obtain ⟨n, rfl⟩ : ∃ n, m = n + 1 := ⟨m - 1, by omega⟩
      have hst : bsR S (n + 1) kd b ii O σ (some g) = rmS S n kd b ii O g (σ.1, σ.2.1 + 1, max σ.2.2 (D + 1)) := by
        show stp S (n + 1) kd b ii O g σ = _
        unfold stp
        rw [if_neg (by omega), show 12 - n = D + 1 by omega]
        rfl
      rw [hst] at G
      obtain ⟨n1, ⟨c1, c2, c3, c4, c5, c6⟩, ⟨n3, n4⟩, n5, n6⟩ := hN
      have hv := E.2.2.1.2.2.2
      exact hS n rfl d sl t P X D F kd b ii g O (σ.1, σ.2.1 + 1, max σ.2.2 (D + 1)) C' (by omega) hkd hb hF (MSt_Q n5 K) ⟨RWM_V n6 E.1, fun q hq => (n6.2.2.1 q).trans (E.2.1 q hq), ⟨c1, by show σ.2.1 + 1 ≤ 300; omega, c3, by show max σ.2.2 (D + 1) ≤ 12; omega⟩, ⟨c2, by omega⟩, ⟨c4, by omega⟩, c5, c6⟩ n1 n3 n4 (GN_Q G n5)
set_option maxRecDepth 100000 in
theorem gcE (hF : F < 39) (hb : b < 6) (hp : p ≤ 40) (hro : row < 40) (A : ACM C p a) (hab : aTb a = some b) (hk1 : 1 ≤ aKd a) (hk2 : aKd a ≤ 2) (h75 : C.1 76 75 = nI (F + 1)) (hn : n ≤ 40) (hc : CFM C F p row (nI n) (nI n)) : Wd L xs d y_258 (0, [(0, .ref 176), (1, .int (nI (F)))], [], MH C t, 0) (QR t (fun C' => sI C 76 75 (nI F) = C')) nX := by
  have ht := A.2.1
  rw [hab] at ht
  have ht : C.1 111 p = nI b := ht
  refine w_p (pc1 := 1) rfl rfl ?_
  refine w_m0 (pc1 := 4) rfl rfl (h_gC rfl rfl rfl rfl) rfl ?_
  refine w_p (pc1 := 5) rfl rfl ?_
  refine w_m0 (pc1 := 6) (st1 := .int (nI (p)) :: _) rfl rfl (n_ile (e := F) rfl rfl rfl (by omega) (hc.2.1)) rfl ?_
  refine w_p (pc1 := 7) (al1 := [(2, .int (nI (p))), (0, .ref 176), (1, .int (nI (F)))]) rfl rfl ?_
  refine w_p (pc1 := 8) rfl rfl ?_
  refine w_m0 (pc1 := 11) rfl rfl (h_gC rfl rfl rfl rfl) rfl ?_
  refine w_p (pc1 := 12) rfl rfl ?_
  refine w_m0 (pc1 := 13) (st1 := .int (nI (b)) :: _) rfl rfl (n_ile (e := p) rfl rfl rfl (by omega) (ht)) rfl ?_
  refine w_p (pc1 := 14) (al1 := [(3, .int (nI (b))), (2, .int (nI (p))), (0, .ref 176), (1, .int (nI (F)))]) rfl rfl ?_
  refine w_p (pc1 := 15) rfl rfl ?_
  refine w_m0 (pc1 := 18) rfl rfl (h_gC rfl rfl rfl rfl) rfl ?_
  refine w_p (pc1 := 19) rfl rfl ?_
  refine w_m0 (pc1 := 20) (st1 := .int (nI (aKd a)) :: _) rfl rfl (n_ile (e := p) rfl rfl rfl (by omega) (A.1)) rfl ?_
  refine w_t (a := 63) (b := 23) (bN_ne_t (a := aKd a) (b := 0) (by omega) (by omega) (by omega)) rfl rfl ?_
  refine w_p (pc1 := 64) rfl rfl ?_
  refine w_m0 (pc1 := 67) rfl rfl (h_gC rfl rfl rfl rfl) rfl ?_
  refine w_p (pc1 := 68) rfl rfl ?_
  refine w_m0 (pc1 := 69) (st1 := .int (nI (n)) :: _) rfl rfl (n_ile (e := F) rfl rfl rfl (by omega) (hc.2.2.2.2)) rfl ?_
  refine w_p (pc1 := 70) rfl rfl ?_
  refine w_m0 (pc1 := 73) rfl rfl (h_gC rfl rfl rfl rfl) rfl ?_
  refine w_p (pc1 := 74) rfl rfl ?_
  refine w_m0 (pc1 := 75) (st1 := .int (nI (n)) :: _) rfl rfl (n_ile (e := F) rfl rfl rfl (by omega) (hc.2.2.2.1)) rfl ?_
  refine w_f (a := 89) (b := 78) (bN_ne_f (a := n) (b := n) (by omega) (by omega) (by omega)) rfl rfl ?_
  refine w_p (pc1 := 79) rfl rfl ?_
  refine w_p (pc1 := 80) rfl rfl ?_
  refine w_m0 (pc1 := 83) (st1 := .int (nI (F + 1)) :: _) rfl rfl (h_gIe (j := 75) rfl rfl rfl rfl rfl (h75)) rfl ?_
  refine w_p (pc1 := 84) (st1 := .int 1 :: _) rfl rfl ?_
  refine w_isub (pc1 := 85) (z := nI (F)) rfl (nK_s) rfl ?_
  refine w_m0 (pc1 := 88) rfl rfl (h_pI (j := 75) rfl rfl rfl rfl rfl rfl rfl ⟨rfl, rfl⟩ rfl) rfl ?_
  refine w_r rfl rfl rfl (fun _ _ => rfl) rfl ?_
  exact ⟨rfl, ⟨_, rfl, rfl⟩, rfl⟩
set_option maxRecDepth 100000 in
theorem gcF (hF : F < 39) (hb : b < 6) (hp : p ≤ 40) (hro : row < 40) (A : ACM C p a) (hab : aTb a = some b) (hk0 : aKd a = 0) (h75 : C.1 76 75 = nI (F + 1)) {x : Int32} (hc : CFM C F p row x (nI 1)) : Wd L xs d y_258 (0, [(0, .ref 176), (1, .int (nI (F)))], [], MH C t, 0) (QR t (fun C' => sI C 76 75 (nI F) = C')) nX := by
  have ht := A.2.1
  rw [hab] at ht
  have ht : C.1 111 p = nI b := ht
  have hkd := A.1
  rw [hk0] at hkd
  refine w_p (pc1 := 1) rfl rfl ?_
  refine w_m0 (pc1 := 4) rfl rfl (h_gC rfl rfl rfl rfl) rfl ?_
  refine w_p (pc1 := 5) rfl rfl ?_
  refine w_m0 (pc1 := 6) (st1 := .int (nI (p)) :: _) rfl rfl (n_ile (e := F) rfl rfl rfl (by omega) (hc.2.1)) rfl ?_
  refine w_p (pc1 := 7) (al1 := [(2, .int (nI (p))), (0, .ref 176), (1, .int (nI (F)))]) rfl rfl ?_
  refine w_p (pc1 := 8) rfl rfl ?_
  refine w_m0 (pc1 := 11) rfl rfl (h_gC rfl rfl rfl rfl) rfl ?_
  refine w_p (pc1 := 12) rfl rfl ?_
  refine w_m0 (pc1 := 13) (st1 := .int (nI (b)) :: _) rfl rfl (n_ile (e := p) rfl rfl rfl (by omega) (ht)) rfl ?_
  refine w_p (pc1 := 14) (al1 := [(3, .int (nI (b))), (2, .int (nI (p))), (0, .ref 176), (1, .int (nI (F)))]) rfl rfl ?_
  refine w_p (pc1 := 15) rfl rfl ?_
  refine w_m0 (pc1 := 18) rfl rfl (h_gC rfl rfl rfl rfl) rfl ?_
  refine w_p (pc1 := 19) rfl rfl ?_
  refine w_m0 (pc1 := 20) (st1 := .int 0 :: _) rfl rfl (n_ile (e := p) rfl rfl rfl (by omega) (hkd)) rfl ?_
  refine w_f (a := 63) (b := 23) rfl rfl rfl ?_
  refine w_p (pc1 := 24) rfl rfl ?_
  refine w_m0 (pc1 := 27) rfl rfl (h_gC rfl rfl rfl rfl) rfl ?_
  refine w_p (pc1 := 28) rfl rfl ?_
  refine w_m0 (pc1 := 29) (st1 := .int (nI (1)) :: _) rfl rfl (n_ile (e := F) rfl rfl rfl (by omega) (hc.2.2.2.2)) rfl ?_
  refine w_f (a := 43) (b := 32) (bN_le_f (a := 1) (b := 0) (by omega) (by omega) (by omega)) rfl rfl ?_
  refine w_p (pc1 := 33) rfl rfl ?_
  refine w_p (pc1 := 34) rfl rfl ?_
  refine w_m0 (pc1 := 37) (st1 := .int (nI (F + 1)) :: _) rfl rfl (h_gIe (j := 75) rfl rfl rfl rfl rfl (h75)) rfl ?_
  refine w_p (pc1 := 38) (st1 := .int 1 :: _) rfl rfl ?_
  refine w_isub (pc1 := 39) (z := nI (F)) rfl (nK_s) rfl ?_
  refine w_m0 (pc1 := 42) rfl rfl (h_pI (j := 75) rfl rfl rfl rfl rfl rfl rfl ⟨rfl, rfl⟩ rfl) rfl ?_
  refine w_r rfl rfl rfl (fun _ _ => rfl) rfl ?_
  exact ⟨rfl, ⟨_, rfl, rfl⟩, rfl⟩
set_option maxRecDepth 100000 in
theorem gcI (hF : F < 39) (hb : b < 6) (hp : p ≤ 40) (hro : row < 40) (A : ACM C p a) (hab : aTb a = some b) (hk0 : aKd a = 0) (K : MSt C S) (E : MEn C (sWd S) σ D (F + 1)) (ho : okSt S) (hl : (aSs a).length = sWd S b) (hpos : 0 < sWd S b) (hok : ∀ s, s ∈ aSs a → okS 0 w2 w3 s) (hw2 : w2 ≤ 6) (hw3 : w3 ≤ 6) (hbN : bfM C 136 row w2 N) (hbO : bfM C 137 row w3 O) {x : Int32} (hc : CFM C F p row x (nI 0)) : Wd L xs (d + 7) y_258 (0, [(0, .ref 176), (1, .int (nI (F)))], [], MH C t, 0) (QR t (fun C' => BSd (sI C 135 F 1) C' (F + 1) σ.2.1 D σ.2.2 0 (nI b) 0 (sWd S b) 0 noF (insV (sDf S b) N O noF 0 (aSs a)))) nX := by
  have ht := A.2.1
  rw [hab] at ht
  have ht : C.1 111 p = nI b := ht
  have hkd := A.1
  rw [hk0] at hkd
  have q1 : frQ F C (sI C 135 F 1) := frQ_I (by omega)
  have hm := m_259 (L := L) (xs := xs) (t := t) (d := d + 2) (sl := 0) (MSt_Q q1 K) (MEn_I (k := 135) (j := F) (v := 1) (by omega) E) ho (by omega) hb hp (ACM_Q q1 A) hk0 hl hpos hok (f := row) (w2 := w2) (w3 := w3) (N := N) (O := O) ⟨⟨by omega, fun c hc => absurd hc (by omega)⟩, ⟨hro, hw2, hw3⟩, hbN, hbO⟩
  have hr : (sI C 135 F 1).1 127 F = nI row := by rw [sI_1, if_neg (by omega)]; exact hc.2.2.1
  refine w_p (pc1 := 1) rfl rfl ?_
  refine w_m0 (pc1 := 4) rfl rfl (h_gC rfl rfl rfl rfl) rfl ?_
  refine w_p (pc1 := 5) rfl rfl ?_
  refine w_m0 (pc1 := 6) (st1 := .int (nI (p)) :: _) rfl rfl (n_ile (e := F) rfl rfl rfl (by omega) (hc.2.1)) rfl ?_
  refine w_p (pc1 := 7) (al1 := [(2, .int (nI (p))), (0, .ref 176), (1, .int (nI (F)))]) rfl rfl ?_
  refine w_p (pc1 := 8) rfl rfl ?_
  refine w_m0 (pc1 := 11) rfl rfl (h_gC rfl rfl rfl rfl) rfl ?_
  refine w_p (pc1 := 12) rfl rfl ?_
  refine w_m0 (pc1 := 13) (st1 := .int (nI (b)) :: _) rfl rfl (n_ile (e := p) rfl rfl rfl (by omega) (ht)) rfl ?_
  refine w_p (pc1 := 14) (al1 := [(3, .int (nI (b))), (2, .int (nI (p))), (0, .ref 176), (1, .int (nI (F)))]) rfl rfl ?_
  refine w_p (pc1 := 15) rfl rfl ?_
  refine w_m0 (pc1 := 18) rfl rfl (h_gC rfl rfl rfl rfl) rfl ?_
  refine w_p (pc1 := 19) rfl rfl ?_
  refine w_m0 (pc1 := 20) (st1 := .int 0 :: _) rfl rfl (n_ile (e := p) rfl rfl rfl (by omega) (hkd)) rfl ?_
  refine w_f (a := 63) (b := 23) rfl rfl rfl ?_
  refine w_p (pc1 := 24) rfl rfl ?_
  refine w_m0 (pc1 := 27) rfl rfl (h_gC rfl rfl rfl rfl) rfl ?_
  refine w_p (pc1 := 28) rfl rfl ?_
  refine w_m0 (pc1 := 29) (st1 := .int (nI (0)) :: _) rfl rfl (n_ile (e := F) rfl rfl rfl (by omega) (hc.2.2.2.2)) rfl ?_
  refine w_t (a := 43) (b := 32) (bN_le_t (a := 0) (b := 0) (by omega) (by omega) (by omega)) rfl rfl ?_
  refine w_p (pc1 := 44) rfl rfl ?_
  refine w_m0 (pc1 := 47) rfl rfl (h_gC rfl rfl rfl rfl) rfl ?_
  refine w_p (pc1 := 48) rfl rfl ?_
  refine w_p (pc1 := 49) (st1 := .int 1 :: _) rfl rfl ?_
  refine w_m0 (pc1 := 50) rfl rfl (n_is (e := F) rfl rfl rfl (by omega)) rfl ?_
  refine w_p (pc1 := 51) rfl rfl ?_
  refine w_p (pc1 := 52) rfl rfl ?_
  refine w_p (pc1 := 53) rfl rfl ?_
  refine w_p (pc1 := 54) rfl rfl ?_
  refine w_m0 (pc1 := 57) rfl rfl (h_gC rfl rfl rfl rfl) rfl ?_
  refine w_p (pc1 := 58) rfl rfl ?_
  refine w_m0 (pc1 := 59) (st1 := .int (nI (row)) :: _) rfl rfl (n_ile (e := F) rfl rfl rfl (by omega) (hr)) rfl ?_
  refine w_ji (pc1 := 62) (vs := [.ref 176, .int (nI (p)), .int (nI (b)), .int (nI (row))]) (rest := []) (hm) rfl rfl rfl (fun _ _ => rfl) rfl (by exact cl_v my_259 rfl rfl rfl (Nat.le_of_ble_eq_true rfl) rfl (MH_obj rfl rfl) rfl (by decide) rfl rfl) (by rfl) (Nat.le_of_ble_eq_true rfl) (Nat.le_of_ble_eq_true rfl) rfl (fun v h m hq => ?_) (fun _ _ _ e => e.elim)
  obtain ⟨rfl, ⟨C1, hR, rfl⟩, rfl⟩ := hq
  refine w_r rfl rfl rfl (fun _ _ => rfl) rfl ?_
  exact ⟨rfl, ⟨C1, hR, rfl⟩, rfl⟩
set_option maxRecDepth 100000 in
theorem gcN (hF : F < 39) (hb : b < 6) (hp : p ≤ 40) (hro : row < 40) (A : ACM C p a) (hab : aTb a = some b) (hk1 : 1 ≤ aKd a) (hk2 : aKd a ≤ 2) {at_ : Nat} (hn : n ≤ 40) (hat : at_ < n) (hc : CFM C F p row (nI n) (nI at_)) (hid : C.1 133 (40 * F + at_) = ii) (W : RWM C (sWd S) σ.1) (hfd : fdr ii (σ.1 b).1 0 = none) : Wd L xs (d + 7) y_258 (0, [(0, .ref 176), (1, .int (nI (F)))], [], MH C t, 0) (QR t (fun C' => sI C 135 F (nI (at_ + 1)) = C')) nX := by
  have ht := A.2.1
  rw [hab] at ht
  have ht : C.1 111 p = nI b := ht
  have q1 : frQ F C (sI C 135 F (nI (at_ + 1))) := frQ_I (by omega)
  have W1 : RWM (sI C 135 F (nI (at_ + 1))) (sWd S) σ.1 := RWM_V (frV_I (by omega)) W
  have hm1 := m_261 (L := L) (xs := xs) (t := t) (d := d + 6) (sl := 0) (ii := ii) W1 hb
  rw [hfd] at hm1
  refine w_p (pc1 := 1) rfl rfl ?_
  refine w_m0 (pc1 := 4) rfl rfl (h_gC rfl rfl rfl rfl) rfl ?_
  refine w_p (pc1 := 5) rfl rfl ?_
  refine w_m0 (pc1 := 6) (st1 := .int (nI (p)) :: _) rfl rfl (n_ile (e := F) rfl rfl rfl (by omega) (hc.2.1)) rfl ?_
  refine w_p (pc1 := 7) (al1 := [(2, .int (nI (p))), (0, .ref 176), (1, .int (nI (F)))]) rfl rfl ?_
  refine w_p (pc1 := 8) rfl rfl ?_
  refine w_m0 (pc1 := 11) rfl rfl (h_gC rfl rfl rfl rfl) rfl ?_
  refine w_p (pc1 := 12) rfl rfl ?_
  refine w_m0 (pc1 := 13) (st1 := .int (nI (b)) :: _) rfl rfl (n_ile (e := p) rfl rfl rfl (by omega) (ht)) rfl ?_
  refine w_p (pc1 := 14) (al1 := [(3, .int (nI (b))), (2, .int (nI (p))), (0, .ref 176), (1, .int (nI (F)))]) rfl rfl ?_
  refine w_p (pc1 := 15) rfl rfl ?_
  refine w_m0 (pc1 := 18) rfl rfl (h_gC rfl rfl rfl rfl) rfl ?_
  refine w_p (pc1 := 19) rfl rfl ?_
  refine w_m0 (pc1 := 20) (st1 := .int (nI (aKd a)) :: _) rfl rfl (n_ile (e := p) rfl rfl rfl (by omega) (A.1)) rfl ?_
  refine w_t (a := 63) (b := 23) (bN_ne_t (a := aKd a) (b := 0) (by omega) (by omega) (by omega)) rfl rfl ?_
  refine w_p (pc1 := 64) rfl rfl ?_
  refine w_m0 (pc1 := 67) rfl rfl (h_gC rfl rfl rfl rfl) rfl ?_
  refine w_p (pc1 := 68) rfl rfl ?_
  refine w_m0 (pc1 := 69) (st1 := .int (nI (at_)) :: _) rfl rfl (n_ile (e := F) rfl rfl rfl (by omega) (hc.2.2.2.2)) rfl ?_
  refine w_p (pc1 := 70) rfl rfl ?_
  refine w_m0 (pc1 := 73) rfl rfl (h_gC rfl rfl rfl rfl) rfl ?_
  refine w_p (pc1 := 74) rfl rfl ?_
  refine w_m0 (pc1 := 75) (st1 := .int (nI (n)) :: _) rfl rfl (n_ile (e := F) rfl rfl rfl (by omega) (hc.2.2.2.1)) rfl ?_
  refine w_t (a := 89) (b := 78) (bN_ne_t (a := at_) (b := n) (by omega) (by omega) (by omega)) rfl rfl ?_
  refine w_p (pc1 := 90) rfl rfl ?_
  refine w_m0 (pc1 := 93) rfl rfl (h_gC rfl rfl rfl rfl) rfl ?_
  refine w_p (pc1 := 95) (st1 := .int 40 :: _) rfl rfl ?_
  refine w_p (pc1 := 96) rfl rfl ?_
  refine w_imul (pc1 := 97) (u := nI (40)) (v := nI (F)) (z := nI (40 * F)) rfl (nK_mul) rfl ?_
  refine w_p (pc1 := 98) rfl rfl ?_
  refine w_m0 (pc1 := 101) rfl rfl (h_gC rfl rfl rfl rfl) rfl ?_
  refine w_p (pc1 := 102) rfl rfl ?_
  refine w_m0 (pc1 := 103) (st1 := .int (nI (at_)) :: _) rfl rfl (n_ile (e := F) rfl rfl rfl (by omega) (hc.2.2.2.2)) rfl ?_
  refine w_iadd (pc1 := 104) (u := nI (40 * F)) (v := nI (at_)) (z := nI (40 * F + (at_))) rfl (nK_add) rfl ?_
  refine w_m0 (pc1 := 105) (st1 := .int (ii) :: _) rfl rfl (n_ile (e := 40 * F + (at_)) rfl rfl rfl (by omega) (hid)) rfl ?_
  refine w_p (pc1 := 107) (al1 := [(4, .int (ii)), (3, .int (nI (b))), (2, .int (nI (p))), (0, .ref 176), (1, .int (nI (F)))]) rfl rfl ?_
  refine w_p (pc1 := 108) rfl rfl ?_
  refine w_m0 (pc1 := 111) rfl rfl (h_gC rfl rfl rfl rfl) rfl ?_
  refine w_p (pc1 := 112) rfl rfl ?_
  refine w_p (pc1 := 113) rfl rfl ?_
  refine w_m0 (pc1 := 114) (st1 := .int (nI (at_)) :: _) rfl rfl (n_ile (e := F) rfl rfl rfl (by omega) (hc.2.2.2.2)) rfl ?_
  refine w_p (pc1 := 115) (st1 := .int 1 :: _) rfl rfl ?_
  refine w_iadd (pc1 := 116) (u := nI (at_)) (v := nI (1)) (z := nI (at_ + 1)) rfl (nK_add) rfl ?_
  refine w_m0 (pc1 := 117) rfl rfl (n_is (e := F) rfl rfl rfl (by omega)) rfl ?_
  refine w_p (pc1 := 118) rfl rfl ?_
  refine w_p (pc1 := 119) rfl rfl ?_
  refine w_p (pc1 := 121) rfl rfl ?_
  refine w_je (pc1 := 124) (vs := [.ref 176, .int (nI (b)), .int (ii)]) (rest := []) (st1 := [.int (-1)]) (hm1) rfl rfl rfl (fun _ _ => rfl) rfl (by exact cl_v my_261 rfl rfl rfl (Nat.le_of_ble_eq_true rfl) rfl (MH_obj rfl rfl) rfl (by decide) rfl rfl) (by rfl) (Nat.le_of_ble_eq_true rfl) (Nat.le_of_ble_eq_true rfl) rfl (by rfl) ?_
  refine w_p (pc1 := 126) (al1 := [(5, .int (-1)), (4, .int (ii)), (3, .int (nI (b))), (2, .int (nI (p))), (0, .ref 176), (1, .int (nI (F)))]) rfl rfl ?_
  refine w_p (pc1 := 128) rfl rfl ?_
  refine w_p (pc1 := 129) (st1 := .int (-1) :: _) rfl rfl ?_
  refine w_f (a := 133) (b := 132) rfl rfl rfl ?_
  refine w_r rfl rfl rfl (fun _ _ => rfl) rfl ?_
  exact ⟨rfl, ⟨_, rfl, rfl⟩, rfl⟩
set_option maxRecDepth 100000 in
theorem gcU (hF : F < 39) (hb : b < 6) (hp : p ≤ 40) (hro : row < 40) (A : ACM C p a) (hab : aTb a = some b) (hk1 : 1 ≤ aKd a) (hk2 : aKd a ≤ 2) {at_ : Nat} (hn : n ≤ 40) (hat : at_ < n) (hc : CFM C F p row (nI n) (nI at_)) (hid : C.1 133 (40 * F + at_) = ii) (hkk : aKd a = 1) (K : MSt C S) (E : MEn C (sWd S) σ D (F + 1)) (ho : okSt S) (hcl : (aCs a).length = (aSs a).length) (hcw : ∀ c, c ∈ aCs a → c < sWd S b) (hok : ∀ s, s ∈ aSs a → s ≠ none ∧ okS (sWd S b) w2 w3 s) (hw2 : w2 ≤ 6) (hw3 : w3 ≤ 6) (hbN : bfM C 136 row w2 N) (hbO : bfM C 137 row w3 O) (hfd : fdr ii (σ.1 b).1 0 = some (k, r)) : Wd L xs (d + 7) y_258 (0, [(0, .ref 176), (1, .int (nI (F)))], [], MH C t, 0) (QR t (fun C' => BSd (sI C 135 F (nI (at_ + 1))) C' (F + 1) σ.2.1 D σ.2.2 1 (nI b) ii (sWd S b) (sWd S b) r.2 (setS r.2 N O r.2 (aCs a) (aSs a)))) nX := by
  have ht := A.2.1
  rw [hab] at ht
  have ht : C.1 111 p = nI b := ht
  have W := E.1
  have q1 : frQ F C (sI C 135 F (nI (at_ + 1))) := frQ_I (by omega)
  have W1 : RWM (sI C 135 F (nI (at_ + 1))) (sWd S) σ.1 := RWM_V (frV_I (by omega)) W
  have hm1 := m_261 (L := L) (xs := xs) (t := t) (d := d + 6) (sl := 0) (ii := ii) W1 hb
  have hk2' : (sI C 135 F (nI (at_ + 1))).1 110 p = nI (aKd a) := (ACM_Q q1 A).1
  rw [hfd] at hm1
  obtain ⟨_, hr0, hri⟩ := fdr_s hfd
  rw [Nat.sub_zero] at hr0
  have hkl := get_lt hr0
  have h40 := (E.1 b hb).2.2.1
  have E1 := MEn_I (k := 135) (j := F) (v := nI (at_ + 1)) (by omega) E
  have hr : (sI C 135 F (nI (at_ + 1))).1 127 F = nI row := by rw [sI_1, if_neg (by omega)]; exact hc.2.2.1
  have g4 := ((RWM_V (frV_I (by omega)) E.1 : RWM (sI C 135 F (nI (at_ + 1))) (sWd S) σ.1) b hb).2.2.2 k r hr0
  have hw6 := (E.1 b hb).1
  have hm2 := m_264 (L := L) (xs := xs) (t := t) (d := d + 2) (sl := 0) (kr := k) (ii := ii) (r := r) (MSt_Q q1 K) E1 ho (by omega) hb hp (ACM_Q q1 A) hkk hcl hcw hok (f := row) (w2 := w2) (w3 := w3) (N := N) (O := O) ⟨⟨by omega, fun c hc => by rw [show 6 * (40 * b + k) + c = (b * 40 + k) * 6 + c by omega]; exact g4.2 c hc⟩, ⟨hro, hw2, hw3⟩, hbN, hbO⟩ hr0
  rw [hkk] at hk2'
  generalize hC1 : sI C 135 F (nI (at_ + 1)) = C1 at hm1 hm2 hr hk2' ⊢
  refine w_p (pc1 := 1) rfl rfl ?_
  refine w_m0 (pc1 := 4) rfl rfl (h_gC rfl rfl rfl rfl) rfl ?_
  refine w_p (pc1 := 5) rfl rfl ?_
  refine w_m0 (pc1 := 6) (st1 := .int (nI (p)) :: _) rfl rfl (n_ile (e := F) rfl rfl rfl (by omega) (hc.2.1)) rfl ?_
  refine w_p (pc1 := 7) (al1 := [(2, .int (nI (p))), (0, .ref 176), (1, .int (nI (F)))]) rfl rfl ?_
  refine w_p (pc1 := 8) rfl rfl ?_
  refine w_m0 (pc1 := 11) rfl rfl (h_gC rfl rfl rfl rfl) rfl ?_
  refine w_p (pc1 := 12) rfl rfl ?_
  refine w_m0 (pc1 := 13) (st1 := .int (nI (b)) :: _) rfl rfl (n_ile (e := p) rfl rfl rfl (by omega) (ht)) rfl ?_
  refine w_p (pc1 := 14) (al1 := [(3, .int (nI (b))), (2, .int (nI (p))), (0, .ref 176), (1, .int (nI (F)))]) rfl rfl ?_
  refine w_p (pc1 := 15) rfl rfl ?_
  refine w_m0 (pc1 := 18) rfl rfl (h_gC rfl rfl rfl rfl) rfl ?_
  refine w_p (pc1 := 19) rfl rfl ?_
  refine w_m0 (pc1 := 20) (st1 := .int (nI (aKd a)) :: _) rfl rfl (n_ile (e := p) rfl rfl rfl (by omega) (A.1)) rfl ?_
  refine w_t (a := 63) (b := 23) (bN_ne_t (a := aKd a) (b := 0) (by omega) (by omega) (by omega)) rfl rfl ?_
  refine w_p (pc1 := 64) rfl rfl ?_
  refine w_m0 (pc1 := 67) rfl rfl (h_gC rfl rfl rfl rfl) rfl ?_
  refine w_p (pc1 := 68) rfl rfl ?_
  refine w_m0 (pc1 := 69) (st1 := .int (nI (at_)) :: _) rfl rfl (n_ile (e := F) rfl rfl rfl (by omega) (hc.2.2.2.2)) rfl ?_
  refine w_p (pc1 := 70) rfl rfl ?_
  refine w_m0 (pc1 := 73) rfl rfl (h_gC rfl rfl rfl rfl) rfl ?_
  refine w_p (pc1 := 74) rfl rfl ?_
  refine w_m0 (pc1 := 75) (st1 := .int (nI (n)) :: _) rfl rfl (n_ile (e := F) rfl rfl rfl (by omega) (hc.2.2.2.1)) rfl ?_
  refine w_t (a := 89) (b := 78) (bN_ne_t (a := at_) (b := n) (by omega) (by omega) (by omega)) rfl rfl ?_
  refine w_p (pc1 := 90) rfl rfl ?_
  refine w_m0 (pc1 := 93) rfl rfl (h_gC rfl rfl rfl rfl) rfl ?_
  refine w_p (pc1 := 95) (st1 := .int 40 :: _) rfl rfl ?_
  refine w_p (pc1 := 96) rfl rfl ?_
  refine w_imul (pc1 := 97) (u := nI (40)) (v := nI (F)) (z := nI (40 * F)) rfl (nK_mul) rfl ?_
  refine w_p (pc1 := 98) rfl rfl ?_
  refine w_m0 (pc1 := 101) rfl rfl (h_gC rfl rfl rfl rfl) rfl ?_
  refine w_p (pc1 := 102) rfl rfl ?_
  refine w_m0 (pc1 := 103) (st1 := .int (nI (at_)) :: _) rfl rfl (n_ile (e := F) rfl rfl rfl (by omega) (hc.2.2.2.2)) rfl ?_
  refine w_iadd (pc1 := 104) (u := nI (40 * F)) (v := nI (at_)) (z := nI (40 * F + (at_))) rfl (nK_add) rfl ?_
  refine w_m0 (pc1 := 105) (st1 := .int (ii) :: _) rfl rfl (n_ile (e := 40 * F + (at_)) rfl rfl rfl (by omega) (hid)) rfl ?_
  refine w_p (pc1 := 107) (al1 := [(4, .int (ii)), (3, .int (nI (b))), (2, .int (nI (p))), (0, .ref 176), (1, .int (nI (F)))]) rfl rfl ?_
  refine w_p (pc1 := 108) rfl rfl ?_
  refine w_m0 (pc1 := 111) rfl rfl (h_gC rfl rfl rfl rfl) rfl ?_
  refine w_p (pc1 := 112) rfl rfl ?_
  refine w_p (pc1 := 113) rfl rfl ?_
  refine w_m0 (pc1 := 114) (st1 := .int (nI (at_)) :: _) rfl rfl (n_ile (e := F) rfl rfl rfl (by omega) (hc.2.2.2.2)) rfl ?_
  refine w_p (pc1 := 115) (st1 := .int 1 :: _) rfl rfl ?_
  refine w_iadd (pc1 := 116) (u := nI (at_)) (v := nI (1)) (z := nI (at_ + 1)) rfl (nK_add) rfl ?_
  refine w_m0 (pc1 := 117) rfl rfl (n_is (e := F) rfl rfl rfl (by omega)) rfl ?_
  rw [hC1]
  refine w_p (pc1 := 118) rfl rfl ?_
  refine w_p (pc1 := 119) rfl rfl ?_
  refine w_p (pc1 := 121) rfl rfl ?_
  refine w_je (pc1 := 124) (vs := [.ref 176, .int (nI (b)), .int (ii)]) (rest := []) (st1 := [.int (nI (k))]) (hm1) rfl rfl rfl (fun _ _ => rfl) rfl (by exact cl_v my_261 rfl rfl rfl (Nat.le_of_ble_eq_true rfl) rfl (MH_obj rfl rfl) rfl (by decide) rfl rfl) (by rfl) (Nat.le_of_ble_eq_true rfl) (Nat.le_of_ble_eq_true rfl) rfl (by rfl) ?_
  refine w_p (pc1 := 126) (al1 := [(5, .int (nI (k))), (4, .int (ii)), (3, .int (nI (b))), (2, .int (nI (p))), (0, .ref 176), (1, .int (nI (F)))]) rfl rfl ?_
  refine w_p (pc1 := 128) rfl rfl ?_
  refine w_p (pc1 := 129) (st1 := .int (-1) :: _) rfl rfl ?_
  refine w_t (a := 133) (b := 132) (cb_ne_t (by exact nK_m1 (by omega))) rfl rfl ?_
  refine w_p (pc1 := 134) rfl rfl ?_
  refine w_m0 (pc1 := 137) rfl rfl (h_gC rfl rfl rfl rfl) rfl ?_
  refine w_p (pc1 := 138) rfl rfl ?_
  refine w_m0 (pc1 := 139) (st1 := .int 1 :: _) rfl rfl (n_ile (e := p) rfl rfl rfl (by omega) (hk2')) rfl ?_
  refine w_p (pc1 := 140) (st1 := .int 2 :: _) rfl rfl ?_
  refine w_t (a := 169) (b := 143) rfl rfl rfl ?_
  refine w_p (pc1 := 170) rfl rfl ?_
  refine w_p (pc1 := 171) rfl rfl ?_
  refine w_p (pc1 := 172) rfl rfl ?_
  refine w_p (pc1 := 174) rfl rfl ?_
  refine w_p (pc1 := 176) rfl rfl ?_
  refine w_p (pc1 := 177) rfl rfl ?_
  refine w_m0 (pc1 := 180) rfl rfl (h_gC rfl rfl rfl rfl) rfl ?_
  refine w_p (pc1 := 181) rfl rfl ?_
  refine w_m0 (pc1 := 182) (st1 := .int (nI (row)) :: _) rfl rfl (n_ile (e := F) rfl rfl rfl (by omega) (hr)) rfl ?_
  refine w_ji (pc1 := 185) (vs := [.ref 176, .int (nI (p)), .int (nI (b)), .int (nI (k)), .int (ii), .int (nI (row))]) (rest := []) (hm2) rfl rfl rfl (fun _ _ => rfl) rfl (by exact cl_v my_264 rfl rfl rfl (Nat.le_of_ble_eq_true rfl) rfl (MH_obj rfl rfl) rfl (by decide) rfl rfl) (by rfl) (Nat.le_of_ble_eq_true rfl) (Nat.le_of_ble_eq_true rfl) rfl (fun v h m hq => ?_) (fun _ _ _ e => e.elim)
  obtain ⟨rfl, ⟨C2, hR, rfl⟩, rfl⟩ := hq
  refine w_r rfl rfl rfl (fun _ _ => rfl) rfl ?_
  exact ⟨rfl, ⟨C2, hR, rfl⟩, rfl⟩
set_option maxRecDepth 100000 in
theorem gcD (hF : F < 39) (hb : b < 6) (hp : p ≤ 40) (hro : row < 40) (A : ACM C p a) (hab : aTb a = some b) (hk1 : 1 ≤ aKd a) (hk2 : aKd a ≤ 2) {at_ : Nat} (hn : n ≤ 40) (hat : at_ < n) (hc : CFM C F p row (nI n) (nI at_)) (hid : C.1 133 (40 * F + at_) = ii) (hkk : aKd a = 2) (E : MEn C (sWd S) σ D (F + 1)) (hfd : fdr ii (σ.1 b).1 0 = some (k, r)) : Wd L xs (d + 7) y_258 (0, [(0, .ref 176), (1, .int (nI (F)))], [], MH C t, 0) (QR t (fun C' => BSd (sI C 135 F (nI (at_ + 1))) C' (F + 1) σ.2.1 D σ.2.2 2 (nI b) ii (sWd S b) (sWd S b) r.2 (some r.2))) nX := by
  have ht := A.2.1
  rw [hab] at ht
  have ht : C.1 111 p = nI b := ht
  have W := E.1
  have q1 : frQ F C (sI C 135 F (nI (at_ + 1))) := frQ_I (by omega)
  have W1 : RWM (sI C 135 F (nI (at_ + 1))) (sWd S) σ.1 := RWM_V (frV_I (by omega)) W
  have hm1 := m_261 (L := L) (xs := xs) (t := t) (d := d + 6) (sl := 0) (ii := ii) W1 hb
  have hk2' : (sI C 135 F (nI (at_ + 1))).1 110 p = nI (aKd a) := (ACM_Q q1 A).1
  rw [hfd] at hm1
  obtain ⟨_, hr0, hri⟩ := fdr_s hfd
  rw [Nat.sub_zero] at hr0
  have hkl := get_lt hr0
  have h40 := (E.1 b hb).2.2.1
  have E1 := MEn_I (k := 135) (j := F) (v := nI (at_ + 1)) (by omega) E
  have hr : (sI C 135 F (nI (at_ + 1))).1 127 F = nI row := by rw [sI_1, if_neg (by omega)]; exact hc.2.2.1
  rw [hkk] at hk2'
  generalize hC1 : sI C 135 F (nI (at_ + 1)) = C1 at hm1 hr hk2' E1 ⊢
  obtain ⟨hW, hnx, hX, hDp, hFr, h89, h74⟩ := E1
  obtain ⟨g1, g2, g3, g4⟩ := hW b hb
  by_cases hx : 300 ≤ σ.2.1 ∨ 12 ≤ D
  · skip
    refine w_p (pc1 := 1) rfl rfl ?_
    refine w_m0 (pc1 := 4) rfl rfl (h_gC rfl rfl rfl rfl) rfl ?_
    refine w_p (pc1 := 5) rfl rfl ?_
    refine w_m0 (pc1 := 6) (st1 := .int (nI (p)) :: _) rfl rfl (n_ile (e := F) rfl rfl rfl (by omega) (hc.2.1)) rfl ?_
    refine w_p (pc1 := 7) (al1 := [(2, .int (nI (p))), (0, .ref 176), (1, .int (nI (F)))]) rfl rfl ?_
    refine w_p (pc1 := 8) rfl rfl ?_
    refine w_m0 (pc1 := 11) rfl rfl (h_gC rfl rfl rfl rfl) rfl ?_
    refine w_p (pc1 := 12) rfl rfl ?_
    refine w_m0 (pc1 := 13) (st1 := .int (nI (b)) :: _) rfl rfl (n_ile (e := p) rfl rfl rfl (by omega) (ht)) rfl ?_
    refine w_p (pc1 := 14) (al1 := [(3, .int (nI (b))), (2, .int (nI (p))), (0, .ref 176), (1, .int (nI (F)))]) rfl rfl ?_
    refine w_p (pc1 := 15) rfl rfl ?_
    refine w_m0 (pc1 := 18) rfl rfl (h_gC rfl rfl rfl rfl) rfl ?_
    refine w_p (pc1 := 19) rfl rfl ?_
    refine w_m0 (pc1 := 20) (st1 := .int (nI (aKd a)) :: _) rfl rfl (n_ile (e := p) rfl rfl rfl (by omega) (A.1)) rfl ?_
    refine w_t (a := 63) (b := 23) (bN_ne_t (a := aKd a) (b := 0) (by omega) (by omega) (by omega)) rfl rfl ?_
    refine w_p (pc1 := 64) rfl rfl ?_
    refine w_m0 (pc1 := 67) rfl rfl (h_gC rfl rfl rfl rfl) rfl ?_
    refine w_p (pc1 := 68) rfl rfl ?_
    refine w_m0 (pc1 := 69) (st1 := .int (nI (at_)) :: _) rfl rfl (n_ile (e := F) rfl rfl rfl (by omega) (hc.2.2.2.2)) rfl ?_
    refine w_p (pc1 := 70) rfl rfl ?_
    refine w_m0 (pc1 := 73) rfl rfl (h_gC rfl rfl rfl rfl) rfl ?_
    refine w_p (pc1 := 74) rfl rfl ?_
    refine w_m0 (pc1 := 75) (st1 := .int (nI (n)) :: _) rfl rfl (n_ile (e := F) rfl rfl rfl (by omega) (hc.2.2.2.1)) rfl ?_
    refine w_t (a := 89) (b := 78) (bN_ne_t (a := at_) (b := n) (by omega) (by omega) (by omega)) rfl rfl ?_
    refine w_p (pc1 := 90) rfl rfl ?_
    refine w_m0 (pc1 := 93) rfl rfl (h_gC rfl rfl rfl rfl) rfl ?_
    refine w_p (pc1 := 95) (st1 := .int 40 :: _) rfl rfl ?_
    refine w_p (pc1 := 96) rfl rfl ?_
    refine w_imul (pc1 := 97) (u := nI (40)) (v := nI (F)) (z := nI (40 * F)) rfl (nK_mul) rfl ?_
    refine w_p (pc1 := 98) rfl rfl ?_
    refine w_m0 (pc1 := 101) rfl rfl (h_gC rfl rfl rfl rfl) rfl ?_
    refine w_p (pc1 := 102) rfl rfl ?_
    refine w_m0 (pc1 := 103) (st1 := .int (nI (at_)) :: _) rfl rfl (n_ile (e := F) rfl rfl rfl (by omega) (hc.2.2.2.2)) rfl ?_
    refine w_iadd (pc1 := 104) (u := nI (40 * F)) (v := nI (at_)) (z := nI (40 * F + (at_))) rfl (nK_add) rfl ?_
    refine w_m0 (pc1 := 105) (st1 := .int (ii) :: _) rfl rfl (n_ile (e := 40 * F + (at_)) rfl rfl rfl (by omega) (hid)) rfl ?_
    refine w_p (pc1 := 107) (al1 := [(4, .int (ii)), (3, .int (nI (b))), (2, .int (nI (p))), (0, .ref 176), (1, .int (nI (F)))]) rfl rfl ?_
    refine w_p (pc1 := 108) rfl rfl ?_
    refine w_m0 (pc1 := 111) rfl rfl (h_gC rfl rfl rfl rfl) rfl ?_
    refine w_p (pc1 := 112) rfl rfl ?_
    refine w_p (pc1 := 113) rfl rfl ?_
    refine w_m0 (pc1 := 114) (st1 := .int (nI (at_)) :: _) rfl rfl (n_ile (e := F) rfl rfl rfl (by omega) (hc.2.2.2.2)) rfl ?_
    refine w_p (pc1 := 115) (st1 := .int 1 :: _) rfl rfl ?_
    refine w_iadd (pc1 := 116) (u := nI (at_)) (v := nI (1)) (z := nI (at_ + 1)) rfl (nK_add) rfl ?_
    refine w_m0 (pc1 := 117) rfl rfl (n_is (e := F) rfl rfl rfl (by omega)) rfl ?_
    rw [hC1]
    refine w_p (pc1 := 118) rfl rfl ?_
    refine w_p (pc1 := 119) rfl rfl ?_
    refine w_p (pc1 := 121) rfl rfl ?_
    refine w_je (pc1 := 124) (vs := [.ref 176, .int (nI (b)), .int (ii)]) (rest := []) (st1 := [.int (nI (k))]) (hm1) rfl rfl rfl (fun _ _ => rfl) rfl (by exact cl_v my_261 rfl rfl rfl (Nat.le_of_ble_eq_true rfl) rfl (MH_obj rfl rfl) rfl (by decide) rfl rfl) (by rfl) (Nat.le_of_ble_eq_true rfl) (Nat.le_of_ble_eq_true rfl) rfl (by rfl) ?_
    refine w_p (pc1 := 126) (al1 := [(5, .int (nI (k))), (4, .int (ii)), (3, .int (nI (b))), (2, .int (nI (p))), (0, .ref 176), (1, .int (nI (F)))]) rfl rfl ?_
    refine w_p (pc1 := 128) rfl rfl ?_
    refine w_p (pc1 := 129) (st1 := .int (-1) :: _) rfl rfl ?_
    refine w_t (a := 133) (b := 132) (cb_ne_t (by exact nK_m1 (by omega))) rfl rfl ?_
    refine w_p (pc1 := 134) rfl rfl ?_
    refine w_m0 (pc1 := 137) rfl rfl (h_gC rfl rfl rfl rfl) rfl ?_
    refine w_p (pc1 := 138) rfl rfl ?_
    refine w_m0 (pc1 := 139) (st1 := .int 2 :: _) rfl rfl (n_ile (e := p) rfl rfl rfl (by omega) (hk2')) rfl ?_
    refine w_p (pc1 := 140) (st1 := .int 2 :: _) rfl rfl ?_
    refine w_f (a := 169) (b := 143) rfl rfl rfl ?_
    refine w_p (pc1 := 144) rfl rfl ?_
    refine w_p (pc1 := 145) (st1 := .int 2 :: _) rfl rfl ?_
    refine w_p (pc1 := 146) rfl rfl ?_
    refine w_p (pc1 := 148) rfl rfl ?_
    refine w_je (pc1 := 151) (vs := [.ref 176, .int 2, .int (nI (b)), .int (ii)]) (rest := []) (st1 := [.int (-1)]) (m_260x (d := d + 5) (sl := 0) hX.1 hX.2.1 hDp.1 hDp.2 h89 hx) rfl rfl rfl (fun _ _ => rfl) rfl (by exact cl_v my_260 rfl rfl rfl (Nat.le_of_ble_eq_true rfl) rfl (MH_obj rfl rfl) rfl (by decide) rfl rfl) (by rfl) (Nat.le_of_ble_eq_true rfl) (Nat.le_of_ble_eq_true rfl) rfl (by rfl) ?_
    refine w_p (pc1 := 153) (al1 := [(6, .int (-1)), (5, .int (nI (k))), (4, .int (ii)), (3, .int (nI (b))), (2, .int (nI (p))), (0, .ref 176), (1, .int (nI (F)))]) rfl rfl ?_
    refine w_p (pc1 := 155) rfl rfl ?_
    refine w_p (pc1 := 156) (st1 := .int (-1) :: _) rfl rfl ?_
    refine w_t (a := 168) (b := 159) rfl rfl rfl ?_
    refine w_r rfl rfl rfl (fun _ _ => rfl) rfl ?_
    exact ⟨rfl, ⟨_, Or.inr ⟨r.2, rfl, Or.inl ⟨hx, EDD_S frS_r ⟨false, h74⟩⟩⟩, rfl⟩, rfl⟩
  · have hbs := m_260 (L := L) (xs := xs) (t := t) (d := d + 5) (sl := 0) (kd := 2) (tb := nI b) (i := ii) hX.1 (by omega) hDp.1 (by omega) hX.2.2.1 hX.2.2.2 hFr.1 (by omega)
    have fQ := bs_Q (C := C1) (u := σ.2.1) (D := D) (v := σ.2.2) (f := F + 1) (kd := 2) (tb := nI b) (i := ii)
    have fV := bs_V (C := C1) (u := σ.2.1) (D := D) (v := σ.2.2) (f := F + 1) (kd := 2) (tb := nI b) (i := ii)
    have hcc := bs_C (C := C1) (u := σ.2.1) (D := D) (v := σ.2.2) (f := F + 1) (kd := 2) (tb := nI b) (i := ii)
    have hs := bs_S (C := C1) (u := σ.2.1) (D := D) (v := σ.2.2) (f := F + 1) (kd := 2) (tb := nI b) (i := ii)
    have hto := m_262 (L := L) (xs := xs) (C := bsC C1 σ.2.1 D σ.2.2 (F + 1) 2 (nI b) ii) (t := t) (d := d + 5) (sl := 0) (f := F + 1) (by omega) hb (k := k) (by omega)
    refine w_p (pc1 := 1) rfl rfl ?_
    refine w_m0 (pc1 := 4) rfl rfl (h_gC rfl rfl rfl rfl) rfl ?_
    refine w_p (pc1 := 5) rfl rfl ?_
    refine w_m0 (pc1 := 6) (st1 := .int (nI (p)) :: _) rfl rfl (n_ile (e := F) rfl rfl rfl (by omega) (hc.2.1)) rfl ?_
    refine w_p (pc1 := 7) (al1 := [(2, .int (nI (p))), (0, .ref 176), (1, .int (nI (F)))]) rfl rfl ?_
    refine w_p (pc1 := 8) rfl rfl ?_
    refine w_m0 (pc1 := 11) rfl rfl (h_gC rfl rfl rfl rfl) rfl ?_
    refine w_p (pc1 := 12) rfl rfl ?_
    refine w_m0 (pc1 := 13) (st1 := .int (nI (b)) :: _) rfl rfl (n_ile (e := p) rfl rfl rfl (by omega) (ht)) rfl ?_
    refine w_p (pc1 := 14) (al1 := [(3, .int (nI (b))), (2, .int (nI (p))), (0, .ref 176), (1, .int (nI (F)))]) rfl rfl ?_
    refine w_p (pc1 := 15) rfl rfl ?_
    refine w_m0 (pc1 := 18) rfl rfl (h_gC rfl rfl rfl rfl) rfl ?_
    refine w_p (pc1 := 19) rfl rfl ?_
    refine w_m0 (pc1 := 20) (st1 := .int (nI (aKd a)) :: _) rfl rfl (n_ile (e := p) rfl rfl rfl (by omega) (A.1)) rfl ?_
    refine w_t (a := 63) (b := 23) (bN_ne_t (a := aKd a) (b := 0) (by omega) (by omega) (by omega)) rfl rfl ?_
    refine w_p (pc1 := 64) rfl rfl ?_
    refine w_m0 (pc1 := 67) rfl rfl (h_gC rfl rfl rfl rfl) rfl ?_
    refine w_p (pc1 := 68) rfl rfl ?_
    refine w_m0 (pc1 := 69) (st1 := .int (nI (at_)) :: _) rfl rfl (n_ile (e := F) rfl rfl rfl (by omega) (hc.2.2.2.2)) rfl ?_
    refine w_p (pc1 := 70) rfl rfl ?_
    refine w_m0 (pc1 := 73) rfl rfl (h_gC rfl rfl rfl rfl) rfl ?_
    refine w_p (pc1 := 74) rfl rfl ?_
    refine w_m0 (pc1 := 75) (st1 := .int (nI (n)) :: _) rfl rfl (n_ile (e := F) rfl rfl rfl (by omega) (hc.2.2.2.1)) rfl ?_
    refine w_t (a := 89) (b := 78) (bN_ne_t (a := at_) (b := n) (by omega) (by omega) (by omega)) rfl rfl ?_
    refine w_p (pc1 := 90) rfl rfl ?_
    refine w_m0 (pc1 := 93) rfl rfl (h_gC rfl rfl rfl rfl) rfl ?_
    refine w_p (pc1 := 95) (st1 := .int 40 :: _) rfl rfl ?_
    refine w_p (pc1 := 96) rfl rfl ?_
    refine w_imul (pc1 := 97) (u := nI (40)) (v := nI (F)) (z := nI (40 * F)) rfl (nK_mul) rfl ?_
    refine w_p (pc1 := 98) rfl rfl ?_
    refine w_m0 (pc1 := 101) rfl rfl (h_gC rfl rfl rfl rfl) rfl ?_
    refine w_p (pc1 := 102) rfl rfl ?_
    refine w_m0 (pc1 := 103) (st1 := .int (nI (at_)) :: _) rfl rfl (n_ile (e := F) rfl rfl rfl (by omega) (hc.2.2.2.2)) rfl ?_
    refine w_iadd (pc1 := 104) (u := nI (40 * F)) (v := nI (at_)) (z := nI (40 * F + (at_))) rfl (nK_add) rfl ?_
    refine w_m0 (pc1 := 105) (st1 := .int (ii) :: _) rfl rfl (n_ile (e := 40 * F + (at_)) rfl rfl rfl (by omega) (hid)) rfl ?_
    refine w_p (pc1 := 107) (al1 := [(4, .int (ii)), (3, .int (nI (b))), (2, .int (nI (p))), (0, .ref 176), (1, .int (nI (F)))]) rfl rfl ?_
    refine w_p (pc1 := 108) rfl rfl ?_
    refine w_m0 (pc1 := 111) rfl rfl (h_gC rfl rfl rfl rfl) rfl ?_
    refine w_p (pc1 := 112) rfl rfl ?_
    refine w_p (pc1 := 113) rfl rfl ?_
    refine w_m0 (pc1 := 114) (st1 := .int (nI (at_)) :: _) rfl rfl (n_ile (e := F) rfl rfl rfl (by omega) (hc.2.2.2.2)) rfl ?_
    refine w_p (pc1 := 115) (st1 := .int 1 :: _) rfl rfl ?_
    refine w_iadd (pc1 := 116) (u := nI (at_)) (v := nI (1)) (z := nI (at_ + 1)) rfl (nK_add) rfl ?_
    refine w_m0 (pc1 := 117) rfl rfl (n_is (e := F) rfl rfl rfl (by omega)) rfl ?_
    rw [hC1]
    refine w_p (pc1 := 118) rfl rfl ?_
    refine w_p (pc1 := 119) rfl rfl ?_
    refine w_p (pc1 := 121) rfl rfl ?_
    refine w_je (pc1 := 124) (vs := [.ref 176, .int (nI (b)), .int (ii)]) (rest := []) (st1 := [.int (nI (k))]) (hm1) rfl rfl rfl (fun _ _ => rfl) rfl (by exact cl_v my_261 rfl rfl rfl (Nat.le_of_ble_eq_true rfl) rfl (MH_obj rfl rfl) rfl (by decide) rfl rfl) (by rfl) (Nat.le_of_ble_eq_true rfl) (Nat.le_of_ble_eq_true rfl) rfl (by rfl) ?_
    refine w_p (pc1 := 126) (al1 := [(5, .int (nI (k))), (4, .int (ii)), (3, .int (nI (b))), (2, .int (nI (p))), (0, .ref 176), (1, .int (nI (F)))]) rfl rfl ?_
    refine w_p (pc1 := 128) rfl rfl ?_
    refine w_p (pc1 := 129) (st1 := .int (-1) :: _) rfl rfl ?_
    refine w_t (a := 133) (b := 132) (cb_ne_t (by exact nK_m1 (by omega))) rfl rfl ?_
    refine w_p (pc1 := 134) rfl rfl ?_
    refine w_m0 (pc1 := 137) rfl rfl (h_gC rfl rfl rfl rfl) rfl ?_
    refine w_p (pc1 := 138) rfl rfl ?_
    refine w_m0 (pc1 := 139) (st1 := .int 2 :: _) rfl rfl (n_ile (e := p) rfl rfl rfl (by omega) (hk2')) rfl ?_
    refine w_p (pc1 := 140) (st1 := .int 2 :: _) rfl rfl ?_
    refine w_f (a := 169) (b := 143) rfl rfl rfl ?_
    refine w_p (pc1 := 144) rfl rfl ?_
    refine w_p (pc1 := 145) (st1 := .int 2 :: _) rfl rfl ?_
    refine w_p (pc1 := 146) rfl rfl ?_
    refine w_p (pc1 := 148) rfl rfl ?_
    refine w_je (pc1 := 151) (vs := [.ref 176, .int 2, .int (nI (b)), .int (ii)]) (rest := []) (st1 := [.int (nI (F + 1))]) (hbs) rfl rfl rfl (fun _ _ => rfl) rfl (by exact cl_v my_260 rfl rfl rfl (Nat.le_of_ble_eq_true rfl) rfl (MH_obj rfl rfl) rfl (by decide) rfl rfl) (by rfl) (Nat.le_of_ble_eq_true rfl) (Nat.le_of_ble_eq_true rfl) rfl (by rfl) ?_
    refine w_p (pc1 := 153) (al1 := [(6, .int (nI (F + 1))), (5, .int (nI (k))), (4, .int (ii)), (3, .int (nI (b))), (2, .int (nI (p))), (0, .ref 176), (1, .int (nI (F)))]) rfl rfl ?_
    refine w_p (pc1 := 155) rfl rfl ?_
    refine w_p (pc1 := 156) (st1 := .int (-1) :: _) rfl rfl ?_
    refine w_f (a := 168) (b := 159) (cb_eq_f (by exact nK_m1 (by omega))) rfl rfl ?_
    refine w_p (pc1 := 160) rfl rfl ?_
    refine w_p (pc1 := 162) rfl rfl ?_
    refine w_p (pc1 := 163) rfl rfl ?_
    refine w_p (pc1 := 165) rfl rfl ?_
    refine w_ji (pc1 := 168) (vs := [.ref 176, .int (nI (F + 1)), .int (nI (b)), .int (nI (k))]) (rest := []) (hto) rfl rfl rfl (fun _ _ => rfl) rfl (by exact cl_v my_262 rfl rfl rfl (Nat.le_of_ble_eq_true rfl) rfl (MH_obj rfl rfl) rfl (by decide) rfl rfl) (by rfl) (Nat.le_of_ble_eq_true rfl) (Nat.le_of_ble_eq_true rfl) rfl (fun v h m hq => ?_) (fun _ _ _ e => e.elim)
    obtain ⟨rfl, ⟨C3, ⟨o1, o2⟩, rfl⟩, rfl⟩ := hq
    refine w_r rfl rfl rfl (fun _ _ => rfl) rfl ?_
    refine ⟨rfl, ⟨C3, Or.inr ⟨r.2, rfl, Or.inr ⟨by omega, by omega, SFM_O o1 hs, CNT_O o1 hcc h89 h74, ⟨fun c hc => ?_, fun c hc => ?_⟩, frQ_t fQ (frO_Q o1), frV_t fV (frO_V o1)⟩⟩, rfl⟩, rfl⟩
    · rw [(o2 c (by omega)).2, fV.2.2.2]
      exact (g4 k r hr0).2 c hc
    · rw [(o2 c (by omega)).1, fV.2.2.2]
      exact (g4 k r hr0).2 c hc
end ME8
