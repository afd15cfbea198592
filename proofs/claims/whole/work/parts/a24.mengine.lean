
/-! THE OTHER SIDE'S ENGINE: what it keeps, its small steps -/
def opM {α : Type} (P : α → Prop) (x : Int32) : Option α → Prop
  | none => x = 0
  | some u => x = 1 ∧ P u
/-! what a change is written as -/
abbrev it_T : Type := op_T ⊕ (Int32 × Nat)
def itM (C : co_T) (p s : Nat) (l : List it_T) : Prop := ∀ (j : Nat) (x : it_T), l[j]? = some x → match x with
  | .inl q => eqO q (C.1 106 (620 * p + (s + j))) (C.2.1 107 (620 * p + (s + j)))
  | .inr (a, c) => C.1 106 (620 * p + (s + j)) = a ∧ C.2.1 107 (620 * p + (s + j)) = (nI c).toInt64
def pIt : Nat → List (Option (List op_T)) → List it_T
  | _, [] => []
  | i, none :: ss => .inr (14, i) :: pIt (i + 1) ss
  | i, some l :: ss => l.map Sum.inl ++ (.inr (13, i) :: pIt (i + 1) ss)
def sIt : List Nat → List (Option (List op_T)) → List it_T
  | c :: cs, some l :: ss => l.map Sum.inl ++ (.inr (15, c) :: sIt cs ss)
  | _, _ => []
/-! where, from a step on -/
def whM (C : co_T) (p s : Nat) : Option (List op_T) → Prop
  | none => C.1 112 p = -1 ∧ C.1 113 p = nI s
  | some O => C.1 112 p = nI s ∧ C.1 113 p = nI (s + O.length) ∧ s + O.length ≤ 619 ∧ foM C p s O
def ACM (C : co_T) (p : Nat) (a : ac_T) : Prop := C.1 110 p = nI (aKd a) ∧ C.1 111 p = tgI (aTb a) ∧ (aKd a = 0 → C.1 113 p = nI (pIt 0 (aSs a)).length ∧ (pIt 0 (aSs a)).length ≤ 619 ∧ itM C p 0 (pIt 0 (aSs a))) ∧ (aKd a = 1 → (sIt (aCs a) (aSs a)).length ≤ 619 ∧ itM C p 0 (sIt (aCs a) (aSs a)) ∧ whM C p (sIt (aCs a) (aSs a)).length (aWh a)) ∧ (aKd a = 2 → whM C p 0 (aWh a))
def TRM (C : co_T) (g : Nat) (G : tr_T) : Prop := (C.1 97 g = nI (gTb G) ∧ C.1 98 g = nI (gTi G) ∧ C.1 99 g = nI (gEv G) ∧ C.1 100 g = nI (aKd (gAc G)) ∧ C.1 101 g = tgI (aTb (gAc G)) ∧ C.2.1 96 g = gNm G) ∧ (match gWh G with
  | none => C.1 104 g = 0
  | some O => C.1 104 g = 1 ∧ C.1 113 (24 + g) = nI O.length ∧ foM C (24 + g) 0 O) ∧ (aKd (gAc G) < 3 → ACM C (32 + g) (gAc G)) ∧ (∀ c l, aKd (gAc G) = 3 → aCs (gAc G) = [c] → aSs (gAc G) = [some l] → C.1 102 g = nI c ∧ C.1 113 (32 + g) = nI l.length ∧ foM C (32 + g) 0 l) ∧ (aKd (gAc G) = 4 → (C.2.1 103 g).toInt32 = aNo (gAc G))
def MSt (C : co_T) (S : st_T) : Prop := (∀ b, b < 6 → (0 < sWd S b → C.1 80 b = nI (sWd S b)) ∧ ∀ c, c < sWd S b → C.2.1 82 (b * 6 + c) = e_V (sDf S b c)) ∧ (∀ i, i < 24 → opM (RUM C i) (C.1 83 i) (sRu S i)) ∧ (∀ i, i < 8 → opM (TRM C i) (C.1 95 i) (sTr S i))
/-! what steps change: rows, counters, frames from f on -/
def frQ (f : Nat) (C C' : co_T) : Prop := (∀ k j, ¬ (k = 115 ∨ k = 117 ∨ k = 118) → ¬ (k = 76 ∧ (j = 73 ∨ j = 74 ∨ j = 75 ∨ j = 89 ∨ j = 90 ∨ j = 91 ∨ j = 93 ∨ j = 94 ∨ j = 95)) → ¬ ((125 ≤ k ∧ k ≤ 132 ∨ k = 134 ∨ k = 135) ∧ f ≤ j) → ¬ (k = 133 ∧ 40 * f ≤ j) → C'.1 k j = C.1 k j) ∧ (∀ k j, ¬ (k = 116 ∨ k = 124 ∨ k = 138) → ¬ (k = 76 ∧ j = 92) → ¬ ((k = 136 ∨ k = 137) ∧ 6 * f ≤ j) → C'.2.1 k j = C.2.1 k j) ∧ C'.2.2 = C.2.2
set_option maxRecDepth 100000 in
theorem frQ_r {f : Nat} {C : co_T} : frQ f C C := ⟨fun _ _ _ _ _ _ => rfl, fun _ _ _ _ _ => rfl, rfl⟩
set_option maxRecDepth 100000 in
theorem frQ_t {f : Nat} {C1 C2 C3 : co_T} (h : frQ f C1 C2) (g : frQ f C2 C3) : frQ f C1 C3 := ⟨fun k j a b c d => (g.1 k j a b c d).trans (h.1 k j a b c d), fun k j a b c => (g.2.1 k j a b c).trans (h.2.1 k j a b c), g.2.2.trans h.2.2⟩
set_option maxRecDepth 100000 in
theorem frQ_u {f g : Nat} {C C' : co_T} (h : frQ g C C') (hf : f ≤ g) : frQ f C C' := ⟨fun k j a b c d => h.1 k j a b (by omega) (by omega), fun k j a b c => h.2.1 k j a b (by omega), h.2.2⟩
set_option maxRecDepth 100000 in
theorem frQ_W {f : Nat} {C C' : co_T} (h : frW C C') : frQ f C C' := ⟨fun k j _ b _ _ => h.1 k j (by omega), fun k j a _ _ => h.2.1 k j (by omega), h.2.2⟩
/-! rows stay -/
def frV (C C' : co_T) : Prop := (∀ j, C'.1 115 j = C.1 115 j) ∧ (∀ j, C'.1 117 j = C.1 117 j) ∧ (∀ j, C'.1 118 j = C.1 118 j) ∧ (∀ j, C'.2.1 116 j = C.2.1 116 j)
set_option maxRecDepth 100000 in
theorem frV_r {C : co_T} : frV C C := ⟨fun _ => rfl, fun _ => rfl, fun _ => rfl, fun _ => rfl⟩
set_option maxRecDepth 100000 in
theorem frV_t {C1 C2 C3 : co_T} (h : frV C1 C2) (g : frV C2 C3) : frV C1 C3 := ⟨fun j => (g.1 j).trans (h.1 j), fun j => (g.2.1 j).trans (h.2.1 j), fun j => (g.2.2.1 j).trans (h.2.2.1 j), fun j => (g.2.2.2 j).trans (h.2.2.2 j)⟩
set_option maxRecDepth 100000 in
theorem frV_W {C C' : co_T} (h : frW C C') : frV C C' := ⟨fun j => h.1 115 j (by omega), fun j => h.1 117 j (by omega), fun j => h.1 118 j (by omega), fun j => h.2.1 116 j (by omega)⟩
set_option maxRecDepth 100000 in
theorem RWM_V {C C' : co_T} {wd : Nat → Nat} {rs : rs_T} (h : frV C C') (W : RWM C wd rs) : RWM C' wd rs := by
  intro b hb
  obtain ⟨h1, h2, h3, h4⟩ := W b hb
  exact ⟨h1, (h.2.1 b).trans h2, h3, fun k r hr => ⟨(h.1 _).trans (h4 k r hr).1, fun c hc => (h.2.2.2 _).trans ((h4 k r hr).2 c hc)⟩⟩
set_option maxRecDepth 100000 in
theorem foM_Q {f p a : Nat} {C C' : co_T} {O : List op_T} (h : frQ f C C') (F : foM C p a O) : foM C' p a O := by
  intro j q hj
  rw [h.1 106 _ (by omega) (by omega) (by omega) (by omega), h.2.1 107 _ (by omega) (by omega) (by omega)]
  exact F j q hj
set_option maxRecDepth 100000 in
theorem itM_Q {f p a : Nat} {C C' : co_T} {O : List it_T} (h : frQ f C C') (F : itM C p a O) : itM C' p a O := by
  intro j q hj
  rw [h.1 106 _ (by omega) (by omega) (by omega) (by omega), h.2.1 107 _ (by omega) (by omega) (by omega)]
  exact F j q hj
set_option maxRecDepth 100000 in
theorem whM_Q {f p a : Nat} {C C' : co_T} (h : frQ f C C') : ∀ {O : Option (List op_T)}, whM C p a O → whM C' p a O
  | none, e => ⟨(h.1 112 p (by omega) (by omega) (by omega) (by omega)).trans e.1, (h.1 113 p (by omega) (by omega) (by omega) (by omega)).trans e.2⟩
  | some O, e => ⟨(h.1 112 p (by omega) (by omega) (by omega) (by omega)).trans e.1, (h.1 113 p (by omega) (by omega) (by omega) (by omega)).trans e.2.1, e.2.2.1, foM_Q h e.2.2.2⟩
set_option maxRecDepth 100000 in
theorem ACM_Q {f p : Nat} {C C' : co_T} {a : ac_T} (h : frQ f C C') (A : ACM C p a) : ACM C' p a := ⟨(h.1 110 p (by omega) (by omega) (by omega) (by omega)).trans A.1, (h.1 111 p (by omega) (by omega) (by omega) (by omega)).trans A.2.1, fun e => ⟨(h.1 113 p (by omega) (by omega) (by omega) (by omega)).trans (A.2.2.1 e).1, (A.2.2.1 e).2.1, itM_Q h (A.2.2.1 e).2.2⟩, fun e => ⟨(A.2.2.2.1 e).1, itM_Q h (A.2.2.2.1 e).2.1, whM_Q h (A.2.2.2.1 e).2.2⟩, fun e => whM_Q h (A.2.2.2.2 e)⟩
set_option maxRecDepth 100000 in
theorem RUM_Q {f r : Nat} {C C' : co_T} {u : ru_T} (h : frQ f C C') (U : RUM C r u) : RUM C' r u := by
  have e : ∀ k j, 77 ≤ k → k < 115 → C'.1 k j = C.1 k j := fun k j _ _ => h.1 k j (by omega) (by omega) (by omega) (by omega)
  obtain ⟨⟨h1, h2, h3, h4, h5, h6⟩, ⟨h7, h8, h9⟩, h10, h11⟩ := U
  refine ⟨⟨?_, ?_, ?_, ?_, fun j c hj => ?_, fun j c hj => ?_⟩, ⟨?_, ?_, ?_⟩, fun O hO => ⟨?_, foM_Q h (h10 O hO).2.1, ?_⟩, fun hn => ?_⟩
  · rw [e 84 _ (by omega) (by omega)]; exact h1
  · rw [e 85 _ (by omega) (by omega)]; exact h2
  · rw [e 86 _ (by omega) (by omega)]; exact h3
  · rw [e 87 _ (by omega) (by omega)]; exact h4
  · rw [e 88 _ (by omega) (by omega)]; exact h5 j c hj
  · rw [e 89 _ (by omega) (by omega)]; exact h6 j c hj
  · rw [e 90 _ (by omega) (by omega)]; exact h7
  · rw [e 92 _ (by omega) (by omega)]; exact h8
  · rw [e 93 _ (by omega) (by omega)]; exact h9
  · rw [e 113 _ (by omega) (by omega)]; exact (h10 O hO).1
  · rw [e 94 _ (by omega) (by omega)]; exact (h10 O hO).2.2
  · rw [e 94 _ (by omega) (by omega)]; exact h11 hn
set_option maxRecDepth 100000 in
theorem TRM_Q {f g : Nat} {C C' : co_T} {G : tr_T} (h : frQ f C C') (U : TRM C g G) : TRM C' g G := by
  have e : ∀ k j, 77 ≤ k → k < 115 → C'.1 k j = C.1 k j := fun k j _ _ => h.1 k j (by omega) (by omega) (by omega) (by omega)
  have e2 : ∀ k j, 77 ≤ k → k < 115 → C'.2.1 k j = C.2.1 k j := fun k j _ _ => h.2.1 k j (by omega) (by omega) (by omega)
  obtain ⟨⟨h1, h2, h3, h4, h5, h6⟩, h7, h8, h9, h10⟩ := U
  refine ⟨⟨?_, ?_, ?_, ?_, ?_, ?_⟩, ?_, fun q => ACM_Q h (h8 q), fun c l q1 q2 q3 => ⟨?_, ?_, foM_Q h (h9 c l q1 q2 q3).2.2⟩, fun q => ?_⟩
  · rw [e 97 _ (by omega) (by omega)]; exact h1
  · rw [e 98 _ (by omega) (by omega)]; exact h2
  · rw [e 99 _ (by omega) (by omega)]; exact h3
  · rw [e 100 _ (by omega) (by omega)]; exact h4
  · rw [e 101 _ (by omega) (by omega)]; exact h5
  · rw [e2 96 _ (by omega) (by omega)]; exact h6
  · cases hw : gWh G with
    | none =>
      rw [hw] at h7
      rw [e 104 _ (by omega) (by omega)]
      exact h7
    | some O =>
      rw [hw] at h7
      exact ⟨(e 104 _ (by omega) (by omega)).trans h7.1, (e 113 _ (by omega) (by omega)).trans h7.2.1, foM_Q h h7.2.2⟩
  · rw [e 102 _ (by omega) (by omega)]; exact (h9 c l q1 q2 q3).1
  · rw [e 113 _ (by omega) (by omega)]; exact (h9 c l q1 q2 q3).2.1
  · rw [e2 103 _ (by omega) (by omega)]; exact h10 q
set_option maxRecDepth 100000 in
theorem opM_m {α : Type} {P Q : α → Prop} (h : ∀ u, P u → Q u) {x y : Int32} (e : y = x) : ∀ {u : Option α}, opM P x u → opM Q y u
  | none, z => e.trans z
  | some _, z => ⟨e.trans z.1, h _ z.2⟩
set_option maxRecDepth 100000 in
theorem MSt_Q {f : Nat} {C C' : co_T} {S : st_T} (h : frQ f C C') (K : MSt C S) : MSt C' S := by
  obtain ⟨h1, h2, h3⟩ := K
  refine ⟨fun b hb => ⟨fun hp => (h.1 80 b (by omega) (by omega) (by omega) (by omega)).trans ((h1 b hb).1 hp), fun c hc => (h.2.1 82 _ (by omega) (by omega) (by omega)).trans ((h1 b hb).2 c hc)⟩, fun i hi => opM_m (fun u => RUM_Q h) (h.1 83 i (by omega) (by omega) (by omega) (by omega)) (h2 i hi), fun i hi => opM_m (fun u => TRM_Q h) (h.1 95 i (by omega) (by omega) (by omega) (by omega)) (h3 i hi)⟩
/-! rows, counters, depth, frames; nothing has ended it -/
def MX (C : co_T) (σ : es_T) : Prop := C.1 76 93 = nI σ.2.1 ∧ σ.2.1 ≤ 300 ∧ C.1 76 95 = nI σ.2.2 ∧ σ.2.2 ≤ 12
def MEn (C : co_T) (wd : Nat → Nat) (σ : es_T) (D F : Nat) : Prop := RWM C wd σ.1 ∧ (∀ b, b < 6 → C.1 118 b = (σ.1 b).2 + 1) ∧ MX C σ ∧ (C.1 76 94 = nI D ∧ D ≤ 12) ∧ (C.1 76 75 = nI F ∧ F ≤ 2 * D + 1) ∧ C.1 76 89 = 0 ∧ C.1 76 74 = 0
def bfM (C : co_T) (k f w : Nat) (v : rw_F) : Prop := ∀ c, c < w → C.2.1 k (6 * f + c) = e_V (v c)
def spM (C : co_T) (e : sp_T) : Prop := C.1 76 89 = nI e.1 ∧ (e.1 = 2 → C.1 76 90 = e.2.1 ∧ C.1 76 91 = e.2.2) ∧ (e.1 = 3 → (C.2.1 76 92).toInt32 = e.2.1)
section MEN
variable {L : Nat} {xs : Nat → Int32} {C : co_T} {t : ab_H} {d sl D F k b c i f : Nat} {S : st_T} {N O : rw_F} {wd : Nat → Nat} {rs : rs_T} {u : ru_T} {r : ro_T} {σ : es_T}
set_option maxRecDepth 100000 in
theorem m_256 {z : Int32} (h : C.1 76 89 = 0) : Wd L xs d y_256 (0, [(0, .ref 176), (1, .int z)], [], MH C t, sl) (Rt none (MH (sI C 76 89 z) t) sl) nX := by
  refine w_p (pc1 := 1) rfl rfl ?_
  refine w_p (pc1 := 2) rfl rfl ?_
  refine w_m0 (pc1 := 5) (st1 := .int 0 :: _) rfl rfl (h_gIe (j := 89) rfl rfl rfl rfl rfl (h)) rfl ?_
  refine w_f (a := 12) (b := 8) rfl rfl rfl ?_
  refine w_p (pc1 := 9) rfl rfl ?_
  refine w_p (pc1 := 16) rfl rfl ?_
  refine w_m0 (pc1 := 19) rfl rfl (h_pI (j := 89) rfl rfl rfl rfl rfl rfl rfl ⟨rfl, rfl⟩ rfl) rfl ?_
  refine w_r rfl rfl rfl (fun _ _ => rfl) rfl ?_
  exact ⟨rfl, rfl, rfl⟩
set_option maxRecDepth 100000 in
theorem lp_261 {ii : Int32} (W : RWM C wd rs) (hb : b < 6) : ∀ (suf pre : List ro_T), pre ++ suf = (rs b).1 → Wd L xs d y_261 (2, [(3, .int (nI (pre.length))), (0, .ref 176), (1, .int (nI (b))), (2, .int (ii))], [], MH C t, sl) (Rt (some (.int (fdI (fdr ii suf pre.length)))) (MH C t) sl) nX
  | [], pre, hp => by
    rw [List.append_nil] at hp
    have hl := congrArg List.length hp
    obtain ⟨g1, g2, g3, g4⟩ := W b hb
    refine w_p (pc1 := 3) rfl rfl ?_
    refine w_p (pc1 := 4) rfl rfl ?_
    refine w_m0 (pc1 := 7) rfl rfl (h_gC rfl rfl rfl rfl) rfl ?_
    refine w_p (pc1 := 8) rfl rfl ?_
    refine w_m0 (pc1 := 9) (st1 := .int (nI ((rs b).1.length)) :: _) rfl rfl (n_ile (e := b) rfl rfl rfl (by omega) (g2)) rfl ?_
    refine w_t (a := 35) (b := 12) (bN_ge_t (a := pre.length) (b := (rs b).1.length) (by omega) (by omega) (by omega)) rfl rfl ?_
    refine w_p (pc1 := 36) (st1 := .int (-1) :: _) rfl rfl ?_
    refine w_r rfl rfl rfl (fun _ _ => rfl) cr_int ?_
    exact ⟨rfl, rfl, rfl⟩
  | q :: suf, pre, hp => by
    obtain ⟨h1, h2, h3⟩ := get_ap hp
    obtain ⟨g1, g2, g3, g4⟩ := W b hb
    have hq : C.1 115 (40 * b + pre.length) = q.1 := by rw [show 40 * b + pre.length = b * 40 + pre.length by omega]; exact (g4 _ _ h1).1
    by_cases e : q.1 = ii
    · have e0 : fdr ii (q :: suf) pre.length = some (pre.length, q) := if_pos e
      rw [e0]
      refine w_p (pc1 := 3) rfl rfl ?_
      refine w_p (pc1 := 4) rfl rfl ?_
      refine w_m0 (pc1 := 7) rfl rfl (h_gC rfl rfl rfl rfl) rfl ?_
      refine w_p (pc1 := 8) rfl rfl ?_
      refine w_m0 (pc1 := 9) (st1 := .int (nI ((rs b).1.length)) :: _) rfl rfl (n_ile (e := b) rfl rfl rfl (by omega) (g2)) rfl ?_
      refine w_f (a := 35) (b := 12) (bN_ge_f (a := pre.length) (b := (rs b).1.length) (by omega) (by omega) (by omega)) rfl rfl ?_
      refine w_p (pc1 := 13) rfl rfl ?_
      refine w_m0 (pc1 := 16) rfl rfl (h_gC rfl rfl rfl rfl) rfl ?_
      refine w_p (pc1 := 18) (st1 := .int 40 :: _) rfl rfl ?_
      refine w_p (pc1 := 19) rfl rfl ?_
      refine w_imul (pc1 := 20) (u := nI (40)) (v := nI (b)) (z := nI (40 * b)) rfl (nK_mul) rfl ?_
      refine w_p (pc1 := 21) rfl rfl ?_
      refine w_iadd (pc1 := 22) (u := nI (40 * b)) (v := nI (pre.length)) (z := nI (40 * b + (pre.length))) rfl (nK_add) rfl ?_
      refine w_m0 (pc1 := 23) (st1 := .int (q.1) :: _) rfl rfl (n_ile (e := 40 * b + (pre.length)) rfl rfl rfl (by omega) (hq)) rfl ?_
      refine w_p (pc1 := 24) rfl rfl ?_
      refine w_f (a := 29) (b := 27) (cb_ne_f (by exact e)) rfl rfl ?_
      refine w_p (pc1 := 28) rfl rfl ?_
      refine w_r rfl rfl rfl (fun _ _ => rfl) cr_int ?_
      exact ⟨rfl, rfl, rfl⟩
    · have e0 : fdr ii (q :: suf) pre.length = fdr ii suf (pre.length + 1) := if_neg e
      rw [e0]
      refine w_p (pc1 := 3) rfl rfl ?_
      refine w_p (pc1 := 4) rfl rfl ?_
      refine w_m0 (pc1 := 7) rfl rfl (h_gC rfl rfl rfl rfl) rfl ?_
      refine w_p (pc1 := 8) rfl rfl ?_
      refine w_m0 (pc1 := 9) (st1 := .int (nI ((rs b).1.length)) :: _) rfl rfl (n_ile (e := b) rfl rfl rfl (by omega) (g2)) rfl ?_
      refine w_f (a := 35) (b := 12) (bN_ge_f (a := pre.length) (b := (rs b).1.length) (by omega) (by omega) (by omega)) rfl rfl ?_
      refine w_p (pc1 := 13) rfl rfl ?_
      refine w_m0 (pc1 := 16) rfl rfl (h_gC rfl rfl rfl rfl) rfl ?_
      refine w_p (pc1 := 18) (st1 := .int 40 :: _) rfl rfl ?_
      refine w_p (pc1 := 19) rfl rfl ?_
      refine w_imul (pc1 := 20) (u := nI (40)) (v := nI (b)) (z := nI (40 * b)) rfl (nK_mul) rfl ?_
      refine w_p (pc1 := 21) rfl rfl ?_
      refine w_iadd (pc1 := 22) (u := nI (40 * b)) (v := nI (pre.length)) (z := nI (40 * b + (pre.length))) rfl (nK_add) rfl ?_
      refine w_m0 (pc1 := 23) (st1 := .int (q.1) :: _) rfl rfl (n_ile (e := 40 * b + (pre.length)) rfl rfl rfl (by omega) (hq)) rfl ?_
      refine w_p (pc1 := 24) rfl rfl ?_
      refine w_t (a := 29) (b := 27) (cb_ne_t (by exact e)) rfl rfl ?_
      refine w_iinc (pc1 := 32) (u := nI (pre.length)) (z := nI (pre.length + 1)) (al1 := [(3, .int (nI (pre.length + 1))), (0, .ref 176), (1, .int (nI (b))), (2, .int (ii))]) rfl rfl rfl nK_1 rfl rfl ?_
      refine w_p (pc1 := 2) rfl rfl ?_
      have ih := lp_261 (ii := ii) W hb suf (pre ++ [q]) h3
      rw [len_s] at ih
      exact ih
set_option maxRecDepth 100000 in
theorem m_261 {ii : Int32} (W : RWM C wd rs) (hb : b < 6) : Wd L xs d y_261 (0, [(0, .ref 176), (1, .int (nI (b))), (2, .int (ii))], [], MH C t, sl) (Rt (some (.int (fdI (fdr ii (rs b).1 0)))) (MH C t) sl) nX := by
  refine w_p (pc1 := 1) (st1 := .int 0 :: _) rfl rfl ?_
  refine w_p (pc1 := 2) (al1 := [(3, .int 0), (0, .ref 176), (1, .int (nI (b))), (2, .int (ii))]) rfl rfl ?_
  exact lp_261 W hb (rs b).1 [] rfl
set_option maxRecDepth 100000 in
theorem lp_271 (W : RWM C wd rs) (U : RUM C i u) (hi : i < 24) (hR : okR wd u) (hK : rKd u = 4) (hb1 : rTg u = some b) (h6b : wd b ≤ 6) (hf : f < 40) (hB : bfM C 137 f (wd b) O) (hr : (rs (rTb u)).1[k]? = some r) : ∀ suf pre sufe pree : List Nat, pre ++ suf = rCs u → pree ++ sufe = rOs u → pree.length = pre.length → Wd L xs (d + 1) y_271 (11, [(5, .int (nI (pre.length))), (4, .int (nI (rTb u))), (0, .ref 176), (1, .int (nI (i))), (2, .int (nI (k))), (3, .int (nI (f)))], [], MH C t, sl) (Rt (some (.int (ck (alk suf sufe r.2 O)))) (MH C t) sl) nX
  | [], pre, sufe, pree, hp, hpe, hpl => by
    rw [List.append_nil] at hp
    have hl2 := congrArg List.length hp
    obtain ⟨⟨b9, hb9, hb2, hb3⟩, hll⟩ := hR.2.1 hK
    rw [hb1] at hb9
    cases hb9
    have h6 := hR.1.2.2.1
    have hkk := get_lt hr
    have h40 := (W _ hR.1.2.1).2.2.1
    have w6 := (W _ hR.1.2.1).1
    have e0 : alk [] sufe r.2 O = true := by unfold alk; rfl
    rw [e0]
    refine w_p (pc1 := 13) rfl rfl ?_
    refine w_p (pc1 := 14) rfl rfl ?_
    refine w_m0 (pc1 := 17) rfl rfl (h_gC rfl rfl rfl rfl) rfl ?_
    refine w_p (pc1 := 18) rfl rfl ?_
    refine w_m0 (pc1 := 19) (st1 := .int (nI ((rCs u).length)) :: _) rfl rfl (n_ile (e := i) rfl rfl rfl (by omega) (U.1.2.2.2.1)) rfl ?_
    refine w_t (a := 75) (b := 22) (bN_ge_t (a := pre.length) (b := (rCs u).length) (by omega) (by omega) (by omega)) rfl rfl ?_
    refine w_p (pc1 := 76) (st1 := .int 1 :: _) rfl rfl ?_
    refine w_r rfl rfl rfl (fun _ _ => rfl) rfl ?_
    exact ⟨rfl, rfl, rfl⟩
  | c :: suf, pre, [], pree, hp, hpe, hpl => by
    obtain ⟨h1, h2, h3⟩ := get_ap hp
    obtain ⟨_, hll⟩ := hR.2.1 hK
    rw [List.append_nil] at hpe
    subst hpe
    omega
  | c :: suf, pre, e :: sufe, pree, hp, hpe, hpl => by
    obtain ⟨h1, h2, h3⟩ := get_ap hp
    obtain ⟨g1, g2, g3⟩ := get_ap hpe
    obtain ⟨⟨b9, hb9, hb2, hb3⟩, hll⟩ := hR.2.1 hK
    rw [hb1] at hb9
    cases hb9
    have h6 := hR.1.2.2.1
    have hkk := get_lt hr
    have h40 := (W _ hR.1.2.1).2.2.1
    have w6 := (W _ hR.1.2.1).1
    have hcf := U.1.2.2.2.2.1 _ _ h1
    have hcf2 := U.1.2.2.2.2.2 _ _ g1
    rw [hpl] at hcf2
    have hcw := hR.1.2.2.2 c (List.mem_of_getElem? h1)
    have hew := hb3 e (List.mem_of_getElem? g1)
    have hm := cellM (L := L) (xs := xs) (t := t) (d := d) (sl := 0) W hR.1.2.1 hr hcw
    have hv := hB e hew
    by_cases hx : r.2 c = O e
    · have e0 : alk (c :: suf) (e :: sufe) r.2 O = alk suf sufe r.2 O := by
        show (decide (r.2 c = O e) && alk suf sufe r.2 O) = _
        rw [decide_eq_true hx, Bool.true_and]
      rw [e0]
      refine w_p (pc1 := 13) rfl rfl ?_
      refine w_p (pc1 := 14) rfl rfl ?_
      refine w_m0 (pc1 := 17) rfl rfl (h_gC rfl rfl rfl rfl) rfl ?_
      refine w_p (pc1 := 18) rfl rfl ?_
      refine w_m0 (pc1 := 19) (st1 := .int (nI ((rCs u).length)) :: _) rfl rfl (n_ile (e := i) rfl rfl rfl (by omega) (U.1.2.2.2.1)) rfl ?_
      refine w_f (a := 75) (b := 22) (bN_ge_f (a := pre.length) (b := (rCs u).length) (by omega) (by omega) (by omega)) rfl rfl ?_
      refine w_p (pc1 := 23) rfl rfl ?_
      refine w_p (pc1 := 25) rfl rfl ?_
      refine w_p (pc1 := 26) rfl rfl ?_
      refine w_p (pc1 := 27) rfl rfl ?_
      refine w_m0 (pc1 := 30) rfl rfl (h_gC rfl rfl rfl rfl) rfl ?_
      refine w_p (pc1 := 32) (st1 := .int 6 :: _) rfl rfl ?_
      refine w_p (pc1 := 33) rfl rfl ?_
      refine w_imul (pc1 := 34) (u := nI (6)) (v := nI (i)) (z := nI (6 * i)) rfl (nK_mul) rfl ?_
      refine w_p (pc1 := 36) rfl rfl ?_
      refine w_iadd (pc1 := 37) (u := nI (6 * i)) (v := nI (pre.length)) (z := nI (6 * i + (pre.length))) rfl (nK_add) rfl ?_
      refine w_m0 (pc1 := 38) (st1 := .int (nI (c)) :: _) rfl rfl (n_ile (e := 6 * i + (pre.length)) rfl rfl rfl (by omega) (hcf)) rfl ?_
      refine w_je (pc1 := 41) (vs := [.ref 176, .int (nI (rTb u)), .int (nI (k)), .int (nI (c))]) (rest := []) (st1 := [.long (e_V (r.2 c))]) (hm) rfl rfl rfl (fun _ _ => rfl) rfl (by exact cl_v my_263 rfl rfl rfl (Nat.le_of_ble_eq_true rfl) rfl (MH_obj rfl rfl) rfl (by decide) rfl rfl) (by rfl) (Nat.le_of_ble_eq_true rfl) (Nat.le_of_ble_eq_true rfl) rfl (by rfl) ?_
      refine w_p (pc1 := 42) rfl rfl ?_
      refine w_m0 (pc1 := 45) rfl rfl (h_gC rfl rfl rfl rfl) rfl ?_
      refine w_p (pc1 := 47) (st1 := .int 6 :: _) rfl rfl ?_
      refine w_p (pc1 := 48) rfl rfl ?_
      refine w_imul (pc1 := 49) (u := nI (6)) (v := nI (f)) (z := nI (6 * f)) rfl (nK_mul) rfl ?_
      refine w_p (pc1 := 50) rfl rfl ?_
      refine w_m0 (pc1 := 53) rfl rfl (h_gC rfl rfl rfl rfl) rfl ?_
      refine w_p (pc1 := 55) (st1 := .int 6 :: _) rfl rfl ?_
      refine w_p (pc1 := 56) rfl rfl ?_
      refine w_imul (pc1 := 57) (u := nI (6)) (v := nI (i)) (z := nI (6 * i)) rfl (nK_mul) rfl ?_
      refine w_p (pc1 := 59) rfl rfl ?_
      refine w_iadd (pc1 := 60) (u := nI (6 * i)) (v := nI (pre.length)) (z := nI (6 * i + (pre.length))) rfl (nK_add) rfl ?_
      refine w_m0 (pc1 := 61) (st1 := .int (nI (e)) :: _) rfl rfl (n_ile (e := 6 * i + (pre.length)) rfl rfl rfl (by omega) (hcf2)) rfl ?_
      refine w_iadd (pc1 := 62) (u := nI (6 * f)) (v := nI (e)) (z := nI (6 * f + e)) rfl (nK_add) rfl ?_
      refine w_m0 (pc1 := 63) (st1 := .long (e_V (O e)) :: _) rfl rfl (n_lle (e := 6 * f + e) rfl rfl rfl (by omega) (hv)) rfl ?_
      refine w_p (pc1 := 64) rfl rfl ?_
      refine w_t (a := 69) (b := 67) (lb_eq_t (by rw [hx])) rfl rfl ?_
      refine w_iinc (pc1 := 72) (u := nI (pre.length)) (z := nI (pre.length + 1)) (al1 := [(5, .int (nI (pre.length + 1))), (4, .int (nI (rTb u))), (0, .ref 176), (1, .int (nI (i))), (2, .int (nI (k))), (3, .int (nI (f)))]) rfl rfl rfl nK_1 rfl rfl ?_
      refine w_p (pc1 := 11) rfl rfl ?_
      have := lp_271 W U hi hR hK hb1 h6b hf hB hr suf (pre ++ [c]) sufe (pree ++ [e]) h3 g3 (by rw [len_s, len_s, hpl])
      rw [len_s] at this
      exact this
    · have e0 : alk (c :: suf) (e :: sufe) r.2 O = false := by
        show (decide (r.2 c = O e) && alk suf sufe r.2 O) = _
        rw [decide_eq_false hx, Bool.false_and]
      rw [e0]
      refine w_p (pc1 := 13) rfl rfl ?_
      refine w_p (pc1 := 14) rfl rfl ?_
      refine w_m0 (pc1 := 17) rfl rfl (h_gC rfl rfl rfl rfl) rfl ?_
      refine w_p (pc1 := 18) rfl rfl ?_
      refine w_m0 (pc1 := 19) (st1 := .int (nI ((rCs u).length)) :: _) rfl rfl (n_ile (e := i) rfl rfl rfl (by omega) (U.1.2.2.2.1)) rfl ?_
      refine w_f (a := 75) (b := 22) (bN_ge_f (a := pre.length) (b := (rCs u).length) (by omega) (by omega) (by omega)) rfl rfl ?_
      refine w_p (pc1 := 23) rfl rfl ?_
      refine w_p (pc1 := 25) rfl rfl ?_
      refine w_p (pc1 := 26) rfl rfl ?_
      refine w_p (pc1 := 27) rfl rfl ?_
      refine w_m0 (pc1 := 30) rfl rfl (h_gC rfl rfl rfl rfl) rfl ?_
      refine w_p (pc1 := 32) (st1 := .int 6 :: _) rfl rfl ?_
      refine w_p (pc1 := 33) rfl rfl ?_
      refine w_imul (pc1 := 34) (u := nI (6)) (v := nI (i)) (z := nI (6 * i)) rfl (nK_mul) rfl ?_
      refine w_p (pc1 := 36) rfl rfl ?_
      refine w_iadd (pc1 := 37) (u := nI (6 * i)) (v := nI (pre.length)) (z := nI (6 * i + (pre.length))) rfl (nK_add) rfl ?_
      refine w_m0 (pc1 := 38) (st1 := .int (nI (c)) :: _) rfl rfl (n_ile (e := 6 * i + (pre.length)) rfl rfl rfl (by omega) (hcf)) rfl ?_
      refine w_je (pc1 := 41) (vs := [.ref 176, .int (nI (rTb u)), .int (nI (k)), .int (nI (c))]) (rest := []) (st1 := [.long (e_V (r.2 c))]) (hm) rfl rfl rfl (fun _ _ => rfl) rfl (by exact cl_v my_263 rfl rfl rfl (Nat.le_of_ble_eq_true rfl) rfl (MH_obj rfl rfl) rfl (by decide) rfl rfl) (by rfl) (Nat.le_of_ble_eq_true rfl) (Nat.le_of_ble_eq_true rfl) rfl (by rfl) ?_
      refine w_p (pc1 := 42) rfl rfl ?_
      refine w_m0 (pc1 := 45) rfl rfl (h_gC rfl rfl rfl rfl) rfl ?_
      refine w_p (pc1 := 47) (st1 := .int 6 :: _) rfl rfl ?_
      refine w_p (pc1 := 48) rfl rfl ?_
      refine w_imul (pc1 := 49) (u := nI (6)) (v := nI (f)) (z := nI (6 * f)) rfl (nK_mul) rfl ?_
      refine w_p (pc1 := 50) rfl rfl ?_
      refine w_m0 (pc1 := 53) rfl rfl (h_gC rfl rfl rfl rfl) rfl ?_
      refine w_p (pc1 := 55) (st1 := .int 6 :: _) rfl rfl ?_
      refine w_p (pc1 := 56) rfl rfl ?_
      refine w_imul (pc1 := 57) (u := nI (6)) (v := nI (i)) (z := nI (6 * i)) rfl (nK_mul) rfl ?_
      refine w_p (pc1 := 59) rfl rfl ?_
      refine w_iadd (pc1 := 60) (u := nI (6 * i)) (v := nI (pre.length)) (z := nI (6 * i + (pre.length))) rfl (nK_add) rfl ?_
      refine w_m0 (pc1 := 61) (st1 := .int (nI (e)) :: _) rfl rfl (n_ile (e := 6 * i + (pre.length)) rfl rfl rfl (by omega) (hcf2)) rfl ?_
      refine w_iadd (pc1 := 62) (u := nI (6 * f)) (v := nI (e)) (z := nI (6 * f + e)) rfl (nK_add) rfl ?_
      refine w_m0 (pc1 := 63) (st1 := .long (e_V (O e)) :: _) rfl rfl (n_lle (e := 6 * f + e) rfl rfl rfl (by omega) (hv)) rfl ?_
      refine w_p (pc1 := 64) rfl rfl ?_
      refine w_f (a := 69) (b := 67) (lb_eq_f (by exact fun z => hx (e_V_inj z))) rfl rfl ?_
      refine w_p (pc1 := 68) (st1 := .int 0 :: _) rfl rfl ?_
      refine w_r rfl rfl rfl (fun _ _ => rfl) rfl ?_
      exact ⟨rfl, rfl, rfl⟩
set_option maxRecDepth 100000 in
theorem m_271 (W : RWM C wd rs) (U : RUM C i u) (hi : i < 24) (hR : okR wd u) (hK : rKd u = 4) (hb1 : rTg u = some b) (h6b : wd b ≤ 6) (hf : f < 40) (hB : bfM C 137 f (wd b) O) (hr : (rs (rTb u)).1[k]? = some r) : Wd L xs (d + 1) y_271 (0, [(0, .ref 176), (1, .int (nI (i))), (2, .int (nI (k))), (3, .int (nI (f)))], [], MH C t, sl) (Rt (some (.int (ck (rfg u O r)))) (MH C t) sl) nX := by
  refine w_p (pc1 := 1) rfl rfl ?_
  refine w_m0 (pc1 := 4) rfl rfl (h_gC rfl rfl rfl rfl) rfl ?_
  refine w_p (pc1 := 5) rfl rfl ?_
  refine w_m0 (pc1 := 6) (st1 := .int (nI (rTb u)) :: _) rfl rfl (n_ile (e := i) rfl rfl rfl (by omega) (U.1.2.1)) rfl ?_
  refine w_p (pc1 := 8) (al1 := [(4, .int (nI (rTb u))), (0, .ref 176), (1, .int (nI (i))), (2, .int (nI (k))), (3, .int (nI (f)))]) rfl rfl ?_
  refine w_p (pc1 := 9) (st1 := .int 0 :: _) rfl rfl ?_
  refine w_p (pc1 := 11) (al1 := [(5, .int 0), (4, .int (nI (rTb u))), (0, .ref 176), (1, .int (nI (i))), (2, .int (nI (k))), (3, .int (nI (f)))]) rfl rfl ?_
  exact lp_271 W U hi hR hK hb1 h6b hf hB hr (rCs u) [] (rOs u) [] rfl rfl rfl
set_option maxRecDepth 100000 in
theorem lp_270_2 (U : RUM C i u) (hi : i < 24) (hR : okR wd u) (hK : rKd u = 4) (hb1 : rTg u = some b) (h6b : wd b ≤ 6) (hf : f < 40) (hB : bfM C 137 f (wd b) O) : ∀ (suf pre : List Nat), pre ++ suf = rOs u → Wd L xs d y_270 (19, [(4, .int (nI (pre.length))), (3, .int 1), (0, .ref 176), (1, .int (nI (i))), (2, .int (nI (f)))], [], MH C t, sl) (Rt (some (.int (ck (!nul suf O)))) (MH C t) sl) nX
  | [], pre, hp => by
    rw [List.append_nil] at hp
    have hl2 := congrArg List.length hp
    obtain ⟨⟨b9, hb9, hb2, hb3⟩, hll⟩ := hR.2.1 hK
    rw [hb1] at hb9
    cases hb9
    have h6 := hR.1.2.2.1
    have e0 : (!nul [] O) = true := rfl
    rw [e0]
    refine w_p (pc1 := 21) rfl rfl ?_
    refine w_p (pc1 := 22) rfl rfl ?_
    refine w_m0 (pc1 := 25) rfl rfl (h_gC rfl rfl rfl rfl) rfl ?_
    refine w_p (pc1 := 26) rfl rfl ?_
    refine w_m0 (pc1 := 27) (st1 := .int (nI ((rCs u).length)) :: _) rfl rfl (n_ile (e := i) rfl rfl rfl (by omega) (U.1.2.2.2.1)) rfl ?_
    refine w_t (a := 109) (b := 30) (bN_ge_t (a := pre.length) (b := (rCs u).length) (by omega) (by omega) (by omega)) rfl rfl ?_
    refine w_p (pc1 := 110) rfl rfl ?_
    refine w_r rfl rfl rfl (fun _ _ => rfl) rfl ?_
    exact ⟨rfl, rfl, rfl⟩
  | c :: suf, pre, hp => by
    obtain ⟨h1, h2, h3⟩ := get_ap hp
    obtain ⟨⟨b9, hb9, hb2, hb3⟩, hll⟩ := hR.2.1 hK
    rw [hb1] at hb9
    cases hb9
    have h6 := hR.1.2.2.1
    have hcf := U.1.2.2.2.2.2 _ _ h1
    have hew := hb3 c (List.mem_of_getElem? h1)
    have hv := hB c hew
    have ih := lp_270_2 U hi hR hK hb1 h6b hf hB suf (pre ++ [c])
    rw [len_s] at ih
    have en : nul (c :: suf) O = (decide (O c = none) || nul suf O) := rfl
    cases hx : O c with
    | none =>
      have e0 : (!nul (c :: suf) O) = false := by rw [en, hx]; rfl
      rw [e0]
      rw [hx] at hv
      refine w_p (pc1 := 21) rfl rfl ?_
      refine w_p (pc1 := 22) rfl rfl ?_
      refine w_m0 (pc1 := 25) rfl rfl (h_gC rfl rfl rfl rfl) rfl ?_
      refine w_p (pc1 := 26) rfl rfl ?_
      refine w_m0 (pc1 := 27) (st1 := .int (nI ((rCs u).length)) :: _) rfl rfl (n_ile (e := i) rfl rfl rfl (by omega) (U.1.2.2.2.1)) rfl ?_
      refine w_f (a := 109) (b := 30) (bN_ge_f (a := pre.length) (b := (rCs u).length) (by omega) (by omega) (by omega)) rfl rfl ?_
      refine w_p (pc1 := 31) rfl rfl ?_
      refine w_m0 (pc1 := 34) rfl rfl (h_gC rfl rfl rfl rfl) rfl ?_
      refine w_p (pc1 := 36) (st1 := .int 6 :: _) rfl rfl ?_
      refine w_p (pc1 := 37) rfl rfl ?_
      refine w_imul (pc1 := 38) (u := nI (6)) (v := nI (i)) (z := nI (6 * i)) rfl (nK_mul) rfl ?_
      refine w_p (pc1 := 40) rfl rfl ?_
      refine w_iadd (pc1 := 41) (u := nI (6 * i)) (v := nI (pre.length)) (z := nI (6 * i + (pre.length))) rfl (nK_add) rfl ?_
      refine w_m0 (pc1 := 42) (st1 := .int (nI (c)) :: _) rfl rfl (n_ile (e := 6 * i + (pre.length)) rfl rfl rfl (by omega) (hcf)) rfl ?_
      refine w_p (pc1 := 44) (al1 := [(5, .int (nI (c))), (4, .int (nI (pre.length))), (3, .int 1), (0, .ref 176), (1, .int (nI (i))), (2, .int (nI (f)))]) rfl rfl ?_
      refine w_p (pc1 := 45) rfl rfl ?_
      refine w_m0 (pc1 := 48) rfl rfl (h_gC rfl rfl rfl rfl) rfl ?_
      refine w_p (pc1 := 50) (st1 := .int 6 :: _) rfl rfl ?_
      refine w_p (pc1 := 51) rfl rfl ?_
      refine w_imul (pc1 := 52) (u := nI (6)) (v := nI (f)) (z := nI (6 * f)) rfl (nK_mul) rfl ?_
      refine w_p (pc1 := 54) rfl rfl ?_
      refine w_iadd (pc1 := 55) (u := nI (6 * f)) (v := nI (c)) (z := nI (6 * f + c)) rfl (nK_add) rfl ?_
      refine w_m0 (pc1 := 56) (st1 := .long (e_V none) :: _) rfl rfl (n_lle (e := 6 * f + c) rfl rfl rfl (by omega) (hv)) rfl ?_
      refine w_m0 (pc1 := 59) (st1 := .long (-9223372036854775808) :: _) rfl rfl rfl rfl ?_
      refine w_p (pc1 := 60) rfl rfl ?_
      refine w_f (a := 65) (b := 63) (lb_ne_f (by rfl)) rfl rfl ?_
      refine w_p (pc1 := 64) (st1 := .int 0 :: _) rfl rfl ?_
      refine w_r rfl rfl rfl (fun _ _ => rfl) rfl ?_
      exact ⟨rfl, rfl, rfl⟩
    | some x =>
      rw [hx] at hv

      have e0 : (!nul (c :: suf) O) = (!nul suf O) := by rw [en, hx, decide_eq_false (by intro z; cases z), Bool.false_or]
      rw [e0]
      refine w_p (pc1 := 21) rfl rfl ?_
      refine w_p (pc1 := 22) rfl rfl ?_
      refine w_m0 (pc1 := 25) rfl rfl (h_gC rfl rfl rfl rfl) rfl ?_
      refine w_p (pc1 := 26) rfl rfl ?_
      refine w_m0 (pc1 := 27) (st1 := .int (nI ((rCs u).length)) :: _) rfl rfl (n_ile (e := i) rfl rfl rfl (by omega) (U.1.2.2.2.1)) rfl ?_
      refine w_f (a := 109) (b := 30) (bN_ge_f (a := pre.length) (b := (rCs u).length) (by omega) (by omega) (by omega)) rfl rfl ?_
      refine w_p (pc1 := 31) rfl rfl ?_
      refine w_m0 (pc1 := 34) rfl rfl (h_gC rfl rfl rfl rfl) rfl ?_
      refine w_p (pc1 := 36) (st1 := .int 6 :: _) rfl rfl ?_
      refine w_p (pc1 := 37) rfl rfl ?_
      refine w_imul (pc1 := 38) (u := nI (6)) (v := nI (i)) (z := nI (6 * i)) rfl (nK_mul) rfl ?_
      refine w_p (pc1 := 40) rfl rfl ?_
      refine w_iadd (pc1 := 41) (u := nI (6 * i)) (v := nI (pre.length)) (z := nI (6 * i + (pre.length))) rfl (nK_add) rfl ?_
      refine w_m0 (pc1 := 42) (st1 := .int (nI (c)) :: _) rfl rfl (n_ile (e := 6 * i + (pre.length)) rfl rfl rfl (by omega) (hcf)) rfl ?_
      refine w_p (pc1 := 44) (al1 := [(5, .int (nI (c))), (4, .int (nI (pre.length))), (3, .int 1), (0, .ref 176), (1, .int (nI (i))), (2, .int (nI (f)))]) rfl rfl ?_
      refine w_p (pc1 := 45) rfl rfl ?_
      refine w_m0 (pc1 := 48) rfl rfl (h_gC rfl rfl rfl rfl) rfl ?_
      refine w_p (pc1 := 50) (st1 := .int 6 :: _) rfl rfl ?_
      refine w_p (pc1 := 51) rfl rfl ?_
      refine w_imul (pc1 := 52) (u := nI (6)) (v := nI (f)) (z := nI (6 * f)) rfl (nK_mul) rfl ?_
      refine w_p (pc1 := 54) rfl rfl ?_
      refine w_iadd (pc1 := 55) (u := nI (6 * f)) (v := nI (c)) (z := nI (6 * f + c)) rfl (nK_add) rfl ?_
      refine w_m0 (pc1 := 56) (st1 := .long (e_V (some x)) :: _) rfl rfl (n_lle (e := 6 * f + c) rfl rfl rfl (by omega) (hv)) rfl ?_
      refine w_m0 (pc1 := 59) (st1 := .long (-9223372036854775808) :: _) rfl rfl rfl rfl ?_
      refine w_p (pc1 := 60) rfl rfl ?_
      refine w_t (a := 65) (b := 63) (lb_ne_t (by exact e_V_ne x)) rfl rfl ?_
      refine w_p (pc1 := 66) rfl rfl ?_
      refine w_t (a := 97) (b := 69) rfl rfl rfl ?_
      refine w_p (pc1 := 98) (st1 := .int 1 :: _) rfl rfl ?_
      refine w_p (pc1 := 102) rfl rfl ?_
      refine w_p (pc1 := 103) (al1 := [(3, .int 1), (5, .int (nI (c))), (4, .int (nI (pre.length))), (0, .ref 176), (1, .int (nI (i))), (2, .int (nI (f)))]) rfl rfl ?_
      refine w_iinc (pc1 := 106) (u := nI (pre.length)) (z := nI (pre.length + 1)) (al1 := [(4, .int (nI (pre.length + 1))), (3, .int 1), (5, .int (nI (c))), (0, .ref 176), (1, .int (nI (i))), (2, .int (nI (f)))]) rfl rfl rfl nK_1 rfl rfl ?_
      refine w_p (pc1 := 19) rfl rfl ?_
      refine Wd_al (al := [(4, .int (nI (pre.length + 1))), (3, .int 1), (0, .ref 176), (1, .int (nI (i))), (2, .int (nI (f)))]) (sba_p [0, 1, 3, 4, 5] rfl rfl) ?_
      exact ih h3
set_option maxRecDepth 100000 in
theorem m_270_2 (U : RUM C i u) (hi : i < 24) (hR : okR wd u) (hK : rKd u = 4) (hb1 : rTg u = some b) (h6b : wd b ≤ 6) (hf : f < 40) (hB : bfM C 137 f (wd b) O) (hk : C.1 128 f = 2) : Wd L xs d y_270 (0, [(0, .ref 176), (1, .int (nI (i))), (2, .int (nI (f)))], [], MH C t, sl) (Rt (some (.int (ck (tch 2 (rOs u) O N)))) (MH C t) sl) nX := by
  have e0 : tch 2 (rOs u) O N = !nul (rOs u) O := by unfold tch; rw [decide_eq_true rfl, Bool.true_or, Bool.and_true]
  rw [e0]
  refine w_p (pc1 := 1) rfl rfl ?_
  refine w_m0 (pc1 := 4) rfl rfl (h_gC rfl rfl rfl rfl) rfl ?_
  refine w_p (pc1 := 5) rfl rfl ?_
  refine w_m0 (pc1 := 6) (st1 := .int 2 :: _) rfl rfl (n_ile (e := f) rfl rfl rfl (by omega) (hk)) rfl ?_
  refine w_p (pc1 := 7) (st1 := .int 2 :: _) rfl rfl ?_
  refine w_f (a := 14) (b := 10) rfl rfl rfl ?_
  refine w_p (pc1 := 11) (st1 := .int 1 :: _) rfl rfl ?_
  refine w_p (pc1 := 15) rfl rfl ?_
  refine w_p (pc1 := 16) (al1 := [(3, .int 1), (0, .ref 176), (1, .int (nI (i))), (2, .int (nI (f)))]) rfl rfl ?_
  refine w_p (pc1 := 17) (st1 := .int 0 :: _) rfl rfl ?_
  refine w_p (pc1 := 19) (al1 := [(4, .int 0), (3, .int 1), (0, .ref 176), (1, .int (nI (i))), (2, .int (nI (f)))]) rfl rfl ?_
  exact lp_270_2 U hi hR hK hb1 h6b hf hB (rOs u) [] rfl
set_option maxRecDepth 100000 in
theorem lp_270_1 (U : RUM C i u) (hi : i < 24) (hR : okR wd u) (hK : rKd u = 4) (hb1 : rTg u = some b) (h6b : wd b ≤ 6) (hf : f < 40) (hB : bfM C 137 f (wd b) O) (hB2 : bfM C 136 f (wd b) N) : ∀ (suf pre : List Nat) (g : Bool), pre ++ suf = rOs u → Wd L xs d y_270 (19, [(4, .int (nI (pre.length))), (3, .int (ck g)), (0, .ref 176), (1, .int (nI (i))), (2, .int (nI (f)))], [], MH C t, sl) (Rt (some (.int (ck (!nul suf O && (g || suf.any (fun c => !decide (N c = O c))))))) (MH C t) sl) nX
  | [], pre, g, hp => by
    rw [List.append_nil] at hp
    have hl2 := congrArg List.length hp
    obtain ⟨⟨b9, hb9, hb2, hb3⟩, hll⟩ := hR.2.1 hK
    rw [hb1] at hb9
    cases hb9
    have h6 := hR.1.2.2.1
    have e0 : (!nul [] O && (g || ([] : List Nat).any (fun c => !decide (N c = O c)))) = g := by cases g <;> rfl
    rw [e0]
    refine w_p (pc1 := 21) rfl rfl ?_
    refine w_p (pc1 := 22) rfl rfl ?_
    refine w_m0 (pc1 := 25) rfl rfl (h_gC rfl rfl rfl rfl) rfl ?_
    refine w_p (pc1 := 26) rfl rfl ?_
    refine w_m0 (pc1 := 27) (st1 := .int (nI ((rCs u).length)) :: _) rfl rfl (n_ile (e := i) rfl rfl rfl (by omega) (U.1.2.2.2.1)) rfl ?_
    refine w_t (a := 109) (b := 30) (bN_ge_t (a := pre.length) (b := (rCs u).length) (by omega) (by omega) (by omega)) rfl rfl ?_
    refine w_p (pc1 := 110) rfl rfl ?_
    refine w_r rfl rfl rfl (fun _ _ => rfl) cr_ck ?_
    exact ⟨rfl, rfl, rfl⟩
  | c :: suf, pre, g, hp => by
    obtain ⟨h1, h2, h3⟩ := get_ap hp
    obtain ⟨⟨b9, hb9, hb2, hb3⟩, hll⟩ := hR.2.1 hK
    rw [hb1] at hb9
    cases hb9
    have h6 := hR.1.2.2.1
    have hcf := U.1.2.2.2.2.2 _ _ h1
    have hew := hb3 c (List.mem_of_getElem? h1)
    have hv := hB c hew
    have hv2 := hB2 c hew
    have ih := lp_270_1 U hi hR hK hb1 h6b hf hB hB2 suf (pre ++ [c])
    rw [len_s] at ih
    have en : nul (c :: suf) O = (decide (O c = none) || nul suf O) := rfl
    cases hx : O c with
    | none =>
      have e0 : (!nul (c :: suf) O && (g || (c :: suf).any (fun c => !decide (N c = O c)))) = false := by rw [en, hx]; rfl
      rw [e0]
      rw [hx] at hv
      refine w_p (pc1 := 21) rfl rfl ?_
      refine w_p (pc1 := 22) rfl rfl ?_
      refine w_m0 (pc1 := 25) rfl rfl (h_gC rfl rfl rfl rfl) rfl ?_
      refine w_p (pc1 := 26) rfl rfl ?_
      refine w_m0 (pc1 := 27) (st1 := .int (nI ((rCs u).length)) :: _) rfl rfl (n_ile (e := i) rfl rfl rfl (by omega) (U.1.2.2.2.1)) rfl ?_
      refine w_f (a := 109) (b := 30) (bN_ge_f (a := pre.length) (b := (rCs u).length) (by omega) (by omega) (by omega)) rfl rfl ?_
      refine w_p (pc1 := 31) rfl rfl ?_
      refine w_m0 (pc1 := 34) rfl rfl (h_gC rfl rfl rfl rfl) rfl ?_
      refine w_p (pc1 := 36) (st1 := .int 6 :: _) rfl rfl ?_
      refine w_p (pc1 := 37) rfl rfl ?_
      refine w_imul (pc1 := 38) (u := nI (6)) (v := nI (i)) (z := nI (6 * i)) rfl (nK_mul) rfl ?_
      refine w_p (pc1 := 40) rfl rfl ?_
      refine w_iadd (pc1 := 41) (u := nI (6 * i)) (v := nI (pre.length)) (z := nI (6 * i + (pre.length))) rfl (nK_add) rfl ?_
      refine w_m0 (pc1 := 42) (st1 := .int (nI (c)) :: _) rfl rfl (n_ile (e := 6 * i + (pre.length)) rfl rfl rfl (by omega) (hcf)) rfl ?_
      refine w_p (pc1 := 44) (al1 := [(5, .int (nI (c))), (4, .int (nI (pre.length))), (3, .int (ck g)), (0, .ref 176), (1, .int (nI (i))), (2, .int (nI (f)))]) rfl rfl ?_
      refine w_p (pc1 := 45) rfl rfl ?_
      refine w_m0 (pc1 := 48) rfl rfl (h_gC rfl rfl rfl rfl) rfl ?_
      refine w_p (pc1 := 50) (st1 := .int 6 :: _) rfl rfl ?_
      refine w_p (pc1 := 51) rfl rfl ?_
      refine w_imul (pc1 := 52) (u := nI (6)) (v := nI (f)) (z := nI (6 * f)) rfl (nK_mul) rfl ?_
      refine w_p (pc1 := 54) rfl rfl ?_
      refine w_iadd (pc1 := 55) (u := nI (6 * f)) (v := nI (c)) (z := nI (6 * f + c)) rfl (nK_add) rfl ?_
      refine w_m0 (pc1 := 56) (st1 := .long (e_V none) :: _) rfl rfl (n_lle (e := 6 * f + c) rfl rfl rfl (by omega) (hv)) rfl ?_
      refine w_m0 (pc1 := 59) (st1 := .long (-9223372036854775808) :: _) rfl rfl rfl rfl ?_
      refine w_p (pc1 := 60) rfl rfl ?_
      refine w_f (a := 65) (b := 63) (lb_ne_f (by rfl)) rfl rfl ?_
      refine w_p (pc1 := 64) (st1 := .int 0 :: _) rfl rfl ?_
      refine w_r rfl rfl rfl (fun _ _ => rfl) rfl ?_
      exact ⟨rfl, rfl, rfl⟩
    | some x =>
      rw [hx] at hv

      cases g with
      | true =>
        have e0 : (!nul (c :: suf) O && (true || (c :: suf).any (fun c => !decide (N c = O c)))) = (!nul suf O && (true || suf.any (fun c => !decide (N c = O c)))) := by
          rw [en, hx, decide_eq_false (by intro z; cases z), Bool.false_or]
          rfl
        rw [e0]
        refine w_p (pc1 := 21) rfl rfl ?_
        refine w_p (pc1 := 22) rfl rfl ?_
        refine w_m0 (pc1 := 25) rfl rfl (h_gC rfl rfl rfl rfl) rfl ?_
        refine w_p (pc1 := 26) rfl rfl ?_
        refine w_m0 (pc1 := 27) (st1 := .int (nI ((rCs u).length)) :: _) rfl rfl (n_ile (e := i) rfl rfl rfl (by omega) (U.1.2.2.2.1)) rfl ?_
        refine w_f (a := 109) (b := 30) (bN_ge_f (a := pre.length) (b := (rCs u).length) (by omega) (by omega) (by omega)) rfl rfl ?_
        refine w_p (pc1 := 31) rfl rfl ?_
        refine w_m0 (pc1 := 34) rfl rfl (h_gC rfl rfl rfl rfl) rfl ?_
        refine w_p (pc1 := 36) (st1 := .int 6 :: _) rfl rfl ?_
        refine w_p (pc1 := 37) rfl rfl ?_
        refine w_imul (pc1 := 38) (u := nI (6)) (v := nI (i)) (z := nI (6 * i)) rfl (nK_mul) rfl ?_
        refine w_p (pc1 := 40) rfl rfl ?_
        refine w_iadd (pc1 := 41) (u := nI (6 * i)) (v := nI (pre.length)) (z := nI (6 * i + (pre.length))) rfl (nK_add) rfl ?_
        refine w_m0 (pc1 := 42) (st1 := .int (nI (c)) :: _) rfl rfl (n_ile (e := 6 * i + (pre.length)) rfl rfl rfl (by omega) (hcf)) rfl ?_
        refine w_p (pc1 := 44) (al1 := [(5, .int (nI (c))), (4, .int (nI (pre.length))), (3, .int 1), (0, .ref 176), (1, .int (nI (i))), (2, .int (nI (f)))]) rfl rfl ?_
        refine w_p (pc1 := 45) rfl rfl ?_
        refine w_m0 (pc1 := 48) rfl rfl (h_gC rfl rfl rfl rfl) rfl ?_
        refine w_p (pc1 := 50) (st1 := .int 6 :: _) rfl rfl ?_
        refine w_p (pc1 := 51) rfl rfl ?_
        refine w_imul (pc1 := 52) (u := nI (6)) (v := nI (f)) (z := nI (6 * f)) rfl (nK_mul) rfl ?_
        refine w_p (pc1 := 54) rfl rfl ?_
        refine w_iadd (pc1 := 55) (u := nI (6 * f)) (v := nI (c)) (z := nI (6 * f + c)) rfl (nK_add) rfl ?_
        refine w_m0 (pc1 := 56) (st1 := .long (e_V (some x)) :: _) rfl rfl (n_lle (e := 6 * f + c) rfl rfl rfl (by omega) (hv)) rfl ?_
        refine w_m0 (pc1 := 59) (st1 := .long (-9223372036854775808) :: _) rfl rfl rfl rfl ?_
        refine w_p (pc1 := 60) rfl rfl ?_
        refine w_t (a := 65) (b := 63) (lb_ne_t (by exact e_V_ne x)) rfl rfl ?_
        refine w_p (pc1 := 66) rfl rfl ?_
        refine w_t (a := 97) (b := 69) rfl rfl rfl ?_
        refine w_p (pc1 := 98) (st1 := .int 1 :: _) rfl rfl ?_
        refine w_p (pc1 := 102) rfl rfl ?_
        refine w_p (pc1 := 103) (al1 := [(3, .int 1), (5, .int (nI (c))), (4, .int (nI (pre.length))), (0, .ref 176), (1, .int (nI (i))), (2, .int (nI (f)))]) rfl rfl ?_
        refine w_iinc (pc1 := 106) (u := nI (pre.length)) (z := nI (pre.length + 1)) (al1 := [(4, .int (nI (pre.length + 1))), (3, .int 1), (5, .int (nI (c))), (0, .ref 176), (1, .int (nI (i))), (2, .int (nI (f)))]) rfl rfl rfl nK_1 rfl rfl ?_
        refine w_p (pc1 := 19) rfl rfl ?_
        refine Wd_al (al := [(4, .int (nI (pre.length + 1))), (3, .int 1), (0, .ref 176), (1, .int (nI (i))), (2, .int (nI (f)))]) (sba_p [0, 1, 3, 4, 5] rfl rfl) ?_
        exact ih true h3
      | false =>
        by_cases hy : N c = O c
        · have e0 : (!nul (c :: suf) O && (false || (c :: suf).any (fun c => !decide (N c = O c)))) = (!nul suf O && (false || suf.any (fun c => !decide (N c = O c)))) := by
            rw [en, List.any_cons, decide_eq_true hy, hx, decide_eq_false (by intro z; cases z), Bool.false_or]
            rfl
          rw [e0]
          rw [hy, hx] at hv2
          refine w_p (pc1 := 21) rfl rfl ?_
          refine w_p (pc1 := 22) rfl rfl ?_
          refine w_m0 (pc1 := 25) rfl rfl (h_gC rfl rfl rfl rfl) rfl ?_
          refine w_p (pc1 := 26) rfl rfl ?_
          refine w_m0 (pc1 := 27) (st1 := .int (nI ((rCs u).length)) :: _) rfl rfl (n_ile (e := i) rfl rfl rfl (by omega) (U.1.2.2.2.1)) rfl ?_
          refine w_f (a := 109) (b := 30) (bN_ge_f (a := pre.length) (b := (rCs u).length) (by omega) (by omega) (by omega)) rfl rfl ?_
          refine w_p (pc1 := 31) rfl rfl ?_
          refine w_m0 (pc1 := 34) rfl rfl (h_gC rfl rfl rfl rfl) rfl ?_
          refine w_p (pc1 := 36) (st1 := .int 6 :: _) rfl rfl ?_
          refine w_p (pc1 := 37) rfl rfl ?_
          refine w_imul (pc1 := 38) (u := nI (6)) (v := nI (i)) (z := nI (6 * i)) rfl (nK_mul) rfl ?_
          refine w_p (pc1 := 40) rfl rfl ?_
          refine w_iadd (pc1 := 41) (u := nI (6 * i)) (v := nI (pre.length)) (z := nI (6 * i + (pre.length))) rfl (nK_add) rfl ?_
          refine w_m0 (pc1 := 42) (st1 := .int (nI (c)) :: _) rfl rfl (n_ile (e := 6 * i + (pre.length)) rfl rfl rfl (by omega) (hcf)) rfl ?_
          refine w_p (pc1 := 44) (al1 := [(5, .int (nI (c))), (4, .int (nI (pre.length))), (3, .int 0), (0, .ref 176), (1, .int (nI (i))), (2, .int (nI (f)))]) rfl rfl ?_
          refine w_p (pc1 := 45) rfl rfl ?_
          refine w_m0 (pc1 := 48) rfl rfl (h_gC rfl rfl rfl rfl) rfl ?_
          refine w_p (pc1 := 50) (st1 := .int 6 :: _) rfl rfl ?_
          refine w_p (pc1 := 51) rfl rfl ?_
          refine w_imul (pc1 := 52) (u := nI (6)) (v := nI (f)) (z := nI (6 * f)) rfl (nK_mul) rfl ?_
          refine w_p (pc1 := 54) rfl rfl ?_
          refine w_iadd (pc1 := 55) (u := nI (6 * f)) (v := nI (c)) (z := nI (6 * f + c)) rfl (nK_add) rfl ?_
          refine w_m0 (pc1 := 56) (st1 := .long (e_V (some x)) :: _) rfl rfl (n_lle (e := 6 * f + c) rfl rfl rfl (by omega) (hv)) rfl ?_
          refine w_m0 (pc1 := 59) (st1 := .long (-9223372036854775808) :: _) rfl rfl rfl rfl ?_
          refine w_p (pc1 := 60) rfl rfl ?_
          refine w_t (a := 65) (b := 63) (lb_ne_t (by exact e_V_ne x)) rfl rfl ?_
          refine w_p (pc1 := 66) rfl rfl ?_
          refine w_f (a := 97) (b := 69) rfl rfl rfl ?_
          refine w_p (pc1 := 70) rfl rfl ?_
          refine w_m0 (pc1 := 73) rfl rfl (h_gC rfl rfl rfl rfl) rfl ?_
          refine w_p (pc1 := 75) (st1 := .int 6 :: _) rfl rfl ?_
          refine w_p (pc1 := 76) rfl rfl ?_
          refine w_imul (pc1 := 77) (u := nI (6)) (v := nI (f)) (z := nI (6 * f)) rfl (nK_mul) rfl ?_
          refine w_p (pc1 := 79) rfl rfl ?_
          refine w_iadd (pc1 := 80) (u := nI (6 * f)) (v := nI (c)) (z := nI (6 * f + c)) rfl (nK_add) rfl ?_
          refine w_m0 (pc1 := 81) (st1 := .long (e_V (some x)) :: _) rfl rfl (n_lle (e := 6 * f + c) rfl rfl rfl (by omega) (hv)) rfl ?_
          refine w_p (pc1 := 82) rfl rfl ?_
          refine w_m0 (pc1 := 85) rfl rfl (h_gC rfl rfl rfl rfl) rfl ?_
          refine w_p (pc1 := 87) (st1 := .int 6 :: _) rfl rfl ?_
          refine w_p (pc1 := 88) rfl rfl ?_
          refine w_imul (pc1 := 89) (u := nI (6)) (v := nI (f)) (z := nI (6 * f)) rfl (nK_mul) rfl ?_
          refine w_p (pc1 := 91) rfl rfl ?_
          refine w_iadd (pc1 := 92) (u := nI (6 * f)) (v := nI (c)) (z := nI (6 * f + c)) rfl (nK_add) rfl ?_
          refine w_m0 (pc1 := 93) (st1 := .long (e_V (some x)) :: _) rfl rfl (n_lle (e := 6 * f + c) rfl rfl rfl (by omega) (hv2)) rfl ?_
          refine w_p (pc1 := 94) rfl rfl ?_
          refine w_t (a := 101) (b := 97) (lb_eq_t (by rfl)) rfl rfl ?_
          refine w_p (pc1 := 102) (st1 := .int 0 :: _) rfl rfl ?_
          refine w_p (pc1 := 103) (al1 := [(3, .int 0), (5, .int (nI (c))), (4, .int (nI (pre.length))), (0, .ref 176), (1, .int (nI (i))), (2, .int (nI (f)))]) rfl rfl ?_
          refine w_iinc (pc1 := 106) (u := nI (pre.length)) (z := nI (pre.length + 1)) (al1 := [(4, .int (nI (pre.length + 1))), (3, .int 0), (5, .int (nI (c))), (0, .ref 176), (1, .int (nI (i))), (2, .int (nI (f)))]) rfl rfl rfl nK_1 rfl rfl ?_
          refine w_p (pc1 := 19) rfl rfl ?_
          refine Wd_al (al := [(4, .int (nI (pre.length + 1))), (3, .int 0), (0, .ref 176), (1, .int (nI (i))), (2, .int (nI (f)))]) (sba_p [0, 1, 3, 4, 5] rfl rfl) ?_
          exact ih false h3
        · have e0 : (!nul (c :: suf) O && (false || (c :: suf).any (fun c => !decide (N c = O c)))) = (!nul suf O && (true || suf.any (fun c => !decide (N c = O c)))) := by
            rw [en, List.any_cons, decide_eq_false hy, hx, decide_eq_false (by intro z; cases z), Bool.false_or]
            rfl
          rw [e0]
          refine w_p (pc1 := 21) rfl rfl ?_
          refine w_p (pc1 := 22) rfl rfl ?_
          refine w_m0 (pc1 := 25) rfl rfl (h_gC rfl rfl rfl rfl) rfl ?_
          refine w_p (pc1 := 26) rfl rfl ?_
          refine w_m0 (pc1 := 27) (st1 := .int (nI ((rCs u).length)) :: _) rfl rfl (n_ile (e := i) rfl rfl rfl (by omega) (U.1.2.2.2.1)) rfl ?_
          refine w_f (a := 109) (b := 30) (bN_ge_f (a := pre.length) (b := (rCs u).length) (by omega) (by omega) (by omega)) rfl rfl ?_
          refine w_p (pc1 := 31) rfl rfl ?_
          refine w_m0 (pc1 := 34) rfl rfl (h_gC rfl rfl rfl rfl) rfl ?_
          refine w_p (pc1 := 36) (st1 := .int 6 :: _) rfl rfl ?_
          refine w_p (pc1 := 37) rfl rfl ?_
          refine w_imul (pc1 := 38) (u := nI (6)) (v := nI (i)) (z := nI (6 * i)) rfl (nK_mul) rfl ?_
          refine w_p (pc1 := 40) rfl rfl ?_
          refine w_iadd (pc1 := 41) (u := nI (6 * i)) (v := nI (pre.length)) (z := nI (6 * i + (pre.length))) rfl (nK_add) rfl ?_
          refine w_m0 (pc1 := 42) (st1 := .int (nI (c)) :: _) rfl rfl (n_ile (e := 6 * i + (pre.length)) rfl rfl rfl (by omega) (hcf)) rfl ?_
          refine w_p (pc1 := 44) (al1 := [(5, .int (nI (c))), (4, .int (nI (pre.length))), (3, .int 0), (0, .ref 176), (1, .int (nI (i))), (2, .int (nI (f)))]) rfl rfl ?_
          refine w_p (pc1 := 45) rfl rfl ?_
          refine w_m0 (pc1 := 48) rfl rfl (h_gC rfl rfl rfl rfl) rfl ?_
          refine w_p (pc1 := 50) (st1 := .int 6 :: _) rfl rfl ?_
          refine w_p (pc1 := 51) rfl rfl ?_
          refine w_imul (pc1 := 52) (u := nI (6)) (v := nI (f)) (z := nI (6 * f)) rfl (nK_mul) rfl ?_
          refine w_p (pc1 := 54) rfl rfl ?_
          refine w_iadd (pc1 := 55) (u := nI (6 * f)) (v := nI (c)) (z := nI (6 * f + c)) rfl (nK_add) rfl ?_
          refine w_m0 (pc1 := 56) (st1 := .long (e_V (some x)) :: _) rfl rfl (n_lle (e := 6 * f + c) rfl rfl rfl (by omega) (hv)) rfl ?_
          refine w_m0 (pc1 := 59) (st1 := .long (-9223372036854775808) :: _) rfl rfl rfl rfl ?_
          refine w_p (pc1 := 60) rfl rfl ?_
          refine w_t (a := 65) (b := 63) (lb_ne_t (by exact e_V_ne x)) rfl rfl ?_
          refine w_p (pc1 := 66) rfl rfl ?_
          refine w_f (a := 97) (b := 69) rfl rfl rfl ?_
          refine w_p (pc1 := 70) rfl rfl ?_
          refine w_m0 (pc1 := 73) rfl rfl (h_gC rfl rfl rfl rfl) rfl ?_
          refine w_p (pc1 := 75) (st1 := .int 6 :: _) rfl rfl ?_
          refine w_p (pc1 := 76) rfl rfl ?_
          refine w_imul (pc1 := 77) (u := nI (6)) (v := nI (f)) (z := nI (6 * f)) rfl (nK_mul) rfl ?_
          refine w_p (pc1 := 79) rfl rfl ?_
          refine w_iadd (pc1 := 80) (u := nI (6 * f)) (v := nI (c)) (z := nI (6 * f + c)) rfl (nK_add) rfl ?_
          refine w_m0 (pc1 := 81) (st1 := .long (e_V (some x)) :: _) rfl rfl (n_lle (e := 6 * f + c) rfl rfl rfl (by omega) (hv)) rfl ?_
          refine w_p (pc1 := 82) rfl rfl ?_
          refine w_m0 (pc1 := 85) rfl rfl (h_gC rfl rfl rfl rfl) rfl ?_
          refine w_p (pc1 := 87) (st1 := .int 6 :: _) rfl rfl ?_
          refine w_p (pc1 := 88) rfl rfl ?_
          refine w_imul (pc1 := 89) (u := nI (6)) (v := nI (f)) (z := nI (6 * f)) rfl (nK_mul) rfl ?_
          refine w_p (pc1 := 91) rfl rfl ?_
          refine w_iadd (pc1 := 92) (u := nI (6 * f)) (v := nI (c)) (z := nI (6 * f + c)) rfl (nK_add) rfl ?_
          refine w_m0 (pc1 := 93) (st1 := .long (e_V (N c)) :: _) rfl rfl (n_lle (e := 6 * f + c) rfl rfl rfl (by omega) (hv2)) rfl ?_
          refine w_p (pc1 := 94) rfl rfl ?_
          refine w_f (a := 101) (b := 97) (lb_eq_f (by exact fun z => hy (by rw [hx]; exact (e_V_inj z).symm))) rfl rfl ?_
          refine w_p (pc1 := 98) (st1 := .int 1 :: _) rfl rfl ?_
          refine w_p (pc1 := 102) rfl rfl ?_
          refine w_p (pc1 := 103) (al1 := [(3, .int 1), (5, .int (nI (c))), (4, .int (nI (pre.length))), (0, .ref 176), (1, .int (nI (i))), (2, .int (nI (f)))]) rfl rfl ?_
          refine w_iinc (pc1 := 106) (u := nI (pre.length)) (z := nI (pre.length + 1)) (al1 := [(4, .int (nI (pre.length + 1))), (3, .int 1), (5, .int (nI (c))), (0, .ref 176), (1, .int (nI (i))), (2, .int (nI (f)))]) rfl rfl rfl nK_1 rfl rfl ?_
          refine w_p (pc1 := 19) rfl rfl ?_
          refine Wd_al (al := [(4, .int (nI (pre.length + 1))), (3, .int 1), (0, .ref 176), (1, .int (nI (i))), (2, .int (nI (f)))]) (sba_p [0, 1, 3, 4, 5] rfl rfl) ?_
          exact ih true h3
set_option maxRecDepth 100000 in
theorem m_270_1 (U : RUM C i u) (hi : i < 24) (hR : okR wd u) (hK : rKd u = 4) (hb1 : rTg u = some b) (h6b : wd b ≤ 6) (hf : f < 40) (hB : bfM C 137 f (wd b) O) (hB2 : bfM C 136 f (wd b) N) (hk : C.1 128 f = 1) : Wd L xs d y_270 (0, [(0, .ref 176), (1, .int (nI (i))), (2, .int (nI (f)))], [], MH C t, sl) (Rt (some (.int (ck (tch 1 (rOs u) O N)))) (MH C t) sl) nX := by
  have e0 : tch 1 (rOs u) O N = (!nul (rOs u) O && (false || (rOs u).any (fun c => !decide (N c = O c)))) := rfl
  rw [e0]
  refine w_p (pc1 := 1) rfl rfl ?_
  refine w_m0 (pc1 := 4) rfl rfl (h_gC rfl rfl rfl rfl) rfl ?_
  refine w_p (pc1 := 5) rfl rfl ?_
  refine w_m0 (pc1 := 6) (st1 := .int 1 :: _) rfl rfl (n_ile (e := f) rfl rfl rfl (by omega) (hk)) rfl ?_
  refine w_p (pc1 := 7) (st1 := .int 2 :: _) rfl rfl ?_
  refine w_t (a := 14) (b := 10) rfl rfl rfl ?_
  refine w_p (pc1 := 15) (st1 := .int 0 :: _) rfl rfl ?_
  refine w_p (pc1 := 16) (al1 := [(3, .int 0), (0, .ref 176), (1, .int (nI (i))), (2, .int (nI (f)))]) rfl rfl ?_
  refine w_p (pc1 := 17) (st1 := .int 0 :: _) rfl rfl ?_
  refine w_p (pc1 := 19) (al1 := [(4, .int 0), (3, .int 0), (0, .ref 176), (1, .int (nI (i))), (2, .int (nI (f)))]) rfl rfl ?_
  exact lp_270_1 U hi hR hK hb1 h6b hf hB hB2 (rOs u) [] false rfl
end MEN
