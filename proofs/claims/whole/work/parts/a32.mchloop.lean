
/-! THE OTHER SIDE'S ENGINE: a change, row by row -/
section ME9
variable {L : Nat} {xs : Nat → Int32} {C C0 : co_T} {t : ab_H} {d sl b p k m n w0 w2 w3 F D row kd : Nat} {S : st_T} {N O : rw_F} {r : ro_T} {σ : es_T} {a : ac_T} {ii : Int32} {P : Option Value → ab_H → Nat → Prop} {X : Nat → ab_H → Nat → Prop}
/-! one part of a loop, then the rest of it -/
set_option maxRecDepth 100000 in
theorem GN_l {α : Type} {wd : Nat → Nat} {f : α → es_T → rz_T} {x : α} {l : List α} {C1 : co_T} {F1 D1 : Nat} (G : GN L xs d t sl P X wd F D C (lop f (x :: l) σ)) (q1 : frQ F C C1) (hF : F ≤ F1) (H : ∀ C', (f x σ).2 = none → MEn C' wd (f x σ).1 D1 F1 → frQ F1 C1 C' → GN L xs d t sl P X wd F D C' (lop f l (f x σ).1) → Wd L xs (d + 8) y_257 (0, [(0, .ref 176)], [], MH C' t, sl) P X) : GN L xs d t sl P X wd F1 D1 C1 (f x σ) := by
  refine ⟨fun h C' e1 e2 => ?_, fun e C' h1 h2 h3 h4 h5 => ?_⟩
  · have e0 : f x σ = ((f x σ).1, none) := Prod.ext rfl h
    rw [lop_n e0] at G
    exact H C' h e1 e2 (GN_Q G (frQ_t q1 (frQ_u e2 hF)))
  · have e0 : f x σ = ((f x σ).1, some e) := Prod.ext rfl h1
    rw [lop_s e0] at G
    exact G.2 e C' rfl h2 h3 h4 (frQ_t q1 (frQ_u h5 hF))
set_option maxRecDepth 100000 in
theorem chM {is : List Int32} (hS : ∀ n, m = n + 1 → STPM L xs S n) (hm : m + D = 12) (ho : okSt S) (hF : F ≤ 2 * D) (hb : b < 6) (hp : p ≤ 40) (hab : aTb a = some b) (hk : aKd a = 1 ∨ aKd a = 2) (hok1 : aKd a = 1 → (aCs a).length = (aSs a).length ∧ (∀ c, c ∈ aCs a → c < sWd S b) ∧ ∀ s, s ∈ aSs a → s ≠ none ∧ okS (sWd S b) w2 w3 s) (hro : row < F ∨ w2 = 0 ∧ w3 = 0 ∧ row < 40) (hw2 : w2 ≤ 6) (hw3 : w3 ≤ 6) (hi : is.length ≤ 40) : ∀ (suf pre : List Int32) (C : co_T) (σ : es_T), pre ++ suf = is → MSt C S → ACM C p a → MEn C (sWd S) σ D (F + 1) → CFM C F p row (nI is.length) (nI pre.length) → idsM C F is → bfM C 136 row w2 N → bfM C 137 row w3 O → GN L xs d t sl P X (sWd S) F D C (lop (chg1 (stp S m) a N O) suf σ) → Wd L xs (d + 8) y_257 (0, [(0, .ref 176)], [], MH C t, sl) P X
  | [], pre, C, σ, hpp, K, A, E, hc, hid, hN, hO, G => by
    rw [List.append_nil] at hpp
    subst hpp
    have hD := E.2.2.2.1.2
    refine goC (f := F) E.2.2.2.2.1.1 (by omega) E.2.2.2.2.2.1 hc.1 (gcE (by omega) hb hp (by omega) A hab (by omega) (by omega) E.2.2.2.2.1.1 hi hc) (fun C' hC' => ?_)
    subst hC'
    exact G.1 rfl _ (MEn_75 E (by omega)) (frQ_I (by omega))
  | i :: suf, pre, C, σ, hpp, K, A, E, hc, hid, hN, hO, G => by
    obtain ⟨h1, h2, h3⟩ := get_ap hpp
    have hid1 := hid _ _ h1
    have hD := E.2.2.2.1.2
    have q1 : frQ F C (sI C 135 F (nI (pre.length + 1))) := frQ_I (by omega)
    have hc1 : CFM (sI C 135 F (nI (pre.length + 1))) F p row (nI is.length) (nI (pre.length + 1)) := ⟨by rw [sI_1, if_neg (by omega)]; exact hc.1, by rw [sI_1, if_neg (by omega)]; exact hc.2.1, by rw [sI_1, if_neg (by omega)]; exact hc.2.2.1, by rw [sI_1, if_neg (by omega)]; exact hc.2.2.2.1, by rw [sI_1, if_pos ⟨rfl, rfl⟩]⟩
    have hid2 : idsM (sI C 135 F (nI (pre.length + 1))) F is := fun j x hj => by rw [sI_1, if_neg (by omega)]; exact hid j x hj
    have E1 : MEn (sI C 135 F (nI (pre.length + 1))) (sWd S) σ D (F + 1) := MEn_I (by omega) E
    have e0 : chg1 (stp S m) a N O i σ = match fdr i (σ.1 b).1 0 with | none => (σ, none) | some (_, r) => (if aKd a = 2 then stp S m 2 b i r.2 r.2 σ else (match setS r.2 N O r.2 (aCs a) (aSs a) with | none => (σ, some byZ) | some f => stp S m 1 b i r.2 f σ)) := by unfold chg1; rw [hab]; rfl
    have IH := fun C' σ' K' A' E' c' i' n' o' G' => chM hS hm ho hF hb hp hab hk hok1 hro hw2 hw3 hi suf (pre ++ [i]) C' σ' h3 K' A' E' c' i' n' o' G'
    rw [len_s] at IH
    have hGo : ∀ C', frQ (F + 1) (sI C 135 F (nI (pre.length + 1))) C' → (chg1 (stp S m) a N O i σ).2 = none → MEn C' (sWd S) (chg1 (stp S m) a N O i σ).1 D (F + 1) → GN L xs d t sl P X (sWd S) F D C' (lop (chg1 (stp S m) a N O) suf (chg1 (stp S m) a N O i σ).1) → Wd L xs (d + 8) y_257 (0, [(0, .ref 176)], [], MH C' t, sl) P X := fun C' q _ E' G' => IH C' _ (MSt_Q q (MSt_Q q1 K)) (ACM_Q q (ACM_Q q1 A)) E' (CFM_Q q (by omega) hc1) (idsM_Q q (by omega) hi hid2) (bfM_Q q (by omega) hw2 (by omega) hN) (bfM_Q q (by omega) hw3 (by omega) hO) G'
    cases hfd : fdr i (σ.1 b).1 0 with
    | none =>
      have e1 : chg1 (stp S m) a N O i σ = (σ, none) := by rw [e0, hfd]
      refine goC (f := F) E.2.2.2.2.1.1 (by omega) E.2.2.2.2.2.1 hc.1 (gcN (σ := σ) (S := S) (by omega) hb hp (by omega) A hab (by omega) (by omega) hi h2 hc hid1 E.1 hfd) (fun C' hC' => ?_)
      subst hC'
      rw [lop_n e1] at G
      exact IH _ σ (MSt_Q q1 K) (ACM_Q q1 A) E1 hc1 hid2 hN hO (GN_Q G q1)
    | some kr =>
      obtain ⟨k, r⟩ := kr
      rcases hk with hk | hk
      · obtain ⟨o1, o2, o3⟩ := hok1 hk
        have e1 : chg1 (stp S m) a N O i σ = bsR S m 1 b i r.2 σ (setS r.2 N O r.2 (aCs a) (aSs a)) := by
          rw [e0, hfd]
          show (if aKd a = 2 then _ else _) = _
          rw [if_neg (by omega)]
          cases setS r.2 N O r.2 (aCs a) (aSs a) <;> rfl
        refine goC (f := F) E.2.2.2.2.1.1 (by omega) E.2.2.2.2.2.1 hc.1 (gcU (k := k) (r := r) (N := N) (O := O) (w2 := w2) (w3 := w3) (by omega) hb hp (by omega) A hab (by omega) (by omega) hi h2 hc hid1 hk K E ho o1 o2 o3 hw2 hw3 hN hO hfd) (fun C' hC' => ?_)
        have GG := GN_l (F1 := F + 1) (D1 := D) G q1 (by omega) (fun C' a1 a2 a3 a4 => hGo C' a3 a1 a2 a4)
        rw [e1] at GG
        exact bsGo (kd := 1) hS hm (by omega) hb (MSt_Q q1 K) E1 (by omega) hC' GG
      · have e1 : chg1 (stp S m) a N O i σ = bsR S m 2 b i r.2 σ (some r.2) := by
          rw [e0, hfd]
          show (if aKd a = 2 then _ else _) = _
          rw [if_pos hk]
          rfl
        refine goC (f := F) E.2.2.2.2.1.1 (by omega) E.2.2.2.2.2.1 hc.1 (gcD (k := k) (r := r) (by omega) hb hp (by omega) A hab (by omega) (by omega) hi h2 hc hid1 hk E hfd) (fun C' hC' => ?_)
        have GG := GN_l (F1 := F + 1) (D1 := D) G q1 (by omega) (fun C' a1 a2 a3 a4 => hGo C' a3 a1 a2 a4)
        rw [e1] at GG
        exact bsGo (kd := 2) hS hm (by omega) hb (MSt_Q q1 K) E1 (by omega) hC' GG
/-! a change that has begun -/
def BCd (C0 C' : co_T) (F p row : Nat) (x : Option (List Int32)) : Prop := (x = none ∧ EDD C0 C' F 4) ∨ (∃ is, x = some is ∧ CFM C' F p row (nI is.length) 0 ∧ (is.length ≤ 40 ∧ idsM C' F is) ∧ (C'.1 76 75 = nI (F + 1) ∧ C'.1 76 93 = C0.1 76 93 ∧ C'.1 76 94 = C0.1 76 94 ∧ C'.1 76 95 = C0.1 76 95 ∧ C'.1 76 89 = 0 ∧ C'.1 76 74 = 0) ∧ frQ F C0 C' ∧ frV C0 C')
def bcX (N O : rw_F) (σ : es_T) (a : ac_T) : Option (List Int32) := if aKd a = 0 then some [] else fnR (fun r => tst r.2 N O (aWh a)) (σ.1 (tgN (aTb a))).1
set_option maxRecDepth 100000 in
theorem bcM {C' : co_T} (hS : ∀ n, m = n + 1 → STPM L xs S n) (hm : m + D = 12) (ho : okSt S) (hF : F ≤ 2 * D) (hp : p ≤ 40) (K : MSt C S) (A : ACM C p a) (E : MEn C (sWd S) σ D F) (hk : aKd a < 3) (hok : okA2 (sWd S) w0 w2 w3 a) (hro : row < F ∨ w2 = 0 ∧ w3 = 0 ∧ row < 40) (hw2 : w2 ≤ 6) (hw3 : w3 ≤ 6) (hN : bfM C 136 row w2 N) (hO : bfM C 137 row w3 O) (hB : BCd C C' F p row (bcX N O σ a)) (G : GN L xs d t sl P X (sWd S) F D C (chg S (stp S m) a N O σ)) : Wd L xs (d + 8) y_257 (0, [(0, .ref 176)], [], MH C' t, sl) P X := by
  have hD := E.2.2.2.1.2
  rcases hB with ⟨hx, he⟩ | ⟨is, hx, hc, ⟨hi, hid⟩, ⟨c1, c2, c3, c4, c5, c6⟩, q, v⟩
  · have e0 : chg S (stp S m) a N O σ = (σ, some byZ) := by
      unfold bcX at hx
      unfold chg
      by_cases h0 : aKd a = 0
      · rw [if_pos h0] at hx
        cases hx
      · rw [if_neg h0] at hx
        rw [if_neg h0, hx]
    rw [e0] at G
    exact GN_e (z := 4) G (by omega) rfl E.2.2.1 he
  · have E1 : MEn C' (sWd S) σ D (F + 1) := ⟨RWM_V v E.1, fun q hq => (v.2.2.1 q).trans (E.2.1 q hq), ⟨c2.trans E.2.2.1.1, E.2.2.1.2.1, c4.trans E.2.2.1.2.2.1, E.2.2.1.2.2.2⟩, ⟨c3.trans E.2.2.2.1.1, hD⟩, ⟨c1, by omega⟩, c5, c6⟩
    have K1 := MSt_Q q K
    have A1 := ACM_Q q A
    have N1 := bfM_Q q (by omega) hw2 (by omega) hN
    have O1 := bfM_Q q (by omega) hw3 (by omega) hO
    have G1 := GN_Q G q
    have h12 : ∀ b, aTb a = some b → b < 6 → (aKd a = 1 ∨ aKd a = 2) → (aKd a = 1 → (aCs a).length = (aSs a).length ∧ (∀ c, c ∈ aCs a → c < sWd S b) ∧ ∀ s, s ∈ aSs a → s ≠ none ∧ okS (sWd S b) w2 w3 s) → Wd L xs (d + 8) y_257 (0, [(0, .ref 176)], [], MH C' t, sl) P X := by
      intro b hab hb hk2 hok1
      have e0 : chg S (stp S m) a N O σ = lop (chg1 (stp S m) a N O) is σ := by
        unfold bcX at hx
        unfold chg
        rw [if_neg (by omega)] at hx
        rw [if_neg (by omega), hx]
      rw [e0] at G1
      exact chM hS hm ho hF hb hp hab hk2 hok1 hro hw2 hw3 hi is [] C' σ rfl K1 A1 E1 hc hid N1 O1 G1
    rcases hok with ⟨k0, b, hab, hb, k2, k3, kp⟩ | ⟨k0, b, hab, hb, k2, k3, k4, k5, k6⟩ | ⟨k0, b, hab, hb, k2⟩ | ⟨k0, _⟩ | ⟨k0, _⟩
    · have q1 : frQ F C' (sI C' 135 F 1) := frQ_I (by omega)
      have e0 : chg S (stp S m) a N O σ = bsR S m 0 b 0 noF σ (insV (sDf S b) N O noF 0 (aSs a)) := by
        unfold chg
        rw [if_pos k0, hab]
        show (match insV (sDf S b) N O noF 0 (aSs a) with | none => (σ, some byZ) | some f => stp S m 0 b 0 noF f σ) = _
        cases insV (sDf S b) N O noF 0 (aSs a) <;> rfl
      rw [e0] at G1
      have hc1 : CFM (sI C' 135 F 1) F p row (nI is.length) (nI 1) := ⟨by rw [sI_1, if_neg (by omega)]; exact hc.1, by rw [sI_1, if_neg (by omega)]; exact hc.2.1, by rw [sI_1, if_neg (by omega)]; exact hc.2.2.1, by rw [sI_1, if_neg (by omega)]; exact hc.2.2.2.1, by rw [sI_1, if_pos ⟨rfl, rfl⟩]; rfl⟩
      refine goC (f := F) E1.2.2.2.2.1.1 (by omega) E1.2.2.2.2.2.1 hc.1 (gcI (N := N) (O := O) (w2 := w2) (w3 := w3) (by omega) hb hp (by omega) A1 hab k0 K1 E1 ho k2 kp k3 hw2 hw3 N1 O1 hc) (fun C2 hC2 => ?_)
      refine bsGo (kd := 0) hS hm (by omega) hb (MSt_Q q1 K1) (MEn_I (by omega) E1) (by omega) hC2 ⟨fun h C3 e1 e2 => ?_, fun e C3 h1 h2 h3 h4 h5 => ?_⟩
      · refine goC (f := F) e1.2.2.2.2.1.1 (by omega) e1.2.2.2.2.2.1 (CFM_Q e2 (by omega) hc1).1 (gcF (by omega) hb hp (by omega) (ACM_Q e2 (ACM_Q q1 A1)) hab k0 e1.2.2.2.2.1.1 (CFM_Q e2 (by omega) hc1)) (fun C4 hC4 => ?_)
        subst hC4
        exact G1.1 h _ (MEn_75 e1 (by omega)) (frQ_t q1 (frQ_t (frQ_u e2 (by omega)) (frQ_I (by omega))))
      · exact G1.2 e C3 h1 h2 h3 h4 (frQ_t q1 (frQ_u h5 (by omega)))
    · exact h12 b hab hb (Or.inl k0) (fun _ => ⟨k2, k4, k5⟩)
    · exact h12 b hab hb (Or.inr k0) (fun h => by omega)
    · omega
    · omega
/-! beginChange, whatever the change is -/
set_option maxRecDepth 100000 in
theorem bcA (hFr : C.1 76 75 = nI F) (hF : F < 40) (hp : p ≤ 40) (hW : RWM C (sWd S) σ.1) (h89 : C.1 76 89 = 0) (h74 : C.1 76 74 = 0) (A : ACM C p a) (hk : aKd a < 3) (hok : okA2 (sWd S) w0 w2 w3 a) (hro : row < F ∨ w2 = 0 ∧ w3 = 0 ∧ row < 40) (hw2 : w2 ≤ 6) (hw3 : w3 ≤ 6) (hN : bfM C 136 row w2 N) (hO : bfM C 137 row w3 O) : Wd L xs (d + 4) y_250 (0, [(0, .ref 176), (1, .int (nI (p))), (2, .int (nI (row)))], [], MH C t, sl) (fun v0 h m => none = v0 ∧ (∃ C', BCd C C' F p row (bcX N O σ a) ∧ MH C' t = h) ∧ sl = m) nX := by
  rcases hok with ⟨k0, b, hab, hb, k2, k3, _⟩ | ⟨k0, b, hab, hb, k2, k3, k4, k5, k6⟩ | ⟨k0, b, hab, hb, k2⟩ | ⟨k0, _⟩ | ⟨k0, _⟩
  · have e0 : bcX N O σ a = some [] := by unfold bcX; exact if_pos k0
    rw [e0]
    exact m_250_0 hFr hF hb hp hW h89 h74 A hab k0 (by omega)
  · have e0 : bcX N O σ a = fnR (fun r => tst r.2 N O (aWh a)) (σ.1 b).1 := by unfold bcX; rw [if_neg (by omega), hab]; rfl
    rw [e0]
    exact m_250 hFr hF hb hp hW h89 h74 A hab (by omega) (by omega) k6 hro hw2 hw3 hN hO
  · have e0 : bcX N O σ a = fnR (fun r => tst r.2 N O (aWh a)) (σ.1 b).1 := by unfold bcX; rw [if_neg (by omega), hab]; rfl
    rw [e0]
    exact m_250 hFr hF hb hp hW h89 h74 A hab (by omega) (by omega) k2 hro hw2 hw3 hN hO
  · omega
  · omega
end ME9
