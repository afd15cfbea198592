
/-! ONE SIDE'S ENGINE: what it keeps, its small steps -/
def opK {α : Type} (P : Nat → α → Prop) (x : Option Nat) : Option α → Prop
  | none => x = none
  | some u => ∃ k, x = some (241 + k) ∧ P k u
def asz (a : ac_T) : Nat := if aKd a = 3 then 0 else (aSs a).length
def ACo (t : ab_H) (k kc ks : Nat) (a : ac_T) (fc : Nat → Int32) (fs : Nat → Option Nat) (vw : Value) : Prop := t[k]? = some (.inr (9, [.int (nI (aKd a)), .int (tgI (aTb a)), .ref (241 + kc), .ref (241 + ks), .int (nI (asz a)), vw, .int (aNo a)])) ∧ t[kc]? = some (.inl (0, 6, .inl fc)) ∧ arI fc 0 (aCs a) ∧ t[ks]? = some (.inl (8, 6, .inr (.inr (.inr (.inr fs))))) ∧ (∀ j s, (aSs a)[j]? = some s → foK t 0 (va_rf (fs j)) s) ∧ foK t 0 vw (aWh a)
def ACK (t : ab_H) (k : Nat) (a : ac_T) : Prop := ∃ kc ks fc fs vw, ACo t k kc ks a fc fs vw
def TRK (t : ab_H) (k : Nat) (g : tr_T) : Prop := ∃ ka vw, t[k]? = some (.inr (10, [.long (gNm g), .int (nI (gTb g)), .int (nI (gTi g)), .int (nI (gEv g)), vw, .ref (241 + ka)])) ∧ foK t 0 vw (gWh g) ∧ ACK t ka (gAc g)
set_option maxRecDepth 100000 in
theorem ACK_k {t t' : ab_H} {k : Nat} {a : ac_T} (h : stk t t') (A : ACK t k a) : ACK t' k a := by
  obtain ⟨kc, ks, fc, fs, vw, h1, h2, h3, h4, h5, h6⟩ := A
  exact ⟨kc, ks, fc, fs, vw, stk_o h h1, stk_a h h2, h3, stk_q h h4, fun j s hj => foK_k h (h5 j s hj), foK_k h h6⟩
set_option maxRecDepth 100000 in
theorem TRK_k {t t' : ab_H} {k : Nat} {g : tr_T} (h : stk t t') (A : TRK t k g) : TRK t' k g := by
  obtain ⟨ka, vw, h1, h2, h3⟩ := A
  exact ⟨ka, vw, stk_o h h1, foK_k h h2, ACK_k h h3⟩
set_option maxRecDepth 100000 in
theorem opK_m {α : Type} {P Q : Nat → α → Prop} (h : ∀ k u, P k u → Q k u) {x : Option Nat} : ∀ {u : Option α}, opK P x u → opK Q x u
  | none, e => e
  | some _, ⟨k, e, p⟩ => ⟨k, e, h _ _ p⟩
def KS (C : co_T) (t : ab_H) (S : st_T) : Prop := (∀ b, b < 6 → C.1 8 b = nI (sWd S b) ∧ ∀ c, c < sWd S b → C.2.1 10 (b * 6 + c) = e_V (sDf S b c)) ∧ (∀ i, i < 24 → opK (RUK t) (C.2.2 11 i) (sRu S i)) ∧ (∀ i, i < 8 → opK (TRK t) (C.2.2 12 i) (sTr S i)) ∧ (∀ j, j < 14 → C.2.2 30 j = some (31 + j + 100) ∧ C.2.2 45 j = some (46 + j + 100) ∧ C.2.2 60 j = some (61 + j + 100))
/-! what the steps change -/
def frE (D F : Nat) (C C' : co_T) : Prop := (∀ k j, ¬ (k = 15 ∨ k = 16 ∨ k = 17) → ¬ (k = 24 ∧ 6 ≤ j) → ¬ (61 + D ≤ k ∧ k < 75) → C'.1 k j = C.1 k j) ∧ (∀ k j, k ≠ 14 → ¬ (32 + D ≤ k ∧ k < 45) → ¬ (46 + F ≤ k ∧ k < 60) → C'.2.1 k j = C.2.1 k j) ∧ C'.2.2 = C.2.2
set_option maxRecDepth 100000 in
theorem frE_r {D F : Nat} {C : co_T} : frE D F C C := ⟨fun _ _ _ _ _ => rfl, fun _ _ _ _ _ => rfl, rfl⟩
set_option maxRecDepth 100000 in
theorem frE_t {D F : Nat} {C1 C2 C3 : co_T} (h : frE D F C1 C2) (g : frE D F C2 C3) : frE D F C1 C3 := ⟨fun k j a b c => (g.1 k j a b c).trans (h.1 k j a b c), fun k j a b c => (g.2.1 k j a b c).trans (h.2.1 k j a b c), g.2.2.trans h.2.2⟩
set_option maxRecDepth 100000 in
theorem frE_u {D E F G : Nat} {C C' : co_T} (h : frE E G C C') (hD : D ≤ E) (hF : F ≤ G) : frE D F C C' := ⟨fun k j a b c => h.1 k j a b (by omega), fun k j a b c => h.2.1 k j a (by omega) (by omega), h.2.2⟩
set_option maxRecDepth 100000 in
theorem KS_k {C C' : co_T} {t t' : ab_H} {S : st_T} {D F : Nat} (K : KS C t S) (f : frE D F C C') (h : stk t t') : KS C' t' S := by
  obtain ⟨h1, h2, h3, h4⟩ := K
  refine ⟨fun b hb => ⟨(f.1 8 b (by omega) (by omega) (by omega)).trans (h1 b hb).1, fun c hc => (f.2.1 10 _ (by omega) (by omega) (by omega)).trans ((h1 b hb).2 c hc)⟩, fun i hi => ?_, fun i hi => ?_, fun j hj => ?_⟩
  · rw [f.2.2]
    exact opK_m (fun k u => RUK_k h) (h2 i hi)
  · rw [f.2.2]
    exact opK_m (fun k u => TRK_k h) (h3 i hi)
  · rw [f.2.2]
    exact h4 j hj
def KX (C : co_T) (σ : es_T) : Prop := C.1 24 7 = nI σ.2.1 ∧ σ.2.1 ≤ 300 ∧ C.1 24 8 = nI σ.2.2 ∧ σ.2.2 ≤ 12
def KE (C : co_T) (wd : Nat → Nat) (σ : es_T) : Prop := RWK C wd σ.1 ∧ (∀ b, b < 6 → C.1 17 b = (σ.1 b).2) ∧ KX C σ
def bfK (C : co_T) (k w : Nat) (f : rw_F) : Prop := ∀ c, c < w → C.2.1 k c = e_V (f c)
def spK (C : co_T) (e : sp_T) : Prop := C.1 24 6 = nI e.1 ∧ (e.1 = 2 → C.1 24 9 = e.2.1 ∧ C.1 24 10 = e.2.2) ∧ (e.1 = 3 → C.1 24 11 = e.2.1)
/-! how a part of it ends -/
def PR (C : co_T) (t : ab_H) (wd : Nat → Nat) (D F sl : Nat) (r : rz_T) : Option Value → ab_H → Nat → Prop := fun v h m => r.2 = none ∧ none = v ∧ (∃ C' t', (KE C' wd r.1 ∧ frE D F C C' ∧ stk t t') ∧ MH C' t' = h) ∧ sl = m
def XR (C : co_T) (t : ab_H) (D F sl : Nat) (r : rz_T) : Nat → ab_H → Nat → Prop := fun a h m => ∃ e C' t', (r.2 = some e ∧ KX C' r.1 ∧ spK C' e ∧ frE D F C C' ∧ stk t t') ∧ Xk 12 C' t' sl a h m
set_option maxRecDepth 100000 in
theorem skO {j : Nat} (h : j < 14) : SK[31 + j]? = some (1, 1, 6, []) := by
  have : j = 0 ∨ j = 1 ∨ j = 2 ∨ j = 3 ∨ j = 4 ∨ j = 5 ∨ j = 6 ∨ j = 7 ∨ j = 8 ∨ j = 9 ∨ j = 10 ∨ j = 11 ∨ j = 12 ∨ j = 13 := by omega
  rcases this with rfl | rfl | rfl | rfl | rfl | rfl | rfl | rfl | rfl | rfl | rfl | rfl | rfl | rfl <;> rfl
set_option maxRecDepth 100000 in
theorem skF {j : Nat} (h : j < 14) : SK[46 + j]? = some (1, 1, 6, []) := by
  have : j = 0 ∨ j = 1 ∨ j = 2 ∨ j = 3 ∨ j = 4 ∨ j = 5 ∨ j = 6 ∨ j = 7 ∨ j = 8 ∨ j = 9 ∨ j = 10 ∨ j = 11 ∨ j = 12 ∨ j = 13 := by omega
  rcases this with rfl | rfl | rfl | rfl | rfl | rfl | rfl | rfl | rfl | rfl | rfl | rfl | rfl | rfl <;> rfl
set_option maxRecDepth 100000 in
theorem skI {j : Nat} (h : j < 14) : SK[61 + j]? = some (0, 0, 40, []) := by
  have : j = 0 ∨ j = 1 ∨ j = 2 ∨ j = 3 ∨ j = 4 ∨ j = 5 ∨ j = 6 ∨ j = 7 ∨ j = 8 ∨ j = 9 ∨ j = 10 ∨ j = 11 ∨ j = 12 ∨ j = 13 := by omega
  rcases this with rfl | rfl | rfl | rfl | rfl | rfl | rfl | rfl | rfl | rfl | rfl | rfl | rfl | rfl <;> rfl
section KEN
variable {L : Nat} {xs : Nat → Int32} {C : co_T} {t : ab_H} {d sl D p w1 w2 w3 k b c i kr : Nat} {S : st_T} {R N O : rw_F} {x : Int64} {l : List (Nat × Nat)}
set_option maxRecDepth 100000 in
theorem m_119 {z : Int32} : Wd L xs (d + 6) y_119 (0, [(0, .ref 124), (1, .int z)], [], MH C t, sl) nP (Xk 12 (sI C 24 6 z) t sl) := by
  refine w_p (pc1 := 1) rfl rfl ?_
  refine w_p (pc1 := 2) rfl rfl ?_
  refine w_m0 (pc1 := 5) rfl rfl (h_pI (j := 6) rfl rfl rfl rfl rfl rfl rfl ⟨rfl, rfl⟩ rfl) rfl ?_
  refine w_x (ci := 12) rfl rfl rfl (fun _ _ => rfl) rfl rfl (fun fr lo h1 h2 => cx_ok h1 h2 rfl) (by exact ch_thr (by decide) rfl) ?_
  exact Xk_i
set_option maxRecDepth 100000 in
theorem m_142 (hk : SK[kr]? = some (1, 1, 6, l)) (hc : c < 6) : Wd L xs d y_142 (0, [(0, .ref (kr + 100)), (1, .int (nI c)), (2, .long x)], [], MH C t, sl) (Rt none (MH (sJ C kr c x) t) sl) nX := by
  refine w_p (pc1 := 1) rfl rfl ?_
  refine w_f (a := 14) (b := 4) (bN_lt_f (a := c) (b := 0) (by omega) (by omega) (by omega)) rfl rfl ?_
  refine w_p (pc1 := 5) rfl rfl ?_
  refine w_p (pc1 := 6) rfl rfl ?_
  refine w_m0 (pc1 := 7) (st1 := .int (nI (6)) :: _) rfl rfl (h_lnJ (k := kr) rfl hk (by decide)) rfl ?_
  refine w_f (a := 14) (b := 10) (bN_ge_f (a := c) (b := 6) (by omega) (by omega) (by omega)) rfl rfl ?_
  refine w_p (pc1 := 11) rfl rfl ?_
  refine w_p (pc1 := 12) rfl rfl ?_
  refine w_p (pc1 := 13) rfl rfl ?_
  refine w_m0 (pc1 := 14) rfl rfl (n_ls (k := kr) (e := c) rfl hk rfl (by omega)) rfl ?_
  refine w_r rfl rfl rfl (fun _ _ => rfl) rfl ?_
  exact ⟨rfl, rfl, rfl⟩
set_option maxRecDepth 100000 in
theorem m_96_n (hi : i < 24) (h : C.2.2 11 i = none) : Wd L xs d y_96 (0, [(0, .ref 106), (1, .int (nI i))], [], MH C t, sl) (Rt (some .null) (MH C t) sl) nX := by
  refine w_p (pc1 := 1) rfl rfl ?_
  refine w_f (a := 10) (b := 4) (bN_lt_f (a := i) (b := 0) (by omega) (by omega) (by omega)) rfl rfl ?_
  refine w_p (pc1 := 5) rfl rfl ?_
  refine w_p (pc1 := 7) (st1 := .int 24 :: _) rfl rfl ?_
  refine w_t (a := 14) (b := 10) (bN_lt_t (a := i) (b := 24) (by omega) (by omega) (by omega)) rfl rfl ?_
  refine w_p (pc1 := 15) rfl rfl ?_
  refine w_m0 (pc1 := 18) rfl rfl (h_gC rfl rfl rfl rfl) rfl ?_
  refine w_p (pc1 := 19) rfl rfl ?_
  refine w_m0 (pc1 := 20) (st1 := .null :: _) rfl rfl (n_aln (e := i) rfl rfl (by decide) rfl (by omega) (h)) rfl ?_
  refine w_r rfl rfl rfl (fun _ _ => rfl) rfl ?_
  exact ⟨rfl, rfl, rfl⟩
set_option maxRecDepth 100000 in
theorem m_96_s (hi : i < 24) (h : C.2.2 11 i = some (241 + k)) : Wd L xs d y_96 (0, [(0, .ref 106), (1, .int (nI i))], [], MH C t, sl) (Rt (some (.ref (241 + k))) (MH C t) sl) nX := by
  refine w_p (pc1 := 1) rfl rfl ?_
  refine w_f (a := 10) (b := 4) (bN_lt_f (a := i) (b := 0) (by omega) (by omega) (by omega)) rfl rfl ?_
  refine w_p (pc1 := 5) rfl rfl ?_
  refine w_p (pc1 := 7) (st1 := .int 24 :: _) rfl rfl ?_
  refine w_t (a := 14) (b := 10) (bN_lt_t (a := i) (b := 24) (by omega) (by omega) (by omega)) rfl rfl ?_
  refine w_p (pc1 := 15) rfl rfl ?_
  refine w_m0 (pc1 := 18) rfl rfl (h_gC rfl rfl rfl rfl) rfl ?_
  refine w_p (pc1 := 19) rfl rfl ?_
  refine w_m0 (pc1 := 20) (st1 := .ref (241 + k) :: _) rfl rfl (n_als (e := i) rfl rfl (by decide) rfl (by omega) (h)) rfl ?_
  refine w_r rfl rfl rfl (fun _ _ => rfl) rfl ?_
  exact ⟨rfl, rfl, rfl⟩
set_option maxRecDepth 100000 in
theorem m_123_n (hi : i < 8) (h : C.2.2 12 i = none) : Wd L xs d y_123 (0, [(0, .ref 106), (1, .int (nI i))], [], MH C t, sl) (Rt (some .null) (MH C t) sl) nX := by
  refine w_p (pc1 := 1) rfl rfl ?_
  refine w_f (a := 10) (b := 4) (bN_lt_f (a := i) (b := 0) (by omega) (by omega) (by omega)) rfl rfl ?_
  refine w_p (pc1 := 5) rfl rfl ?_
  refine w_p (pc1 := 7) (st1 := .int 8 :: _) rfl rfl ?_
  refine w_t (a := 14) (b := 10) (bN_lt_t (a := i) (b := 8) (by omega) (by omega) (by omega)) rfl rfl ?_
  refine w_p (pc1 := 15) rfl rfl ?_
  refine w_m0 (pc1 := 18) rfl rfl (h_gC rfl rfl rfl rfl) rfl ?_
  refine w_p (pc1 := 19) rfl rfl ?_
  refine w_m0 (pc1 := 20) (st1 := .null :: _) rfl rfl (n_aln (e := i) rfl rfl (by decide) rfl (by omega) (h)) rfl ?_
  refine w_r rfl rfl rfl (fun _ _ => rfl) rfl ?_
  exact ⟨rfl, rfl, rfl⟩
set_option maxRecDepth 100000 in
theorem m_123_s (hi : i < 8) (h : C.2.2 12 i = some (241 + k)) : Wd L xs d y_123 (0, [(0, .ref 106), (1, .int (nI i))], [], MH C t, sl) (Rt (some (.ref (241 + k))) (MH C t) sl) nX := by
  refine w_p (pc1 := 1) rfl rfl ?_
  refine w_f (a := 10) (b := 4) (bN_lt_f (a := i) (b := 0) (by omega) (by omega) (by omega)) rfl rfl ?_
  refine w_p (pc1 := 5) rfl rfl ?_
  refine w_p (pc1 := 7) (st1 := .int 8 :: _) rfl rfl ?_
  refine w_t (a := 14) (b := 10) (bN_lt_t (a := i) (b := 8) (by omega) (by omega) (by omega)) rfl rfl ?_
  refine w_p (pc1 := 15) rfl rfl ?_
  refine w_m0 (pc1 := 18) rfl rfl (h_gC rfl rfl rfl rfl) rfl ?_
  refine w_p (pc1 := 19) rfl rfl ?_
  refine w_m0 (pc1 := 20) (st1 := .ref (241 + k) :: _) rfl rfl (n_als (e := i) rfl rfl (by decide) rfl (by omega) (h)) rfl ?_
  refine w_r rfl rfl rfl (fun _ _ => rfl) rfl ?_
  exact ⟨rfl, rfl, rfl⟩
set_option maxRecDepth 100000 in
theorem m_47 {w : Nat} (hb : b < 6) (hw : C.1 8 b = nI w) (h6 : w ≤ 6) (hc : c < w) : Wd L xs d y_47 (0, [(0, .ref 106), (1, .int (nI b)), (2, .int (nI c))], [], MH C t, sl) (Rt (some (.int 1)) (MH C t) sl) nX := by
  refine w_p (pc1 := 1) rfl rfl ?_
  refine w_f (a := 34) (b := 4) (bN_lt_f (a := b) (b := 0) (by omega) (by omega) (by omega)) rfl rfl ?_
  refine w_p (pc1 := 5) rfl rfl ?_
  refine w_p (pc1 := 7) (st1 := .int 6 :: _) rfl rfl ?_
  refine w_f (a := 34) (b := 10) (bN_ge_f (a := b) (b := 6) (by omega) (by omega) (by omega)) rfl rfl ?_
  refine w_p (pc1 := 11) rfl rfl ?_
  refine w_f (a := 34) (b := 14) (bN_lt_f (a := c) (b := 0) (by omega) (by omega) (by omega)) rfl rfl ?_
  refine w_p (pc1 := 15) rfl rfl ?_
  refine w_p (pc1 := 16) rfl rfl ?_
  refine w_m0 (pc1 := 19) rfl rfl (h_gC rfl rfl rfl rfl) rfl ?_
  refine w_p (pc1 := 20) rfl rfl ?_
  refine w_m0 (pc1 := 21) (st1 := .int (nI (w)) :: _) rfl rfl (n_ile (e := b) rfl rfl rfl (by omega) (hw)) rfl ?_
  refine w_f (a := 34) (b := 24) (bN_ge_f (a := c) (b := w) (by omega) (by omega) (by omega)) rfl rfl ?_
  refine w_p (pc1 := 25) rfl rfl ?_
  refine w_p (pc1 := 27) (st1 := .int 6 :: _) rfl rfl ?_
  refine w_f (a := 34) (b := 30) (bN_ge_f (a := c) (b := 6) (by omega) (by omega) (by omega)) rfl rfl ?_
  refine w_p (pc1 := 31) (st1 := .int 1 :: _) rfl rfl ?_
  refine w_p (pc1 := 35) rfl rfl ?_
  refine w_r rfl rfl rfl (fun _ _ => rfl) rfl ?_
  exact ⟨rfl, rfl, rfl⟩
set_option maxRecDepth 100000 in
theorem m_110 (K : KS C t S) (ho : okSt S) (hb : b < 6) (hc : c < sWd S b) : Wd L xs (d + 1) y_110 (0, [(0, .ref 106), (1, .int (nI b)), (2, .int (nI c))], [], MH C t, sl) (Rt (some (.long (e_V (sDf S b c)))) (MH C t) sl) nX := by
  have h6 := ho.1 b hb
  refine w_p (pc1 := 1) rfl rfl ?_
  refine w_p (pc1 := 2) rfl rfl ?_
  refine w_p (pc1 := 3) rfl rfl ?_
  refine w_je (pc1 := 6) (vs := [.ref 106, .int (nI (b)), .int (nI (c))]) (rest := []) (st1 := [.int 1]) (m_47 (d := d) (sl := 0) hb (K.1 b hb).1 h6 hc) rfl rfl rfl (fun _ _ => rfl) rfl (by exact cl_v my_47 rfl rfl rfl (Nat.le_of_ble_eq_true rfl) rfl (MH_obj rfl rfl) rfl (by decide) rfl rfl) (by rfl) (Nat.le_of_ble_eq_true rfl) (Nat.le_of_ble_eq_true rfl) rfl (by rfl) ?_
  refine w_f (a := 23) (b := 9) rfl rfl rfl ?_
  refine w_p (pc1 := 10) rfl rfl ?_
  refine w_m0 (pc1 := 13) rfl rfl (h_gC rfl rfl rfl rfl) rfl ?_
  refine w_p (pc1 := 14) rfl rfl ?_
  refine w_p (pc1 := 16) (st1 := .int 6 :: _) rfl rfl ?_
  refine w_imul (pc1 := 17) (u := nI (b)) (v := nI (6)) (z := nI (b * 6)) rfl (nK_mul) rfl ?_
  refine w_p (pc1 := 18) rfl rfl ?_
  refine w_iadd (pc1 := 19) (u := nI (b * 6)) (v := nI (c)) (z := nI (b * 6 + c)) rfl (nK_add) rfl ?_
  refine w_m0 (pc1 := 20) (st1 := .long (e_V (sDf S b c)) :: _) rfl rfl (n_lle (e := b * 6 + c) rfl rfl rfl (by omega) ((K.1 b hb).2 c hc)) rfl ?_
  refine w_p (pc1 := 26) rfl rfl ?_
  refine w_r rfl rfl rfl (fun _ _ => rfl) rfl ?_
  exact ⟨rfl, rfl, rfl⟩
set_option maxRecDepth 100000 in
theorem m_124 {g : tr_T} {tb ti ev : Nat} {vw va : Value} (h : t[k]? = some (.inr (10, [.long (gNm g), .int (nI (gTb g)), .int (nI (gTi g)), .int (nI (gEv g)), vw, va]))) (h1 : gTb g < 6) (h2 : gTi g < 2) (h3 : gEv g < 3) (g1 : tb < 6) (g2 : ti < 2) (g3 : ev < 3) : Wd L xs d y_124 (0, [(0, .ref (241 + k)), (1, .int (nI tb)), (2, .int (nI ti)), (3, .int (nI ev))], [], MH C t, sl) (Rt (some (.int (if gTb g = tb ∧ gTi g = ti ∧ gEv g = ev then 1 else 0))) (MH C t) sl) nX := by
  refine w_p (pc1 := 1) rfl rfl ?_
  refine w_m0 (pc1 := 4) (st1 := .int (nI (gTb g)) :: _) rfl rfl (x_gf (k := k) rfl h rfl) rfl ?_
  refine w_p (pc1 := 5) rfl rfl ?_
  refine w_b (a := 28) (b := 8) rfl rfl (fun c5 => ?_) (fun c5 => ?_)
  · replace c5 := cN_ne_t (a := gTb g) (b := tb) (by omega) (by omega) c5
    refine w_p (pc1 := 29) (st1 := .int 0 :: _) rfl rfl ?_
    refine w_r rfl rfl rfl (fun _ _ => rfl) rfl ?_
    first | (rw [if_pos ⟨by omega, by omega, by omega⟩]; exact ⟨rfl, rfl, rfl⟩) | (rw [if_neg (by omega)]; exact ⟨rfl, rfl, rfl⟩)
  · replace c5 := cN_ne_f (a := gTb g) (b := tb) (by omega) (by omega) c5
    refine w_p (pc1 := 9) rfl rfl ?_
    refine w_m0 (pc1 := 12) (st1 := .int (nI (gTi g)) :: _) rfl rfl (x_gf (k := k) rfl h rfl) rfl ?_
    refine w_p (pc1 := 13) rfl rfl ?_
    refine w_b (a := 28) (b := 16) rfl rfl (fun c13 => ?_) (fun c13 => ?_)
    · replace c13 := cN_ne_t (a := gTi g) (b := ti) (by omega) (by omega) c13
      refine w_p (pc1 := 29) (st1 := .int 0 :: _) rfl rfl ?_
      refine w_r rfl rfl rfl (fun _ _ => rfl) rfl ?_
      first | (rw [if_pos ⟨by omega, by omega, by omega⟩]; exact ⟨rfl, rfl, rfl⟩) | (rw [if_neg (by omega)]; exact ⟨rfl, rfl, rfl⟩)
    · replace c13 := cN_ne_f (a := gTi g) (b := ti) (by omega) (by omega) c13
      refine w_p (pc1 := 17) rfl rfl ?_
      refine w_m0 (pc1 := 20) (st1 := .int (nI (gEv g)) :: _) rfl rfl (x_gf (k := k) rfl h rfl) rfl ?_
      refine w_p (pc1 := 21) rfl rfl ?_
      refine w_b (a := 28) (b := 24) rfl rfl (fun c21 => ?_) (fun c21 => ?_)
      · replace c21 := cN_ne_t (a := gEv g) (b := ev) (by omega) (by omega) c21
        refine w_p (pc1 := 29) (st1 := .int 0 :: _) rfl rfl ?_
        refine w_r rfl rfl rfl (fun _ _ => rfl) rfl ?_
        first | (rw [if_pos ⟨by omega, by omega, by omega⟩]; exact ⟨rfl, rfl, rfl⟩) | (rw [if_neg (by omega)]; exact ⟨rfl, rfl, rfl⟩)
      · replace c21 := cN_ne_f (a := gEv g) (b := ev) (by omega) (by omega) c21
        refine w_p (pc1 := 25) (st1 := .int 1 :: _) rfl rfl ?_
        refine w_p (pc1 := 29) rfl rfl ?_
        refine w_r rfl rfl rfl (fun _ _ => rfl) rfl ?_
        first | (rw [if_pos ⟨by omega, by omega, by omega⟩]; exact ⟨rfl, rfl, rfl⟩) | (rw [if_neg (by omega)]; exact ⟨rfl, rfl, rfl⟩)
set_option maxRecDepth 100000 in
theorem m_121s {u v : Nat} (h1 : C.1 24 7 = nI u) (hu : u ≤ 300) (h : 300 ≤ u ∨ 12 < D) (hD : D ≤ 13) : Wd L xs (d + 7) y_121 (0, [(0, .ref 124), (1, .int (nI D))], [], MH C t, sl) nP (Xk 12 (sI C 24 6 5) t sl) := by
  by_cases h3 : 300 ≤ u
  · skip
    refine w_p (pc1 := 1) rfl rfl ?_
    refine w_m0 (pc1 := 4) (st1 := .int (nI (u)) :: _) rfl rfl (h_gIe (j := 7) rfl rfl rfl rfl rfl (h1)) rfl ?_
    refine w_p (pc1 := 7) (st1 := .int 300 :: _) rfl rfl ?_
    refine w_t (a := 16) (b := 10) (bN_ge_t (a := u) (b := 300) (by omega) (by omega) (by omega)) rfl rfl ?_
    refine w_p (pc1 := 17) rfl rfl ?_
    refine w_p (pc1 := 18) (st1 := .int 5 :: _) rfl rfl ?_
    refine w_ji (pc1 := 21) (vs := [.ref 124, .int 5]) (rest := []) (m_119 (d := d) (sl := 0)) rfl rfl rfl (fun _ _ => rfl) rfl (by exact cl_v my_119 rfl rfl rfl (Nat.le_of_ble_eq_true rfl) rfl (MH_obj rfl rfl) rfl (by decide) rfl rfl) (by rfl) (Nat.le_of_ble_eq_true rfl) (Nat.le_of_ble_eq_true rfl) rfl (fun v h1 d1 hq => ?_) (fun a h1 d1 hq => ?_)
    · exact hq.elim
    · rcases hq with ⟨ha, hh, hn⟩
      · subst ha; subst hh; subst hn
        refine Or.inl ⟨ch_new (by decide) rfl, ?_⟩
        exact ⟨rfl, rfl, rfl⟩
  · skip
    refine w_p (pc1 := 1) rfl rfl ?_
    refine w_m0 (pc1 := 4) (st1 := .int (nI (u)) :: _) rfl rfl (h_gIe (j := 7) rfl rfl rfl rfl rfl (h1)) rfl ?_
    refine w_p (pc1 := 7) (st1 := .int 300 :: _) rfl rfl ?_
    refine w_f (a := 16) (b := 10) (bN_ge_f (a := u) (b := 300) (by omega) (by omega) (by omega)) rfl rfl ?_
    refine w_p (pc1 := 11) rfl rfl ?_
    refine w_p (pc1 := 13) (st1 := .int 12 :: _) rfl rfl ?_
    refine w_f (a := 21) (b := 16) (bN_le_f (a := D) (b := 12) (by omega) (by omega) (by omega)) rfl rfl ?_
    refine w_p (pc1 := 17) rfl rfl ?_
    refine w_p (pc1 := 18) (st1 := .int 5 :: _) rfl rfl ?_
    refine w_ji (pc1 := 21) (vs := [.ref 124, .int 5]) (rest := []) (m_119 (d := d) (sl := 0)) rfl rfl rfl (fun _ _ => rfl) rfl (by exact cl_v my_119 rfl rfl rfl (Nat.le_of_ble_eq_true rfl) rfl (MH_obj rfl rfl) rfl (by decide) rfl rfl) (by rfl) (Nat.le_of_ble_eq_true rfl) (Nat.le_of_ble_eq_true rfl) rfl (fun v h1 d1 hq => ?_) (fun a h1 d1 hq => ?_)
    · exact hq.elim
    · rcases hq with ⟨ha, hh, hn⟩
      · subst ha; subst hh; subst hn
        refine Or.inl ⟨ch_new (by decide) rfl, ?_⟩
        exact ⟨rfl, rfl, rfl⟩
set_option maxRecDepth 100000 in
theorem mx_N {a b : Nat} (ha : a < 2147483648) (hb : b < 2147483648) : (if nI a < nI b then nI b else nI a) = nI (max a b) := by
  by_cases h : a < b
  · rw [if_pos (by rw [Int32.lt_iff_toInt_lt, nK_int ha, nK_int hb]; omega), Nat.max_eq_right (Nat.le_of_lt h)]
  · rw [if_neg (by rw [Int32.lt_iff_toInt_lt, nK_int ha, nK_int hb]; omega), Nat.max_eq_left (by omega)]
set_option maxRecDepth 100000 in
theorem n_maN {o idx fr lo a b : Nat} {q : List Value} {h : ab_H} (ha : a < 2147483648) (hb : b < 2147483648) (hn : mi_l.contains (o, idx) = false) (hl : ma_l.contains (o, idx) = true) (hac : ac_l.contains (o, idx) = false) (hs : sumc q ≤ 50) (h1 : 1 ≤ fr) (h2 : 64 ≤ lo) : cn o fr lo (.invokestatic idx) 3 h (.int (nI b) :: .int (nI a) :: q) = some (.int (nI (max a b)) :: q, h, 0) := by
  rw [n_ma hn hl hac hs h1 h2, mx_N ha hb]
set_option maxRecDepth 100000 in
theorem m_121 {u v : Nat} (h1 : C.1 24 7 = nI u) (hu : u < 300) (h2 : C.1 24 8 = nI v) (hv : v ≤ 12) (hD : D ≤ 12) : Wd L xs (d + 1) y_121 (0, [(0, .ref 124), (1, .int (nI D))], [], MH C t, sl) (Rt none (MH (sI (sI C 24 7 (nI (u + 1))) 24 8 (nI (max v D))) t) sl) nX := by
  refine w_p (pc1 := 1) rfl rfl ?_
  refine w_m0 (pc1 := 4) (st1 := .int (nI (u)) :: _) rfl rfl (h_gIe (j := 7) rfl rfl rfl rfl rfl (h1)) rfl ?_
  refine w_p (pc1 := 7) (st1 := .int 300 :: _) rfl rfl ?_
  refine w_f (a := 16) (b := 10) (bN_ge_f (a := u) (b := 300) (by omega) (by omega) (by omega)) rfl rfl ?_
  refine w_p (pc1 := 11) rfl rfl ?_
  refine w_p (pc1 := 13) (st1 := .int 12 :: _) rfl rfl ?_
  refine w_t (a := 21) (b := 16) (bN_le_t (a := D) (b := 12) (by omega) (by omega) (by omega)) rfl rfl ?_
  refine w_p (pc1 := 22) rfl rfl ?_
  refine w_p (pc1 := 23) rfl rfl ?_
  refine w_m0 (pc1 := 26) (st1 := .int (nI (u)) :: _) rfl rfl (h_gIe (j := 7) rfl rfl rfl rfl rfl (h1)) rfl ?_
  refine w_p (pc1 := 27) (st1 := .int 1 :: _) rfl rfl ?_
  refine w_iadd (pc1 := 28) (u := nI (u)) (v := nI (1)) (z := nI (u + 1)) rfl (nK_add) rfl ?_
  refine w_m0 (pc1 := 31) rfl rfl (h_pI (j := 7) rfl rfl rfl rfl rfl rfl rfl ⟨rfl, rfl⟩ rfl) rfl ?_
  refine w_p (pc1 := 32) rfl rfl ?_
  refine w_p (pc1 := 33) rfl rfl ?_
  refine w_m0 (pc1 := 36) (st1 := .int (nI (v)) :: _) rfl rfl (h_gIe (j := 8) rfl rfl rfl rfl rfl (h2)) rfl ?_
  refine w_p (pc1 := 37) rfl rfl ?_
  refine w_c (pc1 := 40) (st1 := .int (nI (max v D)) :: _) rfl rfl rfl (fun fr lo h1 h2 => n_maN (a := v) (b := D) (by omega) (by omega) rfl rfl rfl (by decide) h1 h2) rfl ?_
  refine w_m0 (pc1 := 43) rfl rfl (h_pI (j := 8) rfl rfl rfl rfl rfl rfl rfl ⟨rfl, rfl⟩ rfl) rfl ?_
  refine w_r rfl rfl rfl (fun _ _ => rfl) rfl ?_
  exact ⟨rfl, rfl, rfl⟩
/-! a sum; a test -/
def WR (C : co_T) (t : ab_H) (sl : Nat) (x : Int64) : Option Value → ab_H → Nat → Prop := fun v h m => some (.long x) = v ∧ (∃ t', stk t t' ∧ MH C t' = h) ∧ sl = m
def XZ (C : co_T) (t : ab_H) (sl : Nat) : Nat → ab_H → Nat → Prop := fun a h m => ∃ t', stk t t' ∧ Xk 12 (sI C 24 6 4) t' sl a h m
set_option maxRecDepth 100000 in
theorem m_111 {k1 k2 k3 : Nat} {Q : List op_T} {s0 : Nat → Int64} {z : Bool} {st : List tv_T} (hE : envK C p (.ref (46 + D + 100)) (.ref (31 + D + 100)) w1 w2 w3 R N O) (K : KS C t S) (hD : D < 14) (F : FO t k k1 k2 k3 Q 0 s0) (h6 : Q.length ≤ 600) (ht : t_l w1 w2 w3 Q [] = some [z]) (hv : f_l false R N O Q [] = some st) : Wd L xs (d + 7) y_111 (0, [(0, .ref 124), (1, .ref (241 + k)), (2, .int (nI p)), (3, .int (nI D))], [], MH C t, sl) (WR C t sl (rsK (some st))) nX := by
  have hw := m_112r (L := L) (xs := xs) (d := d + 3) (sl := 0) (g := false) F h6 hE ht
  rw [hv] at hw
  have hne : rsK (some st) ≠ -9223372036854775807 := by
    cases st with
    | nil => show (-9223372036854775808 : Int64) ≠ _; decide
    | cons v r => exact v_K_un v
  refine w_p (pc1 := 1) rfl rfl ?_
  refine w_t (a := 8) (b := 4) rfl rfl rfl ?_
  refine w_p (pc1 := 9) rfl rfl ?_
  refine w_p (pc1 := 10) rfl rfl ?_
  refine w_m0 (pc1 := 13) rfl rfl (h_gC rfl rfl rfl rfl) rfl ?_
  refine w_m0 (pc1 := 16) rfl rfl (h_gC rfl rfl rfl rfl) rfl ?_
  refine w_p (pc1 := 17) rfl rfl ?_
  refine w_p (pc1 := 18) rfl rfl ?_
  refine w_m0 (pc1 := 21) rfl rfl (h_gC rfl rfl rfl rfl) rfl ?_
  refine w_p (pc1 := 22) rfl rfl ?_
  refine w_m0 (pc1 := 23) (st1 := .ref (46 + D + 100) :: _) rfl rfl (n_als (e := D) rfl rfl (by decide) rfl (by omega) ((K.2.2.2 D hD).2.1)) rfl ?_
  refine w_p (pc1 := 24) rfl rfl ?_
  refine w_m0 (pc1 := 27) rfl rfl (h_gC rfl rfl rfl rfl) rfl ?_
  refine w_p (pc1 := 28) rfl rfl ?_
  refine w_m0 (pc1 := 29) (st1 := .ref (31 + D + 100) :: _) rfl rfl (n_als (e := D) rfl rfl (by decide) rfl (by omega) ((K.2.2.2 D hD).1)) rfl ?_
  refine w_ji (pc1 := 32) (vs := [.ref (241 + k), .ref 114, .int (nI (p)), .ref (46 + D + 100), .ref (31 + D + 100)]) (rest := []) (hw) rfl rfl rfl (fun _ _ => rfl) rfl (by exact cl_v my_112 rfl rfl rfl (Nat.le_of_ble_eq_true rfl) rfl (x_obj F.1) rfl (by decide) rfl rfl) (by rfl) (Nat.le_of_ble_eq_true rfl) (Nat.le_of_ble_eq_true rfl) rfl (fun v h m hq => ?_) (fun _ _ _ e => e.elim)
  obtain ⟨s9, rfl, rfl, rfl⟩ := hq
  have hst := stk_set (s' := s9) F.2.2.2 h6
  refine w_p (pc1 := 34) (al1 := [(4, .long (rsK (some st))), (0, .ref 124), (1, .ref (241 + k)), (2, .int (nI (p))), (3, .int (nI (D)))]) rfl rfl ?_
  refine w_p (pc1 := 36) rfl rfl ?_
  refine w_m0 (pc1 := 39) (st1 := .long (-9223372036854775807) :: _) rfl rfl rfl rfl ?_
  refine w_p (pc1 := 40) rfl rfl ?_
  refine w_t (a := 48) (b := 43) (lb_ne_t (by exact hne)) rfl rfl ?_
  refine w_p (pc1 := 50) rfl rfl ?_
  refine w_r rfl rfl rfl (fun _ _ => rfl) rfl ?_
  exact ⟨rfl, ⟨_, hst, rfl⟩, rfl⟩
set_option maxRecDepth 100000 in
theorem m_111z {k1 k2 k3 : Nat} {Q : List op_T} {s0 : Nat → Int64} {z : Bool} (hE : envK C p (.ref (46 + D + 100)) (.ref (31 + D + 100)) w1 w2 w3 R N O) (K : KS C t S) (hD : D < 14) (F : FO t k k1 k2 k3 Q 0 s0) (h6 : Q.length ≤ 600) (ht : t_l w1 w2 w3 Q [] = some [z]) (hv : f_l false R N O Q [] = none) : Wd L xs (d + 7) y_111 (0, [(0, .ref 124), (1, .ref (241 + k)), (2, .int (nI p)), (3, .int (nI D))], [], MH C t, sl) nP (XZ C t sl) := by
  have hw := m_112r (L := L) (xs := xs) (d := d + 3) (sl := 0) (g := false) F h6 hE ht
  rw [hv] at hw
  refine w_p (pc1 := 1) rfl rfl ?_
  refine w_t (a := 8) (b := 4) rfl rfl rfl ?_
  refine w_p (pc1 := 9) rfl rfl ?_
  refine w_p (pc1 := 10) rfl rfl ?_
  refine w_m0 (pc1 := 13) rfl rfl (h_gC rfl rfl rfl rfl) rfl ?_
  refine w_m0 (pc1 := 16) rfl rfl (h_gC rfl rfl rfl rfl) rfl ?_
  refine w_p (pc1 := 17) rfl rfl ?_
  refine w_p (pc1 := 18) rfl rfl ?_
  refine w_m0 (pc1 := 21) rfl rfl (h_gC rfl rfl rfl rfl) rfl ?_
  refine w_p (pc1 := 22) rfl rfl ?_
  refine w_m0 (pc1 := 23) (st1 := .ref (46 + D + 100) :: _) rfl rfl (n_als (e := D) rfl rfl (by decide) rfl (by omega) ((K.2.2.2 D hD).2.1)) rfl ?_
  refine w_p (pc1 := 24) rfl rfl ?_
  refine w_m0 (pc1 := 27) rfl rfl (h_gC rfl rfl rfl rfl) rfl ?_
  refine w_p (pc1 := 28) rfl rfl ?_
  refine w_m0 (pc1 := 29) (st1 := .ref (31 + D + 100) :: _) rfl rfl (n_als (e := D) rfl rfl (by decide) rfl (by omega) ((K.2.2.2 D hD).1)) rfl ?_
  refine w_ji (pc1 := 32) (vs := [.ref (241 + k), .ref 114, .int (nI (p)), .ref (46 + D + 100), .ref (31 + D + 100)]) (rest := []) (hw) rfl rfl rfl (fun _ _ => rfl) rfl (by exact cl_v my_112 rfl rfl rfl (Nat.le_of_ble_eq_true rfl) rfl (x_obj F.1) rfl (by decide) rfl rfl) (by rfl) (Nat.le_of_ble_eq_true rfl) (Nat.le_of_ble_eq_true rfl) rfl (fun v h m hq => ?_) (fun _ _ _ e => e.elim)
  obtain ⟨s9, rfl, rfl, rfl⟩ := hq
  have hst := stk_set (s' := s9) F.2.2.2 h6
  refine w_p (pc1 := 34) (al1 := [(4, .long (rsK none)), (0, .ref 124), (1, .ref (241 + k)), (2, .int (nI (p))), (3, .int (nI (D)))]) rfl rfl ?_
  refine w_p (pc1 := 36) rfl rfl ?_
  refine w_m0 (pc1 := 39) (st1 := .long (-9223372036854775807) :: _) rfl rfl rfl rfl ?_
  refine w_p (pc1 := 40) rfl rfl ?_
  refine w_f (a := 48) (b := 43) (lb_ne_f (by rfl)) rfl rfl ?_
  refine w_p (pc1 := 44) rfl rfl ?_
  refine w_p (pc1 := 45) (st1 := .int 4 :: _) rfl rfl ?_
  refine w_ji (pc1 := 48) (vs := [.ref 124, .int 4]) (rest := []) (m_119 (d := d) (sl := 0)) rfl rfl rfl (fun _ _ => rfl) rfl (by exact cl_v my_119 rfl rfl rfl (Nat.le_of_ble_eq_true rfl) rfl (MH_obj rfl rfl) rfl (by decide) rfl rfl) (by rfl) (Nat.le_of_ble_eq_true rfl) (Nat.le_of_ble_eq_true rfl) rfl (fun v h1 d1 hq => ?_) (fun a h1 d1 hq => ?_)
  · exact hq.elim
  · rcases hq with ⟨ha, hh, hn⟩
    · subst ha; subst hh; subst hn
      refine Or.inl ⟨ch_new (by decide) rfl, ?_⟩
      exact ⟨_, hst, rfl, rfl, rfl⟩
end KEN
