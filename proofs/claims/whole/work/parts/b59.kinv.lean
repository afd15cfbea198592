
/-! ONE SIDE AND THE WORLD: what it keeps between calls -/
def RWx (t : ab_H) (k : Nat) : Prop := ∃ ce id sz la, RWo t k ce id sz la
/-! rows that were put aside: at the begin, at marks -/
def asK (C : co_T) (s : Nat) : Option Nat := if s = 0 then C.2.2 6 9 else C.2.2 18 (s - 1)
def asP (C : co_T) (t : ab_H) (Ks : List Nat) : Prop := (∀ s, s < 7 → asK C s = none ∨ ∃ k, asK C s = some (241 + k) ∧ k ∈ Ks ∧ RWx t k) ∧ ∀ s s' k, s < 7 → s' < 7 → asK C s = some (241 + k) → asK C s' = some (241 + k) → s = s'
def KAs (C : co_T) (t : ab_H) (Ks : List Nat) (wd : Nat → Nat) (X : tx_T) : Prop := asP C t Ks ∧ (xIn X = true → ∃ k, C.2.2 6 9 = some (241 + k) ∧ RWt t k wd (x0 X)) ∧ ∀ j, j < (xMk X).1 → ∃ k, C.2.2 18 j = some (241 + k) ∧ RWt t k wd (xMr X j)
def KTx (C : co_T) (X : tx_T) : Prop := C.1 6 7 = ck (xIn X) ∧ (∀ i, i < 24 → btI (C.1 6 8) i = xWt X i) ∧ MKK C (xMk X)
def KRo (C : co_T) (wd : Nat → Nat) (rs : rs_T) : Prop := RWf (C.2.1 14) (C.1 15) (C.1 16) wd rs ∧ ∀ q, q < 6 → C.1 17 q = (rs q).2
def KBf (C : co_T) : Prop := ∀ j, j < 14 → C.2.2 30 j = some (31 + j + 100) ∧ C.2.2 45 j = some (46 + j + 100) ∧ C.2.2 60 j = some (61 + j + 100)
def KSc (C : co_T) (mt : ab_H) (W : wo_T) : Prop := BK C mt (wT W) ∧ TGN C mt (wG W) ∧ KBf C
def KI (C : co_T) (t : ab_H) (Ks : List Nat) (W : wo_T) : Prop := bkO Ks t.length ∧ KSc C (msk (mBk Ks) t) W ∧ KRo C (wW W) (wR W) ∧ KTx C (wX W) ∧ KAs C t Ks (wW W) (wX W)
section KIF
variable {C C' : co_T} {t t' mt mt' : ab_H} {Ks : List Nat} {W : wo_T} {wd : Nat → Nat} {rs : rs_T} {X : tx_T} {k : Nat}
set_option maxRecDepth 100000 in
theorem TRn_k {g : tr_T} (h : stk t t') (A : TRn t k g) : TRn t' k g := by
  obtain ⟨ka, vw, h1, h2, kc, ks, fc, fs, vw2, ⟨g1, g2, g3, g4, g5, g6⟩, g7⟩ := A
  exact ⟨ka, vw, stk_o h h1, foK_k h h2, kc, ks, fc, fs, vw2, ⟨stk_o h g1, stk_a h g2, g3, stk_q h g4, fun j s hj => foK_k h (g5 j s hj), foK_k h g6⟩, g7⟩
set_option maxRecDepth 100000 in
theorem TRn_e {g : tr_T} (h : tlE t t') (A : TRn t k g) : TRn t' k g := by
  obtain ⟨ka, vw, h1, h2, h3⟩ := A
  exact ⟨ka, vw, h _ _ h1, foK_e h h2, ACn_e h h3⟩
/-! what speaks of rules and triggers in the tail stays -/
def tlK (t t' : ab_H) : Prop := (∀ k u, RUK t k u → RUK t' k u) ∧ ∀ k g, TRn t k g → TRn t' k g
set_option maxRecDepth 100000 in
theorem tlK_e (h : tlE t t') : tlK t t' := ⟨fun _ _ => RUK_e h, fun _ _ => TRn_e h⟩
set_option maxRecDepth 100000 in
theorem tlK_k (h : stk t t') : tlK t t' := ⟨fun _ _ => RUK_k h, fun _ _ => TRn_k h⟩
set_option maxRecDepth 100000 in
theorem tlK_t {t1 t2 t3 : ab_H} (h : tlK t1 t2) (g : tlK t2 t3) : tlK t1 t3 := ⟨fun k u x => g.1 k u (h.1 k u x), fun k u x => g.2 k u (h.2 k u x)⟩
set_option maxRecDepth 100000 in
theorem tlK_y {m : Nat} (h : stY t t' m) : tlK t t' := by
  obtain ⟨t1, h1, ⟨e, _⟩ | ⟨e, _⟩⟩ := h
  · rw [e]; exact tlK_k h1
  · rw [e]; exact tlK_t (tlK_k h1) (tlK_e tlE_a)
/-! fixed cells of names, rules, triggers -/
def fxS (C C' : co_T) : Prop := (∀ j, C'.1 8 j = C.1 8 j) ∧ (∀ k j, k = 7 ∨ k = 9 ∨ k = 10 → C'.2.1 k j = C.2.1 k j) ∧ ∀ k j, k = 11 ∨ k = 12 ∨ k = 30 ∨ k = 45 ∨ k = 60 → C'.2.2 k j = C.2.2 k j
set_option maxRecDepth 100000 in
theorem KSc_g (f : fxS C C') (h : tlK mt mt') (K : KSc C mt W) : KSc C' mt' W := by
  obtain ⟨⟨⟨b1, b2⟩, b3, b4⟩, b5, b6⟩ := K
  refine ⟨⟨⟨fun b hb => (f.2.1 7 b (by omega)).trans (b1 b hb), fun b hb => ⟨(f.1 b).trans (b2 b hb).1, (b2 b hb).2.1, fun c hc => (f.2.1 9 _ (by omega)).trans ((b2 b hb).2.2 c hc)⟩⟩, fun b c hb hc => (f.2.1 10 _ (by omega)).trans (b3 b c hb hc), fun i hi => ?_⟩, fun i hi => ?_, fun j hj => ?_⟩
  · rw [f.2.2 11 i (by omega)]
    exact opK_m h.1 (b4 i hi)
  · rw [f.2.2 12 i (by omega)]
    exact opK_m h.2 (b5 i hi)
  · rw [f.2.2 30 j (by omega), f.2.2 45 j (by omega), f.2.2 60 j (by omega)]
    exact b6 j hj
set_option maxRecDepth 100000 in
theorem KRo_g (h1 : ∀ k j, 15 ≤ k ∧ k ≤ 17 → C'.1 k j = C.1 k j) (h2 : ∀ j, C'.2.1 14 j = C.2.1 14 j) (K : KRo C wd rs) : KRo C' wd rs := ⟨fun b hb => by
  obtain ⟨a1, a2, a3, a4⟩ := K.1 b hb
  exact ⟨a1, (h1 16 b (by omega)).trans a2, a3, fun k r hr => ⟨(h1 15 _ (by omega)).trans (a4 k r hr).1, fun c hc => (h2 _).trans ((a4 k r hr).2 c hc)⟩⟩, fun q hq => (h1 17 q (by omega)).trans (K.2 q hq)⟩
set_option maxRecDepth 100000 in
theorem KTx_g (h1 : ∀ j, j = 7 ∨ j = 8 ∨ j = 12 → C'.1 6 j = C.1 6 j) (h2 : ∀ j, C'.2.1 19 j = C.2.1 19 j) (K : KTx C X) : KTx C' X := ⟨(h1 7 (by omega)).trans K.1, fun i hi => by rw [h1 8 (by omega)]; exact K.2.1 i hi, (h1 12 (by omega)).trans K.2.2.1, K.2.2.2.1, fun j hj => (h2 j).trans (K.2.2.2.2 j hj)⟩
set_option maxRecDepth 100000 in
theorem asK_g (h : ∀ k j, (k = 6 ∧ j = 9) ∨ k = 18 → C'.2.2 k j = C.2.2 k j) (s : Nat) : asK C' s = asK C s := by
  unfold asK
  rw [h 6 9 (by omega), h 18 (s - 1) (by omega)]
set_option maxRecDepth 100000 in
theorem RWx_M (hk : k ∈ Ks) (h : frVm (mBk Ks) t t') (R : RWx t k) : RWx t' k := by
  obtain ⟨ce, id, sz, la, R⟩ := R
  exact ⟨ce, id, sz, la, RWo_g (fun j a b => (h j (mBk_i.mpr ⟨k, hk, a, b⟩)).2) R⟩
set_option maxRecDepth 100000 in
theorem KAs_k (K : asP C t Ks) {s : Nat} (hs : s < 7) (h : asK C s = some (241 + k)) : k ∈ Ks := by
  rcases K.1 s hs with e | ⟨k', e, h1, _⟩
  · rw [e] at h; cases h
  · rw [e] at h
    injection h with h
    have : k' = k := by omega
    rw [← this]
    exact h1
set_option maxRecDepth 100000 in
theorem KAs_g (h : ∀ k j, (k = 6 ∧ j = 9) ∨ k = 18 → C'.2.2 k j = C.2.2 k j) (hv : frVm (mBk Ks) t t') (h6 : (xMk X).1 ≤ 6) (K : KAs C t Ks wd X) : KAs C' t' Ks wd X := by
  obtain ⟨a1, a2, a3⟩ := K
  refine ⟨⟨fun s hs => ?_, fun s s' k hs hs' e1 e2 => a1.2 s s' k hs hs' ((asK_g h s).symm.trans e1) ((asK_g h s').symm.trans e2)⟩, fun z => ?_, fun j hj => ?_⟩
  · rw [asK_g h s]
    rcases a1.1 s hs with e | ⟨k, e, e1, e2⟩
    · exact Or.inl e
    · exact Or.inr ⟨k, e, e1, RWx_M e1 hv e2⟩
  · obtain ⟨k, e, e1⟩ := a2 z
    exact ⟨k, (h 6 9 (by omega)).trans e, RWt_M (KAs_k a1 (s := 0) (by omega) e) hv e1⟩
  · obtain ⟨k, e, e1⟩ := a3 j hj
    exact ⟨k, (h 18 j (by omega)).trans e, RWt_M (KAs_k a1 (s := j + 1) (by omega) e) hv e1⟩
/-! what a reading leaves alone, it leaves alone -/
set_option maxRecDepth 100000 in
theorem frD_S (f : frD C C') : fxS C C' := ⟨fun j => f.1 8 j (by omega) (by omega) (by omega) (by omega) (by omega), fun k j h => f.2.1 k j (by omega) (by omega), fun k j h => f.2.2 k j (by omega) (by omega)⟩
set_option maxRecDepth 100000 in
theorem KI_D (f : frD C C') (h : tlE (msk (mBk Ks) t) (msk (mBk Ks) t')) (hv : frVm (mBk Ks) t t') (K : KI C t Ks W) : KI C' t' Ks W := by
  obtain ⟨k1, k2, k3, k4, k5⟩ := K
  exact ⟨bkO_f k1 hv, KSc_g (frD_S f) (tlK_e h) k2, KRo_g (fun k j h => f.1 k j (by omega) (by omega) (by omega) (by omega) (by omega)) (fun j => f.2.1 14 j (by omega) (by omega)) k3, KTx_g (fun j h => f.1 6 j (by omega) (by omega) (by omega) (by omega) (by omega)) (fun j => f.2.1 19 j (by omega) (by omega)) k4, KAs_g (fun k j h => f.2.2 k j (by omega) (by omega)) hv k4.2.2.2.1 k5⟩
/-! as the engine wants it -/
set_option maxRecDepth 100000 in
theorem KS_I (K : KSc C mt W) : KS C mt (wS W) := ⟨fun b hb => ⟨(K.1.1.2 b hb).1, fun c hc => K.1.2.1 b c hb hc⟩, K.1.2.2, fun i hi => opK_m (fun k u => TRn_K) (K.2.1 i hi), K.2.2⟩
end KIF
