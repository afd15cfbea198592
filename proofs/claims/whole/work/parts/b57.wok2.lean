
/-! EVERY WORLD BEHIND A STATEMENT IS ONE THAT CAN BE, 2 -/
section WOL
variable {B : Nat → Nat} {n m i b c : Nat} {W : wo_T} {T : tb_S} {u : ru_T} {g : tr_T} {wd wd' : Nat → Nat} {K : tv2} {nl : Option Nat} {tn tn' : Nat → Int64}
set_option maxRecDepth 100000 in
theorem allN_t {f : Nat → Bool} : ∀ (n k : Nat), allN f n k = true → ∀ j, k ≤ j → j < k + n → f j = true
  | 0, k, _, j, h1, h2 => by omega
  | n + 1, k, h, j, h1, h2 => by
    have h : (f k && allN f n (k + 1)) = true := h
    rw [Bool.and_eq_true] at h
    by_cases e : j = k
    · rw [e]; exact h.1
    · exact allN_t n (k + 1) h.2 j (by omega) (by omega)
set_option maxRecDepth 100000 in
theorem drT_s {x : ru_T} (h : (drT T b).2.2 i = some x) : T.2.2 i = some x ∧ rTb x ≠ b := by
  have h : (match T.2.2 i with
    | none => none
    | some u => if rTb u = b then none else some u) = some x := h
  cases e : T.2.2 i with
  | none => rw [e] at h; cases h
  | some u =>
    rw [e] at h
    have h : (if rTb u = b then none else some u) = some x := h
    split at h
    · cases h
    · rename_i hne
      cases h
      exact ⟨rfl, hne⟩
set_option maxRecDepth 100000 in
theorem drG_s {tr : Nat → Option tr_T} {x : tr_T} (h : drG tr b i = some x) : tr i = some x ∧ gTb x ≠ b := by
  have h : (match tr i with
    | none => none
    | some u => if gTb u = b then none else some u) = some x := h
  cases e : tr i with
  | none => rw [e] at h; cases h
  | some u =>
    rw [e] at h
    have h : (if gTb u = b then none else some u) = some x := h
    split at h
    · cases h
    · rename_i hne
      cases h
      exact ⟨rfl, hne⟩
/-! slots beyond the last hold nothing -/
def slOk (W : wo_T) : Prop := (∀ i, 24 ≤ i → wU W i = none) ∧ ∀ i, 8 ≤ i → wG W i = none
set_option maxRecDepth 100000 in
theorem drp_ok (hb : b < 6) (hf : frG_ W b = true) (hs : slOk W) (hx : xIn (wX W) = false) (h : wOk W) : wOk (drW W b) := by
  obtain ⟨h1, h2, h3, h4, h5⟩ := h
  unfold frG_ at hf
  rw [Bool.and_eq_true] at hf
  have tn1 : ∀ q, (drW W b).1.1.1 q = if q = b then 0 else (wT W).1.1 q := fun q => rfl
  have wd1 : ∀ q, (drW W b).1.1.2.1 q = if q = b then 0 else (wT W).1.2.1 q := fun q => rfl
  have f1 : ∀ i u, wU W i = some u → rTb u ≠ b → rTg u ≠ some b := fun i u hu hr hg => by
    have hi : i < 24 := Nat.lt_of_not_le (fun z => by rw [hs.1 i z] at hu; cases hu)
    have := allN_t 24 0 hf.1 i (by omega) (by omega)
    rw [hu] at this
    have this : (decide (rTb u = b) || !decide (rTg u = some b)) = true := this
    rw [decide_eq_false hr, decide_eq_true hg] at this
    cases this
  have f2 : ∀ i g, wG W i = some g → gTb g ≠ b → aTb (gAc g) ≠ some b := fun i g hu hr hg => by
    have hi : i < 8 := Nat.lt_of_not_le (fun z => by rw [hs.2 i z] at hu; cases hu)
    have := allN_t 8 0 hf.2 i (by omega) (by omega)
    rw [hu] at this
    have this : (decide (gTb g = b) || !decide (aTb (gAc g) = some b)) = true := this
    rw [decide_eq_false hr, decide_eq_true hg] at this
    cases this
  refine ⟨⟨fun q hq => ?_, fun i u hu => ?_⟩, fun i g hg => ?_, ?_, ?_, ?_⟩
  · show (drW W b).1.1.2.1 q ≤ 6 ∧ ((drW W b).1.1.1 q ≠ 0 → 0 < (drW W b).1.1.2.1 q) ∧ ((drW W b).1.1.1 q = 0 → (drW W b).1.1.2.1 q = 0)
    rw [tn1, wd1]
    by_cases e : q = b
    · rw [if_pos e, if_pos e]
      exact ⟨Nat.zero_le 6, fun z => absurd rfl z, fun _ => rfl⟩
    · rw [if_neg e, if_neg e]
      exact h1.1 q hq
  · obtain ⟨hu, hne⟩ := drT_s hu
    obtain ⟨a1, a2, a3⟩ := h1.2 i u hu
    have ng : ∀ c, rTg u = some c → c ≠ b := fun c hc e => f1 i u hu hne (by rw [← e]; exact hc)
    refine ⟨okR_c (by show (drW W b).1.1.2.1 _ = _; rw [wd1, if_neg hne]) (fun c hc => by show (drW W b).1.1.2.1 _ = _; rw [wd1, if_neg (ng c hc)]) a1, ?_, fun c hc => ⟨(a3 c hc).1, ?_⟩⟩
    · show (drW W b).1.1.1 _ ≠ 0
      rw [tn1, if_neg hne]; exact a2
    · show (drW W b).1.1.1 _ ≠ 0
      rw [tn1, if_neg (ng c hc)]; exact (a3 c hc).2
  · obtain ⟨hg, hne⟩ := drG_s hg
    obtain ⟨a1, a2, a3, a4⟩ := h2 i g hg
    have ng : ∀ c, aTb (gAc g) = some c → c ≠ b := fun c hc e => f2 i g hg hne (by rw [← e]; exact hc)
    refine ⟨okG_c (by show (drW W b).1.1.2.1 _ = _; rw [wd1, if_neg hne]; rfl) (fun c hc => by show (drW W b).1.1.2.1 _ = _; rw [wd1, if_neg (ng c hc)]; rfl) a1, ?_, fun c hc => ⟨(a3 c hc).1, ?_⟩, a4⟩
    · show (drW W b).1.1.1 _ ≠ 0
      rw [tn1, if_neg hne]; exact a2
    · show (drW W b).1.1.1 _ ≠ 0
      rw [tn1, if_neg (ng c hc)]; exact (a3 c hc).2
  · have q1 : smN (fun i => ndU ((drT (wT W) b).2.2 i)) 24 0 ≤ smN (fun i => ndU (wU W i)) 24 0 := smN_le 24 0 (fun j => by
      cases e : (drT (wT W) b).2.2 j with
      | none => exact Nat.zero_le _
      | some u => rw [show wU W j = some u from (drT_s e).1]; exact Nat.le_refl _)
    have q2 : smN (fun i => ndG (drG (wG W) b i)) 8 0 ≤ smN (fun i => ndG (wG W i)) 8 0 := smN_le 8 0 (fun j => by
      cases e : drG (wG W) b j with
      | none => exact Nat.zero_le _
      | some u => rw [(drG_s e).1]; exact Nat.le_refl _)
    have q3 : ndS (wU W) (wG W) = smN (fun i => ndU (wU W i)) 24 0 + smN (fun i => ndG (wG W i)) 8 0 := rfl
    have q4 : ndS (wU (drW W b)) (wG (drW W b)) = smN (fun i => ndU ((drT (wT W) b).2.2 i)) 24 0 + smN (fun i => ndG (drG (wG W) b i)) 8 0 := rfl
    omega
  · have z := h4.2.1 hx
    exact ⟨fun i _ => z.1 i, fun _ => z, h4.2.2⟩
  · refine ⟨fun q hq hz => ?_, fun z => ?_, fun j hj => ?_⟩
    · have hz : (drW W b).1.1.1 q = 0 := hz
      rw [tn1] at hz
      show rsU (wR W) b ([], 0) q = ([], 0)
      unfold rsU
      by_cases e : q = b
      · rw [if_pos e]
      · rw [if_neg e] at hz ⊢
        exact h5.1 q hq hz
    · have z : xIn (wX W) = true := z
      rw [hx] at z
      cases z
    · have hj : j < (xMk (wX W)).1 := hj
      rw [(h4.2.1 hx).2] at hj
      omega
set_option maxRecDepth 100000 in
theorem drp_sl (hs : slOk W) : slOk (drW W b) := ⟨fun i hi => by
  show (match (wT W).2.2 i with
    | none => none
    | some u => if rTb u = b then none else some u) = none
  rw [show (wT W).2.2 i = none from hs.1 i hi], fun i hi => by
  show (match wG W i with
    | none => none
    | some u => if gTb u = b then none else some u) = none
  rw [hs.2 i hi]⟩
set_option maxRecDepth 100000 in
theorem upG_ok (h : wOk W) : wOk (wT W, upG (wG W) i none, W.2.2) := by
  obtain ⟨h1, h2, h3, h4, h5⟩ := h
  refine ⟨h1, fun j g hg => ?_, ?_, h4, h5⟩
  · have hg : (if j = i then none else wG W j) = some g := hg
    split at hg
    · cases hg
    · exact h2 j g hg
  · have q2 : smN (fun j => ndG (upG (wG W) i none j)) 8 0 ≤ smN (fun i => ndG (wG W i)) 8 0 := smN_le 8 0 (fun j => by
      show ndG (if j = i then none else wG W j) ≤ _
      split
      · exact Nat.zero_le _
      · exact Nat.le_refl _)
    have q3 : ndS (wU W) (wG W) = smN (fun i => ndU (wU W i)) 24 0 + smN (fun i => ndG (wG W i)) 8 0 := rfl
    have q4 : ndS (wU (wT W, upG (wG W) i none, W.2.2)) (wG (wT W, upG (wG W) i none, W.2.2)) = smN (fun i => ndU (wU W i)) 24 0 + smN (fun j => ndG (upG (wG W) i none j)) 8 0 := rfl
    omega
set_option maxRecDepth 100000 in
theorem unR_w (h : wOk W) (hz : (wT W).1.1 b = 0) : unR (wS W) b := ⟨fun i u hu e => (h.1.2 i u hu).2.1 (by rw [e]; exact hz), fun i g hg => by
  obtain ⟨a1, a2, a3, a4⟩ := h.2.1 i g hg
  rcases a1.2.2.2.2 with ⟨k, q, b1, _⟩ | ⟨k, q, b1, _⟩ | ⟨k, q, b1, _⟩ | ⟨k, _⟩ | ⟨k, _⟩
  · exact Or.inr (Or.inr ⟨q, b1, fun e => (a3 q b1).2 (by rw [e]; exact hz)⟩)
  · exact Or.inr (Or.inr ⟨q, b1, fun e => (a3 q b1).2 (by rw [e]; exact hz)⟩)
  · exact Or.inr (Or.inr ⟨q, b1, fun e => (a3 q b1).2 (by rw [e]; exact hz)⟩)
  · exact Or.inl k
  · exact Or.inr (Or.inl k)⟩
set_option maxRecDepth 100000 in
theorem xChg_ok {a : ac_T} {q : Nat} (h : wOk W) (ha : aTb a = some q) (hq : (wT W).1.1 q ≠ 0) : wOk (xChg W a).2.2 := by
  have h0 := h
  obtain ⟨h1, h2, h3, h4, h5⟩ := h
  refine ⟨h1, h2, h3, h4, fun b hb hz => ?_, h5.2⟩
  exact (chgR_k (unR_w h0 hz) ha (fun e => hq (by rw [e]; exact hz))).trans (h5.1 b hb hz)
set_option maxRecDepth 100000 in
theorem xBeg_ok (h : wOk W) : wOk (xBeg W).2.2 := by
  unfold xBeg
  cases hx : xIn (wX W) with
  | true => exact h
  | false =>
    obtain ⟨h1, h2, h3, h4, h5⟩ := h
    refine ⟨h1, h2, h3, ⟨fun i hi => ?_, fun z => (by cases z), Nat.zero_le 6⟩, h5.1, fun _ => h5.1, fun j hj => absurd hj (Nat.not_lt_zero j)⟩
    show ltU (wU W i) = false
    rw [show wU W i = none from hi]
    rfl
set_option maxRecDepth 100000 in
theorem en_ok {rs : rs_T} (h : wOk W) (hr : rOk (wT W).1.1 rs) : wOk (wT W, wG W, rs, enD (wX W)) := by
  obtain ⟨h1, h2, h3, h4, h5⟩ := h
  exact ⟨h1, h2, h3, ⟨fun _ _ => rfl, fun _ => ⟨fun _ => rfl, rfl⟩, Nat.zero_le 6⟩, hr, fun z => (by cases z), fun j hj => absurd hj (Nat.not_lt_zero j)⟩
set_option maxRecDepth 100000 in
theorem xCom_ok (h : wOk W) : wOk (xCom W).2.2 := by
  unfold xCom
  cases hx : xIn (wX W) with
  | false => exact h
  | true =>
    show wOk (match lkR (wS W) (wR W) (fun _ => true) (rng 0 24) with
      | none => xOk (wT W, wG W, wR W, enD (wX W))
      | some e => (2, vv (nI e.1) e.2 0 0 0, (wT W, wG W, x0 (wX W), enD (wX W)))).2.2
    split
    · exact en_ok h h.2.2.2.2.1
    · exact en_ok h (h.2.2.2.2.2.1 hx)
set_option maxRecDepth 100000 in
theorem xBck_ok {a : Int32} (h : wOk W) (ha : a = -1 ∨ a.toNatClampNeg < (xMk (wX W)).1) : wOk (xBck W a).2.2 := by
  unfold xBck
  cases hx : xIn (wX W) with
  | false => exact h
  | true =>
    show wOk (if a = -1 then xOk (wT W, wG W, x0 (wX W), enD (wX W)) else xOk (wT W, wG W, xMr (wX W) a.toNatClampNeg, bkX (wX W) a.toNatClampNeg)).2.2
    split
    · exact en_ok h (h.2.2.2.2.2.1 hx)
    · rename_i hn
      have ha := ha.resolve_left hn
      obtain ⟨h1, h2, h3, h4, h5⟩ := h
      exact ⟨h1, h2, h3, ⟨h4.1, fun z => (by have z : xIn (wX W) = false := z; rw [hx] at z; cases z), by show a.toNatClampNeg + 1 ≤ 6; have := h4.2.2; omega⟩, h5.2.2 _ ha, h5.2.1, fun j hj => h5.2.2 j (by have hj : j < a.toNatClampNeg + 1 := hj; omega)⟩
set_option maxRecDepth 100000 in
theorem xMrk_ok {v : Int64} (h : wOk W) (hv : ¬ (mkF (xMk (wX W)) v = -1 ∧ 6 ≤ (xMk (wX W)).1)) : wOk (xMrk W v).2.2 := by
  unfold xMrk
  cases hx : xIn (wX W) with
  | false => exact h
  | true =>
    obtain ⟨h1, h2, h3, h4, h5⟩ := h
    have hn : (mkI (wX W) v).2 ≤ 6 ∧ ((mkI (wX W) v).2 = (xMk (wX W)).1 ∨ (mkI (wX W) v) = ((xMk (wX W)).1, (xMk (wX W)).1 + 1)) := by
      unfold mkI
      split
      · next e => exact ⟨(by show (xMk (wX W)).1 + 1 ≤ 6; have hq : ¬ 6 ≤ (xMk (wX W)).1 := fun z => hv ⟨e, z⟩; omega), Or.inr rfl⟩
      · exact ⟨h4.2.2, Or.inl rfl⟩
    refine ⟨h1, h2, h3, ⟨h4.1, fun z => (by have z : xIn (wX W) = false := z; rw [hx] at z; cases z), hn.1⟩, h5.1, h5.2.1, fun j hj => ?_⟩
    have hj : j < (mkI (wX W) v).2 := hj
    show rOk (wT W).1.1 (shF (xMr (wX W)) (wR W) (mkI (wX W) v).1 (mkI (wX W) v).2 j)
    unfold shF
    split
    · next e =>
      split
      · exact h5.1
      · next e2 =>
        refine h5.2.2 _ ?_
        rcases hn.2 with z | z
        · omega
        · rw [z] at e e2 hj
          have e : (xMk (wX W)).1 ≤ j ∧ j < (xMk (wX W)).1 + 1 := e
          have e2 : ¬ j + 1 = (xMk (wX W)).1 + 1 := e2
          omega
    · next e =>
      refine h5.2.2 _ ?_
      rcases hn.2 with z | z
      · omega
      · rw [z] at e hj
        have e : ¬ ((xMk (wX W)).1 ≤ j ∧ j < (xMk (wX W)).1 + 1) := e
        have hj : j < (xMk (wX W)).1 + 1 := hj
        omega
set_option maxRecDepth 100000 in
theorem wt_ok {f : Nat → Bool} (h : wOk W) (hx : xIn (wX W) = true) (hf : ∀ i, wU W i = none → f i = false) : wOk (wT W, wG W, wR W, wtX (wX W) f) := by
  obtain ⟨h1, h2, h3, h4, h5⟩ := h
  exact ⟨h1, h2, h3, ⟨hf, fun z => (by have z : xIn (wX W) = false := z; rw [hx] at z; cases z), h4.2.2⟩, h5⟩
set_option maxRecDepth 100000 in
theorem nmB_n {lt : Bool} {ru : Nat → Option ru_T} {a : Int32} (h : ru i = none) : nmB lt ru a i = false := by
  unfold nmB
  rw [h]
  exact Bool.and_false _
set_option maxRecDepth 100000 in
theorem xLat_ok {a : Int32} (h : wOk W) : wOk (xLat W a).2.2 := by
  unfold xLat
  cases hx : xIn (wX W) with
  | false => exact h
  | true => exact wt_ok h hx (fun i hi => by show (xWt (wX W) i || nmB true (wU W) a i) = false; rw [nmB_n hi, h.2.2.2.1.1 i hi]; rfl)
set_option maxRecDepth 100000 in
theorem xNow_ok {a : Int32} (h : wOk W) : wOk (xNow W a).2.2 := by
  unfold xNow
  cases hx : xIn (wX W) with
  | false => exact h
  | true =>
    show wOk (match lkR (wS W) (wR W) (nmB false (wU W) a) (rng 0 24) with
      | none => xOk (wT W, wG W, wR W, wtX (wX W) (fun i => xWt (wX W) i && !nmB false (wU W) a i))
      | some e => (2, vv (nI e.1) e.2 0 0 0, W)).2.2
    split
    · exact wt_ok h hx (fun i hi => by show (xWt (wX W) i && !nmB false (wU W) a i) = false; rw [h.2.2.2.1.1 i hi]; rfl)
    · exact h
end WOL
