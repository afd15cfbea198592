
/-! EVERY WORLD BEHIND A STATEMENT IS ONE THAT CAN BE, 3 -/
section WOM
variable {B : Nat → Nat} {n m i b c : Nat} {W : wo_T} {nl : Option Nat}
def wAll (W : wo_T) : Prop := wOk W ∧ slOk W
set_option maxRecDepth 100000 in
theorem fnW_al {α : Type} {r : pz_T (α × Nat × Option Nat)} {f : α → xr_T} (h : wAll W) (hf : ∀ a i nl, r = .inr (a, i, nl) → wAll (f a).2.2) : wAll (fnW W B n r f).2.2 := by
  unfold fnW
  split
  · exact h
  · rename_i x
    split
    · exact hf x.1 x.2.1 x.2.2 rfl
    · exact h
set_option maxRecDepth 100000 in
theorem xTab_al (hm : lst B n m) (h6 : m ≤ 600) (h1 : 0 + 1 ≤ m) (h : wAll W) {T' : tb_S} {i' : Nat} {nl' : Option Nat} (hr : rTbl (tkP B n) (wT W) 0 (nlW W) = .inr (T', i', nl')) : wAll (xTab W T').2.2 := by
  refine ⟨xTab_ok hm h6 h1 h.1 hr, ?_⟩
  unfold xTab
  cases hx : xIn (wX W) with
  | true => exact h.2
  | false =>
    obtain ⟨g1, b, nm, e1, e2, e3, e4, e5, e6, e7⟩ := rTbl_w hm h6 h1 h.1.1 hr
    exact ⟨fun i hi => (e7 i hi).trans (h.2.1 i hi), h.2.2⟩
set_option maxRecDepth 100000 in
theorem upG_sl {x : Option tr_T} (hi : i < 8) (h : slOk W) : slOk (wT W, upG (wG W) i x, W.2.2) := ⟨h.1, fun j hj => by
  show (if j = i then x else wG W j) = none
  rw [if_neg (by omega)]
  exact h.2 j hj⟩
set_option maxRecDepth 100000 in
theorem xTrg_al (hm : lst B n m) (h6 : m ≤ 600) (h1 : 0 + 1 ≤ m) (h : wAll W) {G : tr_T} {i' : Nat} {nl' : Option Nat} (hr : rTrg (tkP B n) (wT W).1 (wG W) 0 (nlW W) = .inr (G, i', nl')) : wAll (xTrg W G).2.2 := by
  refine ⟨xTrg_ok hm h6 h1 h.1 hr, ?_⟩
  unfold xTrg
  cases hx : xIn (wX W) with
  | true => exact h.2
  | false =>
    obtain ⟨s, e1, e2, e3, e4⟩ := trN_w (rTrg_s hr)
    show slOk (wT W, upG (wG W) (trN (wG W)).toNatClampNeg (some G), W.2.2)
    rw [e4]
    exact upG_sl e2 h.2
set_option maxRecDepth 100000 in
theorem rThr_v {K : tv2} {x : Int32} {y : Unit × Nat} (h : rThr K x i = .inr y) : x ≠ -1 := by
  unfold rThr at h
  split at h
  · split at h
    · cases h
    · rename_i hx
      exact hx
  · cases h
set_option maxRecDepth 100000 in
theorem trF_b {tr : Nat → Option tr_T} {v : Int64} (h : trF tr v ≠ -1) : ∃ s, trF tr v = nI s ∧ s < 8 ∧ (trF tr v).toNatClampNeg = s := by
  rcases fnd_b (trP tr v) 8 0 with z | ⟨j, h1, h2, h3, h4⟩
  · exact absurd z h
  · exact ⟨j, h1, by omega, by unfold trF; rw [h1]; exact nK_nat (by omega)⟩
/-! what a DROP means -/
set_option maxRecDepth 100000 in
theorem rDrp_s {K : tv2} {sc : sc_T} {tr : Nat → Option tr_T} {a : Nat × Int32} {i' : Nat} {nl' : Option Nat} (h : rDrp K sc tr i nl = .inr (a, i', nl')) : (a.1 = 37 ∧ ∃ b, a.2 = nI b ∧ b < 6 ∧ sc.1 b ≠ 0) ∨ (a.1 = 39 ∧ ∃ s, a.2 = nI s ∧ s < 8) := by
  unfold rDrp at h
  split at h
  · obtain ⟨b, h1, h⟩ := pb_inr h
    cases h
    obtain ⟨b1, b2⟩ := b
    obtain ⟨_, e1, e2⟩ := rTab_i h1
    exact Or.inl ⟨rfl, b1, rfl, e1, e2⟩
  · split at h
    · obtain ⟨u, h1, h⟩ := pb_inr h
      cases h
      obtain ⟨s, e1, e2, e3⟩ := trF_b (rThr_v h1)
      exact Or.inr ⟨rfl, s, e1, e2⟩
    · cases h
set_option maxRecDepth 100000 in
theorem xDrp_al (h : wAll W) {a : Nat × Int32} (ha : (a.1 = 37 ∧ ∃ b, a.2 = nI b ∧ b < 6 ∧ (wT W).1.1 b ≠ 0) ∨ (a.1 = 39 ∧ ∃ s, a.2 = nI s ∧ s < 8)) : wAll (xDrp W a).2.2 := by
  unfold xDrp
  cases hx : xIn (wX W) with
  | true => exact h
  | false =>
    rcases ha with ⟨e1, b, e2, e3, e4⟩ | ⟨e1, s, e2, e3⟩
    · have en : a.2.toNatClampNeg = b := by rw [e2]; exact nK_nat (by omega)
      show wAll (if a.1 = 37 then (bif frG_ W a.2.toNatClampNeg then xOk (drW W a.2.toNatClampNeg) else xNo W) else xOk (wT W, upG (wG W) a.2.toNatClampNeg none, W.2.2)).2.2
      rw [if_pos e1, en]
      cases hf : frG_ W b with
      | false => exact h
      | true => exact ⟨drp_ok e3 hf h.2 hx h.1, drp_sl h.2⟩
    · have en : a.2.toNatClampNeg = s := by rw [e2]; exact nK_nat (by omega)
      show wAll (if a.1 = 37 then (bif frG_ W a.2.toNatClampNeg then xOk (drW W a.2.toNatClampNeg) else xNo W) else xOk (wT W, upG (wG W) a.2.toNatClampNeg none, W.2.2)).2.2
      rw [if_neg (by omega), en]
      exact ⟨upG_ok h.1, upG_sl e3 h.2⟩
set_option maxRecDepth 100000 in
theorem mkF_b {mk : Nat × (Nat → Int64)} {v : Int64} (h6 : mk.1 ≤ 6) (h : mkF mk v ≠ -1) : ∃ s, mkF mk v = nI s ∧ s < mk.1 ∧ (mkF mk v).toNatClampNeg = s := by
  rcases fnd_b (fun j => decide (mk.2 j = v)) mk.1 0 with z | ⟨j, h1, h2, h3, h4⟩
  · exact absurd z h
  · exact ⟨j, h1, by omega, by unfold mkF; rw [h1]; exact nK_nat (by omega)⟩
set_option maxRecDepth 100000 in
theorem rBck_s {K : tv2} {mk : Nat × (Nat → Int64)} {a : Int32} {i' : Nat} {nl' : Option Nat} (h6 : mk.1 ≤ 6) (h : rBck K mk i nl = .inr (a, i', nl')) : a = -1 ∨ ∃ s, a = nI s ∧ s < mk.1 ∧ a.toNatClampNeg = s := by
  unfold rBck at h
  split at h
  · obtain ⟨u, h1, h⟩ := pb_inr h
    cases h
    exact Or.inr (mkF_b h6 (rThr_v h1))
  · cases h
    exact Or.inl rfl
set_option maxRecDepth 100000 in
theorem rMrk_s {K : tv2} {mk : Nat × (Nat → Int64)} {a : Int64} {i' : Nat} {nl' : Option Nat} (h : rMrk K mk i nl = .inr (a, i', nl')) : ¬ (mkF mk a = -1 ∧ 6 ≤ mk.1) := by
  unfold rMrk at h
  split at h
  · split at h
    · cases h
    · rename_i hx
      cases h
      exact hx
  · cases h
set_option maxRecDepth 100000 in
theorem runX_al (hm : lst B n m) (h6 : m ≤ 600) (h : wAll W) : wAll (runX W B n).2.2 := by
  have hk : ∀ w, kd B n 0 = w → w ≠ 1 → w ≠ 2 → 0 + 1 ≤ m := fun w e h1 h2 => st1 hm (Nat.zero_le m) e h1 h2
  unfold runX
  split
  · next e => exact fnW_al h (fun a i nl hr => xTab_al hm h6 (hk 37 e (by decide) (by decide)) h hr)
  split
  · next e => exact fnW_al h (fun a i nl hr => xTrg_al hm h6 (hk 39 e (by decide) (by decide)) h hr)
  split
  · exact fnW_al h (fun a i nl hr => xDrp_al h (rDrp_s hr))
  split
  · refine fnW_al h (fun a i nl hr => ?_)
    obtain ⟨g1, g2, b, g3, g4, g5⟩ := rChg_w (w0 := 0) hm h6 (Nat.zero_le m) (fun b hb hz => ⟨(h.1.1.1 b hb).1, (h.1.1.1 b hb).2.1 hz⟩) (fun p e => by cases e) hr
    exact ⟨xChg_ok h.1 g3 g5, h.2⟩
  split
  · refine fnW_al h (fun a i nl hr => ⟨xBeg_ok h.1, ?_⟩)
    unfold xBeg
    cases xIn (wX W) <;> exact h.2
  split
  · refine fnW_al h (fun a i nl hr => ⟨xCom_ok h.1, ?_⟩)
    unfold xCom
    cases xIn (wX W) with
    | false => exact h.2
    | true =>
      show slOk (match lkR (wS W) (wR W) (fun _ => true) (rng 0 24) with
        | none => xOk (wT W, wG W, wR W, enD (wX W))
        | some e => (2, vv (nI e.1) e.2 0 0 0, (wT W, wG W, x0 (wX W), enD (wX W)))).2.2
      split <;> exact h.2
  split
  · refine fnW_al h (fun a i nl hr => ?_)
    have g := rBck_s h.1.2.2.2.1.2.2 hr
    refine ⟨xBck_ok h.1 (g.imp (fun z => z) (fun ⟨s, _, e2, e3⟩ => by rw [e3]; exact e2)), ?_⟩
    unfold xBck
    cases xIn (wX W) with
    | false => exact h.2
    | true =>
      show slOk (if a = -1 then xOk (wT W, wG W, x0 (wX W), enD (wX W)) else xOk (wT W, wG W, xMr (wX W) a.toNatClampNeg, bkX (wX W) a.toNatClampNeg)).2.2
      split <;> exact h.2
  split
  · refine fnW_al h (fun a i nl hr => ⟨xMrk_ok h.1 (rMrk_s hr), ?_⟩)
    unfold xMrk
    cases xIn (wX W) <;> exact h.2
  split
  · refine fnW_al h (fun a i nl hr => ⟨xLat_ok h.1, ?_⟩)
    unfold xLat
    cases xIn (wX W) <;> exact h.2
  split
  · refine fnW_al h (fun a i nl hr => ⟨xNow_ok h.1, ?_⟩)
    unfold xNow
    cases xIn (wX W) with
    | false => exact h.2
    | true =>
      show slOk (match lkR (wS W) (wR W) (nmB false (wU W) a) (rng 0 24) with
        | none => xOk (wT W, wG W, wR W, wtX (wX W) (fun i => xWt (wX W) i && !nmB false (wU W) a i))
        | some e => (2, vv (nI e.1) e.2 0 0 0, W)).2.2
      split <;> exact h.2
  · exact h
end WOM
