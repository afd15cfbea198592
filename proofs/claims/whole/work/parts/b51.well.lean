
/-! WHAT IS READ CAN STAND: changes -/
section WEL
variable {B : Nat → Nat} {n m i b w1 w2 w3 md : Nat} {sc : sc_T} {row : Option Nat} {tg : Option (Nat × Nat)} {nl : Option Nat} {E : fe_T} {K : tv2}
set_option maxRecDepth 100000 in
theorem rFm_w (hE : E.1 = kd B n) (hm : lst B n m) (h6 : m ≤ 600) (hi : i ≤ m) (hW : eW E w1 w2 w3) (hmd : md = 3 ∨ md = 8) {x : List op_T × Nat × Option Nat} (h : rFm E md i nl = .inr x) : x.1.length ≤ 600 ∧ t_l w1 w2 w3 x.1 [] = some [decide (md = 8)] := by
  have hx := (rFm_m hE hm hi hmd h).2
  unfold rFm at h
  cases hr : rd E 6000 md (i, [], 0, nl) with
  | inl q =>
    rw [hr] at h
    cases h
  | inr z =>
    rw [hr] at h
    cases h
    have h1 := (rd_fle _ _ _ _ hr).2.1
    obtain ⟨l, e1, e2⟩ := rd_ty hW _ _ _ _ (by omega) hr
    have h2 : z.2.1.length + i ≤ 0 + z.1 := h1
    have hx : z.1 ≤ m := hx
    have e1 : z.2.1 = l := e1
    refine ⟨by show z.2.1.length ≤ 600; omega, ?_⟩
    show t_l w1 w2 w3 z.2.1 [] = _
    rw [e1]
    rcases hmd with rfl | rfl
    · exact e2 []
    · exact e2 []
def w1f (sc : sc_T) : Option Nat → Nat
  | none => 0
  | some b => sc.2.1 b
def w2f (wd : Nat → Nat) : Option (Nat × Nat) → Nat
  | none => 0
  | some p => wN wd p.1 p.2
def w3f (wd : Nat → Nat) : Option (Nat × Nat) → Nat
  | none => 0
  | some p => wO wd p.1 p.2
set_option maxRecDepth 100000 in
theorem clW_c (h6 : sc.2.1 b ≤ 6) : clW (some (clF sc b)) (sc.2.1 b) := fun g e x hx => by
  cases e
  obtain ⟨c, e1, e2, e3⟩ := clF_b h6 hx
  refine ⟨?_, ?_⟩
  · rw [e3]; exact e1
  · rw [e3]; exact e2
set_option maxRecDepth 100000 in
theorem eW_f (h1 : ∀ b, row = some b → sc.2.1 b ≤ 6) (h2 : ∀ p, tg = some p → sc.2.1 p.1 ≤ 6) : eW (fE K sc row tg) (w1f sc row) (w2f sc.2.1 tg) (w3f sc.2.1 tg) := by
  refine ⟨?_, ?_, ?_⟩
  · cases row with
    | none => exact fun g e => by cases e
    | some b => exact clW_c (h1 b rfl)
  · cases tg with
    | none => exact fun e => by cases e
    | some p =>
      intro e
      have e : decide (p.2 ≠ 2) = true := e
      have e := of_decide_eq_true e
      show clW (some (clF sc p.1)) (wN sc.2.1 p.1 p.2)
      unfold wN
      rw [if_neg e]
      exact clW_c (h2 p rfl)
  · cases tg with
    | none => exact fun e => by cases e
    | some p =>
      intro e
      have e : decide (p.2 ≠ 0) = true := e
      have e := of_decide_eq_true e
      show clW (some (clF sc p.1)) (wO sc.2.1 p.1 p.2)
      unfold wO
      rw [if_neg e]
      exact clW_c (h2 p rfl)
set_option maxRecDepth 100000 in
theorem rPt_w (hE : E.1 = kd B n) (hm : lst B n m) (h6 : m ≤ 600) (hi : i ≤ m) (hW : eW E w1 w2 w3) {x : Option (List op_T) × Nat × Option Nat} (h : rPt E i nl = .inr x) : okS w1 w2 w3 x.1 ∧ x.2.1 ≤ m := by
  unfold rPt at h
  by_cases h14 : E.1 i = 14
  · rw [if_pos h14] at h
    cases h
    exact ⟨trivial, st1 (w := 14) hm hi (by rw [← hE]; exact h14) (by decide) (by decide)⟩
  · rw [if_neg h14] at h
    obtain ⟨y, h1, h2⟩ := pb_inr h
    cases h2
    exact ⟨rFm_w hE hm h6 hi hW (Or.inl rfl) h1, (rFm_m hE hm hi (Or.inl rfl) h1).2⟩
set_option maxRecDepth 100000 in
theorem rPar_w (hE : E.1 = kd B n) (hm : lst B n m) (h6 : m ≤ 600) (hW : eW E w1 w2 w3) : ∀ (f i : Nat) (nl : Option Nat) (x : List (Option (List op_T)) × Nat × Option Nat), i ≤ m → rPar E f i nl = .inr x → ∀ s, s ∈ x.1 → okS w1 w2 w3 s
  | 0, _, _, x, _, h => by cases h
  | f + 1, i, nl, x, hi, h => by
    obtain ⟨y, h1, h2⟩ := pb_inr h
    obtain ⟨g1, g2⟩ := rPt_w hE hm h6 hi hW h1
    by_cases h48 : E.1 y.2.1 = 48
    · rw [if_pos h48] at h2
      obtain ⟨z, h3, h4⟩ := pb_inr h2
      cases h4
      intro s hs
      rcases List.mem_cons.mp hs with rfl | hs
      · exact g1
      · exact rPar_w hE hm h6 hW f _ _ z (st1 (w := 48) hm g2 (by rw [← hE]; exact h48) (by decide) (by decide)) h3 s hs
    · rw [if_neg h48] at h2
      cases h2
      intro s hs
      rcases List.mem_cons.mp hs with rfl | hs
      · exact g1
      · cases hs
set_option maxRecDepth 100000 in
theorem rCol_w (h6 : sc.2.1 b ≤ 6) {acc : List Nat} {x : Nat × Nat} (h : rCol K sc b acc i = .inr x) : x.1 < sc.2.1 b ∧ acc.contains x.1 = false := by
  unfold rCol at h
  split at h
  · split at h
    · cases h
    · rename_i hn
      split at h
      · cases h
      · rename_i hc
        cases h
        obtain ⟨c, e1, e2, e3⟩ := clF_b h6 hn
        refine ⟨by show (clF sc b (K.2 i)).toNatClampNeg < _; rw [e3]; exact e2, ?_⟩
        exact Bool.eq_false_iff.mpr hc
  · cases h
set_option maxRecDepth 100000 in
theorem rSet_w (hE : E.1 = kd B n) (hm : lst B n m) (h6 : m ≤ 600) (hw6 : sc.2.1 b ≤ 6) (hW : eW E w1 w2 w3) : ∀ (f : Nat) (acc : List Nat) (i : Nat) (nl : Option Nat) (x : (List Nat × List (Option (List op_T))) × Nat × Option Nat), i ≤ m → rSet (tkP B n) sc E b f acc i nl = .inr x → (∀ c, c ∈ acc → c < sc.2.1 b) → acc.Nodup → x.1.1.length = x.1.2.length ∧ ((∀ c, c ∈ acc ++ x.1.1 → c < sc.2.1 b) ∧ (acc ++ x.1.1).Nodup) ∧ ∀ s, s ∈ x.1.2 → s ≠ none ∧ okS w1 w2 w3 s
  | 0, _, _, _, x, _, h => by cases h
  | f + 1, acc, i, nl, x, hi, h => by
    intro ha hd
    obtain ⟨c, h1, h⟩ := pb_inr h
    obtain ⟨j, h2, h⟩ := pb_inr h
    obtain ⟨y, h3, h⟩ := pb_inr h
    obtain ⟨g1, g2⟩ := rCol_w hw6 h1
    have m1 := rCol_m hm hi h1
    have m2 := xpP_m hm m1 (by decide) (by decide) h2
    have m3 := (rFm_m hE hm m2 (Or.inl rfl) h3).2
    have g3 := rFm_w hE hm h6 m2 hW (Or.inl rfl) h3
    have ha' : ∀ q, q ∈ acc ++ [c.1] → q < sc.2.1 b := fun q hq => by
      rcases List.mem_append.mp hq with hq | hq
      · exact ha q hq
      · rcases List.mem_cons.mp hq with rfl | hq
        · exact g1
        · cases hq
    have hd' := nd_s hd g2
    by_cases h48 : (tkP B n).1 y.2.1 = 48
    · rw [if_pos h48] at h
      obtain ⟨z, h5, h⟩ := pb_inr h
      cases h
      obtain ⟨q1, q2, q3⟩ := rSet_w hE hm h6 hw6 hW f _ _ _ z (st1 hm m3 h48 (by decide) (by decide)) h5 ha' hd'
      have ea : acc ++ [c.1] ++ z.1.1 = acc ++ c.1 :: z.1.1 := by simp
      rw [ea] at q2
      refine ⟨by show z.1.1.length + 1 = z.1.2.length + 1; omega, q2, fun s hs => ?_⟩
      rcases List.mem_cons.mp hs with rfl | hs
      · exact ⟨by simp, g3⟩
      · exact q3 s hs
    · rw [if_neg h48] at h
      cases h
      refine ⟨rfl, ⟨ha', hd'⟩, fun s hs => ?_⟩
      rcases List.mem_cons.mp hs with rfl | hs
      · exact ⟨by simp, g3⟩
      · cases hs
/-! names and widths that go together -/
def scL (sc : sc_T) : Prop := ∀ b, b < 6 → sc.2.1 b ≤ 6 ∧ (sc.1 b ≠ 0 → 0 < sc.2.1 b) ∧ (sc.1 b = 0 → sc.2.1 b = 0)
set_option maxRecDepth 100000 in
theorem rEvt_w {x : Nat × Nat} (h : rEvt K i = .inr x) : x.1 < 3 := by
  unfold rEvt evt at h
  split at h
  · cases h
  · rename_i e he
    cases h
    split at he
    · cases he; show 0 < 3; omega
    · split at he
      · cases he; show 1 < 3; omega
      · split at he
        · cases he; show 2 < 3; omega
        · cases he
set_option maxRecDepth 100000 in
theorem rChg_w {w0 : Nat} (hm : lst B n m) (h6 : m ≤ 600) (hi : i ≤ m) (hL : ∀ b, b < 6 → sc.1 b ≠ 0 → sc.2.1 b ≤ 6 ∧ 0 < sc.2.1 b) (htg : ∀ p, tg = some p → sc.2.1 p.1 ≤ 6) {x : ac_T × Nat × Option Nat} (h : rChg (tkP B n) sc tg i nl = .inr x) : okA2 sc.2.1 w0 (w2f sc.2.1 tg) (w3f sc.2.1 tg) x.1 ∧ (aKd x.1 < 3 ∧ (aSs x.1).length ≤ 6) ∧ ∃ b, aTb x.1 = some b ∧ b < 6 ∧ sc.1 b ≠ 0 := by
  obtain ⟨e, h1, h⟩ := pb_inr h
  obtain ⟨tb, h2, h⟩ := pb_inr h
  have m1 := rEvt_m hm hi h1
  have m2 := rTab_m hm m1 h2
  have he := rEvt_w h1
  obtain ⟨tb1, tb2⟩ := tb
  obtain ⟨_, hb, hz⟩ := rTab_i h2
  obtain ⟨hw6, hw0⟩ := hL tb1 hb hz
  by_cases e0 : e.1 = 0
  · rw [if_pos e0] at h
    obtain ⟨j, h3, h⟩ := pb_inr h
    obtain ⟨p, h4, h⟩ := pb_inr h
    have m3 := xpP_m hm m2 (by decide) (by decide) h3
    have hE := eW_f (K := tkP B n) (sc := sc) (row := none) (tg := tg) (fun b e => by cases e) htg
    have g := rPar_w (E := fE (tkP B n) sc none tg) rfl hm h6 hE 601 j nl p m3 h4
    split at h
    · split at h
      · rename_i hl
        cases h
        exact ⟨Or.inl ⟨rfl, tb1, rfl, hb, hl, g, hw0⟩, ⟨by show (0 : Nat) < 3; decide, by show p.1.length ≤ 6; have hl : p.1.length = sc.2.1 tb1 := hl; omega⟩, tb1, rfl, hb, hz⟩
      · cases h
    · cases h
  · rw [if_neg e0] at h
    obtain ⟨s, h3, h⟩ := pb_inr h
    have hE := eW_f (K := tkP B n) (sc := sc) (row := some tb1) (tg := tg) (fun b e => by cases e; exact hw6) htg
    have hs : (s.2.1 ≤ m ∧ s.1.2.length ≤ 6) ∧ (e.1 = 1 → s.1.1.length = s.1.2.length ∧ s.1.1.length ≤ 6 ∧ (∀ c, c ∈ s.1.1 → c < sc.2.1 tb1) ∧ ∀ q, q ∈ s.1.2 → q ≠ none ∧ okS (sc.2.1 tb1) (w2f sc.2.1 tg) (w3f sc.2.1 tg) q) := by
      unfold rUpd at h3
      by_cases e1 : e.1 = 1
      · rw [if_pos e1] at h3
        obtain ⟨j, h5, h3⟩ := pb_inr h3
        have m3 := xpP_m hm m2 (by decide) (by decide) h5
        have m4 := rSet_m (E := fE (tkP B n) sc (some tb1) tg) rfl hm 601 [] j nl s m3 h3
        obtain ⟨q1, ⟨q2, q3⟩, q4⟩ := rSet_w (E := fE (tkP B n) sc (some tb1) tg) rfl hm h6 hw6 hE 601 [] j nl s m3 h3 (fun c hc => by cases hc) List.nodup_nil
        exact ⟨⟨m4, by have := php _ _ q2 q3; have q1 : s.1.1.length = s.1.2.length := q1; have e9 : ([] ++ s.1.1).length = s.1.1.length := rfl; omega⟩, fun _ => ⟨q1, Nat.le_trans (php _ _ q2 q3) hw6, q2, q4⟩⟩
      · rw [if_neg e1] at h3
        cases h3
        exact ⟨⟨m2, by show ([] : List (Option (List op_T))).length ≤ 6; decide⟩, fun z => absurd z e1⟩
    unfold rWhr at h
    have key : ∀ q, okT2 (sc.2.1 tb1) (w2f sc.2.1 tg) (w3f sc.2.1 tg) q → okA2 sc.2.1 w0 (w2f sc.2.1 tg) (w3f sc.2.1 tg) (e.1, some tb1, s.1.1, s.1.2, q, 0) := fun q hq => by
      by_cases e1 : e.1 = 1
      · obtain ⟨a1, a2, a3, a4⟩ := hs.2 e1
        exact Or.inr (Or.inl ⟨e1, tb1, rfl, hb, a1, a2, a3, a4, hq⟩)
      · exact Or.inr (Or.inr (Or.inl ⟨by show e.1 = 2; omega, tb1, rfl, hb, hq⟩))
    by_cases h43 : (tkP B n).1 s.2.1 = 43
    · rw [if_pos h43] at h
      obtain ⟨y, h5, h⟩ := pb_inr h
      cases h
      exact ⟨key _ (rFm_w (E := fE (tkP B n) sc (some tb1) tg) rfl hm h6 (st1 hm hs.1.1 h43 (by decide) (by decide)) hE (Or.inr rfl) h5), ⟨he, hs.1.2⟩, tb1, rfl, hb, hz⟩
    · rw [if_neg h43] at h
      cases h
      exact ⟨key _ trivial, ⟨he, hs.1.2⟩, tb1, rfl, hb, hz⟩
end WEL
