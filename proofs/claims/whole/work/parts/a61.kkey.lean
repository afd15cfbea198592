
/-! ONE SIDE: a table is read, 4: is it a key -/
def kyO (u : ru_T) (cs : List Nat) : Bool := (decide (rKd u = 1) || decide (rKd u = 2)) && decide (rCs u = cs)
def kyA (ru : Nat → Option ru_T) (b : Nat) (cs : List Nat) : Nat → Nat → Bool
  | 0, _ => false
  | n + 1, k => (match ru k with
    | none => false
    | some u => decide (rTb u = b) && kyO u cs) || kyA ru b cs n (k + 1)
/-! bounds of rules -/
def okRu (u : ru_T) : Prop := (rCs u).length ≤ 6 ∧ (∀ x, x ∈ rCs u → x < 6) ∧ rTb u < 6 ∧ rKd u < 5
section KEY
variable {L : Nat} {xs : Nat → Int32} {B : Nat → Nat} {n m : Nat} {C C' C0 C1 : co_T} {t t0 t1 : ab_H} {d sl sl0 sl1 i i0 i1 j b e ti k k0 kc ks w c : Nat} {sc : sc_T} {row : Option Nat} {tg : Option (Nat × Nat)} {nl : Option Nat} {kd0 tb0 : Int32} {P : Option Value → ab_H → Nat → Prop} {X : Nat → ab_H → Nat → Prop} {cs : List Nat} {ss : List (Option (List op_T))} {E : fe_T} {tr : Nat → Option tr_T} {ru : Nat → Option ru_T}
set_option maxRecDepth 100000 in
theorem lp_76 {u : ru_T} {kt ka : Nat} {fc ft fa : Nat → Int32} {vc : Value} (g1 : RUo t k kc kt u fc ft vc) (ok : okRu u) (ha : t[ka]? = some (.inl (0, 6, .inl fa))) (hi : arI fa 0 cs) (hcs : ∀ x, x ∈ cs → x < 6) (hl : (rCs u).length = cs.length) : ∀ (f p : Nat), p + f = cs.length → Wd L xs d y_76 (28, [(3, .int (nI p)), (0, .ref (241 + k)), (1, .ref (241 + ka)), (2, .int (nI cs.length))], [], MH C t, sl) (Rt (some (.int (ck (decide ((rCs u).drop p = cs.drop p))))) (MH C t) sl) nX
  | 0, p, hp => by
    have hl6 := ok.1
    have e : (rCs u).drop p = cs.drop p := by rw [List.drop_eq_nil_iff.mpr (by omega), List.drop_eq_nil_iff.mpr (by omega)]
    rw [decide_eq_true e]
    refine w_p (pc1 := 29) rfl rfl ?_
    refine w_p (pc1 := 30) rfl rfl ?_
    refine w_t (a := 68) (b := 33) (bN_ge_t (a := p) (b := cs.length) (by omega) (by omega) (by omega)) rfl rfl ?_
    refine w_p (pc1 := 69) (st1 := .int 1 :: _) rfl rfl ?_
    refine w_r rfl rfl rfl (fun _ _ => rfl) rfl ?_
    exact ⟨rfl, rfl, rfl⟩
  | f + 1, p, hp => by
    have hl6 := ok.1
    obtain ⟨x, hx⟩ : ∃ x, (rCs u)[p]? = some x := ⟨_, List.getElem?_eq_getElem (by omega)⟩
    obtain ⟨y, hy⟩ : ∃ y, cs[p]? = some y := ⟨_, List.getElem?_eq_getElem (by omega)⟩
    have vx : fc p = nI x := by
      have := g1.2.2.2.1 p x hx
      rw [Nat.zero_add] at this
      exact this
    have vy : fa p = nI y := by
      have := hi p y hy
      rw [Nat.zero_add] at this
      exact this
    have bx := ok.2.1 x (List.mem_of_getElem? hx)
    have by' := hcs y (List.mem_of_getElem? hy)
    have dx : (rCs u).drop p = x :: (rCs u).drop (p + 1) := by
      rw [List.drop_eq_getElem_cons (by omega)]
      congr 1
      exact Option.some.inj ((List.getElem?_eq_getElem (by omega)).symm.trans hx)
    have dy : cs.drop p = y :: cs.drop (p + 1) := by
      rw [List.drop_eq_getElem_cons (by omega)]
      congr 1
      exact Option.some.inj ((List.getElem?_eq_getElem (by omega)).symm.trans hy)
    by_cases hxy : x = y
    · have e : decide ((rCs u).drop p = cs.drop p) = decide ((rCs u).drop (p + 1) = cs.drop (p + 1)) := by
        apply decide_eq_decide.mpr
        rw [dx, dy, hxy]
        exact ⟨fun h => (List.cons.inj h).2, fun h => by rw [h]⟩
      rw [e]
      have ih := lp_76 g1 ok ha hi hcs hl f (p + 1) (by omega)
      refine w_p (pc1 := 29) rfl rfl ?_
      refine w_p (pc1 := 30) rfl rfl ?_
      refine w_f (a := 68) (b := 33) (bN_ge_f (a := p) (b := cs.length) (by omega) (by omega) (by omega)) rfl rfl ?_
      refine w_p (pc1 := 34) rfl rfl ?_
      refine w_p (pc1 := 35) rfl rfl ?_
      refine w_m0 (pc1 := 36) (st1 := .int (nI (6)) :: _) rfl rfl (x_ln (k := ka) ha (by decide)) rfl ?_
      refine w_f (a := 68) (b := 39) (bN_ge_f (a := p) (b := 6) (by omega) (by omega) (by omega)) rfl rfl ?_
      refine w_p (pc1 := 40) rfl rfl ?_
      refine w_p (pc1 := 41) rfl rfl ?_
      refine w_m0 (pc1 := 44) (st1 := .ref (241 + kc) :: _) rfl rfl (x_gf (k := k) rfl g1.1 rfl) rfl ?_
      refine w_m0 (pc1 := 45) (st1 := .int (nI (6)) :: _) rfl rfl (x_ln (k := kc) g1.2.1 (by decide)) rfl ?_
      refine w_f (a := 68) (b := 48) (bN_ge_f (a := p) (b := 6) (by omega) (by omega) (by omega)) rfl rfl ?_
      refine w_p (pc1 := 49) rfl rfl ?_
      refine w_m0 (pc1 := 52) (st1 := .ref (241 + kc) :: _) rfl rfl (x_gf (k := k) rfl g1.1 rfl) rfl ?_
      refine w_p (pc1 := 53) rfl rfl ?_
      refine w_m0 (pc1 := 54) (st1 := .int (nI (x)) :: _) rfl rfl (x_ile (k := kc) (e := p) g1.2.1 (by omega) (by omega) (vx)) rfl ?_
      refine w_p (pc1 := 55) rfl rfl ?_
      refine w_p (pc1 := 56) rfl rfl ?_
      refine w_m0 (pc1 := 57) (st1 := .int (nI (y)) :: _) rfl rfl (x_ile (k := ka) (e := p) ha (by omega) (by omega) (vy)) rfl ?_
      refine w_t (a := 62) (b := 60) (bN_eq_t (a := x) (b := y) (by omega) (by omega) (by exact hxy)) rfl rfl ?_
      refine w_iinc (pc1 := 65) (u := nI (p)) (z := nI (p + 1)) (al1 := [(3, .int (nI (p + 1))), (0, .ref (241 + k)), (1, .ref (241 + ka)), (2, .int (nI (cs.length)))]) rfl rfl rfl nK_1 rfl rfl ?_
      refine w_p (pc1 := 28) rfl rfl ?_
      exact ih
    · have e : decide ((rCs u).drop p = cs.drop p) = false := by
        apply decide_eq_false
        rw [dx, dy]
        exact fun h => hxy (List.cons.inj h).1
      rw [e]
      refine w_p (pc1 := 29) rfl rfl ?_
      refine w_p (pc1 := 30) rfl rfl ?_
      refine w_f (a := 68) (b := 33) (bN_ge_f (a := p) (b := cs.length) (by omega) (by omega) (by omega)) rfl rfl ?_
      refine w_p (pc1 := 34) rfl rfl ?_
      refine w_p (pc1 := 35) rfl rfl ?_
      refine w_m0 (pc1 := 36) (st1 := .int (nI (6)) :: _) rfl rfl (x_ln (k := ka) ha (by decide)) rfl ?_
      refine w_f (a := 68) (b := 39) (bN_ge_f (a := p) (b := 6) (by omega) (by omega) (by omega)) rfl rfl ?_
      refine w_p (pc1 := 40) rfl rfl ?_
      refine w_p (pc1 := 41) rfl rfl ?_
      refine w_m0 (pc1 := 44) (st1 := .ref (241 + kc) :: _) rfl rfl (x_gf (k := k) rfl g1.1 rfl) rfl ?_
      refine w_m0 (pc1 := 45) (st1 := .int (nI (6)) :: _) rfl rfl (x_ln (k := kc) g1.2.1 (by decide)) rfl ?_
      refine w_f (a := 68) (b := 48) (bN_ge_f (a := p) (b := 6) (by omega) (by omega) (by omega)) rfl rfl ?_
      refine w_p (pc1 := 49) rfl rfl ?_
      refine w_m0 (pc1 := 52) (st1 := .ref (241 + kc) :: _) rfl rfl (x_gf (k := k) rfl g1.1 rfl) rfl ?_
      refine w_p (pc1 := 53) rfl rfl ?_
      refine w_m0 (pc1 := 54) (st1 := .int (nI (x)) :: _) rfl rfl (x_ile (k := kc) (e := p) g1.2.1 (by omega) (by omega) (vx)) rfl ?_
      refine w_p (pc1 := 55) rfl rfl ?_
      refine w_p (pc1 := 56) rfl rfl ?_
      refine w_m0 (pc1 := 57) (st1 := .int (nI (y)) :: _) rfl rfl (x_ile (k := ka) (e := p) ha (by omega) (by omega) (vy)) rfl ?_
      refine w_f (a := 62) (b := 60) (bN_eq_f (a := x) (b := y) (by omega) (by omega) (by exact hxy)) rfl rfl ?_
      refine w_p (pc1 := 61) (st1 := .int 0 :: _) rfl rfl ?_
      refine w_r rfl rfl rfl (fun _ _ => rfl) rfl ?_
      exact ⟨rfl, rfl, rfl⟩
set_option maxRecDepth 100000 in
theorem m_76 {u : ru_T} {ka : Nat} {fa : Nat → Int32} (U : RUK t k u) (ok : okRu u) (ha : t[ka]? = some (.inl (0, 6, .inl fa))) (hi : arI fa 0 cs) (hcs : ∀ x, x ∈ cs → x < 6) (h6 : cs.length ≤ 6) : Wd L xs d y_76 (0, [(0, .ref (241 + k)), (1, .ref (241 + ka)), (2, .int (nI cs.length))], [], MH C t, sl) (Rt (some (.int (ck (kyO u cs)))) (MH C t) sl) nX := by
  obtain ⟨kc, kt, fc, ft, vc, g1, _⟩ := U
  have hl6 := ok.1
  have k5 := ok.2.2.2
  have no : (rCs u).length ≠ cs.length → decide (rCs u = cs) = false := fun h => decide_eq_false (fun e => h (by rw [e]))
  by_cases h1 : rKd u = 1
  · have e0 : kyO u cs = decide (rCs u = cs) := by
      unfold kyO
      rw [decide_eq_true h1, Bool.true_or, Bool.true_and]
    by_cases hl : (rCs u).length = cs.length
    · have hgo := lp_76 (L := L) (xs := xs) (d := d) (C := C) (sl := sl) g1 ok ha hi hcs hl cs.length 0 (Nat.zero_add _)
      rw [List.drop_zero, List.drop_zero, ← e0] at hgo
      refine w_p (pc1 := 1) rfl rfl ?_
      refine w_m0 (pc1 := 4) (st1 := .int (nI (rKd u)) :: _) rfl rfl (x_gf (k := k) rfl g1.1 rfl) rfl ?_
      refine w_p (pc1 := 5) (st1 := .int 1 :: _) rfl rfl ?_
      refine w_t (a := 16) (b := 8) (bN_eq_t (a := rKd u) (b := 1) (by omega) (by omega) (by omega)) rfl rfl ?_
      refine w_p (pc1 := 17) rfl rfl ?_
      refine w_m0 (pc1 := 20) (st1 := .int (nI ((rCs u).length)) :: _) rfl rfl (x_gf (k := k) rfl g1.1 rfl) rfl ?_
      refine w_p (pc1 := 21) rfl rfl ?_
      refine w_t (a := 26) (b := 24) (bN_eq_t (a := (rCs u).length) (b := cs.length) (by omega) (by omega) (by omega)) rfl rfl ?_
      refine w_p (pc1 := 27) (st1 := .int 0 :: _) rfl rfl ?_
      refine w_p (pc1 := 28) (al1 := [(3, .int 0), (0, .ref (241 + k)), (1, .ref (241 + ka)), (2, .int (nI (cs.length)))]) rfl rfl ?_
      exact hgo
    · rw [e0, no hl]
      refine w_p (pc1 := 1) rfl rfl ?_
      refine w_m0 (pc1 := 4) (st1 := .int (nI (rKd u)) :: _) rfl rfl (x_gf (k := k) rfl g1.1 rfl) rfl ?_
      refine w_p (pc1 := 5) (st1 := .int 1 :: _) rfl rfl ?_
      refine w_t (a := 16) (b := 8) (bN_eq_t (a := rKd u) (b := 1) (by omega) (by omega) (by omega)) rfl rfl ?_
      refine w_p (pc1 := 17) rfl rfl ?_
      refine w_m0 (pc1 := 20) (st1 := .int (nI ((rCs u).length)) :: _) rfl rfl (x_gf (k := k) rfl g1.1 rfl) rfl ?_
      refine w_p (pc1 := 21) rfl rfl ?_
      refine w_f (a := 26) (b := 24) (bN_eq_f (a := (rCs u).length) (b := cs.length) (by omega) (by omega) (by omega)) rfl rfl ?_
      refine w_p (pc1 := 25) (st1 := .int 0 :: _) rfl rfl ?_
      refine w_r rfl rfl rfl (fun _ _ => rfl) rfl ?_
      exact ⟨rfl, rfl, rfl⟩
  · by_cases h2 : rKd u = 2
    · have e0 : kyO u cs = decide (rCs u = cs) := by
        unfold kyO
        rw [decide_eq_true h2, Bool.or_true, Bool.true_and]
      by_cases hl : (rCs u).length = cs.length
      · have hgo := lp_76 (L := L) (xs := xs) (d := d) (C := C) (sl := sl) g1 ok ha hi hcs hl cs.length 0 (Nat.zero_add _)
        rw [List.drop_zero, List.drop_zero, ← e0] at hgo
        refine w_p (pc1 := 1) rfl rfl ?_
        refine w_m0 (pc1 := 4) (st1 := .int (nI (rKd u)) :: _) rfl rfl (x_gf (k := k) rfl g1.1 rfl) rfl ?_
        refine w_p (pc1 := 5) (st1 := .int 1 :: _) rfl rfl ?_
        refine w_f (a := 16) (b := 8) (bN_eq_f (a := rKd u) (b := 1) (by omega) (by omega) (by omega)) rfl rfl ?_
        refine w_p (pc1 := 9) rfl rfl ?_
        refine w_m0 (pc1 := 12) (st1 := .int (nI (rKd u)) :: _) rfl rfl (x_gf (k := k) rfl g1.1 rfl) rfl ?_
        refine w_p (pc1 := 13) (st1 := .int 2 :: _) rfl rfl ?_
        refine w_f (a := 24) (b := 16) (bN_ne_f (a := rKd u) (b := 2) (by omega) (by omega) (by omega)) rfl rfl ?_
        refine w_p (pc1 := 17) rfl rfl ?_
        refine w_m0 (pc1 := 20) (st1 := .int (nI ((rCs u).length)) :: _) rfl rfl (x_gf (k := k) rfl g1.1 rfl) rfl ?_
        refine w_p (pc1 := 21) rfl rfl ?_
        refine w_t (a := 26) (b := 24) (bN_eq_t (a := (rCs u).length) (b := cs.length) (by omega) (by omega) (by omega)) rfl rfl ?_
        refine w_p (pc1 := 27) (st1 := .int 0 :: _) rfl rfl ?_
        refine w_p (pc1 := 28) (al1 := [(3, .int 0), (0, .ref (241 + k)), (1, .ref (241 + ka)), (2, .int (nI (cs.length)))]) rfl rfl ?_
        exact hgo
      · rw [e0, no hl]
        refine w_p (pc1 := 1) rfl rfl ?_
        refine w_m0 (pc1 := 4) (st1 := .int (nI (rKd u)) :: _) rfl rfl (x_gf (k := k) rfl g1.1 rfl) rfl ?_
        refine w_p (pc1 := 5) (st1 := .int 1 :: _) rfl rfl ?_
        refine w_f (a := 16) (b := 8) (bN_eq_f (a := rKd u) (b := 1) (by omega) (by omega) (by omega)) rfl rfl ?_
        refine w_p (pc1 := 9) rfl rfl ?_
        refine w_m0 (pc1 := 12) (st1 := .int (nI (rKd u)) :: _) rfl rfl (x_gf (k := k) rfl g1.1 rfl) rfl ?_
        refine w_p (pc1 := 13) (st1 := .int 2 :: _) rfl rfl ?_
        refine w_f (a := 24) (b := 16) (bN_ne_f (a := rKd u) (b := 2) (by omega) (by omega) (by omega)) rfl rfl ?_
        refine w_p (pc1 := 17) rfl rfl ?_
        refine w_m0 (pc1 := 20) (st1 := .int (nI ((rCs u).length)) :: _) rfl rfl (x_gf (k := k) rfl g1.1 rfl) rfl ?_
        refine w_p (pc1 := 21) rfl rfl ?_
        refine w_f (a := 26) (b := 24) (bN_eq_f (a := (rCs u).length) (b := cs.length) (by omega) (by omega) (by omega)) rfl rfl ?_
        refine w_p (pc1 := 25) (st1 := .int 0 :: _) rfl rfl ?_
        refine w_r rfl rfl rfl (fun _ _ => rfl) rfl ?_
        exact ⟨rfl, rfl, rfl⟩
    · have e0 : kyO u cs = false := by
        unfold kyO
        rw [decide_eq_false h1, decide_eq_false h2]
        rfl
      rw [e0]
      refine w_p (pc1 := 1) rfl rfl ?_
      refine w_m0 (pc1 := 4) (st1 := .int (nI (rKd u)) :: _) rfl rfl (x_gf (k := k) rfl g1.1 rfl) rfl ?_
      refine w_p (pc1 := 5) (st1 := .int 1 :: _) rfl rfl ?_
      refine w_f (a := 16) (b := 8) (bN_eq_f (a := rKd u) (b := 1) (by omega) (by omega) (by omega)) rfl rfl ?_
      refine w_p (pc1 := 9) rfl rfl ?_
      refine w_m0 (pc1 := 12) (st1 := .int (nI (rKd u)) :: _) rfl rfl (x_gf (k := k) rfl g1.1 rfl) rfl ?_
      refine w_p (pc1 := 13) (st1 := .int 2 :: _) rfl rfl ?_
      refine w_t (a := 24) (b := 16) (bN_ne_t (a := rKd u) (b := 2) (by omega) (by omega) (by omega)) rfl rfl ?_
      refine w_p (pc1 := 25) (st1 := .int 0 :: _) rfl rfl ?_
      refine w_r rfl rfl rfl (fun _ _ => rfl) rfl ?_
      exact ⟨rfl, rfl, rfl⟩
set_option maxRecDepth 100000 in
theorem lp_75 {ka : Nat} {fa : Nat → Int32} (hR : RLK C t ru) (ok : ∀ i u, ru i = some u → okRu u) (hb : b < 6) (ha : t[ka]? = some (.inl (0, 6, .inl fa))) (hi : arI fa 0 cs) (hcs : ∀ x, x ∈ cs → x < 6) (h6 : cs.length ≤ 6) : ∀ (f p : Nat), p + f = 24 → Wd L xs (d + 1) y_75 (3, [(4, .int (nI p)), (0, .ref 106), (1, .int (nI b)), (2, .ref (241 + ka)), (3, .int (nI cs.length))], [], MH C t, sl) (Rt (some (.int (ck (kyA ru b cs f p)))) (MH C t) sl) nX
  | 0, p, hp => by
    refine w_p (pc1 := 5) rfl rfl ?_
    refine w_p (pc1 := 7) (st1 := .int 24 :: _) rfl rfl ?_
    refine w_t (a := 57) (b := 10) (bN_ge_t (a := p) (b := 24) (by omega) (by omega) (by omega)) rfl rfl ?_
    refine w_p (pc1 := 58) (st1 := .int 0 :: _) rfl rfl ?_
    refine w_r rfl rfl rfl (fun _ _ => rfl) rfl ?_
    exact ⟨rfl, rfl, rfl⟩
  | f + 1, p, hp => by
    have hq := hR p (by omega)
    have ih := lp_75 hR ok hb ha hi hcs h6 f (p + 1) (by omega)
    have e0 : kyA ru b cs (f + 1) p = ((match ru p with
      | none => false
      | some u => decide (rTb u = b) && kyO u cs) || kyA ru b cs f (p + 1)) := rfl
    rw [e0]
    cases e : ru p with
    | none =>
      rw [e] at hq
      have hq : C.2.2 11 p = none := hq
      simp only
      rw [Bool.false_or]
      refine w_p (pc1 := 5) rfl rfl ?_
      refine w_p (pc1 := 7) (st1 := .int 24 :: _) rfl rfl ?_
      refine w_f (a := 57) (b := 10) (bN_ge_f (a := p) (b := 24) (by omega) (by omega) (by omega)) rfl rfl ?_
      refine w_p (pc1 := 11) rfl rfl ?_
      refine w_m0 (pc1 := 14) rfl rfl (h_gC rfl rfl rfl rfl) rfl ?_
      refine w_p (pc1 := 16) rfl rfl ?_
      refine w_m0 (pc1 := 17) (st1 := .null :: _) rfl rfl (n_aln (e := p) rfl rfl (by decide) rfl (by omega) (hq)) rfl ?_
      refine w_t (a := 51) (b := 20) rfl rfl rfl ?_
      refine w_iinc (pc1 := 54) (u := nI (p)) (z := nI (p + 1)) (al1 := [(4, .int (nI (p + 1))), (0, .ref 106), (1, .int (nI (b))), (2, .ref (241 + ka)), (3, .int (nI (cs.length)))]) rfl rfl rfl nK_1 rfl rfl ?_
      refine w_p (pc1 := 3) rfl rfl ?_
      exact ih
    | some u =>
      rw [e] at hq
      obtain ⟨kk, hq, hu⟩ := hq
      obtain ⟨kc, kt, fc, ft, vc, g1, _⟩ := id hu
      have ok1 := ok p u e
      have tb6 := ok1.2.2.1
      simp only
      by_cases hb2 : rTb u = b
      · rw [decide_eq_true hb2, Bool.true_and]
        have h76 := m_76 (L := L) (xs := xs) (C := C) (d := d) (sl := 0) hu ok1 ha hi hcs h6
        cases hk : kyO u cs with
        | true =>
          rw [hk] at h76
          rw [Bool.true_or]
          refine w_p (pc1 := 5) rfl rfl ?_
          refine w_p (pc1 := 7) (st1 := .int 24 :: _) rfl rfl ?_
          refine w_f (a := 57) (b := 10) (bN_ge_f (a := p) (b := 24) (by omega) (by omega) (by omega)) rfl rfl ?_
          refine w_p (pc1 := 11) rfl rfl ?_
          refine w_m0 (pc1 := 14) rfl rfl (h_gC rfl rfl rfl rfl) rfl ?_
          refine w_p (pc1 := 16) rfl rfl ?_
          refine w_m0 (pc1 := 17) (st1 := .ref (241 + kk) :: _) rfl rfl (n_als (e := p) rfl rfl (by decide) rfl (by omega) (hq)) rfl ?_
          refine w_f (a := 51) (b := 20) rfl rfl rfl ?_
          refine w_p (pc1 := 21) rfl rfl ?_
          refine w_m0 (pc1 := 24) rfl rfl (h_gC rfl rfl rfl rfl) rfl ?_
          refine w_p (pc1 := 26) rfl rfl ?_
          refine w_m0 (pc1 := 27) (st1 := .ref (241 + kk) :: _) rfl rfl (n_als (e := p) rfl rfl (by decide) rfl (by omega) (hq)) rfl ?_
          refine w_m0 (pc1 := 30) (st1 := .int (nI (rTb u)) :: _) rfl rfl (x_gf (k := kk) rfl g1.1 rfl) rfl ?_
          refine w_p (pc1 := 31) rfl rfl ?_
          refine w_f (a := 51) (b := 34) (bN_ne_f (a := rTb u) (b := b) (by omega) (by omega) (by omega)) rfl rfl ?_
          refine w_p (pc1 := 35) rfl rfl ?_
          refine w_m0 (pc1 := 38) rfl rfl (h_gC rfl rfl rfl rfl) rfl ?_
          refine w_p (pc1 := 40) rfl rfl ?_
          refine w_m0 (pc1 := 41) (st1 := .ref (241 + kk) :: _) rfl rfl (n_als (e := p) rfl rfl (by decide) rfl (by omega) (hq)) rfl ?_
          refine w_p (pc1 := 42) rfl rfl ?_
          refine w_p (pc1 := 43) rfl rfl ?_
          refine w_je (pc1 := 46) (vs := [.ref (241 + kk), .ref (241 + ka), .int (nI (cs.length))]) (rest := []) (st1 := [.int 1]) (h76) rfl rfl rfl (fun _ _ => rfl) rfl (by exact cl_v my_76 rfl rfl rfl (Nat.le_of_ble_eq_true rfl) rfl (x_obj g1.1) rfl (by decide) rfl rfl) (by rfl) (Nat.le_of_ble_eq_true rfl) (Nat.le_of_ble_eq_true rfl) rfl (by rfl) ?_
          refine w_f (a := 51) (b := 49) rfl rfl rfl ?_
          refine w_p (pc1 := 50) (st1 := .int 1 :: _) rfl rfl ?_
          refine w_r rfl rfl rfl (fun _ _ => rfl) rfl ?_
          exact ⟨rfl, rfl, rfl⟩
        | false =>
          rw [hk] at h76
          rw [Bool.false_or]
          refine w_p (pc1 := 5) rfl rfl ?_
          refine w_p (pc1 := 7) (st1 := .int 24 :: _) rfl rfl ?_
          refine w_f (a := 57) (b := 10) (bN_ge_f (a := p) (b := 24) (by omega) (by omega) (by omega)) rfl rfl ?_
          refine w_p (pc1 := 11) rfl rfl ?_
          refine w_m0 (pc1 := 14) rfl rfl (h_gC rfl rfl rfl rfl) rfl ?_
          refine w_p (pc1 := 16) rfl rfl ?_
          refine w_m0 (pc1 := 17) (st1 := .ref (241 + kk) :: _) rfl rfl (n_als (e := p) rfl rfl (by decide) rfl (by omega) (hq)) rfl ?_
          refine w_f (a := 51) (b := 20) rfl rfl rfl ?_
          refine w_p (pc1 := 21) rfl rfl ?_
          refine w_m0 (pc1 := 24) rfl rfl (h_gC rfl rfl rfl rfl) rfl ?_
          refine w_p (pc1 := 26) rfl rfl ?_
          refine w_m0 (pc1 := 27) (st1 := .ref (241 + kk) :: _) rfl rfl (n_als (e := p) rfl rfl (by decide) rfl (by omega) (hq)) rfl ?_
          refine w_m0 (pc1 := 30) (st1 := .int (nI (rTb u)) :: _) rfl rfl (x_gf (k := kk) rfl g1.1 rfl) rfl ?_
          refine w_p (pc1 := 31) rfl rfl ?_
          refine w_f (a := 51) (b := 34) (bN_ne_f (a := rTb u) (b := b) (by omega) (by omega) (by omega)) rfl rfl ?_
          refine w_p (pc1 := 35) rfl rfl ?_
          refine w_m0 (pc1 := 38) rfl rfl (h_gC rfl rfl rfl rfl) rfl ?_
          refine w_p (pc1 := 40) rfl rfl ?_
          refine w_m0 (pc1 := 41) (st1 := .ref (241 + kk) :: _) rfl rfl (n_als (e := p) rfl rfl (by decide) rfl (by omega) (hq)) rfl ?_
          refine w_p (pc1 := 42) rfl rfl ?_
          refine w_p (pc1 := 43) rfl rfl ?_
          refine w_je (pc1 := 46) (vs := [.ref (241 + kk), .ref (241 + ka), .int (nI (cs.length))]) (rest := []) (st1 := [.int 0]) (h76) rfl rfl rfl (fun _ _ => rfl) rfl (by exact cl_v my_76 rfl rfl rfl (Nat.le_of_ble_eq_true rfl) rfl (x_obj g1.1) rfl (by decide) rfl rfl) (by rfl) (Nat.le_of_ble_eq_true rfl) (Nat.le_of_ble_eq_true rfl) rfl (by rfl) ?_
          refine w_t (a := 51) (b := 49) rfl rfl rfl ?_
          refine w_iinc (pc1 := 54) (u := nI (p)) (z := nI (p + 1)) (al1 := [(4, .int (nI (p + 1))), (0, .ref 106), (1, .int (nI (b))), (2, .ref (241 + ka)), (3, .int (nI (cs.length)))]) rfl rfl rfl nK_1 rfl rfl ?_
          refine w_p (pc1 := 3) rfl rfl ?_
          exact ih
      · rw [decide_eq_false hb2, Bool.false_and, Bool.false_or]
        refine w_p (pc1 := 5) rfl rfl ?_
        refine w_p (pc1 := 7) (st1 := .int 24 :: _) rfl rfl ?_
        refine w_f (a := 57) (b := 10) (bN_ge_f (a := p) (b := 24) (by omega) (by omega) (by omega)) rfl rfl ?_
        refine w_p (pc1 := 11) rfl rfl ?_
        refine w_m0 (pc1 := 14) rfl rfl (h_gC rfl rfl rfl rfl) rfl ?_
        refine w_p (pc1 := 16) rfl rfl ?_
        refine w_m0 (pc1 := 17) (st1 := .ref (241 + kk) :: _) rfl rfl (n_als (e := p) rfl rfl (by decide) rfl (by omega) (hq)) rfl ?_
        refine w_f (a := 51) (b := 20) rfl rfl rfl ?_
        refine w_p (pc1 := 21) rfl rfl ?_
        refine w_m0 (pc1 := 24) rfl rfl (h_gC rfl rfl rfl rfl) rfl ?_
        refine w_p (pc1 := 26) rfl rfl ?_
        refine w_m0 (pc1 := 27) (st1 := .ref (241 + kk) :: _) rfl rfl (n_als (e := p) rfl rfl (by decide) rfl (by omega) (hq)) rfl ?_
        refine w_m0 (pc1 := 30) (st1 := .int (nI (rTb u)) :: _) rfl rfl (x_gf (k := kk) rfl g1.1 rfl) rfl ?_
        refine w_p (pc1 := 31) rfl rfl ?_
        refine w_t (a := 51) (b := 34) (bN_ne_t (a := rTb u) (b := b) (by omega) (by omega) (by omega)) rfl rfl ?_
        refine w_iinc (pc1 := 54) (u := nI (p)) (z := nI (p + 1)) (al1 := [(4, .int (nI (p + 1))), (0, .ref 106), (1, .int (nI (b))), (2, .ref (241 + ka)), (3, .int (nI (cs.length)))]) rfl rfl rfl nK_1 rfl rfl ?_
        refine w_p (pc1 := 3) rfl rfl ?_
        exact ih
set_option maxRecDepth 100000 in
theorem m_75 {ka : Nat} {fa : Nat → Int32} (hR : RLK C t ru) (ok : ∀ i u, ru i = some u → okRu u) (hb : b < 6) (ha : t[ka]? = some (.inl (0, 6, .inl fa))) (hi : arI fa 0 cs) (hcs : ∀ x, x ∈ cs → x < 6) (h6 : cs.length ≤ 6) : Wd L xs (d + 1) y_75 (0, [(0, .ref 106), (1, .int (nI b)), (2, .ref (241 + ka)), (3, .int (nI cs.length))], [], MH C t, sl) (Rt (some (.int (ck (kyA ru b cs 24 0)))) (MH C t) sl) nX := by
  have hgo := lp_75 (L := L) (xs := xs) (d := d) (sl := sl) hR ok hb ha hi hcs h6 24 0 rfl
  refine w_p (pc1 := 1) (st1 := .int 0 :: _) rfl rfl ?_
  refine w_p (pc1 := 3) (al1 := [(4, .int 0), (0, .ref 106), (1, .int (nI (b))), (2, .ref (241 + ka)), (3, .int (nI (cs.length)))]) rfl rfl ?_
  exact hgo
end KEY
