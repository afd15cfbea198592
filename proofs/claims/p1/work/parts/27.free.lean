/-! RUNS OF THE EVALUATOR: more fuel does no harm; runs that don't look at the script; runs up to a place of the method's own code -/
abbrev mo_F : Type := Nat → Bool → Instr → Nat → ab_H → List Value → mo_T
/-- the step, over any table of the rows that touch cells -/
def ev_g (M : mo_F) (go : ev_F) (fr lo : Nat) (y : mc_T) (pc : Nat) (al : List (Nat × Value)) (st : List Value) (h : ab_H) (sl : Nat) : ev_R :=
  match y.2.2.find? (fun x => x.1 == pc) with
  | none => none
  | some (_, i, len) => match ab_p y.1.2.2.1 i len pc al st with
    | some (pc1, al1, st1) => go fr lo y pc1 al1 st1 h sl
    | none => match M y.2.1 (y.1.1.name == "<init>") i len h st with
      | some (st1, h1, du) => go fr lo y (pc + len) al st1 h1 (sl + du)
      | none => match cn y.2.1 fr lo i len h st with
        | some (st1, h1, du) => go fr lo y (pc + len) al st1 h1 (sl + du)
        | none => match cr y.1.2.2.2.1 i len st with
          | some o => some (o, h, sl)
          | none => match cl y.2.1 h i len st with
            | some (yc, vs, rest) => if 1 ≤ fr ∧ sumc rest + (yc.1.2.2.1 + 11) ≤ lo ∧ (lg_sl vs).length ≤ yc.1.2.2.1 then (match go (fr - 1) (lo - (sumc rest + (yc.1.2.2.1 + 11))) yc 0 (lv_args 0 vs) [] h 0 with
                | none => none
                | some (.returned v, h1, d1) => go fr lo y (pc + 3) al (v.toList ++ rest) h1 (sl + d1)
                | some (.threw a, h1, d1) => ev_x go fr lo y pc al a h1 (sl + d1)) else none
            | none => match cx y fr lo i len pc st with
              | some ci => ev_x go fr lo y (pc + 9) al (100 + h.length) (h ++ [.inr (ci, [])]) (sl + 6)
              | none => none
theorem ev_s_g (L : Nat) (xs : Nat → Int32) (go : ev_F) : ev_s L xs go = ev_g (mo L xs) go := rfl
def ev_le (go go' : ev_F) : Prop := ∀ fr lo y pc al st h sl r, go fr lo y pc al st h sl = some r → go' fr lo y pc al st h sl = some r
def mo_le (M M' : mo_F) : Prop := ∀ o ini i len h st, (∀ r, M o ini i len h st = some r → M' o ini i len h st = some r) ∧ (M o ini i len h st = none → M' o ini i len h st = none ∨ i = .iaload ∨ i = .arraylength)
theorem ev_x_le {go go' : ev_F} (hg : ev_le go go') {fr lo : Nat} {y : mc_T} {pc : Nat} {al : List (Nat × Value)} {a : Nat} {h : ab_H} {sl : Nat} {r : Outcome × ab_H × Nat} (e : ev_x go fr lo y pc al a h sl = some r) : ev_x go' fr lo y pc al a h sl = some r := by
  unfold ev_x at e ⊢
  split at e
  · cases e
  · exact e
  · exact hg _ _ _ _ _ _ _ _ _ e
theorem cr_no {ret : Option FieldType} {len : Nat} {st : List Value} {i : Instr} (h : i = .iaload ∨ i = .arraylength) : cr ret i len st = none := by
  rcases h with rfl | rfl <;> (unfold cr; split <;> first | rfl | (split <;> first | rfl | (rename_i h1 _ _; cases h1) | (rename_i h1 _; cases h1) | (rename_i h1; cases h1)))
theorem ev_g_le {M M' : mo_F} {go go' : ev_F} (hM : mo_le M M') (hg : ev_le go go') : ev_le (ev_g M go) (ev_g M' go') := by
  intro fr lo y pc al st h sl r e
  unfold ev_g at e ⊢
  split at e
  · cases e
  · rename_i pc0 i len hf
    try rw [hf]
    try simp only
    split at e
    · rename_i hp
      try rw [hp]
      exact hg _ _ _ _ _ _ _ _ _ e
    · rename_i hp
      try rw [hp]
      try simp only
      split at e
      · rename_i hm
        rw [(hM _ _ _ _ _ _).1 _ hm]
        exact hg _ _ _ _ _ _ _ _ _ e
      · rename_i hm
        rcases (hM _ _ _ _ _ _).2 hm with hn | hn
        · rw [hn]
          try simp only
          split at e
          · rename_i hc
            try rw [hc]
            exact hg _ _ _ _ _ _ _ _ _ e
          · rename_i hc
            try rw [hc]
            try simp only
            split at e
            · rename_i hr
              try rw [hr]
              exact e
            · rename_i hr
              try rw [hr]
              try simp only
              split at e
              · rename_i hl
                try rw [hl]
                try simp only
                split at e
                · rename_i hi
                  try rw [if_pos hi]
                  split at e
                  · cases e
                  · rename_i hgo
                    rw [hg _ _ _ _ _ _ _ _ _ hgo]
                    exact hg _ _ _ _ _ _ _ _ _ e
                  · rename_i hgo
                    rw [hg _ _ _ _ _ _ _ _ _ hgo]
                    exact ev_x_le hg e
                · cases e
              · rename_i hl
                try rw [hl]
                try simp only
                split at e
                · rename_i hx
                  try rw [hx]
                  exact ev_x_le hg e
                · cases e
        · exfalso
          rw [cr_no hn] at e
          rcases hn with rfl | rfl
          · have e : (none : ev_R) = some r := e
            cases e
          · have e : (none : ev_R) = some r := e
            cases e
theorem mo_le_rf (M : mo_F) : mo_le M M := fun _ _ _ _ _ _ => ⟨fun _ h => h, fun h => Or.inl h⟩
theorem ev_le_s (L : Nat) (xs : Nat → Int32) : ∀ n, ev_le (ev L xs n) (ev L xs (n + 1))
  | 0 => fun _ _ _ _ _ _ _ _ _ e => by cases e
  | n + 1 => by
    show ev_le (ev_s L xs (ev L xs n)) (ev_s L xs (ev L xs (n + 1)))
    rw [ev_s_g, ev_s_g]
    exact ev_g_le (mo_le_rf _) (ev_le_s L xs n)
theorem ev_le_t {a b c : ev_F} (h1 : ev_le a b) (h2 : ev_le b c) : ev_le a c := fun _ _ _ _ _ _ _ _ _ e => h2 _ _ _ _ _ _ _ _ _ (h1 _ _ _ _ _ _ _ _ _ e)
theorem ev_le_n (L : Nat) (xs : Nat → Int32) (n : Nat) : ∀ k, ev_le (ev L xs n) (ev L xs (n + k))
  | 0 => fun _ _ _ _ _ _ _ _ _ e => e
  | k + 1 => ev_le_t (ev_le_n L xs n k) (ev_le_s L xs (n + k))
/-- rows that touch cells, but not the script -/
def moN : mo_F := fun o ini i len h st => match i, st with
  | .iaload, .int _ :: .ref 0 :: _ => none
  | .arraylength, .ref 0 :: _ => none
  | _, _ => mo 0 (fun _ => 0) o ini i len h st
theorem moN_le (L : Nat) (xs : Nat → Int32) : mo_le moN (mo L xs) := by
  have same : ∀ (o : Nat) (ini : Bool) (i : Instr) (len : Nat) (h : ab_H) (st : List Value), (∀ v q, i = .iaload → st = .int v :: .ref 0 :: q → False) → (∀ q, i = .arraylength → st = .ref 0 :: q → False) → mo 0 (fun _ => 0) o ini i len h st = mo L xs o ini i len h st := by
    intro o ini i len h st h1 h2
    unfold mo
    split
    all_goals try rfl
    · unfold mo_il
      split
      · rename_i v a q
        split
        · rfl
        · rfl
        · have ha : ¬ a = 0 := fun ha => by subst ha; exact h1 v q rfl rfl
          simp [ha]
      · rfl
    · unfold mo_ln
      split
      · rename_i a q
        split
        · rfl
        · have ha : ¬ a = 0 := fun ha => by subst ha; exact h2 q rfl rfl
          simp [ha]
      · rfl
  intro o ini i len h st
  unfold moN
  split
  · exact ⟨fun r e => (by cases e), fun _ => Or.inr (Or.inl rfl)⟩
  · exact ⟨fun r e => (by cases e), fun _ => Or.inr (Or.inr rfl)⟩
  · rename_i k1 k2
    have e := same o ini i len h st (fun v q e1 e2 => k1 v q e1 e2) (fun q e1 e2 => k2 q e1 e2)
    rw [e]
    exact ⟨fun _ h => h, fun h => Or.inl h⟩
def evn : Nat → ev_F
  | 0 => fun _ _ _ _ _ _ _ _ => none
  | n + 1 => ev_g moN (evn n)
theorem evn_le (L : Nat) (xs : Nat → Int32) : ∀ n, ev_le (evn n) (ev L xs n)
  | 0 => fun _ _ _ _ _ _ _ _ _ e => by cases e
  | n + 1 => by
    show ev_le (ev_g moN (evn n)) (ev_s L xs (ev L xs n))
    rw [ev_s_g]
    exact ev_g_le (moN_le L xs) (evn_le L xs n)
/-- a place in a method under way: pc, locals, stack, cells, slots used -/
abbrev ev_K : Type := Nat × List (Nat × Value) × List Value × ab_H × Nat
def ev_xk (y : mc_T) (pc : Nat) (al : List (Nat × Value)) (a : Nat) (h : ab_H) (sl : Nat) : Option ev_K := match ch y h a pc with
  | some (some hp) => some (hp, al, [.ref a], h, sl)
  | _ => none
/-- one step within the method (a call is one step) -/
def ev_1 (M : mo_F) (go : ev_F) (fr lo : Nat) (y : mc_T) (k : ev_K) : Option ev_K :=
  match y.2.2.find? (fun x => x.1 == k.1) with
  | none => none
  | some (_, i, len) => match ab_p y.1.2.2.1 i len k.1 k.2.1 k.2.2.1 with
    | some (pc1, al1, st1) => some (pc1, al1, st1, k.2.2.2.1, k.2.2.2.2)
    | none => match M y.2.1 (y.1.1.name == "<init>") i len k.2.2.2.1 k.2.2.1 with
      | some (st1, h1, du) => some (k.1 + len, k.2.1, st1, h1, k.2.2.2.2 + du)
      | none => match cn y.2.1 fr lo i len k.2.2.2.1 k.2.2.1 with
        | some (st1, h1, du) => some (k.1 + len, k.2.1, st1, h1, k.2.2.2.2 + du)
        | none => match cr y.1.2.2.2.1 i len k.2.2.1 with
          | some _ => none
          | none => match cl y.2.1 k.2.2.2.1 i len k.2.2.1 with
            | some (yc, vs, rest) => if 1 ≤ fr ∧ sumc rest + (yc.1.2.2.1 + 11) ≤ lo ∧ (lg_sl vs).length ≤ yc.1.2.2.1 then (match go (fr - 1) (lo - (sumc rest + (yc.1.2.2.1 + 11))) yc 0 (lv_args 0 vs) [] k.2.2.2.1 0 with
                | none => none
                | some (.returned v, h1, d1) => some (k.1 + 3, k.2.1, v.toList ++ rest, h1, k.2.2.2.2 + d1)
                | some (.threw a, h1, d1) => ev_xk y k.1 k.2.1 a h1 (k.2.2.2.2 + d1)) else none
            | none => match cx y fr lo i len k.1 k.2.2.1 with
              | some ci => ev_xk y (k.1 + 9) k.2.1 (100 + k.2.2.2.1.length) (k.2.2.2.1 ++ [.inr (ci, [])]) (k.2.2.2.2 + 6)
              | none => none
def ev_at (go : ev_F) (fr lo : Nat) (y : mc_T) (k : ev_K) : ev_R := go fr lo y k.1 k.2.1 k.2.2.1 k.2.2.2.1 k.2.2.2.2
theorem ev_xk_s {go : ev_F} {fr lo : Nat} {y : mc_T} {pc : Nat} {al : List (Nat × Value)} {a : Nat} {h : ab_H} {sl : Nat} {k1 : ev_K} (e : ev_xk y pc al a h sl = some k1) : ev_x go fr lo y pc al a h sl = ev_at go fr lo y k1 := by
  unfold ev_xk at e
  unfold ev_x
  split at e
  · rename_i hc
    cases e
    rw [hc]
    rfl
  · cases e
theorem ev_1_s {M M' : mo_F} {go go' : ev_F} (hM : mo_le M M') (hg : ev_le go go') {fr lo : Nat} {y : mc_T} {k k1 : ev_K} (e : ev_1 M go fr lo y k = some k1) : ev_at (ev_g M' go') fr lo y k = ev_at go' fr lo y k1 := by
  obtain ⟨pc, al, st, h, sl⟩ := k
  unfold ev_1 at e
  show ev_g M' go' fr lo y pc al st h sl = _
  unfold ev_g
  simp only at e
  split at e
  · cases e
  · rename_i pc0 i len hf
    try rw [hf]
    try simp only
    split at e
    · rename_i hp
      try rw [hp]
      cases e
      rfl
    · rename_i hp
      try rw [hp]
      try simp only
      split at e
      · rename_i hm
        rw [(hM _ _ _ _ _ _).1 _ hm]
        cases e
        rfl
      · rename_i hm
        rcases (hM _ _ _ _ _ _).2 hm with hn | hn
        · rw [hn]
          try simp only
          split at e
          · rename_i hc
            try rw [hc]
            cases e
            rfl
          · rename_i hc
            try rw [hc]
            try simp only
            split at e
            · cases e
            · rename_i hr
              try rw [hr]
              try simp only
              split at e
              · rename_i hl
                try rw [hl]
                try simp only
                split at e
                · rename_i hi
                  try rw [if_pos hi]
                  split at e
                  · cases e
                  · rename_i hgo
                    rw [hg _ _ _ _ _ _ _ _ _ hgo]
                    cases e
                    rfl
                  · rename_i hgo
                    rw [hg _ _ _ _ _ _ _ _ _ hgo]
                    exact ev_xk_s e
                · cases e
              · rename_i hl
                try rw [hl]
                try simp only
                split at e
                · rename_i hx
                  try rw [hx]
                  exact ev_xk_s e
                · cases e
        · exfalso
          rw [cr_no hn] at e
          rcases hn with rfl | rfl
          · have e : (none : Option ev_K) = some k1 := e
            cases e
          · have e : (none : Option ev_K) = some k1 := e
            cases e
/-- the run from k comes to the end r -/
def Ez (L : Nat) (xs : Nat → Int32) (fr lo : Nat) (y : mc_T) (k : ev_K) (r : Outcome × ab_H × Nat) : Prop := ∃ n, ev_at (ev L xs n) fr lo y k = some r
theorem ev_le_to (L : Nat) (xs : Nat → Int32) {n m : Nat} (h : n ≤ m) : ev_le (ev L xs n) (ev L xs m) := by
  obtain ⟨k, rfl⟩ := Nat.le.dest h
  exact ev_le_n L xs n k
/-- a step that doesn't look at the script -/
theorem Ez_n {L : Nat} {xs : Nat → Int32} {N fr lo : Nat} {y : mc_T} {k k1 : ev_K} {r : Outcome × ab_H × Nat} (e : ev_1 moN (evn N) fr lo y k = some k1) (h : Ez L xs fr lo y k1 r) : Ez L xs fr lo y k r := by
  obtain ⟨n, hn⟩ := h
  refine ⟨max n N + 1, ?_⟩
  show ev_at (ev_s L xs (ev L xs (max n N))) fr lo y k = some r
  rw [ev_s_g, ev_1_s (moN_le L xs) (ev_le_t (evn_le L xs N) (ev_le_to L xs (Nat.le_max_right n N))) e]
  exact ev_le_to L xs (Nat.le_max_left n N) _ _ _ _ _ _ _ _ _ hn
/-- a step that may -/
theorem Ez_s {L : Nat} {xs : Nat → Int32} {fr lo : Nat} {y : mc_T} {k k1 : ev_K} {r : Outcome × ab_H × Nat} (e : ev_1 (mo L xs) (fun _ _ _ _ _ _ _ _ => none) fr lo y k = some k1) (h : Ez L xs fr lo y k1 r) : Ez L xs fr lo y k r := by
  obtain ⟨n, hn⟩ := h
  refine ⟨n + 1, ?_⟩
  show ev_at (ev_s L xs (ev L xs n)) fr lo y k = some r
  rw [ev_s_g, ev_1_s (mo_le_rf _) (fun _ _ _ _ _ _ _ _ _ e => by cases e) e]
  exact hn
/-- steps until a place of the method's own code -/
def ev_u (N T fr lo : Nat) (y : mc_T) : Nat → ev_K → Option ev_K
  | 0, _ => none
  | n + 1, k => if k.1 = T then some k else match ev_1 moN (evn N) fr lo y k with
    | some k1 => ev_u N T fr lo y n k1
    | none => none
theorem Ez_u {L : Nat} {xs : Nat → Int32} {N T fr lo : Nat} {y : mc_T} {r : Outcome × ab_H × Nat} : ∀ (n : Nat) {k k1 : ev_K}, ev_u N T fr lo y n k = some k1 → Ez L xs fr lo y k1 r → Ez L xs fr lo y k r
  | 0, _, _, e, _ => by cases e
  | n + 1, k, k1, e, h => by
    unfold ev_u at e
    split at e
    · cases e
      exact h
    · split at e
      · rename_i e1
        exact Ez_n e1 (Ez_u n e h)
      · cases e
