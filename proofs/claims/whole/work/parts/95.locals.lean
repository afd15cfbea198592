/-! MORE LOCALS, OR IN ANOTHER ORDER, do no harm -/
def wfa (al : List (Nat × Value)) : Prop := al.Pairwise (fun a b => a.1 ≠ b.1)
def sba (al al' : List (Nat × Value)) : Prop := (∀ q, q ∈ al → q ∈ al') ∧ wfa al'
set_option maxRecDepth 100000 in
theorem ld_mem {al : List (Nat × Value)} {i : Nat} {v : Value} (h : ab_ld al i = some v) : (i, v) ∈ al := by
  unfold ab_ld at h
  cases e : al.find? (fun q => q.1 == i) with
  | none => rw [e] at h; cases h
  | some q =>
    rw [e] at h
    have h1 := List.mem_of_find?_eq_some e
    have h2 := List.find?_some e
    obtain ⟨a, b⟩ := q
    simp only [beq_iff_eq] at h2
    simp only [Option.map_some, Option.some.injEq] at h
    subst h2
    subst h
    exact h1
set_option maxRecDepth 100000 in
theorem mem_ld : ∀ {al : List (Nat × Value)} {i : Nat} {v : Value}, wfa al → (i, v) ∈ al → ab_ld al i = some v
  | [], _, _, _, h => by cases h
  | (j, w) :: r, i, v, hw, h => by
    unfold ab_ld
    rw [List.find?_cons]
    by_cases hj : j = i
    · subst hj
      simp only [beq_self_eq_true, Option.map_some, Option.some.injEq]
      rcases List.mem_cons.mp h with h | h
      · cases h
        rfl
      · exact absurd rfl ((List.pairwise_cons.mp hw).1 (j, v) h)
    · have hb : (j == i) = false := by simpa using hj
      simp only [hb]
      rcases List.mem_cons.mp h with h | h
      · cases h
        exact absurd rfl hj
      · exact mem_ld (List.Pairwise.of_cons hw) h
set_option maxRecDepth 100000 in
theorem ld_sub {al al' : List (Nat × Value)} {i : Nat} {v : Value} (hs : sba al al') (h : ab_ld al i = some v) : ab_ld al' i = some v := mem_ld hs.2 (hs.1 _ (ld_mem h))
set_option maxRecDepth 100000 in
theorem fl_sub {al al' : List (Nat × Value)} {f : Nat × Value → Bool} {i : Nat} {v : Value} (hs : sba al al') (hf : ∀ q, f q = true → q.1 ≠ i) : sba ((i, v) :: al.filter f) ((i, v) :: al'.filter f) := by
  refine ⟨fun q hq => ?_, ?_⟩
  · rcases List.mem_cons.mp hq with h | h
    · exact List.mem_cons.mpr (Or.inl h)
    · rw [List.mem_filter] at h
      exact List.mem_cons.mpr (Or.inr (List.mem_filter.mpr ⟨hs.1 q h.1, h.2⟩))
  · refine List.pairwise_cons.mpr ⟨fun q hq => ?_, List.Pairwise.filter _ hs.2⟩
    rw [List.mem_filter] at hq
    exact fun e => hf q hq.2 e.symm
set_option maxRecDepth 100000 in
theorem s1_sub {al al' : List (Nat × Value)} {i : Nat} {v : Value} (hs : sba al al') : sba (ab_s1 al i v) (ab_s1 al' i v) := fl_sub hs (fun q h e => by simp [e] at h)
set_option maxRecDepth 100000 in
theorem s2_sub {al al' : List (Nat × Value)} {i : Nat} {v : Value} (hs : sba al al') : sba (ab_s2 al i v) (ab_s2 al' i v) := fl_sub hs (fun q h e => by simp [e] at h)
abbrev ap_T : Type := Option (Nat × List (Nat × Value) × List Value)
def smA (al al' : List (Nat × Value)) (x x' : ap_T) : Prop := (∀ a b c, x = some (a, b, c) → ∃ b', x' = some (a, b', c) ∧ sba b b') ∧ (x = none → x' = none)
set_option maxRecDepth 100000 in
theorem sm_s {al al' : List (Nat × Value)} (hs : sba al al') (a : Nat) (c : List Value) : smA al al' (some (a, al, c)) (some (a, al', c)) := ⟨fun _ _ _ e => by cases e; exact ⟨al', rfl, hs⟩, fun e => by cases e⟩
set_option maxRecDepth 100000 in
theorem sm_m {al al' : List (Nat × Value)} {τ : Type} (hs : sba al al') (x : Option τ) (g1 : τ → Nat) (g2 : τ → List Value) : smA al al' (x.map (fun z => (g1 z, al, g2 z))) (x.map (fun z => (g1 z, al', g2 z))) := by
  cases x with
  | none => exact ⟨fun _ _ _ e => (by cases e), fun _ => rfl⟩
  | some z => exact sm_s hs (g1 z) (g2 z)
set_option maxRecDepth 100000 in
theorem sm_0 {al al' : List (Nat × Value)} : smA al al' none none := ⟨fun _ _ _ e => (by cases e), fun _ => rfl⟩
set_option maxRecDepth 100000 in
theorem sm_nx {al al' : List (Nat × Value)} (hs : sba al al') (k : Nat) (x : Option (List Value)) : smA al al' (ab_nx k al x) (ab_nx k al' x) := sm_m hs x (fun _ => k) id
set_option maxRecDepth 100000 in
theorem sm_g1 {al al' : List (Nat × Value)} (hs : sba al al') (c : Bool) (pc : Nat) (off : Int) (st : List Value) : smA al al' (ab_g1 c pc off al st) (ab_g1 c pc off al' st) := sm_m hs (ab_j pc off) (fun t => if c then t else pc + 3) (fun _ => st)
set_option maxRecDepth 100000 in
theorem sm_st {al al' : List (Nat × Value)} (hs : sba al al') (nL i pc k : Nat) (st : List Value) : smA al al' (ab_st nL i pc al k st) (ab_st nL i pc al' k st) := by
  unfold ab_st
  split
  · split
    · exact ⟨fun _ _ _ e => by cases e; exact ⟨_, rfl, s1_sub hs⟩, fun e => by cases e⟩
    · exact sm_0
  · split
    · exact ⟨fun _ _ _ e => by cases e; exact ⟨_, rfl, s2_sub hs⟩, fun e => by cases e⟩
    · exact sm_0
  · split
    · exact ⟨fun _ _ _ e => by cases e; exact ⟨_, rfl, s1_sub hs⟩, fun e => by cases e⟩
    · exact sm_0
  · split
    · exact ⟨fun _ _ _ e => by cases e; exact ⟨_, rfl, s1_sub hs⟩, fun e => by cases e⟩
    · exact sm_0
  · exact sm_0
set_option maxRecDepth 100000 in
theorem sm_if1 {al al' : List (Nat × Value)} (hs : sba al al') (pc : Nat) (c : ClassFile.Cond) (off : Int) (st : List Value) : smA al al' (ab_if1 pc al c off st) (ab_if1 pc al' c off st) := by
  unfold ab_if1
  split
  · exact sm_g1 hs _ _ _ _
  · exact sm_0
set_option maxRecDepth 100000 in
theorem sm_if2 {al al' : List (Nat × Value)} (hs : sba al al') (pc : Nat) (c : ClassFile.Cond) (off : Int) (st : List Value) : smA al al' (ab_if2 pc al c off st) (ab_if2 pc al' c off st) := by
  unfold ab_if2
  split
  · exact sm_g1 hs _ _ _ _
  · exact sm_0
set_option maxRecDepth 100000 in
theorem sm_ifa {al al' : List (Nat × Value)} (hs : sba al al') (pc : Nat) (ne : Bool) (off : Int) (st : List Value) : smA al al' (ab_ifa pc al ne off st) (ab_ifa pc al' ne off st) := by
  unfold ab_ifa
  split
  · rename_i y x q
    cases ab_same x y with
    | none => exact sm_0
    | some z => exact sm_g1 hs _ _ _ _
  · exact sm_0
set_option maxRecDepth 100000 in
theorem sm_ifn {al al' : List (Nat × Value)} (hs : sba al al') (pc : Nat) (nn : Bool) (off : Int) (st : List Value) : smA al al' (ab_ifn pc al nn off st) (ab_ifn pc al' nn off st) := by
  unfold ab_ifn
  split
  · exact sm_g1 hs _ _ _ _
  · exact sm_g1 hs _ _ _ _
  · exact sm_0
set_option maxRecDepth 100000 in
theorem sm_ts {al al' : List (Nat × Value)} (hs : sba al al') (pc : Nat) (d lo hi : Int) (offs : Array Int) (st : List Value) : smA al al' (ab_ts pc al d lo hi offs st) (ab_ts pc al' d lo hi offs st) := by
  unfold ab_ts
  split
  · rename_i x q
    split
    · exact sm_m hs (ab_j pc d) id (fun _ => q)
    · cases offs[(x.toInt - lo).toNat]? with
      | none => exact sm_0
      | some z => exact sm_m hs (ab_j pc z) id (fun _ => q)
  · exact sm_0
set_option maxRecDepth 100000 in
theorem sm_lk {al al' : List (Nat × Value)} (hs : sba al al') (pc : Nat) (d : Int) (ps : Array (Int × Int)) (st : List Value) : smA al al' (ab_lk pc al d ps st) (ab_lk pc al' d ps st) := by
  unfold ab_lk
  split
  · rename_i x q
    split
    · exact sm_m hs (ab_j pc _) id (fun _ => q)
    · exact sm_0
  · exact sm_0
/-! what reads a local -/
def isld (i : Instr) : Bool := match i with
  | .iload _ => true
  | .iload_n _ => true
  | .lload _ => true
  | .lload_n _ => true
  | .aload _ => true
  | .aload_n _ => true
  | .iinc _ _ => true
  | _ => false
set_option maxRecDepth 100000 in
theorem sm_p {al al' : List (Nat × Value)} (hs : sba al al') (nL : Nat) (i : Instr) (len pc : Nat) (st : List Value) (hi : isld i = false) : smA al al' (ab_p nL i len pc al st) (ab_p nL i len pc al' st) := by
  unfold ab_p
  split
  all_goals first
    | exact sm_s hs _ _
    | exact sm_nx hs _ _
    | exact sm_st hs _ _ _ _ _
    | exact sm_m hs _ _ _
    | exact sm_m hs (ab_j pc _) id (fun _ => st)
    | exact sm_if1 hs _ _ _ _
    | exact sm_if2 hs _ _ _ _
    | exact sm_ifa hs _ _ _ _
    | exact sm_ifn hs _ _ _ _
    | exact sm_ts hs _ _ _ _ _ _
    | exact sm_lk hs _ _ _ _
    | exact sm_0
    | (cases hi; done)
    | (split
       · split
         · exact sm_0
         · exact sm_s hs _ _
       · exact sm_0)
/-! loads and steps of a counter -/
set_option maxRecDepth 100000 in
theorem ld_p {al al' : List (Nat × Value)} (hs : sba al al') (nL : Nat) (i : Instr) (len pc : Nat) (st : List Value) (hi : isld i = true) (a : Nat) (b : List (Nat × Value)) (c : List Value) (e : ab_p nL i len pc al st = some (a, b, c)) : ∃ b', ab_p nL i len pc al' st = some (a, b', c) ∧ sba b b' := by
  have iv : ∀ (k j : Nat) (g : Option Value → List Value → Option (List Value)), (∀ st, g none st = none) → ab_nx k al (g (ab_ld al j) st) = some (a, b, c) → ∃ b', ab_nx k al' (g (ab_ld al' j) st) = some (a, b', c) ∧ sba b b' := by
    intro k j g g0 e
    cases hl : ab_ld al j with
    | none =>
      rw [hl, g0] at e
      cases e
    | some v =>
      rw [hl] at e
      rw [ld_sub hs hl]
      exact (sm_nx hs k (g (some v) st)).1 a b c e
  unfold ab_p at e ⊢
  split at e
  all_goals first
    | (cases hi; done)
    | exact iv _ _ ab_iv (fun _ => rfl) e
    | exact iv _ _ ab_lv (fun _ => rfl) e
    | exact iv _ _ ab_av (fun _ => rfl) e
    | (unfold ab_inc at e ⊢
       split at e
       · rename_i x hl
         rw [ld_sub hs hl]
         simp only
         split at e
         · rename_i hn
           rw [if_pos hn]
           cases e
           exact ⟨_, rfl, s1_sub hs⟩
         · cases e
       · cases e)
    | (cases e; done)
set_option maxRecDepth 100000 in
theorem ld_no {L : Nat} {xs : Nat → Int32} {o fr lo len pc : Nat} {ini : Bool} {i : Instr} {h : ab_H} {st : List Value} {ret : Option FieldType} {y : mc_T} (hi : isld i = true) : mo L xs o ini i len h st = none ∧ cn o fr lo i len h st = none ∧ cr ret i len st = none ∧ cl o h i len st = none ∧ cx y fr lo i len pc st = none := by
  have hcr : cr ret i len st = none := by
    unfold cr
    split
    all_goals first
      | rfl
      | (split <;> first | rfl | (cases hi; done))
  cases i <;> first | (cases hi; done) | exact ⟨rfl, rfl, hcr, rfl, rfl⟩
set_option maxRecDepth 100000 in
theorem ev_al (L : Nat) (xs : Nat → Int32) : ∀ (k fr lo : Nat) (y : mc_T) (pc : Nat) (al al' : List (Nat × Value)) (st : List Value) (h : ab_H) (sl : Nat) (r : Outcome × ab_H × Nat), sba al al' → ev L xs k fr lo y pc al st h sl = some r → ev L xs k fr lo y pc al' st h sl = some r
  | 0, _, _, _, _, _, _, _, _, _, _, _, e => by cases e
  | k + 1, fr, lo, y, pc, al, al', st, h, sl, r, hs, e => by
    have ih := ev_al L xs k
    have hX : ∀ (pc a : Nat) (h : ab_H) (sl : Nat), ev_x (ev L xs k) fr lo y pc al a h sl = some r → ev_x (ev L xs k) fr lo y pc al' a h sl = some r := by
      intro pc a h sl e
      unfold ev_x at e ⊢
      split at e
      · cases e
      · exact e
      · exact ih _ _ _ _ _ _ _ _ _ _ hs e
    have e : ev_g (mo L xs) (ev L xs k) fr lo y pc al st h sl = some r := e
    show ev_g (mo L xs) (ev L xs k) fr lo y pc al' st h sl = some r
    unfold ev_g at e ⊢
    cases hf : y.2.2.find? (fun x => x.1 == pc) with
    | none =>
      rw [hf] at e
      cases e
    | some q =>
      obtain ⟨q0, i, len⟩ := q
      rw [hf] at e
      simp only at e ⊢
      cases hp : ab_p y.1.2.2.1 i len pc al st with
      | some z =>
        obtain ⟨pc1, al1, st1⟩ := z
        rw [hp] at e
        simp only at e
        have g : ∃ b', ab_p y.1.2.2.1 i len pc al' st = some (pc1, b', st1) ∧ sba al1 b' := by
          cases hi : isld i with
          | true => exact ld_p hs _ _ _ _ _ hi _ _ _ hp
          | false => exact (sm_p hs _ _ _ _ _ hi).1 _ _ _ hp
        obtain ⟨b', g1, g2⟩ := g
        rw [g1]
        exact ih _ _ _ _ _ _ _ _ _ _ g2 e
      | none =>
        rw [hp] at e
        simp only at e
        cases hi : isld i with
        | true =>
          have g := ld_no (L := L) (xs := xs) (o := y.2.1) (fr := fr) (lo := lo) (len := len) (pc := pc) (ini := (y.1.1.name == "<init>")) (h := h) (st := st) (ret := y.1.2.2.2.1) (y := y) hi
          rw [g.1] at e
          simp only at e
          rw [g.2.1] at e
          simp only at e
          rw [g.2.2.1] at e
          simp only at e
          rw [g.2.2.2.1] at e
          simp only at e
          rw [g.2.2.2.2] at e
          cases e
        | false =>
          rw [(sm_p hs _ _ _ _ _ hi).2 hp]
          simp only
          split at e
          · exact ih _ _ _ _ _ _ _ _ _ _ hs e
          · split at e
            · exact ih _ _ _ _ _ _ _ _ _ _ hs e
            · split at e
              · exact e
              · split at e
                · split at e
                  · rename_i hw
                    rw [if_pos hw]
                    split at e
                    · cases e
                    · exact ih _ _ _ _ _ _ _ _ _ _ hs e
                    · exact hX _ _ _ _ e
                  · cases e
                · split at e
                  · exact hX _ _ _ _ e
                  · cases e
