/-! A LOGIC OF RUNS: a run from a place ends in what is told, whatever the room, if the room is deep enough -/
def bd (d fr lo : Nat) : Prop := d ≤ fr ∧ 64 * d ≤ lo
def wq (P : Option Value → ab_H → Nat → Prop) (X : Nat → ab_H → Nat → Prop) (r : Outcome × ab_H × Nat) : Prop := match r.1 with
  | .returned v => P v r.2.1 r.2.2
  | .threw a => X a r.2.1 r.2.2
def Wd (L : Nat) (xs : Nat → Int32) (d : Nat) (y : mc_T) (k : ev_K) (P : Option Value → ab_H → Nat → Prop) (X : Nat → ab_H → Nat → Prop) : Prop := ∀ fr lo, bd d fr lo → ∃ r, Ez L xs fr lo y k r ∧ wq P X r
/-- just this -/
def Rt (v : Option Value) (h : ab_H) (n : Nat) : Option Value → ab_H → Nat → Prop := fun v' h' n' => v = v' ∧ h = h' ∧ n = n'
def nX : Nat → ab_H → Nat → Prop := fun _ _ _ => False
section LOG
variable {L : Nat} {xs : Nat → Int32} {d pc sl pc0 len pc1 du : Nat} {y : mc_T} {al al1 : List (Nat × Value)} {st st1 : List Value} {h h1 : ab_H} {i : Instr} {P P' : Option Value → ab_H → Nat → Prop} {X X' : Nat → ab_H → Nat → Prop} {k : ev_K}
theorem bd_le {d e fr lo : Nat} (h : e ≤ d) (b : bd d fr lo) : bd e fr lo := ⟨Nat.le_trans h b.1, by have := b.2; omega⟩
theorem Wd_up {e : Nat} (he : e ≤ d) (w : Wd L xs e y k P X) : Wd L xs d y k P X := fun fr lo b => w fr lo (bd_le he b)
theorem Wd_q (w : Wd L xs d y k P X) (hP : ∀ v h n, P v h n → P' v h n) (hX : ∀ a h n, X a h n → X' a h n) : Wd L xs d y k P' X' := by
  intro fr lo b
  obtain ⟨r, hr, hq⟩ := w fr lo b
  refine ⟨r, hr, ?_⟩
  obtain ⟨o, h, n⟩ := r
  cases o
  · exact hP _ _ _ hq
  · exact hX _ _ _ hq
theorem Wd_r {v : Option Value} {n : Nat} (w : Wd L xs d y k (Rt v h n) nX) (hP : P v h n) : Wd L xs d y k P X := Wd_q w (fun _ _ _ e => by obtain ⟨rfl, rfl, rfl⟩ := e; exact hP) (fun _ _ _ e => e.elim)
theorem w_p (hf : y.2.2.find? (fun x => x.1 == pc) = some (pc0, i, len)) (hp : ab_p y.1.2.2.1 i len pc al st = some (pc1, al1, st1)) (w : Wd L xs d y (pc1, al1, st1, h, sl) P X) : Wd L xs d y (pc, al, st, h, sl) P X := by
  intro fr lo b
  obtain ⟨r, hr, hq⟩ := w fr lo b
  exact ⟨r, z_p hf hp hr, hq⟩
theorem w_b {c : Bool} {a b : Nat} (hf : y.2.2.find? (fun x => x.1 == pc) = some (pc0, i, len)) (hp : ab_p y.1.2.2.1 i len pc al st = some (if c then a else b, al1, st1)) (wt : c = true → Wd L xs d y (a, al1, st1, h, sl) P X) (wf : c = false → Wd L xs d y (b, al1, st1, h, sl) P X) : Wd L xs d y (pc, al, st, h, sl) P X := by
  cases hc : c with
  | true => rw [hc, if_pos rfl] at hp; exact w_p hf hp (wt hc)
  | false => rw [hc, if_neg (by decide)] at hp; exact w_p hf hp (wf hc)
theorem w_t {c : Bool} {a b : Nat} (hc : c = true) (hf : y.2.2.find? (fun x => x.1 == pc) = some (pc0, i, len)) (hp : ab_p y.1.2.2.1 i len pc al st = some (if c then a else b, al1, st1)) (w : Wd L xs d y (a, al1, st1, h, sl) P X) : Wd L xs d y (pc, al, st, h, sl) P X := w_b hf hp (fun _ => w) (fun e => by rw [hc] at e; cases e)
theorem w_f {c : Bool} {a b : Nat} (hc : c = false) (hf : y.2.2.find? (fun x => x.1 == pc) = some (pc0, i, len)) (hp : ab_p y.1.2.2.1 i len pc al st = some (if c then a else b, al1, st1)) (w : Wd L xs d y (b, al1, st1, h, sl) P X) : Wd L xs d y (pc, al, st, h, sl) P X := w_b hf hp (fun e => by rw [hc] at e; cases e) (fun _ => w)
theorem w_m (hf : y.2.2.find? (fun x => x.1 == pc) = some (pc0, i, len)) (hp : ab_p y.1.2.2.1 i len pc al st = none) (hm : mo L xs y.2.1 (y.1.1.name == "<init>") i len h st = some (st1, h1, du)) (hpc : pc + len = pc1) (w : Wd L xs d y (pc1, al, st1, h1, sl + du) P X) : Wd L xs d y (pc, al, st, h, sl) P X := by
  intro fr lo b
  obtain ⟨r, hr, hq⟩ := w fr lo b
  exact ⟨r, z_m hf hp hm hpc hr, hq⟩
/-- a native row: the room is there -/
theorem w_c (hf : y.2.2.find? (fun x => x.1 == pc) = some (pc0, i, len)) (hp : ab_p y.1.2.2.1 i len pc al st = none) (hm : mo L xs y.2.1 (y.1.1.name == "<init>") i len h st = none) (hc : ∀ fr lo, 1 ≤ fr → 64 ≤ lo → cn y.2.1 fr lo i len h st = some (st1, h1, du)) (hpc : pc + len = pc1) (w : Wd L xs (d + 1) y (pc1, al, st1, h1, sl + du) P X) : Wd L xs (d + 1) y (pc, al, st, h, sl) P X := by
  intro fr lo b
  obtain ⟨r, hr, hq⟩ := w fr lo b
  exact ⟨r, z_c hf hp hm (hc fr lo (by have := b.1; omega) (by have := b.2; omega)) hpc hr, hq⟩
theorem w_r {v : Option Value} (hf : y.2.2.find? (fun x => x.1 == pc) = some (pc0, i, len)) (hp : ab_p y.1.2.2.1 i len pc al st = none) (hm : mo L xs y.2.1 (y.1.1.name == "<init>") i len h st = none) (hc : ∀ fr lo, cn y.2.1 fr lo i len h st = none) (hr : cr y.1.2.2.2.1 i len st = some (.returned v)) (hP : P v h sl) : Wd L xs d y (pc, al, st, h, sl) P X :=
  fun fr lo _ => ⟨_, z_r hf hp hm (hc fr lo) hr, hP⟩
/-- a call -/
theorem w_i {yc : mc_T} {vs rest : List Value} {Pc : Option Value → ab_H → Nat → Prop} {Xc : Nat → ab_H → Nat → Prop} (hf : y.2.2.find? (fun x => x.1 == pc) = some (pc0, i, len)) (hp : ab_p y.1.2.2.1 i len pc al st = none) (hm : mo L xs y.2.1 (y.1.1.name == "<init>") i len h st = none) (hc : ∀ fr lo, cn y.2.1 fr lo i len h st = none) (hr : cr y.1.2.2.2.1 i len st = none) (hl : cl y.2.1 h i len st = some (yc, vs, rest)) (hs : sumc rest + (yc.1.2.2.1 + 11) ≤ 64) (ha : (lg_sl vs).length ≤ yc.1.2.2.1) (hpc : pc + 3 = pc1)
    (kc : Wd L xs d yc (0, lv_args 0 vs, [], h, 0) Pc Xc) (k : ∀ v h1 d1, Pc v h1 d1 → Wd L xs (d + 1) y (pc1, al, v.toList ++ rest, h1, sl + d1) P X) (kx : ∀ a h1 d1, Xc a h1 d1 → (ch y h1 a pc = some none ∧ X a h1 (sl + d1)) ∨ ∃ hp, ch y h1 a pc = some (some hp) ∧ Wd L xs (d + 1) y (hp, al, [.ref a], h1, sl + d1) P X) : Wd L xs (d + 1) y (pc, al, st, h, sl) P X := by
  intro fr lo b
  have b1 := b.1
  have b2 := b.2
  obtain ⟨⟨o, h1, d1⟩, hr1, hq⟩ := kc (fr - 1) (lo - (sumc rest + (yc.1.2.2.1 + 11))) ⟨by omega, by omega⟩
  have hw : 1 ≤ fr ∧ sumc rest + (yc.1.2.2.1 + 11) ≤ lo ∧ (lg_sl vs).length ≤ yc.1.2.2.1 := ⟨by omega, by omega, ha⟩
  cases o with
  | returned v =>
    obtain ⟨r2, hr2, hq2⟩ := k v h1 d1 hq fr lo b
    exact ⟨r2, z_i hf hp hm (hc fr lo) hr hl hw rfl rfl hpc hr1 hr2, hq2⟩
  | threw a =>
    rcases kx a h1 d1 hq with ⟨hx, hX⟩ | ⟨hpc, hx, w⟩
    · obtain ⟨n, hn⟩ := hr1
      refine ⟨(.threw a, h1, sl + d1), ⟨n + 1, ?_⟩, hX⟩
      rw [z_at, z_l hf hp hm (hc fr lo) hr hl hw]
      have hn : ev L xs n (fr - 1) (lo - (sumc rest + (yc.1.2.2.1 + 11))) yc 0 (lv_args 0 vs) [] h 0 = some (.threw a, h1, d1) := hn
      rw [hn]
      simp only
      unfold ev_x
      rw [hx]
    · obtain ⟨r2, hr2, hq2⟩ := w fr lo b
      refine ⟨r2, z_ic (k1 := (hpc, al, [.ref a], h1, sl + d1)) hf hp hm (hc fr lo) hr hl hw rfl rfl hr1 ?_ hr2, hq2⟩
      unfold ev_xk
      rw [hx]
/-- a call that ends in just one way -/
theorem w_e {yc : mc_T} {vs rest : List Value} {v : Option Value} {d1 : Nat} (hf : y.2.2.find? (fun x => x.1 == pc) = some (pc0, i, len)) (hp : ab_p y.1.2.2.1 i len pc al st = none) (hm : mo L xs y.2.1 (y.1.1.name == "<init>") i len h st = none) (hc : ∀ fr lo, cn y.2.1 fr lo i len h st = none) (hr : cr y.1.2.2.2.1 i len st = none) (hl : cl y.2.1 h i len st = some (yc, vs, rest)) (hs : sumc rest + (yc.1.2.2.1 + 11) ≤ 64) (ha : (lg_sl vs).length ≤ yc.1.2.2.1) (hpc : pc + 3 = pc1)
    (kc : Wd L xs d yc (0, lv_args 0 vs, [], h, 0) (Rt v h1 d1) nX) (k : Wd L xs (d + 1) y (pc1, al, v.toList ++ rest, h1, sl + d1) P X) : Wd L xs (d + 1) y (pc, al, st, h, sl) P X :=
  w_i hf hp hm hc hr hl hs ha hpc kc (fun _ _ _ e => by obtain ⟨rfl, rfl, rfl⟩ := e; exact k) (fun _ _ _ e => e.elim)
/-- a throw that leaves the method -/
theorem w_x {ci : Nat} (hf : y.2.2.find? (fun x => x.1 == pc) = some (pc0, i, len)) (hp : ab_p y.1.2.2.1 i len pc al st = none) (hm : mo L xs y.2.1 (y.1.1.name == "<init>") i len h st = none) (hc : ∀ fr lo, cn y.2.1 fr lo i len h st = none) (hr : cr y.1.2.2.2.1 i len st = none) (hl : cl y.2.1 h i len st = none) (hx : ∀ fr lo, 6 ≤ fr → 384 ≤ lo → cx y fr lo i len pc st = some ci) (hh : ch y (h ++ [.inr (ci, [])]) (100 + h.length) (pc + 9) = some none) (hX : X (100 + h.length) (h ++ [.inr (ci, [])]) (sl + 6)) :
    Wd L xs (d + 6) y (pc, al, st, h, sl) P X :=
  fun fr lo b => ⟨_, z_x hf hp hm (hc fr lo) hr hl (hx fr lo (by have := b.1; omega) (by have := b.2; omega)) hh, hX⟩
end LOG
