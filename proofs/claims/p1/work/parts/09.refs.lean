/-! THE ABSTRACT MACHINE, 4: arrays of references; System.arraycopy; Math.min, Math.max -/
/-- links to the classes of which 'anewarray' makes arrays: owner, index, kind -/
def ab_ak : List (Nat × Nat × Nat) := [(1, 15, 4), (2, 25, 5), (2, 31, 6), (2, 37, 7), (9, 15, 8)]
def ab_en (t : Nat) : String := match t with
  | 4 => "CascadeStore$Token"
  | 5 => R7
  | 6 => R10
  | 7 => R3
  | _ => R8
def ab_akw (q : Nat × Nat × Nat) : Cond := .classLink (own.getD q.1 "") q.2.1 (ab_en q.2.2)
def ab_ako (q : Nat × Nat × Nat) : Cond := .arrayOver (.object (ab_en q.2.2))
set_option maxRecDepth 40000 in
theorem ab_akw_in : ∀ q ∈ ab_ak, ab_akw q ∈ lw_tbl := pl_all [(1, 48), (1, 100), (1, 102), (1, 104), (5, 199)] rfl
set_option maxRecDepth 40000 in
theorem ab_ako_in : ∀ q ∈ ab_ak, ab_ako q ∈ lw_tbl := pl_all [(1, 49), (1, 101), (1, 103), (1, 127), (5, 200)] rfl
theorem ab_ak_t : ∀ q ∈ ab_ak, 4 ≤ q.2.2 ∧ q.2.2 < 9 := by decide
theorem ab_ty_o {t : Nat} (h : 4 ≤ t ∧ t < 9) : ab_ty t = .object (ab_en t) := by
  rcases (show t = 4 ∨ t = 5 ∨ t = 6 ∨ t = 7 ∨ t = 8 by omega) with rfl | rfl | rfl | rfl | rfl <;> rfl
/-- the class whose objects an array of a kind holds -/
def ab_el (t : Nat) : Option Nat := match t with
  | 5 => some 7
  | 6 => some 10
  | 7 => some 3
  | 8 => some 8
  | _ => none
theorem ab_el_ok {t k : Nat} (h : ab_el t = some k) : (5 ≤ t ∧ t < 9) ∧ ∃ q : vw_C, cls[k]? = some q ∧ ab_ty t = .object q.1 := by
  unfold ab_el at h
  split at h <;> first | (cases h; exact ⟨by omega, _, rfl, rfl⟩) | cases h
theorem ab_upr (r : Nat → Nat) (f : Nat → Option Nat) (i : Nat) (v : Option Nat) : (fun j => (va_up f i v j).map r) = va_up (fun j => (f j).map r) i (v.map r) := by
  funext j
  by_cases hj : j = i
  · subst hj; simp [va_up]
  · simp [va_up, hj]
section ABR
variable {p : Program} {l : Launch} {e : Env} {R : Room} {s : State} {m : MethodId} {args : Array Value} {below : List Frame} {meth : Method} {c : Code} {H : Heap} {locs : List Loc} {cells slots : Nat} {Q : State → Prop}
variable {cc : ByteArray} {pc : Nat} {ls : Array Slot} {rest : List Value} {D : va_G} {sa : Nat → Nat} {tC : Nat → ClassId} {B : Nat} {h : ab_H}
theorem ab_anew (hx : p.tables.exec = Jvm.exec) (hb : c.code = cc) (hts : ∀ w ∈ lw_tbl, w.before args s = true) (hK : va_K D cls (ab_tys tC) s) (hP : va_P D cls (ab_w (ab_r sa B) tC B h) H) (hS : va_S (fun q => B ≤ q) s.heap H locs) (hB : B ≤ s.heap.size) (hsz : s.heap.size + cells = B + h.length) {q : Nat × Nat × Nat} (hq : q ∈ ab_ak) (hown : s.vm.findClass (own.getD q.1 "") = some m.cls) {n : Int32} (hn : ¬ n < 0) (hbig : n.toNatClampNeg ≤ 60000000)
    (hRc : cells + 1 ≤ R.cells) (hRs : slots + n.toNatClampNeg ≤ R.slots) (hd : decode cc pc = .ok (.anewarray q.2.1, 3))
    (kk : ∀ (H1 : Heap), va_P D cls (ab_w (ab_r sa B) tC B (h ++ [.inl (q.2.2, n.toNatClampNeg, .inr (.inr (.inr (.inr (fun _ => none)))))])) H1 → va_S (fun q => B ≤ q) s.heap H1 locs → W p l e R s m args below meth c H1 locs (cells + 1) (slots + n.toNatClampNeg) Q (F0 m (pc + 3) ls (.ref (ab_r sa B (100 + h.length)) :: rest))) : W p l e R s m args below meth c H locs cells slots Q (F0 m pc ls (.int n :: rest)) := by
  have e2 : ab_r sa B (100 + h.length) = B + h.length := by rw [ab_r_ge (by omega)]; omega
  have w1 := hts _ (ab_akw_in q hq)
  have w2 := hts _ (ab_ako_in q hq)
  have ht := ab_ak_t q hq
  refine va_newq hx hb hown w1 (va_AO.of w2) hK hP ab_D hS (fun x hx => Nat.le_trans hB hx) hn rfl (by omega) hRc hRs hd (fun qa cA H1 hK1 hP1 hD1 hS1 => ?_)
  refine fx_size (fun hz => ?_)
  have e1 := ab_fresh hP1 hD1 (by omega)
  subst e1
  have hcA : cA = tC q.2.2 := by
    have k1 := (hK1.2 11 (cA, .object (ab_en q.2.2)) (by rw [List.getElem?_append_right (by simp [ab_tys])]; simp [ab_tys])).2
    have k2 := (hK.2 q.2.2 _ (ab_tys_at (by omega))).2
    rw [ab_ty_o ht] at k2
    obtain ⟨_, _, _, _, _, g1⟩ := k1
    obtain ⟨_, _, _, _, _, g2⟩ := k2
    exact Option.some.inj (g1.symm.trans g2)
  subst hcA
  have := kk H1 (by rw [ab_w_push]; exact hP1) hS1
  rw [e2] at this
  exact this
theorem ab_aastore (hx : p.tables.exec = Jvm.exec) (hb : c.code = cc) (hK : va_K D cls (ab_tys tC) s) (hP : va_P D cls (ab_w (ab_r sa B) tC B h) H) (hS : va_S (fun q => B ≤ q) s.heap H locs) {a : Nat} (ha : 100 ≤ a) {n t k : Nat} {f : Nat → Option Nat} (hc : h[a - 100]? = some (.inl (t, n, .inr (.inr (.inr (.inr f)))))) (hk : ab_el t = some k) {b : Nat} (hb0 : 100 ≤ b) {fs : List Value} (hv : h[b - 100]? = some (.inr (k, fs))) {i : Int32} (hin : vp_in i n) (hd : decode cc pc = .ok (.aastore, 1))
    (kk : ∀ (H1 : Heap) (locs1 : List Loc), va_P D cls (ab_w (ab_r sa B) tC B (h.set (a - 100) (.inl (t, n, .inr (.inr (.inr (.inr (va_up f i.toNatClampNeg (some b))))))))) H1 → va_S (fun q => B ≤ q) s.heap H1 locs1 → W p l e R s m args below meth c H1 locs1 cells slots Q (F0 m (pc + 1) ls rest)) : W p l e R s m args below meth c H locs cells slots Q (F0 m pc ls (.ref (ab_r sa B b) :: .int i :: .ref (ab_r sa B a) :: rest)) := by
  obtain ⟨ht, rq, hrq, hty⟩ := ab_el_ok hk
  have hg : (ab_w (ab_r sa B) tC B h)[a - 100]? = some (B + (a - 100), .inl (tC t, n, .inr (.inr (.inr (.inr (fun j => (f j).map (ab_r sa B))))))) := ab_w_get hc
  have hgv : (ab_w (ab_r sa B) tC B h)[b - 100]? = some (ab_r sa B b, .inr (k, fs.map (ab_v (ab_r sa B)))) := by rw [ab_r_ge hb0]; exact ab_w_get hv
  rw [ab_r_ge ha]
  refine va_astq hx hb hK hP ab_D hS (a - 100) t (b - 100) k hg (by rw [ab_tys_at (by omega), hty]) hgv hrq hin hd (fun H1 locs1 g1 _ g3 => kk H1 locs1 ?_ g3)
  rw [← ab_w_set]
  show va_P D cls ((ab_w (ab_r sa B) tC B h).set (a - 100) (B + (a - 100), .inl (tC t, n, .inr (.inr (.inr (.inr (fun j => (va_up f i.toNatClampNeg (some b) j).map (ab_r sa B)))))))) H1
  rw [ab_upr]
  exact g1
theorem ab_aastoreN (hx : p.tables.exec = Jvm.exec) (hb : c.code = cc) (hK : va_K D cls (ab_tys tC) s) (hP : va_P D cls (ab_w (ab_r sa B) tC B h) H) (hS : va_S (fun q => B ≤ q) s.heap H locs) {a : Nat} (ha : 100 ≤ a) {n t : Nat} {f : Nat → Option Nat} (hc : h[a - 100]? = some (.inl (t, n, .inr (.inr (.inr (.inr f)))))) (ht : 4 ≤ t ∧ t < 9) {i : Int32} (hin : vp_in i n) (hd : decode cc pc = .ok (.aastore, 1))
    (kk : ∀ (H1 : Heap) (locs1 : List Loc), va_P D cls (ab_w (ab_r sa B) tC B (h.set (a - 100) (.inl (t, n, .inr (.inr (.inr (.inr (va_up f i.toNatClampNeg none)))))))) H1 → va_S (fun q => B ≤ q) s.heap H1 locs1 → W p l e R s m args below meth c H1 locs1 cells slots Q (F0 m (pc + 1) ls rest)) : W p l e R s m args below meth c H locs cells slots Q (F0 m pc ls (.null :: .int i :: .ref (ab_r sa B a) :: rest)) := by
  have hg : (ab_w (ab_r sa B) tC B h)[a - 100]? = some (B + (a - 100), .inl (tC t, n, .inr (.inr (.inr (.inr (fun j => (f j).map (ab_r sa B))))))) := ab_w_get hc
  rw [ab_r_ge ha]
  refine va_astqN (C := ab_en t) hx hb hK hP ab_D hS (a - 100) t hg (by rw [ab_tys_at (by omega), ab_ty_o ht]) hin hd (fun H1 locs1 g1 _ g3 => kk H1 locs1 ?_ g3)
  rw [← ab_w_set]
  show va_P D cls ((ab_w (ab_r sa B) tC B h).set (a - 100) (B + (a - 100), .inl (tC t, n, .inr (.inr (.inr (.inr (fun j => (va_up f i.toNatClampNeg none j).map (ab_r sa B)))))))) H1
  rw [ab_upr]
  exact g1
theorem ab_aastoreS (hx : p.tables.exec = Jvm.exec) (hb : c.code = cc) (hK : va_K D cls (ab_tys tC) s) (hP : va_P D cls (ab_w (ab_r sa B) tC B h) H) (hS : va_S (fun q => B ≤ q) s.heap H locs) {a : Nat} (ha : 100 ≤ a) {n t : Nat} {f : Nat → Option Nat} (hc : h[a - 100]? = some (.inl (t, n, .inr (.inr (.inr (.inr f)))))) (ht : 4 ≤ t ∧ t < 9) {b : Nat} (hr : va_Any (ab_en t) s H (ab_r sa B b)) {i : Int32} (hin : vp_in i n) (hd : decode cc pc = .ok (.aastore, 1))
    (kk : ∀ (H1 : Heap) (locs1 : List Loc), va_P D cls (ab_w (ab_r sa B) tC B (h.set (a - 100) (.inl (t, n, .inr (.inr (.inr (.inr (va_up f i.toNatClampNeg (some b))))))))) H1 → va_S (fun q => B ≤ q) s.heap H1 locs1 → W p l e R s m args below meth c H1 locs1 cells slots Q (F0 m (pc + 1) ls rest)) : W p l e R s m args below meth c H locs cells slots Q (F0 m pc ls (.ref (ab_r sa B b) :: .int i :: .ref (ab_r sa B a) :: rest)) := by
  have hg : (ab_w (ab_r sa B) tC B h)[a - 100]? = some (B + (a - 100), .inl (tC t, n, .inr (.inr (.inr (.inr (fun j => (f j).map (ab_r sa B))))))) := ab_w_get hc
  rw [ab_r_ge ha]
  refine va_astqM (E := ab_en t) hx hb hK hP ab_D hS (a - 100) t hg (by rw [ab_tys_at (by omega), ab_ty_o ht]) hr hin hd (fun H1 locs1 g1 _ g3 => kk H1 locs1 ?_ g3)
  rw [← ab_w_set]
  show va_P D cls ((ab_w (ab_r sa B) tC B h).set (a - 100) (B + (a - 100), .inl (tC t, n, .inr (.inr (.inr (.inr (fun j => (va_up f i.toNatClampNeg (some b) j).map (ab_r sa B)))))))) H1
  rw [ab_upr]
  exact g1
/-- System.arraycopy over ints -/
theorem ab_copyi (hx : p.tables.exec = Jvm.exec) (hb : c.code = cc) (hml : c.maxLocals = ls.size) (hts : ∀ w ∈ lw_tbl, w.before args s = true) (hK : va_K D cls (ab_tys tC) s) (hP : va_P D cls (ab_w (ab_r sa B) tC B h) H) (hS : va_S (fun q => B ≤ q) s.heap H locs) {o idx : Nat} (hlink : Cond.methodLink (own.getD o "") idx arraycopyName ∈ lw_tbl) (hown : s.vm.findClass (own.getD o "") = some m.cls)
    {a0 a : Nat} (ha0 : 100 ≤ a0) (ha : 100 ≤ a) {n0 n1 : Nat} {f g : Nat → Int32} (hc0 : h[a0 - 100]? = some (.inl (0, n0, .inl f))) (hc1 : h[a - 100]? = some (.inl (0, n1, .inl g))) {sp dp n : Int32} (h1 : ¬ sp < 0) (h2 : ¬ dp < 0) (h3 : ¬ n < 0) (h4 : sp.toNatClampNeg + n.toNatClampNeg ≤ n0) (h5 : dp.toNatClampNeg + n.toNatClampNeg ≤ n1)
    (hframes : 1 ≤ R.frames) (hlocals : (rest.map fun v => v.category).sum + (nativeFrameWords "java/lang/System" "arraycopy" 5 + 11) ≤ R.locals) (hd : decode cc pc = .ok (.invokestatic idx, 3))
    (kk : ∀ (H1 : Heap) (locs1 : List Loc), va_P D cls (ab_w (ab_r sa B) tC B (h.set (a - 100) (.inl (0, n1, .inl (va_cpy f g sp.toNatClampNeg dp.toNatClampNeg n.toNatClampNeg))))) H1 → va_S (fun q => B ≤ q) s.heap H1 locs1 → W p l e R s m args below meth c H1 locs1 cells slots Q (F0 m (pc + 3) ls rest)) : W p l e R s m args below meth c H locs cells slots Q (F0 m pc ls (.int n :: .int dp :: .ref (ab_r sa B a) :: .int sp :: .ref (ab_r sa B a0) :: rest)) := by
  rw [ab_r_ge ha, ab_r_ge ha0]
  exact va_copyi hx hb hml hown (hts _ hlink) (hts _ (pl_w_mem (q := (2, 208)) rfl)) (hts _ (pl_w_mem (q := (2, 207)) rfl)) (hts _ (pl_w_mem (q := (1, 19)) rfl)) hK hP ab_D hS (a0 - 100) (a - 100) 0 0 (ab_w_get hc0) (ab_w_get hc1) (ab_tys_at (by decide)) (ab_tys_at (by decide)) rfl h1 h2 h3 h4 h5 (fun i _ => rfl) hframes hlocals hd (fun H1 locs1 g1 _ g3 => kk H1 locs1 (by rw [← ab_w_set]; exact g1) g3)
theorem ab_copyl (hx : p.tables.exec = Jvm.exec) (hb : c.code = cc) (hml : c.maxLocals = ls.size) (hts : ∀ w ∈ lw_tbl, w.before args s = true) (hK : va_K D cls (ab_tys tC) s) (hP : va_P D cls (ab_w (ab_r sa B) tC B h) H) (hS : va_S (fun q => B ≤ q) s.heap H locs) {o idx : Nat} (hlink : Cond.methodLink (own.getD o "") idx arraycopyName ∈ lw_tbl) (hown : s.vm.findClass (own.getD o "") = some m.cls)
    {a0 a : Nat} (ha0 : 100 ≤ a0) (ha : 100 ≤ a) {n0 n1 : Nat} {f g : Nat → Int64} (hc0 : h[a0 - 100]? = some (.inl (1, n0, .inr (.inl f)))) (hc1 : h[a - 100]? = some (.inl (1, n1, .inr (.inl g)))) {sp dp n : Int32} (h1 : ¬ sp < 0) (h2 : ¬ dp < 0) (h3 : ¬ n < 0) (h4 : sp.toNatClampNeg + n.toNatClampNeg ≤ n0) (h5 : dp.toNatClampNeg + n.toNatClampNeg ≤ n1)
    (hframes : 1 ≤ R.frames) (hlocals : (rest.map fun v => v.category).sum + (nativeFrameWords "java/lang/System" "arraycopy" 5 + 11) ≤ R.locals) (hd : decode cc pc = .ok (.invokestatic idx, 3))
    (kk : ∀ (H1 : Heap) (locs1 : List Loc), va_P D cls (ab_w (ab_r sa B) tC B (h.set (a - 100) (.inl (1, n1, .inr (.inl (va_cpy f g sp.toNatClampNeg dp.toNatClampNeg n.toNatClampNeg)))))) H1 → va_S (fun q => B ≤ q) s.heap H1 locs1 → W p l e R s m args below meth c H1 locs1 cells slots Q (F0 m (pc + 3) ls rest)) : W p l e R s m args below meth c H locs cells slots Q (F0 m pc ls (.int n :: .int dp :: .ref (ab_r sa B a) :: .int sp :: .ref (ab_r sa B a0) :: rest)) := by
  rw [ab_r_ge ha, ab_r_ge ha0]
  exact va_copyl hx hb hml hown (hts _ hlink) (hts _ (pl_w_mem (q := (2, 208)) rfl)) (hts _ (pl_w_mem (q := (2, 207)) rfl)) (hts _ (pl_w_mem (q := (1, 19)) rfl)) hK hP ab_D hS (a0 - 100) (a - 100) 1 1 (ab_w_get hc0) (ab_w_get hc1) (ab_tys_at (by decide)) (ab_tys_at (by decide)) rfl h1 h2 h3 h4 h5 (fun i _ => rfl) hframes hlocals hd (fun H1 locs1 g1 _ g3 => kk H1 locs1 (by rw [← ab_w_set]; exact g1) g3)
/-- Math.min, Math.max -/
theorem ab_min (hx : p.tables.exec = Jvm.exec) (hb : c.code = cc) (hml : c.maxLocals = ls.size) (hts : ∀ w ∈ lw_tbl, w.before args s = true) {o idx : Nat} (hlink : Cond.methodLink (own.getD o "") idx Lib.Math.min.name ∈ lw_tbl) (hown : s.vm.findClass (own.getD o "") = some m.cls) (hframes : 1 ≤ R.frames) (hlocals : (rest.map fun v => v.category).sum + 13 ≤ R.locals) (hc : cells ≤ R.cells) (hs : slots ≤ R.slots) {x y : Int32} (hd : decode cc pc = .ok (.invokestatic idx, 3))
    (kk : W p l e R s m args below meth c H locs cells slots Q (F0 m (pc + 3) ls (.int (if y < x then y else x) :: rest))) : W p l e R s m args below meth c H locs cells slots Q (F0 m pc ls (.int y :: .int x :: rest)) :=
  va_mmin hx hb hml hown (hts _ hlink) (hts _ (pl_w_mem (q := (2, 204)) rfl)) (hts _ (pl_w_mem (q := (1, 18)) rfl)) (hts _ (pl_w_mem (q := (2, 205)) rfl)) hframes hlocals hc hs hd kk
theorem ab_max (hx : p.tables.exec = Jvm.exec) (hb : c.code = cc) (hml : c.maxLocals = ls.size) (hts : ∀ w ∈ lw_tbl, w.before args s = true) {o idx : Nat} (hlink : Cond.methodLink (own.getD o "") idx Lib.Math.max.name ∈ lw_tbl) (hown : s.vm.findClass (own.getD o "") = some m.cls) (hframes : 1 ≤ R.frames) (hlocals : (rest.map fun v => v.category).sum + 13 ≤ R.locals) (hc : cells ≤ R.cells) (hs : slots ≤ R.slots) {x y : Int32} (hd : decode cc pc = .ok (.invokestatic idx, 3))
    (kk : W p l e R s m args below meth c H locs cells slots Q (F0 m (pc + 3) ls (.int (if x < y then y else x) :: rest))) : W p l e R s m args below meth c H locs cells slots Q (F0 m pc ls (.int y :: .int x :: rest)) :=
  va_mmax hx hb hml hown (hts _ hlink) (hts _ (pl_w_mem (q := (2, 186)) rfl)) (hts _ (pl_w_mem (q := (1, 18)) rfl)) (hts _ (pl_w_mem (q := (2, 187)) rfl)) hframes hlocals hc hs hd kk
theorem ab_maxl (hx : p.tables.exec = Jvm.exec) (hb : c.code = cc) (hml : c.maxLocals = ls.size) (hts : ∀ w ∈ lw_tbl, w.before args s = true) {o idx : Nat} (hlink : Cond.methodLink (own.getD o "") idx Lib.MathLoose.max_long.x ∈ lw_tbl) (hown : s.vm.findClass (own.getD o "") = some m.cls) (hframes : 1 ≤ R.frames) (hlocals : (rest.map fun v => v.category).sum + 15 ≤ R.locals) (hc : cells ≤ R.cells) (hs : slots ≤ R.slots) {x y : Int64} (hd : decode cc pc = .ok (.invokestatic idx, 3))
    (kk : W p l e R s m args below meth c H locs cells slots Q (F0 m (pc + 3) ls (.long (if y < x then x else y) :: rest))) : W p l e R s m args below meth c H locs cells slots Q (F0 m pc ls (.long y :: .long x :: rest)) :=
  va_mmax_long hx hb hml hown (hts _ hlink) (hts _ (pl_w_mem (q := (6, 184)) rfl)) (hts _ (pl_w_mem (q := (1, 18)) rfl)) (hts _ (pl_w_mem (q := (6, 185)) rfl)) hframes hlocals hc hs hd kk
end ABR
