/-! THE ABSTRACT MACHINE, 2: cells. A cell is an array (its kind, its contents) or an object (its class, its fields); cell k of the list lies at B + k and has the number 100 + k; numbers below 100 are cells that were there before -/
abbrev ab_C : Type := (Nat × vp_A) ⊕ (Nat × List Value)
abbrev ab_H : Type := List ab_C
def ab_r (sa : Nat → Nat) (B : Nat) (k : Nat) : Nat := if k < 100 then sa k else B + (k - 100)
theorem ab_r_ge {sa : Nat → Nat} {B k : Nat} (h : 100 ≤ k) : ab_r sa B k = B + (k - 100) := if_neg (by omega)
theorem ab_r_lt {sa : Nat → Nat} {B k : Nat} (h : k < 100) : ab_r sa B k = sa k := if_pos h
def ab_a (r : Nat → Nat) : vp_A → vp_A
  | (n, .inr (.inr (.inr (.inr f)))) => (n, .inr (.inr (.inr (.inr (fun j => (f j).map r)))))
  | x => x
def ab_e (r : Nat → Nat) (tC : Nat → ClassId) : ab_C → va_E
  | .inl q => .inl (tC q.1, ab_a r q.2)
  | .inr q => .inr (q.1, q.2.map (ab_v r))
def ab_w (r : Nat → Nat) (tC : Nat → ClassId) (B : Nat) (h : ab_H) : va_W := h.mapIdx (fun k c => (B + k, ab_e r tC c))
theorem ab_w_get {r : Nat → Nat} {tC : Nat → ClassId} {B k : Nat} {h : ab_H} {c : ab_C} (hk : h[k]? = some c) : (ab_w r tC B h)[k]? = some (B + k, ab_e r tC c) := by
  simp [ab_w, List.getElem?_mapIdx, hk]
theorem ab_w_set {r : Nat → Nat} {tC : Nat → ClassId} {B k : Nat} {h : ab_H} {c : ab_C} : (ab_w r tC B h).set k (B + k, ab_e r tC c) = ab_w r tC B (h.set k c) := by
  simp [ab_w, List.mapIdx_set]
theorem ab_w_push {r : Nat → Nat} {tC : Nat → ClassId} {B : Nat} {h : ab_H} {c : ab_C} : ab_w r tC B (h ++ [c]) = ab_w r tC B h ++ [(B + h.length, ab_e r tC c)] := by
  simp [ab_w, List.mapIdx_append]
theorem ab_w_len {r : Nat → Nat} {tC : Nat → ClassId} {B : Nat} {h : ab_H} : (ab_w r tC B h).length = h.length := by simp [ab_w]
theorem ab_w_at {r : Nat → Nat} {tC : Nat → ClassId} {B k : Nat} {h : ab_H} {q : Nat × va_E} (hk : (ab_w r tC B h)[k]? = some q) : k < h.length ∧ q.1 = B + k := by
  have h1 := (List.getElem?_eq_some_iff.mp hk).1
  rw [ab_w_len] at h1
  refine ⟨h1, ?_⟩
  have h2 : h[k]? = some h[k] := List.getElem?_eq_getElem h1
  rw [ab_w_get h2] at hk
  cases hk
  rfl
theorem ab_D {r : Nat → Nat} {tC : Nat → ClassId} {B : Nat} {h : ab_H} : va_D (fun q : Nat => B ≤ q) (ab_w r tC B h) := by
  refine ⟨fun i j p q hi hj e => ?_, fun k q hk => ?_⟩
  · have h1 := (ab_w_at hi).2
    have h2 := (ab_w_at hj).2
    omega
  · have h1 := (ab_w_at hk).2
    show B ≤ q.1
    omega
/-- the kinds of arrays -/
def ab_ty (t : Nat) : FieldType := match t with
  | 0 => .int
  | 1 => .long
  | 2 => .byte
  | 3 => .boolean
  | 4 => .object "CascadeStore$Token"
  | 5 => .object R7
  | 6 => .object R10
  | 7 => .object R3
  | 8 => .object R8
  | 9 => .array .long
  | _ => .array .int
def ab_tys (tC : Nat → ClassId) : List (ClassId × FieldType) := (List.range 11).map (fun t => (tC t, ab_ty t))
theorem ab_tys_at {tC : Nat → ClassId} {t : Nat} (h : t < 11) : (ab_tys tC)[t]? = some (tC t, ab_ty t) := by
  simp [ab_tys, h]
theorem cls_ok : ∀ (ci : Nat) (q : vw_C), cls[ci]? = some q → (∀ w ∈ u_ws q.1 q.2.1 q.2.2, w ∈ lw_tbl) ∧ (∃ ty0 : Nat → FieldType, ∀ k, k < q.2.2 → parseFieldDescriptor (q.2.1 k).2.2.1 = some (ty0 k)) ∧ (∀ a, a < q.2.2 → ∀ b, b < q.2.2 → a ≠ b → (q.2.1 a).2.1 ≠ (q.2.1 b).2.1) := by
  intro ci q hq
  match ci, hq with
  | 0, hq => cases hq; exact ⟨in0, ⟨ty0, tk0⟩, nm0⟩
  | 1, hq => cases hq; exact ⟨in1, ⟨ty1, tk1⟩, nm1⟩
  | 2, hq => cases hq; exact ⟨in2, ⟨ty2, tk2⟩, nm2⟩
  | 3, hq => cases hq; exact ⟨in3, ⟨ty3, tk3⟩, nm3⟩
  | 4, hq => cases hq; exact ⟨in4, ⟨ty4, tk4⟩, nm4⟩
  | 5, hq => cases hq; exact ⟨in5, ⟨ty5, tk5⟩, nm5⟩
  | 6, hq => cases hq; exact ⟨in6, ⟨ty6, tk6⟩, nm6⟩
  | 7, hq => cases hq; exact ⟨in7, ⟨ty7, tk7⟩, nm7⟩
  | 8, hq => cases hq; exact ⟨in8, ⟨ty8, tk8⟩, nm8⟩
  | 9, hq => cases hq; exact ⟨in9, ⟨ty9, tk9⟩, nm9⟩
  | 10, hq => cases hq; exact ⟨in10, ⟨ty10, tk10⟩, nm10⟩
  | 11, hq => cases hq; exact ⟨in11, ⟨ty11, tk11⟩, nm11⟩
  | 12, hq => cases hq; exact ⟨in12, ⟨ty12, tk12⟩, nm12⟩
  | 13, hq => cases hq; exact ⟨in13, ⟨ty13, tk13⟩, nm13⟩
  | 14, hq => cases hq; exact ⟨in14, ⟨ty14, tk14⟩, nm14⟩
  | k + 15, hq => simp [cls] at hq
theorem fl_ok' {q : fl_T} (h : q ∈ fl) : ∃ r : vw_C, cls[q.2.2.1]? = some r ∧ q.2.2.2.1 < r.2.2 ∧ (r.2.1 q.2.2.2.1).1 = r.1 ∧ ((q.2.2.2.2 = true → Cond.fieldLinkNest (own.getD q.1 "") q.2.1 r.1 (r.2.1 q.2.2.2.1).2.1 (r.2.1 q.2.2.2.1).2.2.1 "CascadeStore" ∈ lw_tbl) ∧ (q.2.2.2.2 = false → Cond.fieldLink (own.getD q.1 "") q.2.1 r.1 (r.2.1 q.2.2.2.1).2.1 (r.2.1 q.2.2.2.1).2.2.1 ∈ lw_tbl)) := by
  have h1 := List.all_eq_true.mp fl_ok q h
  have h2 := fl_in q h
  unfold fl_word at h2
  cases hc : cls[q.2.2.1]? with
  | none => rw [hc] at h1; cases h1
  | some r =>
    rw [hc] at h1 h2
    simp only [Bool.and_eq_true, decide_eq_true_eq] at h1
    refine ⟨r, rfl, h1.1, h1.2, fun hn => ?_, fun hn => ?_⟩
    · simpa [hn] using h2
    · simpa [hn] using h2
theorem ab_nar {ty : FieldType} {v : Value} (r : Nat → Nat) (h : narrow ty v = v ∧ fits ty v = true) : narrow ty (ab_v r v) = ab_v r v ∧ fits ty (ab_v r v) = true := by
  cases v with
  | ref k => exact ⟨by cases ty <;> rfl, by obtain ⟨-, h2⟩ := h; cases ty <;> first | rfl | exact h2⟩
  | _ => exact h
section ABM
variable {p : Program} {l : Launch} {e : Env} {R : Room} {s : State} {m : MethodId} {args : Array Value} {below : List Frame} {meth : Method} {c : Code} {H : Heap} {locs : List Loc} {cells slots : Nat} {Q : State → Prop}
variable {cc : ByteArray} {pc : Nat} {ls : Array Slot} {rest : List Value} {D : va_G} {sa : Nat → Nat} {tC : Nat → ClassId} {B : Nat} {h : ab_H}
theorem ab_getfield (hx : p.tables.exec = Jvm.exec) (hb : c.code = cc) (hts : ∀ w ∈ lw_tbl, w.before args s = true) (hK : va_K D cls (ab_tys tC) s) (hP : va_P D cls (ab_w (ab_r sa B) tC B h) H) {q : fl_T} (hq : q ∈ fl) (hown : s.vm.findClass (own.getD q.1 "") = some m.cls)
    {a : Nat} (ha : 100 ≤ a) {fs : List Value} (hc : h[a - 100]? = some (.inr (q.2.2.1, fs))) {v : Value} (hv : fs[q.2.2.2.1]? = some v) (hd : decode cc pc = .ok (.getfield q.2.1, 3))
    (kk : W p l e R s m args below meth c H locs cells slots Q (F0 m (pc + 3) ls (ab_v (ab_r sa B) v :: rest))) : W p l e R s m args below meth c H locs cells slots Q (F0 m pc ls (.ref (ab_r sa B a) :: rest)) := by
  obtain ⟨⟨C, T, N⟩, h1, h2, h3, h4, h5⟩ := fl_ok' hq
  rw [ab_r_ge ha]
  have hg := ab_w_get (r := ab_r sa B) (tC := tC) (B := B) hc
  have hv' : (fs.map (ab_v (ab_r sa B)))[q.2.2.2.1]? = some (ab_v (ab_r sa B) v) := by rw [List.getElem?_map, hv]; rfl
  cases hn : q.2.2.2.2 with
  | true => exact va_getN (D := D) (C := C) (T := T) (N := N) (host := "CascadeStore") hx hb hts (cls_ok _ _ h1).1 hown hK hP (a - 100) hg h1 q.2.2.2.1 h2 (hts _ (h4 hn)) (fun x hx => by rw [← h3]; exact hx) hv' hd kk
  | false => exact va_get (D := D) (C := C) (T := T) (N := N) hx hb hts (cls_ok _ _ h1).1 hown hK hP (a - 100) hg h1 q.2.2.2.1 h2 (hts _ (h5 hn)) (fun x hx => by rw [← h3]; exact hx) hv' hd kk
theorem ab_putfield (hx : p.tables.exec = Jvm.exec) (hb : c.code = cc) (hts : ∀ w ∈ lw_tbl, w.before args s = true) (hK : va_K D cls (ab_tys tC) s) (hP : va_P D cls (ab_w (ab_r sa B) tC B h) H) (hS : va_S (fun q => B ≤ q) s.heap H locs) {q : fl_T} (hq : q ∈ fl) (hown : s.vm.findClass (own.getD q.1 "") = some m.cls)
    {a : Nat} (ha : 100 ≤ a) {fs : List Value} (hc : h[a - 100]? = some (.inr (q.2.2.1, fs))) (hl : q.2.2.2.1 < fs.length) {v : Value} {r : vw_C} (hr : cls[q.2.2.1]? = some r) {ty : FieldType} (hty : parseFieldDescriptor (r.2.1 q.2.2.2.1).2.2.1 = some ty) (hf : narrow ty v = v ∧ fits ty v = true)
    (hfin : (r.2.1 q.2.2.2.1).2.2.2 = false ∨ (meth.name = "<init>" ∧ r.1 = own.getD q.1 "" ∧ q.2.2.2.2 = false)) (hd : decode cc pc = .ok (.putfield q.2.1, 3))
    (kk : ∀ (H1 : Heap) (locs1 : List Loc), va_P D cls (ab_w (ab_r sa B) tC B (h.set (a - 100) (.inr (q.2.2.1, fs.set q.2.2.2.1 v)))) H1 → va_S (fun q => B ≤ q) s.heap H1 locs1 → W p l e R s m args below meth c H1 locs1 cells slots Q (F0 m (pc + 3) ls rest)) :
    W p l e R s m args below meth c H locs cells slots Q (F0 m pc ls (ab_v (ab_r sa B) v :: .ref (ab_r sa B a) :: rest)) := by
  obtain ⟨r', h1, h2, h3, h4, h5⟩ := fl_ok' hq
  cases hr.symm.trans h1
  obtain ⟨C, T, N⟩ := r
  rw [ab_r_ge ha]
  have hg := ab_w_get (r := ab_r sa B) (tC := tC) (B := B) hc
  obtain ⟨hin, ⟨ty0, hty0⟩, hnm⟩ := cls_ok _ _ h1
  obtain ⟨hf1, hf2⟩ := ab_nar (ab_r sa B) hf
  have hl' : q.2.2.2.1 < (fs.map (ab_v (ab_r sa B))).length := by rw [List.length_map]; exact hl
  have kk' : ∀ (H1 : Heap) (locs1 : List Loc), va_P D cls ((ab_w (ab_r sa B) tC B h).set (a - 100) (B + (a - 100), .inr (q.2.2.1, (fs.map (ab_v (ab_r sa B))).set q.2.2.2.1 (ab_v (ab_r sa B) v)))) H1 → va_D (fun q => B ≤ q) ((ab_w (ab_r sa B) tC B h).set (a - 100) (B + (a - 100), .inr (q.2.2.1, (fs.map (ab_v (ab_r sa B))).set q.2.2.2.1 (ab_v (ab_r sa B) v)))) → va_S (fun q => B ≤ q) s.heap H1 locs1 → W p l e R s m args below meth c H1 locs1 cells slots Q (F0 m (pc + 3) ls rest) := by
    intro H1 locs1 g1 g2 g3
    refine kk H1 locs1 ?_ g3
    rw [← ab_w_set]
    have e1 : ab_e (ab_r sa B) tC (.inr (q.2.2.1, fs.set q.2.2.2.1 v)) = .inr (q.2.2.1, (fs.map (ab_v (ab_r sa B))).set q.2.2.2.1 (ab_v (ab_r sa B) v)) := by
      show (.inr (_, (fs.set q.2.2.2.1 v).map (ab_v (ab_r sa B))) : va_E) = _
      rw [List.map_set]
    rw [e1]
    exact g1
  rcases hfin with hfin | ⟨hfin, hd0, hd1⟩
  · cases hn : q.2.2.2.2 with
    | true => exact va_putN (D := D) (C := C) (T := T) (N := N) (host := "CascadeStore") hx hb hts hin ty0 hty0 hnm hown hK hP ab_D hS (a - 100) hg h1 q.2.2.2.1 h2 (hts _ (h4 hn)) (fun x hx => by rw [← h3]; exact hx) hfin hty hf1 hf2 hl' hd kk'
    | false => exact va_put (D := D) (C := C) (T := T) (N := N) hx hb hts hin ty0 hty0 hnm hown hK hP ab_D hS (a - 100) hg h1 q.2.2.2.1 h2 (hts _ (h5 hn)) (fun x hx => by rw [← h3]; exact hx) hfin hty hf1 hf2 hl' hd kk'
  · cases hfb : (T q.2.2.2.1).2.2.2 with
    | false => exact va_put (D := D) (C := C) (T := T) (N := N) hx hb hts hin ty0 hty0 hnm hown hK hP ab_D hS (a - 100) hg h1 q.2.2.2.1 h2 (hts _ (h5 hd1)) (fun x hx => by rw [← h3]; exact hx) hfb hty hf1 hf2 hl' hd kk'
    | true => exact va_putF (D := D) (C := C) (T := T) (N := N) hx hb hts hin ty0 hty0 hnm hown hK hP ab_D hS (a - 100) hg h1 q.2.2.2.1 h2 (hts _ (h5 hd1)) (fun x hx => by rw [← h3]; exact hx) hfb hfin (h3.trans hd0) hty hf1 hf2 hl' hd kk'
end ABM
