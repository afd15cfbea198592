/-! THE ABSTRACT MACHINE, 3: arrays, and new cells -/
theorem ab_rf {r : Nat → Nat} (o : Option Nat) : ab_v r (va_rf o) = va_rf (o.map r) := by cases o <;> rfl
/-- a new cell lies behind all others -/
theorem ab_fresh {r : Nat → Nat} {tC : Nat → ClassId} {D : va_G} {B q : Nat} {h : ab_H} {ee : va_E} {H1 : Heap} (hP : va_P D cls (ab_w r tC B h ++ [(q, ee)]) H1) (hD : va_D (fun q : Nat => B ≤ q) (ab_w r tC B h ++ [(q, ee)])) (hz : H1.size ≤ B + h.length + 1) : q = B + h.length := by
  have hlast : (ab_w r tC B h ++ [(q, ee)])[h.length]? = some (q, ee) := by
    rw [List.getElem?_append_right (by rw [ab_w_len]; exact Nat.le_refl _), ab_w_len, Nat.sub_self]
    rfl
  have h1 : q < H1.size := (hP _ _ hlast).lt
  have h2 : B ≤ q := hD.2 _ _ hlast
  rcases Nat.lt_or_ge q (B + h.length) with hlt | hge
  · exfalso
    have hk : q - B < h.length := by omega
    have hg : (ab_w r tC B h)[q - B]? = some (B + (q - B), ab_e r tC h[q - B]) := ab_w_get (List.getElem?_eq_getElem hk)
    have hg' : (ab_w r tC B h ++ [(q, ee)])[q - B]? = some (B + (q - B), ab_e r tC h[q - B]) := by
      rw [List.getElem?_append_left (by rw [ab_w_len]; exact hk)]
      exact hg
    have := hD.1 (q - B) h.length _ _ hg' hlast (by show B + (q - B) = q; omega)
    omega
  · omega
def ab_df (q : vw_C) : List Value := (List.range q.2.2).map (fun j => match parseFieldDescriptor (q.2.1 j).2.2.1 with
  | some t => defaultValue t
  | none => .null)
theorem ab_dv (r : Nat → Nat) (t : FieldType) : ab_v r (defaultValue t) = defaultValue t := by cases t <;> rfl
theorem ab_df_ok {q : vw_C} {ty0 : Nat → FieldType} (h : ∀ k, k < q.2.2 → parseFieldDescriptor (q.2.1 k).2.2.1 = some (ty0 k)) (r : Nat → Nat) : ∀ j, j < q.2.2 → defaultValue (ty0 j) = vp_V ((ab_df q).map (ab_v r)) j := by
  intro j hj
  simp [vp_V, ab_df, List.getD, hj, h j hj, ab_dv]
/-- links to classes: which class 'new' makes, which kind 'anewarray' makes -/
def ab_cl : List (Nat × Nat × Nat) := [(16, 8, 0), (0, 9, 1), (0, 18, 2), (0, 25, 4), (4, 19, 5), (0, 34, 6), (6, 9, 3), (2, 37, 3), (5, 71, 8), (4, 324, 9), (4, 312, 10), (2, 25, 7), (16, 49, 11)]
def ab_clw (q : Nat × Nat × Nat) : Cond := match cls[q.2.2]? with
  | none => .tt
  | some r => .classLink (own.getD q.1 "") q.2.1 r.1
def ab_in (q : Nat × Nat × Nat) : Cond := match cls[q.2.2]? with
  | none => .tt
  | some r => .instantiable r.1 r.2.2
def ab_ii (q : Nat × Nat × Nat) : Cond := match cls[q.2.2]? with
  | none => .tt
  | some r => .initialized r.1
set_option maxRecDepth 40000 in
theorem ab_clw_in : ∀ q ∈ ab_cl, ab_clw q ∈ lw_tbl := pl_all [(1, 34), (1, 42), (1, 94), (1, 178), (1, 184), (2, 29), (2, 35), (1, 104), (5, 111), (5, 193), (6, 26), (1, 100), (8, 33)] rfl
set_option maxRecDepth 40000 in
theorem ab_in_in : ∀ q ∈ ab_cl, ab_in q ∈ lw_tbl := pl_all [(1, 35), (1, 43), (1, 95), (1, 179), (1, 185), (2, 30), (1, 105), (1, 105), (5, 112), (5, 194), (6, 27), (4, 175), (8, 34)] rfl
set_option maxRecDepth 40000 in
theorem ab_ii_in : ∀ q ∈ ab_cl, ab_ii q ∈ lw_tbl := pl_all [(1, 1), (1, 2), (1, 3), (1, 5), (1, 6), (1, 7), (1, 4), (1, 4), (1, 31), (1, 32), (1, 33), (1, 30), (1, 25)] rfl
section ABA
variable {p : Program} {l : Launch} {e : Env} {R : Room} {s : State} {m : MethodId} {args : Array Value} {below : List Frame} {meth : Method} {c : Code} {H : Heap} {locs : List Loc} {cells slots : Nat} {Q : State → Prop}
variable {cc : ByteArray} {pc : Nat} {ls : Array Slot} {rest : List Value} {D : va_G} {sa : Nat → Nat} {tC : Nat → ClassId} {B : Nat} {h : ab_H}
theorem ab_iaload (hx : p.tables.exec = Jvm.exec) (hb : c.code = cc) (hK : va_K D cls (ab_tys tC) s) (hP : va_P D cls (ab_w (ab_r sa B) tC B h) H) {a : Nat} (ha : 100 ≤ a) {n : Nat} {f : Nat → Int32} (hc : h[a - 100]? = some (.inl (0, n, .inl f))) {i : Int32} (hin : vp_in i n) (hd : decode cc pc = .ok (.iaload, 1))
    (kk : W p l e R s m args below meth c H locs cells slots Q (F0 m (pc + 1) ls (.int (f i.toNatClampNeg) :: rest))) : W p l e R s m args below meth c H locs cells slots Q (F0 m pc ls (.int i :: .ref (ab_r sa B a) :: rest)) := by
  rw [ab_r_ge ha]
  exact va_iald hx hb hK hP (a - 100) 0 (ab_w_get hc) (ab_tys_at (by decide)) hin hd kk
theorem ab_laload (hx : p.tables.exec = Jvm.exec) (hb : c.code = cc) (hK : va_K D cls (ab_tys tC) s) (hP : va_P D cls (ab_w (ab_r sa B) tC B h) H) {a : Nat} (ha : 100 ≤ a) {n : Nat} {f : Nat → Int64} (hc : h[a - 100]? = some (.inl (1, n, .inr (.inl f)))) {i : Int32} (hin : vp_in i n) (hd : decode cc pc = .ok (.laload, 1))
    (kk : W p l e R s m args below meth c H locs cells slots Q (F0 m (pc + 1) ls (.long (f i.toNatClampNeg) :: rest))) : W p l e R s m args below meth c H locs cells slots Q (F0 m pc ls (.int i :: .ref (ab_r sa B a) :: rest)) := by
  rw [ab_r_ge ha]
  exact va_lald hx hb hK hP (a - 100) 1 (ab_w_get hc) (ab_tys_at (by decide)) hin hd kk
theorem ab_baload (hx : p.tables.exec = Jvm.exec) (hb : c.code = cc) (hK : va_K D cls (ab_tys tC) s) (hP : va_P D cls (ab_w (ab_r sa B) tC B h) H) {a : Nat} (ha : 100 ≤ a) {n t : Nat} (ht : t = 2 ∨ t = 3) {f : Nat → Int32} (hc : h[a - 100]? = some (.inl (t, n, .inl f))) {i : Int32} (hin : vp_in i n) (hd : decode cc pc = .ok (.baload, 1))
    (kk : W p l e R s m args below meth c H locs cells slots Q (F0 m (pc + 1) ls (.int (f i.toNatClampNeg) :: rest))) : W p l e R s m args below meth c H locs cells slots Q (F0 m pc ls (.int i :: .ref (ab_r sa B a) :: rest)) := by
  rw [ab_r_ge ha]
  rcases ht with rfl | rfl
  · exact va_bald hx hb hK hP (a - 100) 2 (ab_w_get hc) (ab_tys_at (by decide)) hin hd kk
  · exact va_zald hx hb hK hP (a - 100) 3 (ab_w_get hc) (ab_tys_at (by decide)) hin hd kk
theorem ab_aaload (hx : p.tables.exec = Jvm.exec) (hb : c.code = cc) (hK : va_K D cls (ab_tys tC) s) (hP : va_P D cls (ab_w (ab_r sa B) tC B h) H) {a : Nat} (ha : 100 ≤ a) {n t : Nat} (ht : 4 ≤ t ∧ t < 11) {f : Nat → Option Nat} (hc : h[a - 100]? = some (.inl (t, n, .inr (.inr (.inr (.inr f)))))) {i : Int32} (hin : vp_in i n) (hd : decode cc pc = .ok (.aaload, 1))
    (kk : W p l e R s m args below meth c H locs cells slots Q (F0 m (pc + 1) ls (ab_v (ab_r sa B) (va_rf (f i.toNatClampNeg)) :: rest))) : W p l e R s m args below meth c H locs cells slots Q (F0 m pc ls (.int i :: .ref (ab_r sa B a) :: rest)) := by
  rw [ab_r_ge ha]
  rw [ab_rf] at kk
  have hlt : i.toNatClampNeg < n := Nat.not_le.mp fun q => hin (Or.inr q)
  have hg : (ab_w (ab_r sa B) tC B h)[a - 100]? = some (B + (a - 100), .inl (tC t, n, .inr (.inr (.inr (.inr (fun j => (f j).map (ab_r sa B))))))) := ab_w_get hc
  have href : (ab_ty t).isReference = true := by
    obtain ⟨h1, h2⟩ := ht
    rcases (show t = 4 ∨ t = 5 ∨ t = 6 ∨ t = 7 ∨ t = 8 ∨ t = 9 ∨ t = 10 by omega) with rfl | rfl | rfl | rfl | rfl | rfl | rfl <;> rfl
  exact W.aald (v := va_rf ((f i.toNatClampNeg).map (ab_r sa B))) (ty := ab_ty t) hx hb (hP (a - 100) _ hg) ((hK.2 t _ (ab_tys_at ht.2)).1 n (fun j => va_rf ((f j).map (ab_r sa B)))) href (fun q => by cases q) (by show ¬ (i < 0 ∨ (arrV _ _ _).slots.size ≤ _); rw [arrV_size]; exact hin) (by show (arrV _ _ _).slots[_]? = _; rw [arrV_read _ _ hlt]) rfl rfl hd kk
theorem ab_alen (hx : p.tables.exec = Jvm.exec) (hb : c.code = cc) (hK : va_K D cls (ab_tys tC) s) (hP : va_P D cls (ab_w (ab_r sa B) tC B h) H) {a : Nat} (ha : 100 ≤ a) {t : Nat} (ht : t < 11) {x : vp_A} (hc : h[a - 100]? = some (.inl (t, x))) (hd : decode cc pc = .ok (.arraylength, 1))
    (kk : W p l e R s m args below meth c H locs cells slots Q (F0 m (pc + 1) ls (.int (Int32.ofNat x.1) :: rest))) : W p l e R s m args below meth c H locs cells slots Q (F0 m pc ls (.ref (ab_r sa B a) :: rest)) := by
  rw [ab_r_ge ha]
  have hg := ab_w_get (r := ab_r sa B) (tC := tC) (B := B) hc
  refine va_alen hx hb hK hP (a - 100) t hg (ab_tys_at ht) ?_ hd kk
  obtain ⟨n, g⟩ := x
  rcases g with f | f | f | f | f <;> rfl
theorem ab_iastore (hx : p.tables.exec = Jvm.exec) (hb : c.code = cc) (hK : va_K D cls (ab_tys tC) s) (hP : va_P D cls (ab_w (ab_r sa B) tC B h) H) (hS : va_S (fun q => B ≤ q) s.heap H locs) {a : Nat} (ha : 100 ≤ a) {n : Nat} {f : Nat → Int32} (hc : h[a - 100]? = some (.inl (0, n, .inl f))) {i x : Int32} (hin : vp_in i n) (hd : decode cc pc = .ok (.iastore, 1))
    (kk : ∀ (H1 : Heap) (locs1 : List Loc), va_P D cls (ab_w (ab_r sa B) tC B (h.set (a - 100) (.inl (0, n, .inl (upd f i.toNatClampNeg x))))) H1 → va_S (fun q => B ≤ q) s.heap H1 locs1 → W p l e R s m args below meth c H1 locs1 cells slots Q (F0 m (pc + 1) ls rest)) : W p l e R s m args below meth c H locs cells slots Q (F0 m pc ls (.int x :: .int i :: .ref (ab_r sa B a) :: rest)) := by
  rw [ab_r_ge ha]
  exact va_iast hx hb hK hP ab_D hS (a - 100) 0 (ab_w_get hc) (ab_tys_at (by decide)) hin hd (fun H1 locs1 g1 _ g3 => kk H1 locs1 (by rw [← ab_w_set]; exact g1) g3)
theorem ab_lastore (hx : p.tables.exec = Jvm.exec) (hb : c.code = cc) (hK : va_K D cls (ab_tys tC) s) (hP : va_P D cls (ab_w (ab_r sa B) tC B h) H) (hS : va_S (fun q => B ≤ q) s.heap H locs) {a : Nat} (ha : 100 ≤ a) {n : Nat} {f : Nat → Int64} (hc : h[a - 100]? = some (.inl (1, n, .inr (.inl f)))) {i : Int32} {x : Int64} (hin : vp_in i n) (hd : decode cc pc = .ok (.lastore, 1))
    (kk : ∀ (H1 : Heap) (locs1 : List Loc), va_P D cls (ab_w (ab_r sa B) tC B (h.set (a - 100) (.inl (1, n, .inr (.inl (vp_updL f i.toNatClampNeg x)))))) H1 → va_S (fun q => B ≤ q) s.heap H1 locs1 → W p l e R s m args below meth c H1 locs1 cells slots Q (F0 m (pc + 1) ls rest)) : W p l e R s m args below meth c H locs cells slots Q (F0 m pc ls (.long x :: .int i :: .ref (ab_r sa B a) :: rest)) := by
  rw [ab_r_ge ha]
  exact va_last hx hb hK hP ab_D hS (a - 100) 1 (ab_w_get hc) (ab_tys_at (by decide)) hin hd (fun H1 locs1 g1 _ g3 => kk H1 locs1 (by rw [← ab_w_set]; exact g1) g3)
theorem ab_bastore (hx : p.tables.exec = Jvm.exec) (hb : c.code = cc) (hK : va_K D cls (ab_tys tC) s) (hP : va_P D cls (ab_w (ab_r sa B) tC B h) H) (hS : va_S (fun q => B ≤ q) s.heap H locs) {a : Nat} (ha : 100 ≤ a) {n t : Nat} (ht : t = 2 ∨ t = 3) {f : Nat → Int32} (hc : h[a - 100]? = some (.inl (t, n, .inl f))) {i x : Int32} (hin : vp_in i n) (hd : decode cc pc = .ok (.bastore, 1))
    (kk : ∀ (H1 : Heap) (locs1 : List Loc), va_P D cls (ab_w (ab_r sa B) tC B (h.set (a - 100) (.inl (t, n, .inl (upd f i.toNatClampNeg (vp_nar (ab_ty t) x)))))) H1 → va_S (fun q => B ≤ q) s.heap H1 locs1 → W p l e R s m args below meth c H1 locs1 cells slots Q (F0 m (pc + 1) ls rest)) : W p l e R s m args below meth c H locs cells slots Q (F0 m pc ls (.int x :: .int i :: .ref (ab_r sa B a) :: rest)) := by
  rw [ab_r_ge ha]
  rcases ht with rfl | rfl
  · exact va_bast hx hb hK hP ab_D hS (a - 100) 2 (ab_w_get hc) (ab_tys_at (by decide)) hin hd (fun H1 locs1 g1 _ g3 => kk H1 locs1 (by rw [← ab_w_set]; exact g1) g3)
  · exact va_zast hx hb hK hP ab_D hS (a - 100) 3 (ab_w_get hc) (ab_tys_at (by decide)) hin hd (fun H1 locs1 g1 _ g3 => kk H1 locs1 (by rw [← ab_w_set]; exact g1) g3)
/-- new -/
theorem ab_new (hx : p.tables.exec = Jvm.exec) (hb : c.code = cc) (hts : ∀ w ∈ lw_tbl, w.before args s = true) (hK : va_K D cls (ab_tys tC) s) (hP : va_P D cls (ab_w (ab_r sa B) tC B h) H) (hS : va_S (fun q => B ≤ q) s.heap H locs) (hB : B ≤ s.heap.size) (hsz : s.heap.size + cells = B + h.length) {q : Nat × Nat × Nat} (hq : q ∈ ab_cl) {rc : vw_C} (hr : cls[q.2.2]? = some rc) (hown : s.vm.findClass (own.getD q.1 "") = some m.cls)
    (hRc : cells + 1 ≤ R.cells) (hRs : slots + rc.2.2 ≤ R.slots) (hd : decode cc pc = .ok (.new q.2.1, 3))
    (kk : ∀ (H1 : Heap), va_P D cls (ab_w (ab_r sa B) tC B (h ++ [.inr (q.2.2, ab_df rc)])) H1 → va_S (fun q => B ≤ q) s.heap H1 locs → W p l e R s m args below meth c H1 locs (cells + 1) (slots + rc.2.2) Q (F0 m (pc + 3) ls (.ref (ab_r sa B (100 + h.length)) :: rest))) : W p l e R s m args below meth c H locs cells slots Q (F0 m pc ls rest) := by
  obtain ⟨C, T, N⟩ := rc
  have w1 := hts _ (ab_clw_in q hq)
  have w2 := hts _ (ab_in_in q hq)
  have w3 := hts _ (ab_ii_in q hq)
  simp only [ab_clw, ab_in, ab_ii, hr] at w1 w2 w3
  obtain ⟨hin, ⟨ty0, hty0⟩, hnm⟩ := cls_ok _ _ hr
  refine va_new (ci := q.2.2) (fs := (ab_df (C, T, N)).map (ab_v (ab_r sa B))) (C := C) (T := T) (N := N) hx hb hts hin ty0 hty0 hown w1 w2 w3 hK hP ab_D hS (fun x hx => Nat.le_trans hB hx) hr (ab_df_ok hty0 _) hRc hRs hd (fun qa H1 hP1 hD1 hS1 => ?_)
  refine fx_size (fun hz => ?_)
  have e1 := ab_fresh hP1 hD1 (by omega)
  subst e1
  have e2 : ab_r sa B (100 + h.length) = B + h.length := by rw [ab_r_ge (by omega)]; omega
  have := kk H1 (by rw [ab_w_push]; exact hP1) hS1
  rw [e2] at this
  exact this
/-- newarray -/
def ab_at (a : ArrayType) : Option (Nat × (Nat → vp_A)) := match a with
  | .int => some (0, fun n => (n, .inl (fun _ => 0)))
  | .long => some (1, fun n => (n, .inr (.inl (fun _ => 0))))
  | .byte => some (2, fun n => (n, .inl (fun _ => 0)))
  | .boolean => some (3, fun n => (n, .inl (fun _ => 0)))
  | _ => none
theorem ab_newarray (hx : p.tables.exec = Jvm.exec) (hb : c.code = cc) (hts : ∀ w ∈ lw_tbl, w.before args s = true) (hK : va_K D cls (ab_tys tC) s) (hP : va_P D cls (ab_w (ab_r sa B) tC B h) H) (hS : va_S (fun q => B ≤ q) s.heap H locs) (hB : B ≤ s.heap.size) (hsz : s.heap.size + cells = B + h.length) {at0 : ArrayType} {t : Nat} {mk : Nat → vp_A} (hat : ab_at at0 = some (t, mk)) {n : Int32} (hn : ¬ n < 0) (hbig : n.toNatClampNeg ≤ 60000000)
    (hRc : cells + 1 ≤ R.cells) (hRs : slots + n.toNatClampNeg ≤ R.slots) (hd : decode cc pc = .ok (.newarray at0, 2))
    (kk : ∀ (H1 : Heap), va_P D cls (ab_w (ab_r sa B) tC B (h ++ [.inl (t, mk n.toNatClampNeg)])) H1 → va_S (fun q => B ≤ q) s.heap H1 locs → W p l e R s m args below meth c H1 locs (cells + 1) (slots + n.toNatClampNeg) Q (F0 m (pc + 2) ls (.ref (ab_r sa B (100 + h.length)) :: rest))) : W p l e R s m args below meth c H locs cells slots Q (F0 m pc ls (.int n :: rest)) := by
  have e2 : ab_r sa B (100 + h.length) = B + h.length := by rw [ab_r_ge (by omega)]; omega
  have go : ∀ (ty : FieldType) (hty : newarray.typeOf at0 = ty) (hw : Cond.arrayClass ty ∈ lw_tbl) (ht : t < 11) (htt : ab_ty t = ty) (hbt : componentBytes ty ≤ 8) (hprim : ∀ U cA, va_RA U cA ty → U.vm.findClass ("[" ++ ty.toString) = some cA) (hm : ab_a (ab_r sa B) (mk n.toNatClampNeg) = mk n.toNatClampNeg) (ha : ∀ cA : ClassId, vp_cell cA (mk n.toNatClampNeg) = arrV cA n.toNatClampNeg (fun _ => defaultValue ty)), W p l e R s m args below meth c H locs cells slots Q (F0 m pc ls (.int n :: rest)) := by
    intro ty hty hw ht htt hbt hprim hm ha
    refine va_newa hx hb (by rw [hty]; exact hts _ hw) hty hK hP ab_D hS (fun x hx => Nat.le_trans hB hx) ha hn rfl (by have := Nat.mul_le_mul hbig hbt; omega) hRc hRs hd (fun qa cA H1 hK1 hP1 hD1 hS1 => ?_)
    refine fx_size (fun hz => ?_)
    have e1 := ab_fresh hP1 hD1 (by omega)
    subst e1
    have hcA : cA = tC t := by
      have k1 := (hK1.2 11 (cA, ty) (by rw [List.getElem?_append_right (by simp [ab_tys])]; simp [ab_tys])).2
      have k2 := (hK.2 t _ (ab_tys_at ht)).2
      rw [htt] at k2
      exact Option.some.inj ((hprim _ _ k1).symm.trans (hprim _ _ k2))
    subst hcA
    have := kk H1 (by rw [ab_w_push]; show va_P D cls (_ ++ [(_, .inl (tC t, ab_a (ab_r sa B) (mk n.toNatClampNeg)))]) H1; rw [hm]; exact hP1) hS1
    rw [e2] at this
    exact this
  cases at0 <;> simp only [ab_at] at hat <;> first | (cases hat; done) | skip
  · cases hat
    exact go .boolean rfl (pl_w_mem (q := (9, 113)) rfl) (by decide) rfl (by decide) (fun U cA z => z) rfl (fun cA => rfl)
  · cases hat
    exact go .byte rfl (pl_w_mem (q := (1, 91)) rfl) (by decide) rfl (by decide) (fun U cA z => z) rfl (fun cA => rfl)
  · cases hat
    exact go .int rfl (pl_w_mem (q := (1, 92)) rfl) (by decide) rfl (by decide) (fun U cA z => z) rfl (fun cA => rfl)
  · cases hat
    exact go .long rfl (pl_w_mem (q := (1, 93)) rfl) (by decide) rfl (by decide) (fun U cA z => z) rfl (fun cA => rfl)
end ABA
