/-! THE ABSTRACT MACHINE, 8: the instructions that touch cells, as functions; and that the machine follows them -/
abbrev mo_T : Type := Option (List Value × ab_H × Nat)
def mo_fl (o idx : Nat) : Option fl_T := fl.find? (fun q => q.1 == o && q.2.1 == idx)
theorem mo_fl_s {o idx : Nat} {q : fl_T} (h : mo_fl o idx = some q) : q ∈ fl ∧ q.1 = o ∧ q.2.1 = idx := by
  have h1 := List.find?_some h
  simp only [Bool.and_eq_true, beq_iff_eq] at h1
  exact ⟨List.mem_of_find?_eq_some h, h1.1, h1.2⟩
def mo_obj (h : ab_H) (a : Nat) : Option (Nat × List Value) := if 100 ≤ a then (match h[a - 100]? with
  | some (.inr q) => some q
  | _ => none) else none
def mo_arr (h : ab_H) (a : Nat) : Option (Nat × vp_A) := if 100 ≤ a then (match h[a - 100]? with
  | some (.inl q) => some q
  | _ => none) else none
theorem mo_obj_s {h : ab_H} {a : Nat} {q : Nat × List Value} (e : mo_obj h a = some q) : 100 ≤ a ∧ h[a - 100]? = some (.inr q) := by
  unfold mo_obj at e
  split at e
  · rename_i ha
    split at e
    · rename_i hq
      cases e
      exact ⟨ha, hq⟩
    · cases e
  · cases e
theorem mo_arr_s {h : ab_H} {a : Nat} {q : Nat × vp_A} (e : mo_arr h a = some q) : 100 ≤ a ∧ h[a - 100]? = some (.inl q) := by
  unfold mo_arr at e
  split at e
  · rename_i ha
    split at e
    · rename_i hq
      cases e
      exact ⟨ha, hq⟩
    · cases e
  · cases e
/-- is the index in the array -/
def mo_in (i : Int32) (n : Nat) : Bool := !(decide (i < 0) || decide (n ≤ i.toNatClampNeg))
theorem mo_in_s {i : Int32} {n : Nat} (h : mo_in i n = true) : vp_in i n := by
  unfold mo_in at h
  intro z
  rcases z with z | z <;> simp [z] at h
def mo_gf (o idx : Nat) (h : ab_H) : List Value → mo_T
  | .ref a :: q => match mo_fl o idx with
    | some e => match mo_obj h a with
      | some (ci, fs) => if ci = e.2.2.1 then (fs[e.2.2.2.1]?).map (fun v => (v :: q, h, 0)) else none
      | none => none
    | none => if o = 15 ∧ idx = 210 ∧ 1 ≤ a ∧ a ≤ 59 then some (.long (tk_l.getD (a - 1) 0) :: q, h, 0) else none
  | _ => none
def mo_pf (o : Nat) (ini : Bool) (idx : Nat) (h : ab_H) : List Value → mo_T
  | v :: .ref a :: q => match mo_fl o idx with
    | some e => match mo_obj h a with
      | some (ci, fs) => match cls[e.2.2.1]? with
        | some r => match parseFieldDescriptor (r.2.1 e.2.2.2.1).2.2.1 with
          | some ty => if ci = e.2.2.1 ∧ e.2.2.2.1 < fs.length ∧ (narrow ty v = v ∧ fits ty v = true) ∧ ((r.2.1 e.2.2.2.1).2.2.2 = false ∨ (ini = true ∧ r.1 = own.getD o "" ∧ e.2.2.2.2 = false)) then some (q, h.set (a - 100) (.inr (ci, fs.set e.2.2.2.1 v)), 0) else none
          | none => none
        | none => none
      | none => none
    | none => none
  | _ => none
def mo_il (L : Nat) (xs : Nat → Int32) (h : ab_H) : List Value → mo_T
  | .int i :: .ref a :: q => match mo_arr h a with
    | some (0, n, .inl f) => if mo_in i n = true then some (.int (f i.toNatClampNeg) :: q, h, 0) else none
    | some _ => none
    | none => if a = 61 ∧ mo_in i 59 = true then some (.int (tk_s.getD i.toNatClampNeg 0) :: q, h, 0) else if a = 0 ∧ mo_in i L = true then some (.int (xs i.toNatClampNeg) :: q, h, 0) else none
  | _ => none
def mo_ll (h : ab_H) : List Value → mo_T
  | .int i :: .ref a :: q => match mo_arr h a with
    | some (1, n, .inr (.inl f)) => if mo_in i n = true then some (.long (f i.toNatClampNeg) :: q, h, 0) else none
    | _ => none
  | _ => none
def mo_bl (h : ab_H) : List Value → mo_T
  | .int i :: .ref a :: q => match mo_arr h a with
    | some (t, n, .inl f) => if (t = 2 ∨ t = 3) ∧ mo_in i n = true then some (.int (f i.toNatClampNeg) :: q, h, 0) else none
    | _ => none
  | _ => none
def mo_al (h : ab_H) : List Value → mo_T
  | .int i :: .ref a :: q => match mo_arr h a with
    | some (t, n, .inr (.inr (.inr (.inr f)))) => if (4 ≤ t ∧ t < 11) ∧ mo_in i n = true then some (va_rf (f i.toNatClampNeg) :: q, h, 0) else none
    | some _ => none
    | none => if a = 60 ∧ mo_in i 59 = true then some (.ref (1 + i.toNatClampNeg) :: q, h, 0) else none
  | _ => none
def mo_ln (L : Nat) (h : ab_H) : List Value → mo_T
  | .ref a :: q => match mo_arr h a with
    | some (t, x) => if t < 11 then some (.int (Int32.ofNat x.1) :: q, h, 0) else none
    | none => if a = 60 then some (.int 59 :: q, h, 0) else if a = 0 then some (.int (Int32.ofNat L) :: q, h, 0) else none
  | _ => none
def mo_is (h : ab_H) : List Value → mo_T
  | .int x :: .int i :: .ref a :: q => match mo_arr h a with
    | some (0, n, .inl f) => if mo_in i n = true then some (q, h.set (a - 100) (.inl (0, n, .inl (upd f i.toNatClampNeg x))), 0) else none
    | _ => none
  | _ => none
def mo_ls (h : ab_H) : List Value → mo_T
  | .long x :: .int i :: .ref a :: q => match mo_arr h a with
    | some (1, n, .inr (.inl f)) => if mo_in i n = true then some (q, h.set (a - 100) (.inl (1, n, .inr (.inl (vp_updL f i.toNatClampNeg x)))), 0) else none
    | _ => none
  | _ => none
def mo_bs (h : ab_H) : List Value → mo_T
  | .int x :: .int i :: .ref a :: q => match mo_arr h a with
    | some (t, n, .inl f) => if (t = 2 ∨ t = 3) ∧ mo_in i n = true then some (q, h.set (a - 100) (.inl (t, n, .inl (upd f i.toNatClampNeg (vp_nar (ab_ty t) x)))), 0) else none
    | _ => none
  | _ => none
def mo_as (h : ab_H) : List Value → mo_T
  | .null :: .int i :: .ref a :: q => match mo_arr h a with
    | some (t, n, .inr (.inr (.inr (.inr f)))) => if (4 ≤ t ∧ t < 9) ∧ mo_in i n = true then some (q, h.set (a - 100) (.inl (t, n, .inr (.inr (.inr (.inr (va_up f i.toNatClampNeg none)))))), 0) else none
    | _ => none
  | .ref b :: .int i :: .ref a :: q => match mo_arr h a with
    | some (t, n, .inr (.inr (.inr (.inr f)))) => match mo_obj h b with
      | some (k, fs) => if ab_el t = some k ∧ mo_in i n = true then some (q, h.set (a - 100) (.inl (t, n, .inr (.inr (.inr (.inr (va_up f i.toNatClampNeg (some b))))))), 0) else none
      | none => if t = 4 ∧ (1 ≤ b ∧ b ≤ 59) ∧ mo_in i n = true then some (q, h.set (a - 100) (.inl (t, n, .inr (.inr (.inr (.inr (va_up f i.toNatClampNeg (some b))))))), 0) else none
    | _ => none
  | _ => none
def mo_nw (o idx : Nat) (h : ab_H) (st : List Value) : mo_T := match ab_cl.find? (fun q => q.1 == o && q.2.1 == idx) with
  | some e => match cls[e.2.2]? with
    | some r => some (.ref (100 + h.length) :: st, h ++ [.inr (e.2.2, ab_df r)], r.2.2)
    | none => none
  | none => none
def mo_na (a : ArrayType) (h : ab_H) : List Value → mo_T
  | .int n :: q => match ab_at a with
    | some (t, mf) => if ¬ n < 0 ∧ n.toNatClampNeg ≤ 60000000 then some (.ref (100 + h.length) :: q, h ++ [.inl (t, mf n.toNatClampNeg)], n.toNatClampNeg) else none
    | none => none
  | _ => none
def mo_an (o idx : Nat) (h : ab_H) : List Value → mo_T
  | .int n :: q => match ab_ak.find? (fun q => q.1 == o && q.2.1 == idx) with
    | some e => if ¬ n < 0 ∧ n.toNatClampNeg ≤ 60000000 then some (.ref (100 + h.length) :: q, h ++ [.inl (e.2.2, n.toNatClampNeg, .inr (.inr (.inr (.inr (fun _ => none)))))], n.toNatClampNeg) else none
    | none => none
  | _ => none
def mo_gs (o idx : Nat) (h : ab_H) (st : List Value) : mo_T := match gs.find? (fun q => q.1 == o && q.2.1 == idx) with
  | some e => some (.ref e.2.2 :: st, h, 0)
  | none => none
def mo_kl (o idx : Nat) (h : ab_H) (st : List Value) : mo_T := match kl.find? (fun q => q.1 == o && q.2.1 == idx) with
  | some e => some (.long e.2.2 :: st, h, 0)
  | none => none
def mo (L : Nat) (xs : Nat → Int32) (o : Nat) (ini : Bool) (i : Instr) (len : Nat) (h : ab_H) (st : List Value) : mo_T := match i, len with
  | .getfield idx, 3 => mo_gf o idx h st
  | .putfield idx, 3 => mo_pf o ini idx h st
  | .iaload, 1 => mo_il L xs h st
  | .laload, 1 => mo_ll h st
  | .baload, 1 => mo_bl h st
  | .aaload, 1 => mo_al h st
  | .arraylength, 1 => mo_ln L h st
  | .iastore, 1 => mo_is h st
  | .lastore, 1 => mo_ls h st
  | .bastore, 1 => mo_bs h st
  | .aastore, 1 => mo_as h st
  | .new idx, 3 => mo_nw o idx h st
  | .newarray a, 2 => mo_na a h st
  | .anewarray idx, 3 => mo_an o idx h st
  | .getstatic idx, 3 => mo_gs o idx h st
  | .ldc2_w idx, 3 => mo_kl o idx h st
  | _, _ => none
theorem mo_find {α : Type} {l : List (Nat × Nat × α)} {o idx : Nat} {q : Nat × Nat × α} (h : l.find? (fun q => q.1 == o && q.2.1 == idx) = some q) : q ∈ l ∧ q.1 = o ∧ q.2.1 = idx := by
  have h1 := List.find?_some h
  simp only [Bool.and_eq_true, beq_iff_eq] at h1
  exact ⟨List.mem_of_find?_eq_some h, h1.1, h1.2⟩
section ABM2
variable {p : Program} {l : Launch} {e : Env} {R : Room} {s : State} {m : MethodId} {args : Array Value} {below : List Frame} {meth : Method} {c : Code} {H : Heap} {locs : List Loc} {cells slots : Nat} {Q : State → Prop}
variable {cc : ByteArray} {pc : Nat} {ls : Array Slot} {D : va_G} {sa : Nat → Nat} {tC : Nat → ClassId} {B L : Nat} {xs : Nat → Int32}
set_option maxHeartbeats 4000000 in
theorem mo_ok (hx : p.tables.exec = Jvm.exec) (hb : c.code = cc) (hts : ∀ w ∈ lw_tbl, w.before args s = true) (hSt : ab_St sa L xs (fun q => B ≤ q) s s.heap) (hK : va_K D cls (ab_tys tC) s) (hB : B ≤ s.heap.size) {o : Nat} {ow : String} (how : own.getD o "" = ow) (hown : s.vm.findClass ow = some m.cls) {ini : Bool} (hini : ini = true → meth.name = "<init>")
    {h h' : ab_H} {st st' : List Value} {i : Instr} {len du : Nat} (hP : va_P D cls (ab_w (ab_r sa B) tC B h) H) (hS : va_S (fun q => B ≤ q) s.heap H locs) (hsz : s.heap.size + cells = B + h.length) (hd : decode cc pc = .ok (i, len)) (hm : mo L xs o ini i len h st = some (st', h', du))
    (hRc : cells + (h'.length - h.length) ≤ R.cells) (hRs : slots + du ≤ R.slots)
    (kk : ∀ (H1 : Heap) (locs1 : List Loc), va_P D cls (ab_w (ab_r sa B) tC B h') H1 → va_S (fun q => B ≤ q) s.heap H1 locs1 → W p l e R s m args below meth c H1 locs1 (cells + (h'.length - h.length)) (slots + du) Q (F0 m (pc + len) ls (st'.map (ab_v (ab_r sa B))))) :
    W p l e R s m args below meth c H locs cells slots Q (F0 m pc ls (st.map (ab_v (ab_r sa B)))) ∧ h.length ≤ h'.length := by
  unfold mo at hm
  split at hm
  · unfold mo_gf at hm
    split at hm
    · split at hm
      · rename_i e1
        obtain ⟨hq, ho, hidx⟩ := mo_fl_s e1
        split at hm
        · rename_i ci fs e2
          obtain ⟨ha, hc⟩ := mo_obj_s e2
          split at hm
          · rename_i e3
            obtain ⟨v, hv, e4⟩ := Option.map_eq_some_iff.mp hm
            cases e4
            subst e3
            subst hidx
            refine ⟨?_, Nat.le_refl _⟩
            rw [Nat.sub_self] at kk
            exact ab_getfield hx hb hts hK hP hq (by rw [ho, how]; exact hown) ha hc hv hd (kk H locs hP hS)
          · cases hm
        · cases hm
      · split at hm
        · rename_i a q _ e1 e2
          cases hm
          obtain ⟨ho, hidx, ha1, ha2⟩ := e2
          subst ho
          subst hidx
          refine ⟨?_, Nat.le_refl _⟩
          rw [Nat.sub_self] at kk
          have hk2 := kk H locs hP hS
          have key : ∀ n : Nat, 1 ≤ n → n ≤ 59 → n = 1 + (n - 1) ∧ n - 1 < 59 := by omega
          obtain ⟨ea, eb⟩ := key a ha1 ha2
          have how' : ow = "CascadeStore$Token" := how.symm
          rw [how'] at hown
          show W p l e R s m args below meth c H locs cells slots Q (F0 m pc ls (.ref (ab_r sa B a) :: _))
          rw [ea]
          exact ab_letters hx hb hts hSt hS hown eb hd hk2
        · cases hm
    · cases hm
  · unfold mo_pf at hm
    split at hm
    · split at hm
      · rename_i e1
        obtain ⟨hq, ho, hidx⟩ := mo_fl_s e1
        split at hm
        · rename_i ci fs e2
          obtain ⟨ha, hc⟩ := mo_obj_s e2
          split at hm
          · rename_i r hr
            split at hm
            · rename_i ty hty
              split at hm
              · rename_i e3
                obtain ⟨e4, e5, e6, e7⟩ := e3
                cases hm
                subst e4
                subst hidx
                refine ⟨?_, by simp⟩
                rw [List.length_set, Nat.sub_self] at kk
                exact ab_putfield hx hb hts hK hP hS hq (by rw [ho, how]; exact hown) ha hc e5 hr hty e6 (e7.imp id (fun z => ⟨hini z.1, by rw [ho]; exact z.2.1, z.2.2⟩)) hd (fun H1 locs1 g1 g2 => kk H1 locs1 g1 g2)
              · cases hm
            · cases hm
          · cases hm
        · cases hm
      · cases hm
    · cases hm
  · unfold mo_il at hm
    split at hm
    · split at hm
      · rename_i n f e1
        obtain ⟨ha, hc⟩ := mo_arr_s e1
        split at hm
        · rename_i e2
          cases hm
          refine ⟨?_, Nat.le_refl _⟩
          rw [Nat.sub_self] at kk
          exact ab_iaload hx hb hK hP ha hc (mo_in_s e2) hd (kk H locs hP hS)
        · cases hm
      · cases hm
      · split at hm
        · rename_i e1 e2
          cases hm
          obtain ⟨rfl, e3⟩ := e2
          refine ⟨?_, Nat.le_refl _⟩
          rw [Nat.sub_self] at kk
          exact ab_smap hx hb hSt hS (mo_in_s e3) hd (kk H locs hP hS)
        · split at hm
          · rename_i e1 e0 e2
            cases hm
            obtain ⟨rfl, e3⟩ := e2
            refine ⟨?_, Nat.le_refl _⟩
            rw [Nat.sub_self] at kk
            exact ab_script hx hb hSt hS (mo_in_s e3) hd (kk H locs hP hS)
          · cases hm
    · cases hm
  · unfold mo_ll at hm
    split at hm
    · split at hm
      · rename_i n f e1
        obtain ⟨ha, hc⟩ := mo_arr_s e1
        split at hm
        · rename_i e2
          cases hm
          refine ⟨?_, Nat.le_refl _⟩
          rw [Nat.sub_self] at kk
          exact ab_laload hx hb hK hP ha hc (mo_in_s e2) hd (kk H locs hP hS)
        · cases hm
      · cases hm
    · cases hm
  · unfold mo_bl at hm
    split at hm
    · split at hm
      · rename_i t n f e1
        obtain ⟨ha, hc⟩ := mo_arr_s e1
        split at hm
        · rename_i e2
          cases hm
          refine ⟨?_, Nat.le_refl _⟩
          rw [Nat.sub_self] at kk
          exact ab_baload hx hb hK hP ha e2.1 hc (mo_in_s e2.2) hd (kk H locs hP hS)
        · cases hm
      · cases hm
    · cases hm
  · unfold mo_al at hm
    split at hm
    · split at hm
      · rename_i t n f e1
        obtain ⟨ha, hc⟩ := mo_arr_s e1
        split at hm
        · rename_i e2
          cases hm
          refine ⟨?_, Nat.le_refl _⟩
          rw [Nat.sub_self] at kk
          exact ab_aaload hx hb hK hP ha e2.1 hc (mo_in_s e2.2) hd (kk H locs hP hS)
        · cases hm
      · cases hm
      · split at hm
        · rename_i e1 e2
          cases hm
          obtain ⟨rfl, e3⟩ := e2
          refine ⟨?_, Nat.le_refl _⟩
          rw [Nat.sub_self] at kk
          exact ab_known hx hb hSt hS (mo_in_s e3) hd (kk H locs hP hS)
        · cases hm
    · cases hm
  · unfold mo_ln at hm
    split at hm
    · split at hm
      · rename_i t x e1
        obtain ⟨ha, hc⟩ := mo_arr_s e1
        split at hm
        · rename_i e2
          cases hm
          refine ⟨?_, Nat.le_refl _⟩
          rw [Nat.sub_self] at kk
          exact ab_alen hx hb hK hP ha e2 hc hd (kk H locs hP hS)
        · cases hm
      · split at hm
        · rename_i e1 e2
          cases hm
          subst e2
          refine ⟨?_, Nat.le_refl _⟩
          rw [Nat.sub_self] at kk
          exact ab_knownL hx hb hSt hS hd (kk H locs hP hS)
        · split at hm
          · rename_i e1 e0 e2
            cases hm
            subst e2
            refine ⟨?_, Nat.le_refl _⟩
            rw [Nat.sub_self] at kk
            exact ab_scriptL hx hb hSt hS hd (kk H locs hP hS)
          · cases hm
    · cases hm
  · unfold mo_is at hm
    split at hm
    · split at hm
      · rename_i n f e1
        obtain ⟨ha, hc⟩ := mo_arr_s e1
        split at hm
        · rename_i e2
          cases hm
          refine ⟨?_, by simp⟩
          rw [List.length_set, Nat.sub_self] at kk
          exact ab_iastore hx hb hK hP hS ha hc (mo_in_s e2) hd (fun H1 locs1 g1 g2 => kk H1 locs1 g1 g2)
        · cases hm
      · cases hm
    · cases hm
  · unfold mo_ls at hm
    split at hm
    · split at hm
      · rename_i n f e1
        obtain ⟨ha, hc⟩ := mo_arr_s e1
        split at hm
        · rename_i e2
          cases hm
          refine ⟨?_, by simp⟩
          rw [List.length_set, Nat.sub_self] at kk
          exact ab_lastore hx hb hK hP hS ha hc (mo_in_s e2) hd (fun H1 locs1 g1 g2 => kk H1 locs1 g1 g2)
        · cases hm
      · cases hm
    · cases hm
  · unfold mo_bs at hm
    split at hm
    · split at hm
      · rename_i t n f e1
        obtain ⟨ha, hc⟩ := mo_arr_s e1
        split at hm
        · rename_i e2
          cases hm
          refine ⟨?_, by simp⟩
          rw [List.length_set, Nat.sub_self] at kk
          exact ab_bastore hx hb hK hP hS ha e2.1 hc (mo_in_s e2.2) hd (fun H1 locs1 g1 g2 => kk H1 locs1 g1 g2)
        · cases hm
      · cases hm
    · cases hm
  · unfold mo_as at hm
    split at hm
    · split at hm
      · rename_i t n f e1
        obtain ⟨ha, hc⟩ := mo_arr_s e1
        split at hm
        · rename_i e2
          cases hm
          refine ⟨?_, by simp⟩
          rw [List.length_set, Nat.sub_self] at kk
          exact ab_aastoreN hx hb hK hP hS ha hc e2.1 (mo_in_s e2.2) hd (fun H1 locs1 g1 g2 => kk H1 locs1 g1 g2)
        · cases hm
      · cases hm
    · split at hm
      · rename_i t n f e1
        obtain ⟨ha, hc⟩ := mo_arr_s e1
        split at hm
        · rename_i k fs e3
          obtain ⟨hb1, hc1⟩ := mo_obj_s e3
          split at hm
          · rename_i e2
            cases hm
            refine ⟨?_, by simp⟩
            rw [List.length_set, Nat.sub_self] at kk
            exact ab_aastore hx hb hK hP hS ha hc e2.1 hb1 hc1 (mo_in_s e2.2) hd (fun H1 locs1 g1 g2 => kk H1 locs1 g1 g2)
          · cases hm
        · split at hm
          · rename_i e2
            cases hm
            obtain ⟨rfl, ⟨hb1, hb2⟩, e4⟩ := e2
            refine ⟨?_, by simp⟩
            rw [List.length_set, Nat.sub_self] at kk
            have key : ∀ n : Nat, 1 ≤ n → n ≤ 59 → 1 + (n - 1) = n ∧ n - 1 < 59 := by omega
            obtain ⟨ea, eb⟩ := key _ hb1 hb2
            have hany := ab_anyTk (E := ab_en 4) rfl hSt hS eb
            rw [ea] at hany
            exact ab_aastoreS hx hb hK hP hS ha hc (by omega) hany (mo_in_s e4) hd (fun H1 locs1 g1 g2 => kk H1 locs1 g1 g2)
          · cases hm
      · cases hm
    · cases hm
  · unfold mo_nw at hm
    split at hm
    · rename_i e1
      obtain ⟨hq, ho, hidx⟩ := mo_find e1
      split at hm
      · rename_i r hr
        cases hm
        subst hidx
        refine ⟨?_, by simp⟩
        rw [List.length_append, List.length_singleton, Nat.add_sub_cancel_left] at kk hRc
        exact ab_new hx hb hts hK hP hS hB hsz hq hr (by rw [ho, how]; exact hown) hRc hRs hd (fun H1 g1 g2 => kk H1 locs g1 g2)
      · cases hm
    · cases hm
  · unfold mo_na at hm
    split at hm
    · split at hm
      · rename_i t mf e1
        split at hm
        · rename_i e2
          cases hm
          refine ⟨?_, by simp⟩
          rw [List.length_append, List.length_singleton, Nat.add_sub_cancel_left] at kk hRc
          exact ab_newarray hx hb hts hK hP hS hB hsz e1 e2.1 e2.2 hRc hRs hd (fun H1 g1 g2 => kk H1 locs g1 g2)
        · cases hm
      · cases hm
    · cases hm
  · unfold mo_an at hm
    split at hm
    · split at hm
      · rename_i e1
        obtain ⟨hq, ho, hidx⟩ := mo_find e1
        split at hm
        · rename_i e2
          cases hm
          subst hidx
          refine ⟨?_, by simp⟩
          rw [List.length_append, List.length_singleton, Nat.add_sub_cancel_left] at kk hRc
          exact ab_anew hx hb hts hK hP hS hB hsz hq (by rw [ho, how]; exact hown) e2.1 e2.2 hRc hRs hd (fun H1 g1 g2 => kk H1 locs g1 g2)
        · cases hm
      · cases hm
    · cases hm
  · unfold mo_gs at hm
    split at hm
    · rename_i e1
      obtain ⟨hq, ho, hidx⟩ := mo_find e1
      cases hm
      subst hidx
      refine ⟨?_, Nat.le_refl _⟩
      rw [Nat.sub_self] at kk
      exact ab_getstatic hx hb hts hSt hS hq (by rw [ho, how]; exact hown) hd (kk H locs hP hS)
    · cases hm
  · unfold mo_kl at hm
    split at hm
    · rename_i e1
      obtain ⟨hq, ho, hidx⟩ := mo_find e1
      cases hm
      subst hidx
      refine ⟨?_, Nat.le_refl _⟩
      rw [Nat.sub_self] at kk
      have hw := hts _ (kl_in _ hq)
      rw [ho, how] at hw
      exact lv_ldc2 hx hb hown hw hd (kk H locs hP hS)
    · cases hm
  · cases hm
end ABM2
