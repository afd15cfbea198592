/-! THE ABSTRACT MACHINE, 1: values, locals, stack. References are numbers of cells; r says at which address a number's cell lies -/
def ab_v (r : Nat → Nat) : Value → Value
  | .ref k => .ref (r k)
  | v => v
theorem ab_v_cat (r : Nat → Nat) (v : Value) : (ab_v r v).category = v.category := by cases v <;> rfl
def ab_L (r : Nat → Nat) (al : List (Nat × Value)) : List (Nat × Value) := al.map (fun q => (q.1, ab_v r q.2))
def ab_ld (al : List (Nat × Value)) (i : Nat) : Option Value := (al.find? (fun q => q.1 == i)).map (fun q => q.2)
theorem ab_ld_m {al : List (Nat × Value)} {i : Nat} {v : Value} (h : ab_ld al i = some v) : (i, v) ∈ al := by
  unfold ab_ld at h
  obtain ⟨q, h1, h2⟩ := Option.map_eq_some_iff.mp h
  have h3 := List.find?_some h1
  have h4 := List.mem_of_find?_eq_some h1
  have h5 : q.1 = i := by simpa using h3
  obtain ⟨a, b⟩ := q
  cases h2
  cases h5
  exact h4
theorem ab_ld_s {r : Nat → Nat} {al : List (Nat × Value)} {i nL : Nat} {v : Value} {ls : Array Slot} (h : ab_ld al i = some v) (hl : lv_has ls nL (ab_L r al)) : ls[i]? = some (.val (ab_v r v)) :=
  hl.2.2 (i, ab_v r v) (List.mem_map.mpr ⟨(i, v), ab_ld_m h, rfl⟩)
def ab_s1 (al : List (Nat × Value)) (i : Nat) (v : Value) : List (Nat × Value) := (i, v) :: al.filter (fun q => !(q.1 == i) && !(q.1 + 1 == i && q.2.category == 2))
def ab_s2 (al : List (Nat × Value)) (i : Nat) (v : Value) : List (Nat × Value) := (i, v) :: al.filter (fun q => !(q.1 == i) && (!(q.1 == i + 1) && !(q.1 + 1 == i && q.2.category == 2)))
theorem ab_s1_L (r : Nat → Nat) (al : List (Nat × Value)) (i : Nat) (v : Value) : (i, ab_v r v) :: (ab_L r al).filter (fun q => !(q.1 == i) && !(q.1 + 1 == i && q.2.category == 2)) = ab_L r (ab_s1 al i v) := by
  unfold ab_L ab_s1
  rw [List.map_cons, List.filter_map]
  congr 2
  apply List.filter_congr
  intro q _
  simp [Function.comp, ab_v_cat]
theorem ab_s2_L (r : Nat → Nat) (al : List (Nat × Value)) (i : Nat) (v : Value) : (i, ab_v r v) :: (ab_L r al).filter (fun q => !(q.1 == i) && (!(q.1 == i + 1) && !(q.1 + 1 == i && q.2.category == 2))) = ab_L r (ab_s2 al i v) := by
  unfold ab_L ab_s2
  rw [List.map_cons, List.filter_map]
  congr 2
  apply List.filter_congr
  intro q _
  simp [Function.comp, ab_v_cat]
def ab_i2 (f : Int32 → Int32 → Int32) : List Value → Option (List Value)
  | .int y :: .int x :: q => some (.int (f x y) :: q)
  | _ => none
def ab_l2 (f : Int64 → Int64 → Value) : List Value → Option (List Value)
  | .long y :: .long x :: q => some (f x y :: q)
  | _ => none
def ab_li (f : Int64 → Int32 → Int64) : List Value → Option (List Value)
  | .int y :: .long x :: q => some (.long (f x y) :: q)
  | _ => none
def ab_i1 (f : Int32 → Value) : List Value → Option (List Value)
  | .int x :: q => some (f x :: q)
  | _ => none
def ab_l1 (f : Int64 → Value) : List Value → Option (List Value)
  | .long x :: q => some (f x :: q)
  | _ => none
theorem ab_i2_s {f : Int32 → Int32 → Int32} {st st' : List Value} (h : ab_i2 f st = some st') : ∃ x y q, st = .int y :: .int x :: q ∧ st' = .int (f x y) :: q := by
  unfold ab_i2 at h
  split at h
  · cases h; exact ⟨_, _, _, rfl, rfl⟩
  · cases h
theorem ab_l2_s {f : Int64 → Int64 → Value} {st st' : List Value} (h : ab_l2 f st = some st') : ∃ x y q, st = .long y :: .long x :: q ∧ st' = f x y :: q := by
  unfold ab_l2 at h
  split at h
  · cases h; exact ⟨_, _, _, rfl, rfl⟩
  · cases h
theorem ab_li_s {f : Int64 → Int32 → Int64} {st st' : List Value} (h : ab_li f st = some st') : ∃ x y q, st = .int y :: .long x :: q ∧ st' = .long (f x y) :: q := by
  unfold ab_li at h
  split at h
  · cases h; exact ⟨_, _, _, rfl, rfl⟩
  · cases h
theorem ab_i1_s {f : Int32 → Value} {st st' : List Value} (h : ab_i1 f st = some st') : ∃ x q, st = .int x :: q ∧ st' = f x :: q := by
  unfold ab_i1 at h
  split at h
  · cases h; exact ⟨_, _, rfl, rfl⟩
  · cases h
theorem ab_l1_s {f : Int64 → Value} {st st' : List Value} (h : ab_l1 f st = some st') : ∃ x q, st = .long x :: q ∧ st' = f x :: q := by
  unfold ab_l1 at h
  split at h
  · cases h; exact ⟨_, _, rfl, rfl⟩
  · cases h
/-- where a jump goes -/
def ab_j (pc : Nat) (off : Int) : Option Nat := if 0 ≤ (pc : Int) + off then some ((pc : Int) + off).toNat else none
theorem ab_j_s {pc t : Nat} {off : Int} (h : ab_j pc off = some t) : (pc : Int) + off = (t : Int) := by
  unfold ab_j at h
  split at h
  · cases h; omega
  · cases h
def ab_cc (c : ClassFile.Cond) (x y : Int32) : Bool := match c with
  | .eq => decide (x = y)
  | .ne => !decide (x = y)
  | .lt => decide (x < y)
  | .ge => decide (y ≤ x)
  | .gt => decide (y < x)
  | .le => decide (x ≤ y)
/-- a reference of which it is known which cell it is: a constant of the enum, or a made one -/
def ab_ok (a : Nat) : Bool := decide (1 ≤ a ∧ a ≤ 59) || decide (100 ≤ a)
def ab_same : Value → Value → Option Bool
  | .null, .null => some true
  | .null, .ref _ => some false
  | .ref _, .null => some false
  | .ref a, .ref b => if ab_ok a && ab_ok b then some (decide (a = b)) else none
  | _, _ => none
def ab_g1 (c : Bool) (pc : Nat) (off : Int) (al : List (Nat × Value)) (st : List Value) : Option (Nat × List (Nat × Value) × List Value) := (ab_j pc off).map (fun t => (if c then t else pc + 3, al, st))
def ab_nx (n : Nat) (al : List (Nat × Value)) (o : Option (List Value)) : Option (Nat × List (Nat × Value) × List Value) := o.map (fun st => (n, al, st))
def ab_iv : Option Value → List Value → Option (List Value)
  | some (.int x), st => some (.int x :: st)
  | _, _ => none
def ab_lv : Option Value → List Value → Option (List Value)
  | some (.long x), st => some (.long x :: st)
  | _, _ => none
def ab_av : Option Value → List Value → Option (List Value)
  | some (.ref x), st => some (.ref x :: st)
  | some .null, st => some (.null :: st)
  | _, _ => none
def ab_st (nL i pc : Nat) (al : List (Nat × Value)) (k : Nat) : List Value → Option (Nat × List (Nat × Value) × List Value)
  | .int x :: q => if k = 0 ∧ i < nL then some (pc, ab_s1 al i (.int x), q) else none
  | .long x :: q => if k = 1 ∧ i + 1 < nL then some (pc, ab_s2 al i (.long x), q) else none
  | .ref x :: q => if k = 2 ∧ i < nL then some (pc, ab_s1 al i (.ref x), q) else none
  | .null :: q => if k = 2 ∧ i < nL then some (pc, ab_s1 al i .null, q) else none
  | _ => none
def ab_dup : List Value → Option (List Value)
  | v :: q => if v.category = 1 then some (v :: v :: q) else none
  | _ => none
def ab_pop : List Value → Option (List Value)
  | v :: q => if v.category = 1 then some q else none
  | _ => none
def ab_dupx1 : List Value → Option (List Value)
  | v :: u :: q => if v.category = 1 ∧ u.category = 1 then some (v :: u :: v :: q) else none
  | _ => none
def ab_dup2 : List Value → Option (List Value)
  | v :: u :: q => if v.category = 1 ∧ u.category = 1 then some (v :: u :: v :: u :: q) else none
  | _ => none
def ab_ts (pc : Nat) (al : List (Nat × Value)) (dflt lo hi : Int) (offs : Array Int) : List Value → Option (Nat × List (Nat × Value) × List Value)
  | .int x :: q => if x.toInt < lo ∨ hi < x.toInt then (ab_j pc dflt).map (fun t => (t, al, q)) else (offs[(x.toInt - lo).toNat]?).bind (fun o => (ab_j pc o).map (fun t => (t, al, q)))
  | _ => none
def ab_lk (pc : Nat) (al : List (Nat × Value)) (dflt : Int) (ps : Array (Int × Int)) : List Value → Option (Nat × List (Nat × Value) × List Value)
  | .int x :: q => if (ps.toList.zip (ps.toList.drop 1)).all (fun (a, next) => a.1 < next.1) = true then (ab_j pc (Op.lookupswitch.offset ps.toList dflt x.toInt)).map (fun t => (t, al, q)) else none
  | _ => none
def ab_if1 (pc : Nat) (al : List (Nat × Value)) (c : ClassFile.Cond) (off : Int) : List Value → Option (Nat × List (Nat × Value) × List Value)
  | .int x :: q => ab_g1 (ab_cc c x 0) pc off al q
  | _ => none
def ab_if2 (pc : Nat) (al : List (Nat × Value)) (c : ClassFile.Cond) (off : Int) : List Value → Option (Nat × List (Nat × Value) × List Value)
  | .int y :: .int x :: q => ab_g1 (ab_cc c x y) pc off al q
  | _ => none
def ab_ifa (pc : Nat) (al : List (Nat × Value)) (ne : Bool) (off : Int) : List Value → Option (Nat × List (Nat × Value) × List Value)
  | y :: x :: q => (ab_same x y).bind (fun b => ab_g1 (b ^^ ne) pc off al q)
  | _ => none
def ab_ifn (pc : Nat) (al : List (Nat × Value)) (nn : Bool) (off : Int) : List Value → Option (Nat × List (Nat × Value) × List Value)
  | .null :: q => ab_g1 (!nn) pc off al q
  | .ref _ :: q => ab_g1 nn pc off al q
  | _ => none
def ab_inc (nL pc i : Nat) (n : Int) (al : List (Nat × Value)) (st : List Value) : Option (Nat × List (Nat × Value) × List Value) := match ab_ld al i with
  | some (.int x) => if i < nL then some (pc, ab_s1 al i (.int (x + Int32.ofInt n)), st) else none
  | _ => none
/-- an instruction that touches no cell: the next place, locals, stack -/
def ab_p (nL : Nat) (i : Instr) (len pc : Nat) (al : List (Nat × Value)) (st : List Value) : Option (Nat × List (Nat × Value) × List Value) := match i, len with
  | .aconst_null, 1 => some (pc + 1, al, .null :: st)
  | .iconst n, 1 => some (pc + 1, al, .int (Int32.ofInt n) :: st)
  | .bipush n, 2 => some (pc + 2, al, .int (Int8.ofInt n).toInt32 :: st)
  | .sipush n, 3 => some (pc + 3, al, .int (Int16.ofInt n).toInt32 :: st)
  | .lconst n, 1 => some (pc + 1, al, .long (Int64.ofNat (n : Nat)) :: st)
  | .iload i, 2 => ab_nx (pc + 2) al (ab_iv (ab_ld al i) st)
  | .iload_n i, 1 => ab_nx (pc + 1) al (ab_iv (ab_ld al (i : Nat)) st)
  | .lload i, 2 => ab_nx (pc + 2) al (ab_lv (ab_ld al i) st)
  | .lload_n i, 1 => ab_nx (pc + 1) al (ab_lv (ab_ld al (i : Nat)) st)
  | .aload i, 2 => ab_nx (pc + 2) al (ab_av (ab_ld al i) st)
  | .aload_n i, 1 => ab_nx (pc + 1) al (ab_av (ab_ld al (i : Nat)) st)
  | .istore i, 2 => ab_st nL i (pc + 2) al 0 st
  | .istore_n i, 1 => ab_st nL (i : Nat) (pc + 1) al 0 st
  | .lstore i, 2 => ab_st nL i (pc + 2) al 1 st
  | .lstore_n i, 1 => ab_st nL (i : Nat) (pc + 1) al 1 st
  | .astore i, 2 => ab_st nL i (pc + 2) al 2 st
  | .astore_n i, 1 => ab_st nL (i : Nat) (pc + 1) al 2 st
  | .iinc i n, 3 => ab_inc nL (pc + 3) i n al st
  | .iadd, 1 => ab_nx (pc + 1) al (ab_i2 (fun x y => x + y) st)
  | .isub, 1 => ab_nx (pc + 1) al (ab_i2 (fun x y => x - y) st)
  | .imul, 1 => ab_nx (pc + 1) al (ab_i2 (fun x y => x * y) st)
  | .iand, 1 => ab_nx (pc + 1) al (ab_i2 (fun x y => x &&& y) st)
  | .ior, 1 => ab_nx (pc + 1) al (ab_i2 (fun x y => x ||| y) st)
  | .ixor, 1 => ab_nx (pc + 1) al (ab_i2 (fun x y => x ^^^ y) st)
  | .ishl, 1 => ab_nx (pc + 1) al (ab_i2 (fun x y => x <<< (y &&& 31)) st)
  | .ishr, 1 => ab_nx (pc + 1) al (ab_i2 (fun x y => x >>> (y &&& 31)) st)
  | .ladd, 1 => ab_nx (pc + 1) al (ab_l2 (fun x y => .long (x + y)) st)
  | .lsub, 1 => ab_nx (pc + 1) al (ab_l2 (fun x y => .long (x - y)) st)
  | .lmul, 1 => ab_nx (pc + 1) al (ab_l2 (fun x y => .long (x * y)) st)
  | .land, 1 => ab_nx (pc + 1) al (ab_l2 (fun x y => .long (x &&& y)) st)
  | .lor, 1 => ab_nx (pc + 1) al (ab_l2 (fun x y => .long (x ||| y)) st)
  | .lxor, 1 => ab_nx (pc + 1) al (ab_l2 (fun x y => .long (x ^^^ y)) st)
  | .lcmp, 1 => ab_nx (pc + 1) al (ab_l2 (fun x y => .int (lg_cmp x y)) st)
  | .ldiv, 1 => match st with | .long y :: .long x :: q => if y = 0 then none else some (pc + 1, al, .long (x / y) :: q) | _ => none
  | .lshl, 1 => ab_nx (pc + 1) al (ab_li (fun x y => x <<< (y.toInt64 &&& 63)) st)
  | .lshr, 1 => ab_nx (pc + 1) al (ab_li (fun x y => x >>> (y.toInt64 &&& 63)) st)
  | .lneg, 1 => ab_nx (pc + 1) al (ab_l1 (fun x => .long (-x)) st)
  | .ineg, 1 => ab_nx (pc + 1) al (ab_i1 (fun x => .int (-x)) st)
  | .i2l, 1 => ab_nx (pc + 1) al (ab_i1 (fun x => .long x.toInt64) st)
  | .i2b, 1 => ab_nx (pc + 1) al (ab_i1 (fun x => .int x.toInt8.toInt32) st)
  | .l2i, 1 => ab_nx (pc + 1) al (ab_l1 (fun x => .int x.toInt32) st)
  | .dup, 1 => ab_nx (pc + 1) al (ab_dup st)
  | .pop, 1 => ab_nx (pc + 1) al (ab_pop st)
  | .dup_x1, 1 => ab_nx (pc + 1) al (ab_dupx1 st)
  | .dup2, 1 => ab_nx (pc + 1) al (ab_dup2 st)
  | .goto off, 3 => (ab_j pc off).map (fun t => (t, al, st))
  | .ifCond cd off, 3 => ab_if1 pc al cd off st
  | .if_icmp cd off, 3 => ab_if2 pc al cd off st
  | .if_acmp .eq off, 3 => ab_ifa pc al false off st
  | .if_acmp .ne off, 3 => ab_ifa pc al true off st
  | .ifnull off, 3 => ab_ifn pc al false off st
  | .ifnonnull off, 3 => ab_ifn pc al true off st
  | .tableswitch dflt lo hi offs, _ => ab_ts pc al dflt lo hi offs st
  | .lookupswitch dflt ps, _ => ab_lk pc al dflt ps st
  | _, _ => none
theorem ab_pos {c : Bool} {t n : Nat} {P : Nat → Prop} (k : P (if c then t else n)) (h : c = true) : P t := by
  rw [if_pos h] at k; exact k
theorem ab_neg {c : Bool} {t n : Nat} {P : Nat → Prop} (k : P (if c then t else n)) (h : c = false) : P n := by
  rw [if_neg (by rw [h]; decide)] at k; exact k
theorem ab_bf {b : Bool} (h : ¬ b = true) : b = false := by cases b <;> simp_all
theorem ab_same_s {r : Nat → Nat} (hinj : ∀ a b, ab_ok a = true → ab_ok b = true → r a = r b → a = b) {x y : Value} {b : Bool} (h : ab_same x y = some b) : ∃ ux uy : Option Nat, ab_v r x = va_rf ux ∧ ab_v r y = va_rf uy ∧ (b = true ↔ ux = uy) := by
  unfold ab_same at h
  split at h
  · cases h; exact ⟨none, none, rfl, rfl, by simp⟩
  · rename_i k
    cases h; exact ⟨none, some (r k), rfl, rfl, by simp⟩
  · rename_i k
    cases h; exact ⟨some (r k), none, rfl, rfl, by simp⟩
  · rename_i a c
    split at h
    · rename_i hok
      cases h
      simp only [Bool.and_eq_true] at hok
      refine ⟨some (r a), some (r c), rfl, rfl, ?_⟩
      simp only [decide_eq_true_eq, Option.some.injEq]
      exact ⟨fun e => by rw [e], fun e => hinj _ _ hok.1 hok.2 e⟩
    · cases h
  · cases h
theorem ab_k_iv {n : Nat} {al : List (Nat × Value)} {o : Option Value} {st : List Value} {q : Nat × List (Nat × Value) × List Value} {G : Prop} (h : ab_nx n al (ab_iv o st) = some q) (k : ∀ (x : Int32) (s1 : List Value), o = some (.int x) → (n, al, Value.int x :: st) = q → G) : G := by
  obtain ⟨s1, h1, h2⟩ := Option.map_eq_some_iff.mp h
  unfold ab_iv at h1
  split at h1
  · cases h1; exact k _ [] rfl h2
  · cases h1
theorem ab_k_lv {n : Nat} {al : List (Nat × Value)} {o : Option Value} {st : List Value} {q : Nat × List (Nat × Value) × List Value} {G : Prop} (h : ab_nx n al (ab_lv o st) = some q) (k : ∀ (x : Int64) (s1 : List Value), o = some (.long x) → (n, al, Value.long x :: st) = q → G) : G := by
  obtain ⟨s1, h1, h2⟩ := Option.map_eq_some_iff.mp h
  unfold ab_lv at h1
  split at h1
  · cases h1; exact k _ [] rfl h2
  · cases h1
theorem ab_k_av {n : Nat} {al : List (Nat × Value)} {o : Option Value} {st : List Value} {q : Nat × List (Nat × Value) × List Value} {G : Prop} (h : ab_nx n al (ab_av o st) = some q) (k : ∀ (x : Nat) (s1 : List Value), o = some (.ref x) → (n, al, Value.ref x :: st) = q → G) (k0 : ∀ (s1 : List Value), o = some .null → (n, al, Value.null :: st) = q → G) : G := by
  obtain ⟨s1, h1, h2⟩ := Option.map_eq_some_iff.mp h
  unfold ab_av at h1
  split at h1
  · cases h1; exact k _ [] rfl h2
  · cases h1; exact k0 [] rfl h2
  · cases h1
theorem ab_k_st0 {nL i n : Nat} {al : List (Nat × Value)} {st : List Value} {q : Nat × List (Nat × Value) × List Value} {G : Prop} (h : ab_st nL i n al 0 st = some q) (k : ∀ (x : Int32) (t : List Value), st = .int x :: t → i < nL → (n, ab_s1 al i (.int x), t) = q → G) : G := by
  unfold ab_st at h
  split at h <;> first | (cases h; done) | (split at h <;> first | (cases h; done) | (rename_i hc; exfalso; exact absurd hc.1 (by decide)) | (rename_i hc; cases h; exact k _ _ rfl hc.2 rfl))
theorem ab_k_st1 {nL i n : Nat} {al : List (Nat × Value)} {st : List Value} {q : Nat × List (Nat × Value) × List Value} {G : Prop} (h : ab_st nL i n al 1 st = some q) (k : ∀ (x : Int64) (t : List Value), st = .long x :: t → i + 1 < nL → (n, ab_s2 al i (.long x), t) = q → G) : G := by
  unfold ab_st at h
  split at h <;> first | (cases h; done) | (split at h <;> first | (cases h; done) | (rename_i hc; exfalso; exact absurd hc.1 (by decide)) | (rename_i hc; cases h; exact k _ _ rfl hc.2 rfl))
theorem ab_k_st2 {nL i n : Nat} {al : List (Nat × Value)} {st : List Value} {q : Nat × List (Nat × Value) × List Value} {G : Prop} (h : ab_st nL i n al 2 st = some q) (k : ∀ (x : Nat) (t : List Value), st = .ref x :: t → i < nL → (n, ab_s1 al i (.ref x), t) = q → G) (k0 : ∀ (t : List Value), st = .null :: t → i < nL → (n, ab_s1 al i .null, t) = q → G) : G := by
  unfold ab_st at h
  split at h <;> first | (cases h; done) | (split at h <;> first | (cases h; done) | (rename_i hc; exfalso; exact absurd hc.1 (by decide)) | (rename_i hc; cases h; exact k _ _ rfl hc.2 rfl) | (rename_i hc; cases h; exact k0 _ rfl hc.2 rfl))
section ABP
variable {p : Program} {l : Launch} {e : Env} {R : Room} {s : State} {m : MethodId} {args : Array Value} {below : List Frame} {meth : Method} {c : Code} {H : Heap} {locs : List Loc} {cells slots : Nat} {Q : State → Prop}
set_option maxHeartbeats 4000000 in
theorem ab_p_ok {cc : ByteArray} (hx : p.tables.exec = Jvm.exec) (hb : c.code = cc) {r : Nat → Nat} (hinj : ∀ a b, ab_ok a = true → ab_ok b = true → r a = r b → a = b) {nL len pc pc' : Nat} {i : Instr} {al al' : List (Nat × Value)} {st st' : List Value} (hd : decode cc pc = .ok (i, len)) (hp : ab_p nL i len pc al st = some (pc', al', st')) {ls : Array Slot} (hl : lv_has ls nL (ab_L r al))
    (kk : ∀ ls' : Array Slot, lv_has ls' nL (ab_L r al') → W p l e R s m args below meth c H locs cells slots Q (F0 m pc' ls' (st'.map (ab_v r)))) : W p l e R s m args below meth c H locs cells slots Q (F0 m pc ls (st.map (ab_v r))) := by
  unfold ab_p at hp
  split at hp
  · cases hp; exact lv_null hx hb hd (kk ls hl)
  · cases hp; exact lv_iconst hx hb hd rfl (kk ls hl)
  · cases hp; exact lv_bipush hx hb hd rfl (kk ls hl)
  · cases hp; exact lv_sipush hx hb hd rfl (kk ls hl)
  · cases hp; exact lv_lconst hx hb hd rfl (kk ls hl)
  · exact ab_k_iv hp (fun x s1 e1 e2 => by cases e2; exact lv_iload hx hb hd (ab_ld_s e1 hl) (kk ls hl))
  · exact ab_k_iv hp (fun x s1 e1 e2 => by cases e2; exact lv_iload_n hx hb hd rfl (ab_ld_s e1 hl) (kk ls hl))
  · exact ab_k_lv hp (fun x s1 e1 e2 => by cases e2; exact lv_lload hx hb hd (ab_ld_s e1 hl) (kk ls hl))
  · exact ab_k_lv hp (fun x s1 e1 e2 => by cases e2; exact lv_lload_n hx hb hd rfl (ab_ld_s e1 hl) (kk ls hl))
  · exact ab_k_av hp (fun x s1 e1 e2 => by cases e2; exact lv_aload hx hb hd (ab_ld_s e1 hl) (kk ls hl)) (fun s1 e1 e2 => by cases e2; exact lv_aloadN hx hb hd (ab_ld_s e1 hl) (kk ls hl))
  · exact ab_k_av hp (fun x s1 e1 e2 => by cases e2; exact lv_aload_n hx hb hd rfl (ab_ld_s e1 hl) (kk ls hl)) (fun s1 e1 e2 => by cases e2; exact lv_aload_nN hx hb hd rfl (ab_ld_s e1 hl) (kk ls hl))
  · exact ab_k_st0 hp (fun x q e0 e1 e2 => by cases e0; cases e2; exact lv_istore hx hb hd hl e1 (ab_s1_L r al _ (.int x)) (fun ls1 hl1 => kk ls1 hl1))
  · exact ab_k_st0 hp (fun x q e0 e1 e2 => by cases e0; cases e2; exact lv_istore_n hx hb hd rfl hl e1 (ab_s1_L r al _ (.int x)) (fun ls1 hl1 => kk ls1 hl1))
  · exact ab_k_st1 hp (fun x q e0 e1 e2 => by cases e0; cases e2; exact lv_lstore hx hb hd hl e1 (ab_s2_L r al _ (.long x)) (fun ls1 hl1 => kk ls1 hl1))
  · exact ab_k_st1 hp (fun x q e0 e1 e2 => by cases e0; cases e2; exact lv_lstore_n hx hb hd rfl hl e1 (ab_s2_L r al _ (.long x)) (fun ls1 hl1 => kk ls1 hl1))
  · exact ab_k_st2 hp (fun x q e0 e1 e2 => by cases e0; cases e2; exact lv_astore hx hb hd hl e1 (ab_s1_L r al _ (.ref x)) (fun ls1 hl1 => kk ls1 hl1)) (fun q e0 e1 e2 => by cases e0; cases e2; exact lv_astoreN hx hb hd hl e1 (ab_s1_L r al _ .null) (fun ls1 hl1 => kk ls1 hl1))
  · exact ab_k_st2 hp (fun x q e0 e1 e2 => by cases e0; cases e2; exact lv_astore_n hx hb hd rfl hl e1 (ab_s1_L r al _ (.ref x)) (fun ls1 hl1 => kk ls1 hl1)) (fun q e0 e1 e2 => by cases e0; cases e2; exact lv_astore_nN hx hb hd rfl hl e1 (ab_s1_L r al _ .null) (fun ls1 hl1 => kk ls1 hl1))
  · rename_i i n
    unfold ab_inc at hp
    split at hp
    · rename_i x e1
      split at hp
      · rename_i e2
        cases hp
        obtain ⟨k, hk⟩ := List.mem_iff_getElem?.mp (List.mem_map.mpr ⟨(i, .int x), ab_ld_m e1, rfl⟩ : (i, ab_v r (.int x)) ∈ ab_L r al)
        exact lv_iinc hx hb hd hl (k := k) hk rfl e2 (ab_s1_L r al i (.int (x + Int32.ofInt n))) (fun ls1 hl1 => kk ls1 hl1)
      · cases hp
    · cases hp
  · obtain ⟨s1, h1, h2⟩ := Option.map_eq_some_iff.mp hp; obtain ⟨x, y, q, rfl, rfl⟩ := ab_i2_s h1; cases h2; exact lv_iadd hx hb hd (kk ls hl)
  · obtain ⟨s1, h1, h2⟩ := Option.map_eq_some_iff.mp hp; obtain ⟨x, y, q, rfl, rfl⟩ := ab_i2_s h1; cases h2; exact lv_isub hx hb hd (kk ls hl)
  · obtain ⟨s1, h1, h2⟩ := Option.map_eq_some_iff.mp hp; obtain ⟨x, y, q, rfl, rfl⟩ := ab_i2_s h1; cases h2; exact lv_imul hx hb hd (kk ls hl)
  · obtain ⟨s1, h1, h2⟩ := Option.map_eq_some_iff.mp hp; obtain ⟨x, y, q, rfl, rfl⟩ := ab_i2_s h1; cases h2; exact lv_iand hx hb hd (kk ls hl)
  · obtain ⟨s1, h1, h2⟩ := Option.map_eq_some_iff.mp hp; obtain ⟨x, y, q, rfl, rfl⟩ := ab_i2_s h1; cases h2; exact lv_ior hx hb hd (kk ls hl)
  · obtain ⟨s1, h1, h2⟩ := Option.map_eq_some_iff.mp hp; obtain ⟨x, y, q, rfl, rfl⟩ := ab_i2_s h1; cases h2; exact lv_ixor hx hb hd (kk ls hl)
  · obtain ⟨s1, h1, h2⟩ := Option.map_eq_some_iff.mp hp; obtain ⟨x, y, q, rfl, rfl⟩ := ab_i2_s h1; cases h2; exact lv_ishl hx hb hd (kk ls hl)
  · obtain ⟨s1, h1, h2⟩ := Option.map_eq_some_iff.mp hp; obtain ⟨x, y, q, rfl, rfl⟩ := ab_i2_s h1; cases h2; exact lv_ishr hx hb hd (kk ls hl)
  · obtain ⟨s1, h1, h2⟩ := Option.map_eq_some_iff.mp hp; obtain ⟨x, y, q, rfl, rfl⟩ := ab_l2_s h1; cases h2; exact lv_ladd hx hb hd (kk ls hl)
  · obtain ⟨s1, h1, h2⟩ := Option.map_eq_some_iff.mp hp; obtain ⟨x, y, q, rfl, rfl⟩ := ab_l2_s h1; cases h2; exact lv_lsub hx hb hd (kk ls hl)
  · obtain ⟨s1, h1, h2⟩ := Option.map_eq_some_iff.mp hp; obtain ⟨x, y, q, rfl, rfl⟩ := ab_l2_s h1; cases h2; exact lv_lmul hx hb hd (kk ls hl)
  · obtain ⟨s1, h1, h2⟩ := Option.map_eq_some_iff.mp hp; obtain ⟨x, y, q, rfl, rfl⟩ := ab_l2_s h1; cases h2; exact lv_land hx hb hd (kk ls hl)
  · obtain ⟨s1, h1, h2⟩ := Option.map_eq_some_iff.mp hp; obtain ⟨x, y, q, rfl, rfl⟩ := ab_l2_s h1; cases h2; exact lv_lor hx hb hd (kk ls hl)
  · obtain ⟨s1, h1, h2⟩ := Option.map_eq_some_iff.mp hp; obtain ⟨x, y, q, rfl, rfl⟩ := ab_l2_s h1; cases h2; exact lv_lxor hx hb hd (kk ls hl)
  · obtain ⟨s1, h1, h2⟩ := Option.map_eq_some_iff.mp hp; obtain ⟨x, y, q, rfl, rfl⟩ := ab_l2_s h1; cases h2; exact W.lcmp hx hb hd (kk ls hl)
  · split at hp
    · split at hp
      · cases hp
      · rename_i hne
        cases hp; exact lv_ldiv hx hb hd hne (kk ls hl)
    · cases hp
  · obtain ⟨s1, h1, h2⟩ := Option.map_eq_some_iff.mp hp; obtain ⟨x, y, q, rfl, rfl⟩ := ab_li_s h1; cases h2; exact lv_lshl hx hb hd rfl (kk ls hl)
  · obtain ⟨s1, h1, h2⟩ := Option.map_eq_some_iff.mp hp; obtain ⟨x, y, q, rfl, rfl⟩ := ab_li_s h1; cases h2; exact lv_lshr hx hb hd rfl (kk ls hl)
  · obtain ⟨s1, h1, h2⟩ := Option.map_eq_some_iff.mp hp; obtain ⟨x, q, rfl, rfl⟩ := ab_l1_s h1; cases h2; exact lv_lneg hx hb hd (kk ls hl)
  · obtain ⟨s1, h1, h2⟩ := Option.map_eq_some_iff.mp hp; obtain ⟨x, q, rfl, rfl⟩ := ab_i1_s h1; cases h2; exact lv_ineg hx hb hd (kk ls hl)
  · obtain ⟨s1, h1, h2⟩ := Option.map_eq_some_iff.mp hp; obtain ⟨x, q, rfl, rfl⟩ := ab_i1_s h1; cases h2; exact lv_i2l hx hb hd rfl (kk ls hl)
  · obtain ⟨s1, h1, h2⟩ := Option.map_eq_some_iff.mp hp; obtain ⟨x, q, rfl, rfl⟩ := ab_i1_s h1; cases h2; exact lv_i2b hx hb hd rfl (kk ls hl)
  · obtain ⟨s1, h1, h2⟩ := Option.map_eq_some_iff.mp hp; obtain ⟨x, q, rfl, rfl⟩ := ab_l1_s h1; cases h2; exact lv_l2i hx hb hd rfl (kk ls hl)
  · obtain ⟨s1, h1, h2⟩ := Option.map_eq_some_iff.mp hp
    unfold ab_dup at h1
    split at h1
    · split at h1
      · rename_i hc
        cases h1; cases h2; exact lv_dup hx hb hd (by rw [ab_v_cat]; exact hc) (kk ls hl)
      · cases h1
    · cases h1
  · obtain ⟨s1, h1, h2⟩ := Option.map_eq_some_iff.mp hp
    unfold ab_pop at h1
    split at h1
    · split at h1
      · rename_i hc
        cases h1; cases h2; exact lv_pop hx hb hd (by rw [ab_v_cat]; exact hc) (kk ls hl)
      · cases h1
    · cases h1
  · obtain ⟨s1, h1, h2⟩ := Option.map_eq_some_iff.mp hp
    unfold ab_dupx1 at h1
    split at h1
    · split at h1
      · rename_i hc
        cases h1; cases h2; exact lv_dup_x1 hx hb hd (by rw [ab_v_cat]; exact hc.1) (by rw [ab_v_cat]; exact hc.2) (kk ls hl)
      · cases h1
    · cases h1
  · obtain ⟨s1, h1, h2⟩ := Option.map_eq_some_iff.mp hp
    unfold ab_dup2 at h1
    split at h1
    · split at h1
      · rename_i hc
        cases h1; cases h2; exact lv_dup2_11 hx hb hd (by rw [ab_v_cat]; exact hc.1) (by rw [ab_v_cat]; exact hc.2) (kk ls hl)
      · cases h1
    · cases h1
  · obtain ⟨t, h1, h2⟩ := Option.map_eq_some_iff.mp hp; cases h2; exact lv_goto hx hb hd (ab_j_s h1) (kk ls hl)
  · rename_i cd off
    unfold ab_if1 at hp
    split at hp
    · rename_i x q
      obtain ⟨t, h1, h2⟩ := Option.map_eq_some_iff.mp hp
      cases h2
      cases cd
      · exact lv_if_eq hx hb hd (ab_j_s h1) (fun h => ab_pos (P := fun n => W p l e R s m args below meth c H locs cells slots Q (F0 m n ls (st'.map (ab_v r)))) (kk ls hl) (by simp [ab_cc, h])) (fun h => ab_neg (P := fun n => W p l e R s m args below meth c H locs cells slots Q (F0 m n ls (st'.map (ab_v r)))) (kk ls hl) (by simp [ab_cc, h]))
      · exact lv_if_ne hx hb hd (ab_j_s h1) (fun h => ab_pos (P := fun n => W p l e R s m args below meth c H locs cells slots Q (F0 m n ls (st'.map (ab_v r)))) (kk ls hl) (by simp [ab_cc, h])) (fun h => ab_neg (P := fun n => W p l e R s m args below meth c H locs cells slots Q (F0 m n ls (st'.map (ab_v r)))) (kk ls hl) (by simp [ab_cc, h]))
      · exact lv_if_lt hx hb hd (ab_j_s h1) (fun h => ab_pos (P := fun n => W p l e R s m args below meth c H locs cells slots Q (F0 m n ls (st'.map (ab_v r)))) (kk ls hl) (by simp [ab_cc, h])) (fun h => ab_neg (P := fun n => W p l e R s m args below meth c H locs cells slots Q (F0 m n ls (st'.map (ab_v r)))) (kk ls hl) (by simp [ab_cc, h]))
      · exact lv_if_ge hx hb hd (ab_j_s h1) (fun h => ab_pos (P := fun n => W p l e R s m args below meth c H locs cells slots Q (F0 m n ls (st'.map (ab_v r)))) (kk ls hl) (by simp [ab_cc, h])) (fun h => ab_neg (P := fun n => W p l e R s m args below meth c H locs cells slots Q (F0 m n ls (st'.map (ab_v r)))) (kk ls hl) (by simp [ab_cc, h]))
      · exact lv_if_gt hx hb hd (ab_j_s h1) (fun h => ab_pos (P := fun n => W p l e R s m args below meth c H locs cells slots Q (F0 m n ls (st'.map (ab_v r)))) (kk ls hl) (by simp [ab_cc, h])) (fun h => ab_neg (P := fun n => W p l e R s m args below meth c H locs cells slots Q (F0 m n ls (st'.map (ab_v r)))) (kk ls hl) (by simp [ab_cc, h]))
      · exact lv_if_le hx hb hd (ab_j_s h1) (fun h => ab_pos (P := fun n => W p l e R s m args below meth c H locs cells slots Q (F0 m n ls (st'.map (ab_v r)))) (kk ls hl) (by simp [ab_cc, h])) (fun h => ab_neg (P := fun n => W p l e R s m args below meth c H locs cells slots Q (F0 m n ls (st'.map (ab_v r)))) (kk ls hl) (by simp [ab_cc, h]))
    · cases hp
  · rename_i cd off
    unfold ab_if2 at hp
    split at hp
    · rename_i y x q
      obtain ⟨t, h1, h2⟩ := Option.map_eq_some_iff.mp hp
      cases h2
      cases cd
      · exact lv_icmp_eq hx hb hd (ab_j_s h1) (fun h => ab_pos (P := fun n => W p l e R s m args below meth c H locs cells slots Q (F0 m n ls (st'.map (ab_v r)))) (kk ls hl) (by simp [ab_cc, h])) (fun h => ab_neg (P := fun n => W p l e R s m args below meth c H locs cells slots Q (F0 m n ls (st'.map (ab_v r)))) (kk ls hl) (by simp [ab_cc, h]))
      · exact lv_icmp_ne hx hb hd (ab_j_s h1) (fun h => ab_pos (P := fun n => W p l e R s m args below meth c H locs cells slots Q (F0 m n ls (st'.map (ab_v r)))) (kk ls hl) (by simp [ab_cc, h])) (fun h => ab_neg (P := fun n => W p l e R s m args below meth c H locs cells slots Q (F0 m n ls (st'.map (ab_v r)))) (kk ls hl) (by simp [ab_cc, h]))
      · exact lv_icmp_lt hx hb hd (ab_j_s h1) (fun h => ab_pos (P := fun n => W p l e R s m args below meth c H locs cells slots Q (F0 m n ls (st'.map (ab_v r)))) (kk ls hl) (by simp [ab_cc, h])) (fun h => ab_neg (P := fun n => W p l e R s m args below meth c H locs cells slots Q (F0 m n ls (st'.map (ab_v r)))) (kk ls hl) (by simp [ab_cc, h]))
      · exact lv_icmp_ge hx hb hd (ab_j_s h1) (fun h => ab_pos (P := fun n => W p l e R s m args below meth c H locs cells slots Q (F0 m n ls (st'.map (ab_v r)))) (kk ls hl) (by simp [ab_cc, h])) (fun h => ab_neg (P := fun n => W p l e R s m args below meth c H locs cells slots Q (F0 m n ls (st'.map (ab_v r)))) (kk ls hl) (by simp [ab_cc, h]))
      · exact lv_icmp_gt hx hb hd (ab_j_s h1) (fun h => ab_pos (P := fun n => W p l e R s m args below meth c H locs cells slots Q (F0 m n ls (st'.map (ab_v r)))) (kk ls hl) (by simp [ab_cc, h])) (fun h => ab_neg (P := fun n => W p l e R s m args below meth c H locs cells slots Q (F0 m n ls (st'.map (ab_v r)))) (kk ls hl) (by simp [ab_cc, h]))
      · exact lv_icmp_le hx hb hd (ab_j_s h1) (fun h => ab_pos (P := fun n => W p l e R s m args below meth c H locs cells slots Q (F0 m n ls (st'.map (ab_v r)))) (kk ls hl) (by simp [ab_cc, h])) (fun h => ab_neg (P := fun n => W p l e R s m args below meth c H locs cells slots Q (F0 m n ls (st'.map (ab_v r)))) (kk ls hl) (by simp [ab_cc, h]))
    · cases hp
  · unfold ab_ifa at hp
    split at hp
    · rename_i y x q
      obtain ⟨b, hb1, hp⟩ := Option.bind_eq_some_iff.mp hp
      obtain ⟨t, h1, h2⟩ := Option.map_eq_some_iff.mp hp
      cases h2
      obtain ⟨ux, uy, ex, ey, exy⟩ := ab_same_s hinj hb1
      have ex' : ab_v r x = va_rf ux := ex
      have ey' : ab_v r y = va_rf uy := ey
      show W p l e R s m args below meth c H locs cells slots Q (F0 m pc ls (ab_v r y :: ab_v r x :: st'.map (ab_v r)))
      rw [ex', ey']
      refine lv_acmp_eq hx hb hd (ab_j_s h1) (fun h => ?_) (fun h => ?_)
      · exact ab_pos (P := fun n => W p l e R s m args below meth c H locs cells slots Q (F0 m n ls (st'.map (ab_v r)))) (kk ls hl) (by rw [exy.mpr h]; rfl)
      · exact ab_neg (P := fun n => W p l e R s m args below meth c H locs cells slots Q (F0 m n ls (st'.map (ab_v r)))) (kk ls hl) (by rw [ab_bf (fun z => h (exy.mp z))]; rfl)
    · cases hp
  · unfold ab_ifa at hp
    split at hp
    · rename_i y x q
      obtain ⟨b, hb1, hp⟩ := Option.bind_eq_some_iff.mp hp
      obtain ⟨t, h1, h2⟩ := Option.map_eq_some_iff.mp hp
      cases h2
      obtain ⟨ux, uy, ex, ey, exy⟩ := ab_same_s hinj hb1
      have ex' : ab_v r x = va_rf ux := ex
      have ey' : ab_v r y = va_rf uy := ey
      show W p l e R s m args below meth c H locs cells slots Q (F0 m pc ls (ab_v r y :: ab_v r x :: st'.map (ab_v r)))
      rw [ex', ey']
      refine lv_acmp_ne hx hb hd (ab_j_s h1) (fun h => ?_) (fun h => ?_)
      · exact ab_pos (P := fun n => W p l e R s m args below meth c H locs cells slots Q (F0 m n ls (st'.map (ab_v r)))) (kk ls hl) (by rw [ab_bf (fun z => h (exy.mp z))]; rfl)
      · exact ab_neg (P := fun n => W p l e R s m args below meth c H locs cells slots Q (F0 m n ls (st'.map (ab_v r)))) (kk ls hl) (by rw [exy.mpr h]; rfl)
    · cases hp
  · unfold ab_ifn at hp
    split at hp
    · rename_i q
      obtain ⟨t, h1, h2⟩ := Option.map_eq_some_iff.mp hp
      cases h2
      exact lv_ifnullN hx hb hd (ab_j_s h1) (kk ls hl)
    · rename_i x q
      obtain ⟨t, h1, h2⟩ := Option.map_eq_some_iff.mp hp
      cases h2
      exact lv_ifnull hx hb hd (kk ls hl)
    · cases hp
  · unfold ab_ifn at hp
    split at hp
    · rename_i q
      obtain ⟨t, h1, h2⟩ := Option.map_eq_some_iff.mp hp
      cases h2
      exact lv_ifnonnullN hx hb hd (kk ls hl)
    · rename_i x q
      obtain ⟨t, h1, h2⟩ := Option.map_eq_some_iff.mp hp
      cases h2
      exact lv_ifnonnull hx hb hd (ab_j_s h1) (kk ls hl)
    · cases hp
  · unfold ab_ts at hp
    split at hp
    · rename_i x q
      split at hp
      · rename_i ho
        obtain ⟨t, h1, h2⟩ := Option.map_eq_some_iff.mp hp
        cases h2
        exact lv_tableOut hx hb hd ho (ab_j_s h1) (kk ls hl)
      · rename_i ho
        obtain ⟨o, ho1, hp⟩ := Option.bind_eq_some_iff.mp hp
        obtain ⟨t, h1, h2⟩ := Option.map_eq_some_iff.mp hp
        cases h2
        exact lv_tableIn hx hb hd (fun z => ho (Or.inl z)) (fun z => ho (Or.inr z)) ho1 (ab_j_s h1) (kk ls hl)
    · cases hp
  · unfold ab_lk at hp
    split at hp
    · rename_i x q
      split at hp
      · rename_i ho
        obtain ⟨t, h1, h2⟩ := Option.map_eq_some_iff.mp hp
        cases h2
        exact lv_lookup hx hb hd ho rfl (ab_j_s h1) (kk ls hl)
      · cases hp
    · cases hp
  · cases hp
end ABP
