/-! THE CELLS behind the law's first rows, both objects made: their kinds are known, what arrays hold is left open -/
abbrev sh_T : Type := Nat × Nat × Nat × List Value
def shp : ab_C → sh_T
  | .inl (t, n, .inl _) => (0, t, n, [])
  | .inl (t, n, .inr (.inl _)) => (1, t, n, [])
  | .inl (t, n, .inr (.inr (.inr (.inr _)))) => (2, t, n, [])
  | .inl (t, n, .inr (.inr (.inl _))) => (4, t, n, [])
  | .inl (t, n, .inr (.inr (.inr (.inl _)))) => (4, t, n, [])
  | .inr (c, fs) => (3, c, 0, fs)
abbrev co_T : Type := (Nat → Nat → Int32) × (Nat → Nat → Int64) × (Nat → Nat → Option Nat)
def mkc (c : co_T) (k : Nat) (s : sh_T) : ab_C := match s.1 with
  | 0 => .inl (s.2.1, s.2.2.1, .inl (c.1 k))
  | 1 => .inl (s.2.1, s.2.2.1, .inr (.inl (c.2.1 k)))
  | 2 => .inl (s.2.1, s.2.2.1, .inr (.inr (.inr (.inr (c.2.2 k)))))
  | _ => .inr (s.2.1, s.2.2.2)
def mkh (c : co_T) : Nat → List sh_T → ab_H
  | _, [] => []
  | k, s :: r => mkc c k s :: mkh c (k + 1) r
def coI (h : ab_H) (k : Nat) : Nat → Int32 := match h[k]? with
  | some (.inl (_, _, .inl f)) => f
  | _ => fun _ => 0
def coJ (h : ab_H) (k : Nat) : Nat → Int64 := match h[k]? with
  | some (.inl (_, _, .inr (.inl f))) => f
  | _ => fun _ => 0
def coR (h : ab_H) (k : Nat) : Nat → Option Nat := match h[k]? with
  | some (.inl (_, _, .inr (.inr (.inr (.inr f))))) => f
  | _ => fun _ => none
theorem mkh_ok (H : ab_H) : ∀ (h pre : ab_H), H = pre ++ h → (∀ s ∈ h.map shp, s.1 ≠ 4) → mkh (coI H, coJ H, coR H) pre.length (h.map shp) = h
  | [], _, _, _ => rfl
  | c :: r, pre, e, hk => by
    have hg : H[pre.length]? = some c := by rw [e]; simp
    have ih := mkh_ok H r (pre ++ [c]) (by rw [e]; simp) (fun s hs => hk s (List.mem_cons_of_mem _ hs))
    rw [List.length_append, List.length_singleton] at ih
    have h0 : (shp c).1 ≠ 4 := hk _ (List.mem_cons_self ..)
    rw [List.map_cons, mkh, ih]
    congr 1
    rcases c with ⟨t, n, f | f | f | f | f⟩ | ⟨t, fs⟩
    · simp [shp, mkc, coI, hg]
    · simp [shp, mkc, coJ, hg]
    · exact absurd rfl h0
    · exact absurd rfl h0
    · simp [shp, mkc, coR, hg]
    · simp [shp, mkc]
def SH0 : List sh_T := [(3, 0, 0, [.ref 101, .ref 106, .ref 120, .ref 124, .ref 175]),
  (3, 1, 0, [.ref 102, .ref 103, .ref 104, .ref 105, .int 0, .int 0, .null, .int 0, .long 0, .int 0, .int 0]),
  (0, 2, 600, []),
  (2, 4, 601, []),
  (0, 0, 601, []),
  (1, 1, 601, []),
  (3, 2, 0, [.ref 107, .ref 108, .ref 109, .ref 110, .ref 111, .ref 112, .ref 113, .int 0, .int 0, .null, .ref 118, .ref 119, .int 0]),
  (1, 1, 6, []),
  (0, 0, 6, []),
  (1, 1, 36, []),
  (1, 1, 36, []),
  (2, 5, 24, []),
  (2, 6, 8, []),
  (3, 3, 0, [.ref 114, .ref 115, .ref 116, .ref 117]),
  (1, 1, 1440, []),
  (0, 0, 240, []),
  (0, 0, 6, []),
  (0, 0, 6, []),
  (2, 7, 6, []),
  (1, 1, 6, []),
  (3, 4, 0, [.ref 101, .ref 106, .ref 121, .null, .null, .int 0, .long 0, .int 0, .null, .null, .int 0]),
  (3, 5, 0, [.ref 101, .ref 106, .ref 122, .ref 123, .int 0, .int 0, .int 0, .int 0, .int 0, .int 0, .int 0]),
  (0, 0, 600, []),
  (0, 0, 600, []),
  (3, 6, 0, [.ref 106, .ref 113, .ref 125, .ref 130, .ref 145, .ref 160, .int 0, .int 0, .int 0, .int 0, .int 0, .int 0]),
  (3, 3, 0, [.ref 126, .ref 127, .ref 128, .ref 129]),
  (1, 1, 1440, []),
  (0, 0, 240, []),
  (0, 0, 6, []),
  (0, 0, 6, []),
  (2, 9, 14, []),
  (1, 1, 6, []),
  (1, 1, 6, []),
  (1, 1, 6, []),
  (1, 1, 6, []),
  (1, 1, 6, []),
  (1, 1, 6, []),
  (1, 1, 6, []),
  (1, 1, 6, []),
  (1, 1, 6, []),
  (1, 1, 6, []),
  (1, 1, 6, []),
  (1, 1, 6, []),
  (1, 1, 6, []),
  (1, 1, 6, []),
  (2, 9, 14, []),
  (1, 1, 6, []),
  (1, 1, 6, []),
  (1, 1, 6, []),
  (1, 1, 6, []),
  (1, 1, 6, []),
  (1, 1, 6, []),
  (1, 1, 6, []),
  (1, 1, 6, []),
  (1, 1, 6, []),
  (1, 1, 6, []),
  (1, 1, 6, []),
  (1, 1, 6, []),
  (1, 1, 6, []),
  (1, 1, 6, []),
  (2, 10, 14, []),
  (0, 0, 40, []),
  (0, 0, 40, []),
  (0, 0, 40, []),
  (0, 0, 40, []),
  (0, 0, 40, []),
  (0, 0, 40, []),
  (0, 0, 40, []),
  (0, 0, 40, []),
  (0, 0, 40, []),
  (0, 0, 40, []),
  (0, 0, 40, []),
  (0, 0, 40, []),
  (0, 0, 40, []),
  (0, 0, 40, []),
  (0, 0, 8, []),
  (3, 11, 0, [.int 0, .ref 177, .int 0, .int 0, .int 0, .int 0, .int 0, .long 0, .int 0, .int 0, .ref 178, .ref 179, .ref 180, .ref 181, .ref 182, .ref 183, .ref 184, .ref 185, .ref 186, .ref 187, .ref 188, .ref 189, .ref 190, .ref 191, .ref 192, .ref 193, .ref 194, .ref 195, .ref 196, .ref 197, .ref 198, .ref 199, .ref 200, .ref 201, .ref 202, .ref 203, .ref 204, .ref 205, .ref 206, .ref 207, .int 0, .int 0, .int 0, .int 0, .int 0, .int 0, .int 0, .int 0, .int 0, .int 0, .ref 208, .ref 209, .int 0, .ref 210, .ref 211, .ref 212, .ref 213, .int 0, .int 0, .ref 214, .int 0, .ref 215, .ref 216, .ref 217, .ref 218, .ref 219, .ref 220, .ref 221, .ref 222, .int 0, .int 0, .ref 223, .ref 224, .int 0, .int 0, .int 0, .ref 225, .ref 226, .ref 227, .ref 228, .ref 229, .ref 230, .ref 231, .ref 232, .ref 233, .ref 234, .ref 235, .ref 236, .ref 237, .int 0, .int 0, .int 0, .long 0, .int 0, .int 0, .int 0, .ref 238, .int 0, .int 0, .long 0, .ref 239, .int 0, .int 0]),
  (0, 0, 600, []),
  (0, 3, 6, []),
  (1, 1, 6, []),
  (0, 0, 6, []),
  (1, 1, 36, []),
  (1, 1, 36, []),
  (0, 3, 24, []),
  (0, 0, 24, []),
  (0, 0, 24, []),
  (0, 0, 24, []),
  (0, 0, 24, []),
  (0, 0, 144, []),
  (0, 0, 144, []),
  (0, 3, 24, []),
  (0, 3, 24, []),
  (0, 0, 24, []),
  (0, 0, 24, []),
  (0, 0, 24, []),
  (0, 3, 8, []),
  (1, 1, 8, []),
  (0, 0, 8, []),
  (0, 0, 8, []),
  (0, 0, 8, []),
  (0, 0, 8, []),
  (0, 0, 8, []),
  (0, 0, 8, []),
  (1, 1, 8, []),
  (0, 3, 8, []),
  (0, 0, 8, []),
  (0, 0, 25420, []),
  (1, 1, 25420, []),
  (0, 0, 700, []),
  (1, 1, 700, []),
  (0, 0, 41, []),
  (0, 0, 41, []),
  (0, 0, 41, []),
  (0, 0, 41, []),
  (0, 0, 25, []),
  (0, 0, 240, []),
  (1, 1, 1440, []),
  (0, 0, 6, []),
  (0, 0, 6, []),
  (0, 0, 1920, []),
  (1, 1, 11520, []),
  (0, 0, 48, []),
  (0, 0, 48, []),
  (1, 1, 6, []),
  (1, 1, 700, []),
  (0, 0, 40, []),
  (0, 0, 40, []),
  (0, 0, 40, []),
  (0, 0, 40, []),
  (0, 0, 40, []),
  (0, 0, 40, []),
  (0, 0, 40, []),
  (0, 0, 40, []),
  (0, 0, 1600, []),
  (0, 0, 40, []),
  (0, 0, 40, []),
  (1, 1, 240, []),
  (1, 1, 240, []),
  (1, 1, 6, []),
  (0, 3, 24, []),
  (1, 1, 1, [])]
def kc0 : Option ev_K := ev_u 100000 23 2048 84000 law_y 50 (0, [(0, .ref 0)], [], [], 0)
abbrev al0 (i : Int32) : List (Nat × Value) := [(4, .int i), (3, .ref 240), (2, .ref 176), (1, .ref 100), (0, .ref 0)]
def veq : Value → Value → Bool
  | .int a, .int b => decide (a = b)
  | .long a, .long b => decide (a = b)
  | .ref a, .ref b => decide (a = b)
  | .null, .null => true
  | _, _ => false
theorem veq_s {a b : Value} (h : veq a b = true) : a = b := by
  unfold veq at h
  split at h
  · rw [of_decide_eq_true h]
  · rw [of_decide_eq_true h]
  · rw [of_decide_eq_true h]
  · rfl
  · cases h
def leq {α : Type} (f : α → α → Bool) : List α → List α → Bool
  | [], [] => true
  | a :: r, b :: s => f a b && leq f r s
  | _, _ => false
theorem leq_s {α : Type} {f : α → α → Bool} (hf : ∀ a b, f a b = true → a = b) : ∀ {r s : List α}, leq f r s = true → r = s
  | [], [], _ => rfl
  | a :: r, b :: s, h => by
    rw [leq, Bool.and_eq_true] at h
    rw [hf a b h.1, leq_s hf h.2]
  | [], _ :: _, h => by cases h
  | _ :: _, [], h => by cases h
def seq (a b : sh_T) : Bool := decide (a.1 = b.1) && decide (a.2.1 = b.2.1) && decide (a.2.2.1 = b.2.2.1) && leq veq a.2.2.2 b.2.2.2
theorem seq_s (a b : sh_T) (h : seq a b = true) : a = b := by
  obtain ⟨a1, a2, a3, a4⟩ := a
  obtain ⟨b1, b2, b3, b4⟩ := b
  simp only [seq, Bool.and_eq_true, decide_eq_true_eq] at h
  obtain ⟨⟨⟨h1, h2⟩, h3⟩, h4⟩ := h
  rw [h1, h2, h3, leq_s (fun _ _ => veq_s) h4]
def aeq (a b : Nat × Value) : Bool := decide (a.1 = b.1) && veq a.2 b.2
theorem aeq_s (a b : Nat × Value) (h : aeq a b = true) : a = b := by
  obtain ⟨a1, a2⟩ := a
  obtain ⟨b1, b2⟩ := b
  simp only [aeq, Bool.and_eq_true, decide_eq_true_eq] at h
  rw [h.1, veq_s h.2]
/-- a place is as it is told, but for what arrays hold -/
def keq (k : Option ev_K) (pc : Nat) (al : List (Nat × Value)) (st : List Value) (sh : List sh_T) (sl : Nat) : Bool := match k with
  | some k => decide (k.1 = pc) && leq aeq k.2.1 al && leq veq k.2.2.1 st && leq seq (k.2.2.2.1.map shp) sh && decide (k.2.2.2.2 = sl)
  | none => false
def kh (k : Option ev_K) : ab_H := match k with
  | some k => k.2.2.2.1
  | none => []
theorem keq_s {k : Option ev_K} {pc : Nat} {al : List (Nat × Value)} {st : List Value} {sh : List sh_T} {sl : Nat} (h : keq k pc al st sh sl = true) : k = some (pc, al, st, kh k, sl) ∧ (kh k).map shp = sh := by
  cases k with
  | none => cases h
  | some k =>
    obtain ⟨a, b, c, d, e⟩ := k
    simp only [keq, Bool.and_eq_true, decide_eq_true_eq] at h
    obtain ⟨⟨⟨⟨h1, h2⟩, h3⟩, h4⟩, h5⟩ := h
    rw [h1, leq_s aeq_s h2, leq_s (fun _ _ => veq_s) h3, h5]
    exact ⟨rfl, leq_s seq_s h4⟩
theorem mkh_all (H : ab_H) (hk : ∀ s ∈ H.map shp, s.1 ≠ 4) : mkh (coI H, coJ H, coR H) 0 (H.map shp) = H := mkh_ok H H [] rfl hk
theorem mkh_of {sh : List sh_T} (hs : sh.all (fun s => decide (s.1 ≠ 4)) = true) (H : ab_H) (h : H.map shp = sh) : ∃ C : co_T, H = mkh C 0 sh := by
  refine ⟨(coI H, coJ H, coR H), ?_⟩
  have h2 := mkh_all H (fun s hm => by
    rw [h] at hm
    exact of_decide_eq_true (List.all_eq_true.mp hs s hm))
  rw [h] at h2
  exact h2.symm
set_option maxRecDepth 100000 in
theorem kc0_c : keq kc0 23 (al0 0) [] SH0 80247 = true := by decide +kernel
theorem kc0_e : kc0 = some (23, al0 0, [], kh kc0, 80247) ∧ (kh kc0).map shp = SH0 := keq_s kc0_c
theorem hc0_e : ∃ C : co_T, kh kc0 = mkh C 0 SH0 := mkh_of (by decide) _ kc0_e.2
theorem z_start {L : Nat} {xs : Nat → Int32} {r : Outcome × ab_H × Nat} (k : Ez L xs 2048 84000 law_y (23, al0 0, [], kh kc0, 80247) r) : Ez L xs 2048 84000 law_y (0, [(0, .ref 0)], [], [], 0) r := Ez_u 50 kc0_e.1 k
