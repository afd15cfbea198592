
/-! THE WORLD: tables, triggers, rows, the transaction; what a statement does to it -/
abbrev tx_T : Type := Bool × (Nat → Bool) × rs_T × (Nat × (Nat → Int64)) × (Nat → rs_T)
abbrev wo_T : Type := tb_S × (Nat → Option tr_T) × rs_T × tx_T
def wT (W : wo_T) : tb_S := W.1
def wG (W : wo_T) : Nat → Option tr_T := W.2.1
def wR (W : wo_T) : rs_T := W.2.2.1
def wX (W : wo_T) : tx_T := W.2.2.2
def wW (W : wo_T) : Nat → Nat := (wT W).1.2.1
def wU (W : wo_T) : Nat → Option ru_T := (wT W).2.2
def wS (W : wo_T) : st_T := (wW W, (wT W).2.1, wU W, wG W)
def xIn (X : tx_T) : Bool := X.1
def xWt (X : tx_T) : Nat → Bool := X.2.1
def x0 (X : tx_T) : rs_T := X.2.2.1
def xMk (X : tx_T) : Nat × (Nat → Int64) := X.2.2.2.1
def xMr (X : tx_T) : Nat → rs_T := X.2.2.2.2
/-! how a statement ends: code, what is told, the world behind it -/
abbrev xr_T : Type := Nat × (Nat → Int32) × wo_T
def vv (a b c p q : Int32) (x : Nat) : Int32 := if x = 2 then a else if x = 3 then b else if x = 4 then c else if x = 5 then p else if x = 6 then q else -1
def xNo (W : wo_T) : xr_T := (7, vv 0 0 0 0 0, W)
def xOk (W : wo_T) : xr_T := (0, vv 0 0 0 0 0, W)
def upG (g : Nat → Option tr_T) (i : Nat) (x : Option tr_T) : Nat → Option tr_T := fun j => if j = i then x else g j
def refW (W : wo_T) (B : Nat → Nat) (n : Nat) (e : Int32 × Nat) : xr_T := (1, fun x => if x = 0 then (if kd B n e.2 = 1 then 1 else e.1) else if x = 1 then nI (tkA B n e.2) else if x = 5 ∨ x = 6 then 0 else -1, W)
def fnW {α : Type} (W : wo_T) (B : Nat → Nat) (n : Nat) (r : pz_T (α × Nat × Option Nat)) (f : α → xr_T) : xr_T := match r with
  | .inl e => refW W B n e
  | .inr x => if kd B n x.2.1 = 2 then f x.1 else refW W B n (2, x.2.1)
def xTab (W : wo_T) (T : tb_S) : xr_T := bif xIn (wX W) then xNo W else xOk (T, W.2)
def xTrg (W : wo_T) (G : tr_T) : xr_T := bif xIn (wX W) then xNo W else xOk (wT W, upG (wG W) (trN (wG W)).toNatClampNeg (some G), W.2.2)
def frG_ (W : wo_T) (b : Nat) : Bool := allN (fun i => fgU b (wU W i)) 24 0 && allN (fun i => fgG b (wG W i)) 8 0
def drT (T : tb_S) (b : Nat) : tb_S := (((fun q => if q = b then 0 else T.1.1 q), (fun q => if q = b then 0 else T.1.2.1 q), T.1.2.2), T.2.1, fun i => match T.2.2 i with
  | none => none
  | some u => if rTb u = b then none else some u)
def drG (g : Nat → Option tr_T) (b : Nat) : Nat → Option tr_T := fun i => match g i with
  | none => none
  | some u => if gTb u = b then none else some u
def drW (W : wo_T) (b : Nat) : wo_T := (drT (wT W) b, drG (wG W) b, rsU (wR W) b ([], 0), wX W)
def xDrp (W : wo_T) (a : Nat × Int32) : xr_T := bif xIn (wX W) then xNo W else (if a.1 = 37 then (bif frG_ W a.2.toNatClampNeg then xOk (drW W a.2.toNatClampNeg) else xNo W) else xOk (wT W, upG (wG W) a.2.toNatClampNeg none, W.2.2))
def xChg (W : wo_T) (a : ac_T) : xr_T := ((chgR (wS W) a (wR W) (fun i => !xWt (wX W) i)).1.1, vv (chgR (wS W) a (wR W) (fun i => !xWt (wX W) i)).1.2.1 (chgR (wS W) a (wR W) (fun i => !xWt (wX W) i)).1.2.2 (chgR (wS W) a (wR W) (fun i => !xWt (wX W) i)).1.2.1 (nI (chgR (wS W) a (wR W) (fun i => !xWt (wX W) i)).2.2.1) (nI (chgR (wS W) a (wR W) (fun i => !xWt (wX W) i)).2.2.2), (wT W, wG W, (chgR (wS W) a (wR W) (fun i => !xWt (wX W) i)).2.1, wX W))
def ltU : Option ru_T → Bool
  | none => false
  | some u => rLt u
def bgX (W : wo_T) : tx_T := (true, fun i => ltU (wU W i), wR W, (0, fun _ => 0), fun _ => wR W)
def xBeg (W : wo_T) : xr_T := bif xIn (wX W) then xNo W else xOk (wT W, wG W, wR W, bgX W)
def enD (X : tx_T) : tx_T := (false, fun _ => false, X.2.2.1, (0, X.2.2.2.1.2), X.2.2.2.2)
def xCom (W : wo_T) : xr_T := bif xIn (wX W) then (match lkR (wS W) (wR W) (fun _ => true) (rng 0 24) with
  | none => xOk (wT W, wG W, wR W, enD (wX W))
  | some e => (2, vv (nI e.1) e.2 0 0 0, (wT W, wG W, x0 (wX W), enD (wX W)))) else xNo W
def bkX (X : tx_T) (i : Nat) : tx_T := (X.1, X.2.1, X.2.2.1, (i + 1, X.2.2.2.1.2), X.2.2.2.2)
def xBck (W : wo_T) (a : Int32) : xr_T := bif xIn (wX W) then (if a = -1 then xOk (wT W, wG W, x0 (wX W), enD (wX W)) else xOk (wT W, wG W, xMr (wX W) a.toNatClampNeg, bkX (wX W) a.toNatClampNeg)) else xNo W
def shF {α : Type} (f : Nat → α) (x : α) (i nn q : Nat) : α := if i ≤ q ∧ q < nn then (if q + 1 = nn then x else f (q + 1)) else f q
def mkX (X : tx_T) (rs : rs_T) (v : Int64) (i nn : Nat) : tx_T := (X.1, X.2.1, X.2.2.1, (nn, shF (xMk X).2 v i nn), shF (xMr X) rs i nn)
def mkI (X : tx_T) (v : Int64) : Nat × Nat := if mkF (xMk X) v = -1 then ((xMk X).1, (xMk X).1 + 1) else ((mkF (xMk X) v).toNatClampNeg, (xMk X).1)
def xMrk (W : wo_T) (v : Int64) : xr_T := bif xIn (wX W) then xOk (wT W, wG W, wR W, mkX (wX W) (wR W) v (mkI (wX W) v).1 (mkI (wX W) v).2) else xNo W
def wtX (X : tx_T) (f : Nat → Bool) : tx_T := (X.1, f, X.2.2)
def xLat (W : wo_T) (a : Int32) : xr_T := bif xIn (wX W) then xOk (wT W, wG W, wR W, wtX (wX W) (fun i => xWt (wX W) i || nmB true (wU W) a i)) else xNo W
def xNow (W : wo_T) (a : Int32) : xr_T := bif xIn (wX W) then (match lkR (wS W) (wR W) (nmB false (wU W) a) (rng 0 24) with
  | none => xOk (wT W, wG W, wR W, wtX (wX W) (fun i => xWt (wX W) i && !nmB false (wU W) a i))
  | some e => (2, vv (nI e.1) e.2 0 0 0, W)) else xNo W
/-! a statement, from its text on -/
def nlW (W : wo_T) : Option Nat := some (400 - ndS (wU W) (wG W))
def runX (W : wo_T) (B : Nat → Nat) (n : Nat) : xr_T :=
  if kd B n 0 = 37 then fnW W B n (rTbl (tkP B n) (wT W) 0 (nlW W)) (xTab W)
  else if kd B n 0 = 39 then fnW W B n (rTrg (tkP B n) (wT W).1 (wG W) 0 (nlW W)) (xTrg W)
  else if kd B n 0 = 17 then fnW W B n (rDrp (tkP B n) (wT W).1 (wG W) 0 none) (xDrp W)
  else if kd B n 0 = 18 ∨ kd B n 0 = 41 ∨ kd B n 0 = 15 then fnW W B n (rChg (tkP B n) (wT W).1 none 0 none) (xChg W)
  else if kd B n 0 = 10 then fnW W B n (.inr ((), 1, none)) (fun _ => xBeg W)
  else if kd B n 0 = 13 then fnW W B n (.inr ((), 1, none)) (fun _ => xCom W)
  else if kd B n 0 = 8 then fnW W B n (rBck (tkP B n) (xMk (wX W)) 0 none) (xBck W)
  else if kd B n 0 = 22 then fnW W B n (rMrk (tkP B n) (xMk (wX W)) 0 none) (xMrk W)
  else if kd B n 0 = 20 then fnW W B n (rWhi (tkP B n) true (wU W) 0 none) (xLat W)
  else if kd B n 0 = 26 then fnW W B n (rWhi (tkP B n) false (wU W) 0 none) (xNow W)
  else refW W B n (2, 0)
/-! what is told behind it -/
def ans (e : Nat) (v : Nat → Int32) (g : Int32) (x : Nat) : Int32 := if x = 0 then (if e = 1 then v 0 else -1) else if x = 1 then (if e = 1 then v 1 else -1) else if x = 2 then (if e = 2 then v 2 else -1) else if x = 3 then (if e = 2 then v 3 else -1) else if x = 4 then (if e = 3 then v 4 else -1) else if x = 5 then v 5 else if x = 6 then v 6 else g
def vEq (e : Nat) (v v' : Nat → Int32) : Prop := (e = 1 → v 0 = v' 0 ∧ v 1 = v' 1) ∧ (e = 2 → v 2 = v' 2 ∧ v 3 = v' 3) ∧ (e = 3 → v 4 = v' 4) ∧ v 5 = v' 5 ∧ v 6 = v' 6
set_option maxRecDepth 100000 in
theorem ans_e {e : Nat} {v v' : Nat → Int32} {g : Int32} (h : vEq e v v') : ∀ x, ans e v g x = ans e v' g x := fun x => by
  obtain ⟨h1, h2, h3, h4, h5⟩ := h
  unfold ans
  by_cases e1 : e = 1
  · rw [(h1 e1).1, (h1 e1).2, h4, h5, if_neg (show ¬ e = 2 by omega), if_neg (show ¬ e = 2 by omega), if_neg (show ¬ e = 3 by omega), if_neg (show ¬ e = 2 by omega), if_neg (show ¬ e = 2 by omega), if_neg (show ¬ e = 3 by omega)]
  · by_cases e2 : e = 2
    · rw [(h2 e2).1, (h2 e2).2, h4, h5, if_neg e1, if_neg e1, if_neg (show ¬ e = 3 by omega), if_neg e1, if_neg e1, if_neg (show ¬ e = 3 by omega)]
    · by_cases e3 : e = 3
      · rw [h3 e3, h4, h5, if_neg e1, if_neg e1, if_neg e2, if_neg e2, if_neg e1, if_neg e1, if_neg e2, if_neg e2]
      · rw [h4, h5, if_neg e1, if_neg e1, if_neg e2, if_neg e2, if_neg e3, if_neg e1, if_neg e1, if_neg e2, if_neg e2, if_neg e3]
def dfW (W W' : wo_T) : Int32 := nI (totF (wR W') 6 0 0) - nI (totF (wR W) 6 0 0)
/-! what holds of every world -/
def rOk (tn : Nat → Int64) (rs : rs_T) : Prop := ∀ b, b < 6 → tn b = 0 → rs b = ([], 0)
def xOkk (W : wo_T) : Prop := (∀ i, wU W i = none → xWt (wX W) i = false) ∧ (xIn (wX W) = false → (∀ i, xWt (wX W) i = false) ∧ (xMk (wX W)).1 = 0) ∧ (xMk (wX W)).1 ≤ 6
def rsOk (W : wo_T) : Prop := rOk (wT W).1.1 (wR W) ∧ (xIn (wX W) = true → rOk (wT W).1.1 (x0 (wX W))) ∧ ∀ j, j < (xMk (wX W)).1 → rOk (wT W).1.1 (xMr (wX W) j)
def wOk (W : wo_T) : Prop := tLv (wT W) ∧ (∀ i g, wG W i = some g → okG (wW W) g ∧ lvG (wT W).1.1 g) ∧ ndS (wU W) (wG W) ≤ 400 ∧ xOkk W ∧ rsOk W
set_option maxRecDepth 100000 in
theorem okSt_w {W : wo_T} (h : wOk W) : okSt (wS W) := ⟨fun b hb => (h.1.1 b hb).1, fun i u _ e => (h.1.2 i u e).1, fun i g _ e => (h.2.1 i g e).1⟩
