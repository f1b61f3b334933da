/-! what each call answers, and what it leaves: the answer, the garden, the rest -/
theorem pm_front {n k l x m r : va_W} : (n ++ (k ++ (l ++ (x ++ (m ++ r))))).Perm (m ++ (n ++ (k ++ (l ++ (x ++ r))))) := by
  have h1 : (x ++ (m ++ r)).Perm (m ++ (x ++ r)) := List.perm_append_comm_assoc x m r
  have h2 : (l ++ (x ++ (m ++ r))).Perm (m ++ (l ++ (x ++ r))) := (h1.append_left l).trans (List.perm_append_comm_assoc l m _)
  have h3 : (k ++ (l ++ (x ++ (m ++ r)))).Perm (m ++ (k ++ (l ++ (x ++ r)))) := (h2.append_left k).trans (List.perm_append_comm_assoc k m _)
  exact (h3.append_left n).trans (List.perm_append_comm_assoc n m _)
theorem pm4 {n k l x m r : va_W} : (n ++ (k ++ (l ++ (x ++ (m ++ r))))).Perm (m ++ (k ++ (l ++ (x ++ (n ++ r))))) := by
  refine pm_front.trans (List.Perm.append_left m ?_)
  have h1 : (n ++ (x ++ r)).Perm (x ++ (n ++ r)) := List.perm_append_comm_assoc n x r
  have h2 : (n ++ (l ++ (x ++ r))).Perm (l ++ (x ++ (n ++ r))) := (List.perm_append_comm_assoc n l _).trans (h1.append_left l)
  exact (List.perm_append_comm_assoc n k _).trans (h2.append_left k)
theorem pm_sw {n k l x m i r : va_W} : (n ++ (k ++ (l ++ (x ++ (m ++ (i ++ r)))))).Perm (n ++ (k ++ (l ++ (x ++ (i ++ (m ++ r)))))) :=
  ((((List.perm_append_comm_assoc m i r).append_left x).append_left l).append_left k).append_left n
def bmp (y : Gd) (k : Nat) : Gd := gs y 3 (k - 1) (y 3 (k - 1) + 1)
def rfs (g y : Gd) (k : Nat) : Int32 × Gd × Gd := (-nI k, g, bmp y k)
def oks (g y : Gd) (v : Int32) : Int32 × Gd × Gd := (v, g, y)
def wX (E : Ev) (kk a b c al ax : Nat → Nat) (g gm gi y : Gd) (r : va_W) : va_W := wg E (kk 6) a g ++ (wk E kk ++ (wl E al y ++ (wx E ax (a 0) (b 0) (c 0) (al 0) y ++ (wg E (kk 6) b gm ++ (wg E (kk 6) c gi ++ r)))))
def PX (E : Ev) (kk a b c al ax : Nat → Nat) (r : va_W) (S : Int32 × Gd × Gd) (gi : Gd) : Option Value → va_W → Prop := fun v w2 => v = some (.int S.1) ∧ ∃ gm, Inv gm ∧ w2 = wX E kk a b c al ax S.2.1 gm gi S.2.2 r
theorem px_of {E : Ev} {kk a b c al ax : Nat → Nat} {r : va_W} {S : Int32 × Gd × Gd} {gi : Gd} {v : Int32} {g' y' : Gd} {w2 : va_W} (hs : S = (v, g', y')) (hw : ∃ gm, Inv gm ∧ w2 = wX E kk a b c al ax g' gm gi y' r) : PX E kk a b c al ax r S gi (some (.int v)) w2 := by
  subst hs
  exact ⟨rfl, hw⟩
theorem neg_k : ∀ k, k < 7 → 1 ≤ k → (-1 : Int32) - (-nI k) = nI (k - 1) := by decide +kernel
theorem i_n {x : Int32} {k : Nat} (hk : k < 1000) (h0 : ¬ x < 0) (h1 : x < nI k) : ∃ j, j < k ∧ x = nI j := by
  obtain ⟨j, hj, rfl⟩ := nI_of h0
  exact ⟨j, (nI_ltI hj (by omega)).mp h1, rfl⟩
theorem i_le {x : Int32} {k : Nat} (hk : k < 1000) (h0 : ¬ x < 0) (h1 : ¬ nI k < x) : ∃ j, j ≤ k ∧ x = nI j := by
  obtain ⟨j, hj, rfl⟩ := nI_of h0
  refine ⟨j, ?_, rfl⟩
  rcases Nat.lt_or_ge k j with h | h
  · exact absurd (nI_lt h hj) h1
  · exact h
def sp_letter (g y : Gd) (x : Int32) : Int32 × Gd × Gd := if x < 0 then rfs g y 4 else if nI 255 < x then rfs g y 6 else if 80 ≤ y 0 1 then rfs g y 6 else (nI (y 0 1 + 1), g, gs (gs y 1 (y 0 1) x.toNatClampNeg) 0 1 (y 0 1 + 1))
def vWord (g : Gd) (w k : Nat) : Int32 := if k = 0 then nI (g 0 w) else if k = 1 then nI (g 1 w) else if k = 2 then nI (g 2 w) else if k = 3 then nI (eStr g w) else if k = 4 then bI (eGone g w) else bI (eWat g w (g 9 3))
def sp_word (g y : Gd) (x z : Int32) : Int32 × Gd × Gd := if eHas x (g 9 0) = false then rfs g y 1 else if z < 0 then rfs g y 2 else if z < nI 6 then oks g y (vWord g x.toNatClampNeg z.toNatClampNeg) else rfs g y 2
def vBird (g : Gd) (b k : Nat) : Int32 := if k = 0 then nI (g 3 b) else if k = 1 then nI (g 4 b) else if k = 2 then nI (g 5 b) else if k = 3 then nI (g 6 b) else eO (eCho g (g 3 b) (g 4 b))
def sp_bird (g y : Gd) (x z : Int32) : Int32 × Gd × Gd := if eHas x (g 9 1) = false then rfs g y 1 else if z < 0 then rfs g y 2 else if z < nI 5 then oks g y (vBird g x.toNatClampNeg z.toNatClampNeg) else rfs g y 2
def sp_bitter (g y : Gd) (x z : Int32) : Int32 × Gd × Gd := if eHas x 3 = false then rfs g y 1 else if z < 0 then rfs g y 4 else if nI 9 < z then rfs g y 6 else (nI (g 7 x.toNatClampNeg), gs g 7 x.toNatClampNeg z.toNatClampNeg, y)
def sp_ink (g y : Gd) (x z : Int32) : Int32 × Gd × Gd := if eHas x (g 9 0) = false then rfs g y 1 else if eHas z 3 = false then rfs g y 1 else (nI (g 1 x.toNatClampNeg), gs g 1 x.toNatClampNeg z.toNatClampNeg, y)
def sp_watch (g y : Gd) (x h z : Int32) : Int32 × Gd × Gd := if eHas x (g 9 0) = false then rfs g y 1 else if h < 0 then rfs g y 4 else if h < nI 8 then (if z = 0 then (bI (eWat g x.toNatClampNeg h.toNatClampNeg), eWset g x.toNatClampNeg h.toNatClampNeg 0, y) else if z = nI 1 then (bI (eWat g x.toNatClampNeg h.toNatClampNeg), eWset g x.toNatClampNeg h.toNatClampNeg 1, y) else rfs g y 2) else rfs g y 6
def sp_hour (g y : Gd) : Int32 × Gd × Gd := if 8 ≤ g 9 3 then rfs g y 3 else (nI (eLeftN g) - nI (eLeftN (eHr g)), eHr g, y)
def sp_anew (g y : Gd) : Int32 × Gd × Gd := (nI (g 9 0), gs (gs g 9 2 0) 9 3 0, y)
def sp_left (g y : Gd) (x : Int32) : Int32 × Gd × Gd := if x < 0 then rfs g y 4 else if nI 8 < x then rfs g y 6 else oks g y (nI (eLeft (eHrs g x.toNatClampNeg)))
def vEaten (g : Gd) (w : Nat) : Int32 := if eGone g w = true then 9 else if eGoes g w (8 - g 9 3) = 8 then -9 else nI (eGoes g w (8 - g 9 3))
def sp_eaten (g y : Gd) (x : Int32) : Int32 × Gd × Gd := if eHas x (g 9 0) = false then rfs g y 1 else oks g y (vEaten g x.toNatClampNeg)
def sp_meanings (g y : Gd) : Int32 × Gd × Gd := oks g y (nI (eMean (eDk g) (g 9 0)))
def sp_remain (g y : Gd) : Int32 × Gd × Gd := oks g y (nI (eLeftN (eDk g)))
def eFew (g : Gd) (X : Nat) : Nat → Nat
  | 0 => 10
  | m + 1 => if (X >>> m) &&& 1 = 1 then min (eFew g X m) (eOf g m (g 9 0)) else eFew g X m
def sp_holds (g y : Gd) (x : Int32) : Int32 × Gd × Gd := if x ≤ 0 then rfs g y 1 else if x < nI 1024 then oks g y (if eFew g x.toNatClampNeg 10 = 0 then -9 else nI (eFew g x.toNatClampNeg 10 - 1)) else rfs g y 1
def eGuV (g : Gd) (h : Nat) : Nat := eLeftN (eDk (gs g 8 h (eAll g)))
def eGu (g : Gd) : Nat → Option Nat × Nat
  | 0 => (none, 0)
  | n + 1 => if (eGu g n).2 < eGuV g (g 9 3 + n) + 1 then (some (g 9 3 + n), eGuV g (g 9 3 + n) + 1) else eGu g n
def sp_guard (g y : Gd) : Int32 × Gd × Gd := oks g y (eO (eGu g (8 - g 9 3)).1)
def sp_winter (g y : Gd) (x : Int32) : Int32 × Gd × Gd := if eHas x (g 9 1) = false then (nI 1000000000 - (-nI 1), g, bmp y 1) else oks g y (nI (eLeftN (eDk (gs g 5 x.toNatClampNeg 8))) - nI (eLeftN (eDk g)))
def eBec (g y : Gd) : Nat → Nat → Int32
  | 0, _ => -9
  | k + 1, n => if eOther (eHrs g n) (y 2) (y 0 2) (g 9 0) 0 0 = none then nI n else eBec g y k (n + 1)
def sp_becomes (g y : Gd) : Int32 × Gd × Gd := oks g y (eBec g y (9 - g 9 3) 0)
def sp_danger (g y : Gd) : Int32 × Gd × Gd := oks g y (nI (ldf (eMean g (g 9 0)) (eMean (eDk g) (g 9 0))))
def eLaV (g : Gd) (w i : Nat) : Nat := eGoes (gs g 1 w i) w (8 - g 9 3)
def eLa (g : Gd) (w : Nat) : Nat → Nat × Nat
  | 0 => (0, 0)
  | i + 1 => if (eLa g w i).2 < eLaV g w i + 1 then (i, eLaV g w i + 1) else eLa g w i
def sp_lasts (g y : Gd) (x : Int32) : Int32 × Gd × Gd := if eHas x (g 9 0) = false then rfs g y 1 else if eGone g x.toNatClampNeg = true then rfs g y 3 else oks g y (nI (eLa g x.toNatClampNeg 3).1)
def sp_row (g y : Gd) (x : Int32) : Int32 × Gd × Gd := if x < 0 then rfs g y 4 else if nI 9 < x then rfs g y 6 else if y 0 2 < 10 then (nI (y 0 2 + 1), g, gs (gs y 2 (y 0 2) x.toNatClampNeg) 0 2 (y 0 2 + 1)) else rfs g y 6
def sp_judge (g y : Gd) : Int32 × Gd × Gd := (eO (eOther g (y 2) (y 0 2) (g 9 0) 0 0), g, gs y 0 2 0)
def sp_image (g y : Gd) : Int32 × Gd × Gd := (nI (g 9 3), g, gs y 0 0 1)
def sp_on (g gi y : Gd) : Int32 × Gd × Gd := if y 0 0 = 0 then rfs g y 3 else (nI (gi 9 3), gi, y)
def vCount (g y : Gd) (k : Nat) : Int32 := if k = 0 then nI (g 9 0) else if k = 1 then nI (g 9 1) else if k = 2 then nI (g 9 3) else if k = 3 then nI (eBits (g 9 2)) else if k = 4 then nI (eSum g (g 9 0)) else if k = 5 then nI (y 0 2) else if k = 6 then nI (y 0 1) else if 11 ≤ k ∧ k ≤ 16 then nI (y 3 (k - 11)) else -9
def sp_count (g y : Gd) (x : Int32) : Int32 × Gd × Gd := oks g y (if x < 0 then -9 else vCount g y x.toNatClampNeg)
