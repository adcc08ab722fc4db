/-! what the class's methods compute over its state (numbered as the reference's) -/
def dOn (dt : kM) (o : Nat) : kM := if dt 13 o + 1 < dt 11 o then ma dt 13 o (dt 13 o + 1) else ma (ma dt 13 o (dt 13 o + 1)) 14 o (if dt 12 o < 1 then 1 else dt 12 o)
def dOff (dt : kM) (o : Nat) : kM := ma (ma dt 13 o 0) 14 o (if dt 14 o - 1 < 0 then 0 else dt 14 o - 1)
def dCor (dt : kM) (o : Nat) : Int32 := if dt 25 o = 0 then (if dt 6 (dt 21 o).toNatClampNeg = 0 then 1 else 0) else 0
def dIsOf (dt : kM) (o : Nat) (p : Int32) : Int32 := if p = dt 7 o then 1 else if p = dt 8 o then 1 else 0
def ush (x s : Int32) : Int32 := (x.toUInt32 >>> (s.toUInt32 &&& Int32.toUInt32 31)).toInt32
def bc1 (x : Int32) : Int32 := x - (ush x 1 &&& 1431655765)
def bc2 (x : Int32) : Int32 := (x &&& 858993459) + (ush x 2 &&& 858993459)
def bc3 (x : Int32) : Int32 := (x + ush x 4) &&& 252645135
def bc4 (x : Int32) : Int32 := x + ush x 8
def bc5 (x : Int32) : Int32 := x + ush x 16
def bitc (x : Int32) : Int32 := bc5 (bc4 (bc3 (bc2 (bc1 x)))) &&& 63
def dHoB (dt : kM) (o : Nat) : Int32 := 10 * bitc (dt 32 o &&& 62)
def dHeat (dt : kM) (o : Nat) : Int32 := dt 4 (dt 7 o).toNatClampNeg + dt 4 (dt 8 o).toNatClampNeg + dHoB dt o
/-- points up to frame e, the fight by its number -/
def dPts (dt : kM) (e : Int32) (o : Nat) (p : Int32) : Nat → Int32
  | 0 => 0
  | k + 1 => if (dt 21 k).toNatClampNeg = o then (if dt 22 k = p then (if e < dt 24 k then dPts dt e o p k else if dt 25 k = 0 then dPts dt e o p k + dt 23 k else dPts dt e o p k) else dPts dt e o p k) else dPts dt e o p k
def dBusy (dt : kM) (x y : Int32) (n : Nat) : Prop := ∃ k, k < n ∧ dt 6 k = 0 ∧ (dIsOf dt k x = 1 ∨ dIsOf dt k y = 1)
def dStr (dt : kM) (o n : Nat) : Nat → Int32 := fun k => if k < n then (if (dt 21 k).toNatClampNeg = o then 1 else dt 25 k) else dt 25 k
/-- frames uncounted: counted frames by sponsor, shown sponsors -/
def dUnc (dt : kM) (o : Nat) : Nat → kM
  | 0 => dt
  | k + 1 => if dt 17 k = nI o then (if dt 19 k = -1 then dUnc dt o k else ma (ma (dUnc dt o k) 33 (dt 19 k).toNatClampNeg (dUnc dt o k 33 (dt 19 k).toNatClampNeg - 1)) 19 k (-1)) else dUnc dt o k
def dPla (dt : kM) (x : Nat) : Nat → Int32
  | 0 => 0
  | j + 1 => if dt 30 x < dt 30 j then dPla dt x j + 1 else if dt 30 j = dt 30 x then (if nI j < nI x then dPla dt x j + 1 else dPla dt x j) else dPla dt x j
def dOwe (dt : kM) (s : Nat) : Int32 := if dt 26 s - dt 33 s < 0 then 0 else dt 26 s - dt 33 s
def dAhead (dt : kM) (w g : Nat) : Int32 := if w = 0 then -1 else dt g (w - 1)
/-- the fight to be shown: its number or none; its heat -/
def dHot (dt : kM) (w : Nat) : Nat → Option Nat × Int32
  | 0 => (none, 0)
  | k + 1 => if dt 6 k = 0 then (if (dHot dt w k).1 = none then (some k, dHeat dt k) else if (dHot dt w k).2 < dHeat dt k then (some k, dHeat dt k) else if dHeat dt k = (dHot dt w k).2 then (if nI k = dAhead dt w 17 then (some k, dHeat dt k) else dHot dt w k) else dHot dt w k) else dHot dt w k
def dCan (dt : kM) (nC : Nat) (x : Int32) : Int32 := if x < 0 then 0 else if x < nI nC then (if dt 14 x.toNatClampNeg = 0 then 1 else 0) else 0
def dCamL (dt : kM) (nC : Nat) : Nat → Int32
  | 0 => -1
  | d + 1 => if dt 14 (nC - (d + 1)) = 0 then nI (nC - (d + 1)) else dCamL dt nC d
def dCam (dt : kM) (nC w : Nat) : Int32 := if dCan dt nC (dAhead dt w 18) = 0 then dCamL dt nC nC else dAhead dt w 18
def dBoth (dt : kM) (o : Nat) : Int32 := ((1 : Int32) <<< (dt 7 o &&& 31)) ||| ((1 : Int32) <<< (dt 8 o &&& 31))
def dSpo (dt : kM) (o : Nat) : Nat → Int32 × Int32
  | 0 => (-1, 0)
  | k + 1 => if dt 34 k &&& dBoth dt o = 0 then dSpo dt o k else if (dSpo dt o k).2 < dOwe dt k then (nI k, dOwe dt k) else dSpo dt o k
def dShow (dt : kM) (w o : Nat) : kM :=
  let s1 := ma (ma dt 17 w (nI o)) 31 o (dt 31 o + 1)
  let sp := (dSpo s1 o 6).1
  let s2 := ma s1 19 w sp
  if sp = -1 then s2 else ma s2 33 sp.toNatClampNeg (s2 33 sp.toNatClampNeg + 1)
def dCams (dt : kM) (cam : Int32) : Nat → kM
  | 0 => dt
  | k + 1 => if nI k = cam then dOn (dCams dt cam k) k else dOff (dCams dt cam k) k
def dBlo (dt : kM) : Nat → kM
  | 0 => dt
  | k + 1 => ma (dBlo dt k) 32 k (dBlo dt k 32 k <<< ((1 : Int32) &&& 31))
def dPass1 (dt : kM) (nF nC w : Nat) : kM :=
  let f := (dHot dt w nF).1
  let cam := if f = none then -1 else dCam dt nC w
  let s1 := ma (ma (ma dt 17 w (-1)) 18 w cam) 19 w (-1)
  let s2 := match f with
    | none => s1
    | some o => if cam = -1 then s1 else dShow s1 w o
  msee (ms (dBlo (dCams s2 cam nC) nF) 1 (nI (w + 1)))
def dPass (dt : kM) (nF nC w : Nat) : Nat → kM
  | 0 => dt
  | i + 1 => dPass1 (dPass dt nF nC w i) nF nC (w + i)
abbrev kIO : String := "java/lang/IndexOutOfBoundsException"
abbrev kIA : String := "java/lang/IllegalArgumentException"
abbrev kIS : String := "java/lang/IllegalStateException"
section TG
variable {E : kE} {a cap : Nat → Nat} {nF nC nE : Nat} {dt : kM} {h0 : kH} {j : Nat}
theorem tg_2 (hg : dgeo E a cap nF nC nE h0) (hN : dt 5 0 = nI nF) (hj : j < nF) : kCq E yJx4a65c_get_915e3 wsJx4a65c_get_915e3 rmJx4a65c_get_915e3 0 0 [.ref (a 2), .int (nI j)] (dw E a cap nF nC nE dt h0) (fun r h' => r = some (a (20 + j)) ∧ h' = dw E a cap nF nC nE dt h0) := by
  have hz := hg.2.2.1 2 (Or.inl rfl)
  have hn : nF ≤ cap 16 := hz.1
  have hc : cap 16 ≤ 200 := hz.2.1
  have z := tJx4a65c_get_915e3 (E := E) (h := dw E a cap nF nC nE dt h0) (a 2) (a (14 + 2)) (cap (14 + 2)) j nF (dt (38 + 2) 0) (drow a (dbase 2) (dNn nF nC nE 2)) hj hn (by show cap 16 < _; omega) (dw_lstN hg (Or.inl rfl) hN) (dw_ed hg (Or.inl rfl) (by show 0 < cap 16; omega))
  rw [show drow a (dbase 2) (dNn nF nC nE 2) j = some (a (20 + j)) from if_pos hj] at z
  exact z
theorem tg_3 (hg : dgeo E a cap nF nC nE h0) (hN : dt 10 0 = nI nC) (hj : j < nC) : kCq E yJx4a65c_get_915e3 wsJx4a65c_get_915e3 rmJx4a65c_get_915e3 0 0 [.ref (a 3), .int (nI j)] (dw E a cap nF nC nE dt h0) (fun r h' => r = some (a (40 + j)) ∧ h' = dw E a cap nF nC nE dt h0) := by
  have hz := hg.2.2.1 3 (Or.inr (Or.inl rfl))
  have hn : nC ≤ cap 17 := hz.1
  have hc : cap 17 ≤ 200 := hz.2.1
  have z := tJx4a65c_get_915e3 (E := E) (h := dw E a cap nF nC nE dt h0) (a 3) (a (14 + 3)) (cap (14 + 3)) j nC (dt (38 + 3) 0) (drow a (dbase 3) (dNn nF nC nE 3)) hj hn (by show cap 17 < _; omega) (dw_lstN hg (Or.inr (Or.inl rfl)) hN) (dw_ed hg (Or.inr (Or.inl rfl)) (by show 0 < cap 17; omega))
  rw [show drow a (dbase 3) (dNn nF nC nE 3) j = some (a (40 + j)) from if_pos hj] at z
  exact z
theorem tg_4 (hg : dgeo E a cap nF nC nE h0) (hN : dt 20 0 = nI nE) (hj : j < nE) : kCq E yJx4a65c_get_915e3 wsJx4a65c_get_915e3 rmJx4a65c_get_915e3 0 0 [.ref (a 4), .int (nI j)] (dw E a cap nF nC nE dt h0) (fun r h' => r = some (a (50 + j)) ∧ h' = dw E a cap nF nC nE dt h0) := by
  have hz := hg.2.2.1 4 (Or.inr (Or.inr rfl))
  have hn : nE ≤ cap 18 := hz.1
  have hc : cap 18 ≤ 200 := hz.2.1
  have z := tJx4a65c_get_915e3 (E := E) (h := dw E a cap nF nC nE dt h0) (a 4) (a (14 + 4)) (cap (14 + 4)) j nE (dt (38 + 4) 0) (drow a (dbase 4) (dNn nF nC nE 4)) hj hn (by show cap 18 < _; omega) (dw_lstN hg (Or.inr (Or.inr rfl)) hN) (dw_ed hg (Or.inr (Or.inr rfl)) (by show 0 < cap 18; omega))
  rw [show drow a (dbase 4) (dNn nF nC nE 4) j = some (a (50 + j)) from if_pos hj] at z
  exact z
/-- two fights' objects are one where their numbers are -/
theorem fgt_inj (hg : dgeo E a cap nF nC nE h0) {i j : Nat} (hi : i < nF) (hj : j < nF) (he : a (20 + i) = a (20 + j)) : i = j := by
  have h20 := hg.2.2.2.1
  have := hg.1 (20 + i) (20 + j) (Or.inr (Or.inr (Or.inl (by omega)))) (Or.inr (Or.inr (Or.inl (by omega)))) he
  omega
end TG
