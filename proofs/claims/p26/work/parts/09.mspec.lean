/-! what the reference's methods compute, in its own order, over its state -/
def inr (v a c : Int32) : Bool := !(decide (v < a)) && !(decide (c < v))
theorem inr_t {v a c : Int32} (h1 : ¬ v < a) (h2 : ¬ c < v) : inr v a c = true := by simp [inr, h1, h2]
theorem inr_f1 {v a c : Int32} (h1 : v < a) : inr v a c = false := by simp [inr, h1]
theorem inr_f2 {v a c : Int32} (h1 : c < v) : inr v a c = false := by simp [inr, h1]
theorem inr_iff {v a c : Int32} : inr v a c = true ↔ ¬ v < a ∧ ¬ c < v := by simp [inr]
theorem kI_lt {a b : Int32} : a < b ↔ a.toInt < b.toInt := Int32.lt_iff_toInt_lt
theorem kI_eq {a b : Int32} : a = b ↔ a.toInt = b.toInt := Int32.toInt_inj.symm
theorem kI_ex {x : Int32} (h : 0 ≤ x.toInt) : ∃ j : Nat, x = nI j ∧ j < 2 ^ 31 ∧ x.toInt = j := by
  have h0 : ¬ x < 0 := by rw [kI_lt, show (0 : Int32).toInt = 0 from rfl]; omega
  obtain ⟨j, hj, rfl⟩ := nI_of h0
  exact ⟨j, rfl, hj, nI_toInt hj⟩
theorem inr_nat {x : Int32} {m : Nat} (hm : m < 2 ^ 31) (h : inr x 0 (nI m) = true) : ∃ j, j ≤ m ∧ x = nI j := by
  obtain ⟨h1, h2⟩ := inr_iff.mp h
  obtain ⟨j, hj, rfl⟩ := nI_of h1
  rw [nI_ltI hm hj] at h2
  exact ⟨j, by omega, rfl⟩
theorem inr_pred {x : Int32} {m : Nat} (hm : m < 2 ^ 31) (h : inr x 0 (nI m - 1) = true) : ∃ j, j < m ∧ x = nI j := by
  cases m with
  | zero =>
    obtain ⟨h1, h2⟩ := inr_iff.mp h
    have e : nI 0 - 1 = (-1 : Int32) := by decide
    rw [e] at h2
    rw [kI_lt] at h1 h2
    rw [show (0 : Int32).toInt = 0 from rfl] at h1
    rw [show (-1 : Int32).toInt = -1 from rfl] at h2
    omega
  | succ m =>
    rw [nI_pred] at h
    obtain ⟨j, hj, rfl⟩ := inr_nat (by omega) h
    exact ⟨j, by omega, rfl⟩
def mf (st : kM) (k : Nat) (f : Nat → Int32) : kM := fun j => if j = k then f else st j
/-- the reference's state: its counts, and what its indices are -/
def mwf (st : kM) (nF nC nE w : Nat) : Prop := st 5 0 = nI nF ∧ nF ≤ 20 ∧ st 10 0 = nI nC ∧ nC ≤ 6 ∧ st 20 0 = nI nE ∧ nE ≤ 80 ∧ st 1 0 = nI w ∧ w ≤ 3000 ∧ (∀ k, k < nF → vp_in (st 7 k) 10 ∧ vp_in (st 8 k) 10) ∧ (∀ k, k < nE → vp_in (st 21 k) nF) ∧ (st 15 0 = -1 ∨ ∃ c, c < nC ∧ st 15 0 = nI c) ∧ ∃ t, t ≤ 12 ∧ st 28 0 = nI t
abbrev kR2 (r : Int32) (c : Bool) : Prop := (c = true ∧ r = 1) ∨ (c = false ∧ r = 0)
def mrank (st : kM) (x y : Int32) : Int32 × kM :=
  if inr x 0 9 = true then
    if inr y 0 99 = true then (st 4 x.toNatClampNeg, ma (ms st 0 0) 4 x.toNatClampNeg y) else (0, ms st 0 2)
  else (0, ms st 0 1)
def busyR (st : kM) (p : Int32) : Nat → Int32
  | 0 => 0
  | i + 1 => if busyR st p i = 0 then (if st 6 i = 0 then (if st 7 i = p then 1 else if st 8 i = p then 1 else 0) else 0) else 1
def mbegin (st : kM) (nF : Nat) (x y : Int32) : kM := ms (ma (ma (ma st 7 nF x) 8 nF y) 9 nF (-1)) 5 (nI (nF + 1))
def mfight (st : kM) (nF : Nat) (x y : Int32) : Int32 × kM :=
  if inr x 0 9 = true ∧ inr y 0 9 = true then
    if x = y then (0, ms st 0 2)
    else if busyR st x nF = 0 ∧ busyR st y nF = 0 ∧ ¬ st 5 0 = 20 then (nI nF, mbegin (ms st 0 0) nF x y)
    else (0, ms st 0 3)
  else (0, ms st 0 1)
def ptsR (st : kM) (f p e : Int32) : Nat → Int32
  | 0 => 0
  | k + 1 => ptsR st f p e k + (if st 21 k = f then (if st 22 k = p then (if st 25 k = 0 then (if e < st 24 k then 0 else st 23 k) else 0) else 0) else 0)
def mend (st : kM) (nE : Nat) (x : Int32) : Int32 × kM :=
  if inr x 0 (st 5 0 - 1) = true then
    if st 6 x.toNatClampNeg = 0 then
      let s1 := ma (ms st 0 0) 6 x.toNatClampNeg 1
      let more := ptsR s1 x (st 7 x.toNatClampNeg) 3000 nE - ptsR s1 x (st 8 x.toNatClampNeg) 3000 nE
      let wn := if 0 < more then st 7 x.toNatClampNeg else if more < 0 then st 8 x.toNatClampNeg else -1
      (wn, ma s1 9 x.toNatClampNeg wn)
    else (0, ms st 0 2)
  else (0, ms st 0 1)
def strA (st : kM) (x : Int32) (n : Nat) : Nat → Int32 := fun k => if k < n then (if st 25 k = 0 then (if st 21 k = x then 1 else 0) else 1) else st 25 k
def uncA (st : kM) (x : Int32) (n : Nat) : Nat → Int32 := fun k => if k < n then (if st 17 k = x then -1 else st 19 k) else st 19 k
def mreplay (st : kM) (nF nE w : Nat) (x : Int32) : Int32 × kM :=
  if inr x 0 (st 5 0 - 1) = true then
    if st 6 x.toNatClampNeg = 1 ∧ busyR st (st 7 x.toNatClampNeg) nF = 0 ∧ busyR st (st 8 x.toNatClampNeg) nF = 0 ∧ ¬ st 5 0 = 20 then
      (nI nF, mbegin (mf (mf (ma (ma (ms st 0 0) 6 x.toNatClampNeg 2) 9 x.toNatClampNeg (-1)) 25 (strA st x nE)) 19 (uncA st x w)) nF (st 7 x.toNatClampNeg) (st 8 x.toNatClampNeg))
    else (0, ms st 0 2)
  else (0, ms st 0 1)
def mcamera (st : kM) (nC : Nat) (x y : Int32) : Int32 × kM :=
  if inr x 1 60 = true ∧ inr y 0 60 = true then
    if st 10 0 = 6 then (0, ms st 0 2) else (nI nC, ms (ma (ma (ms st 0 0) 11 nC x) 12 nC y) 10 (nI (nC + 1)))
  else (0, ms st 0 1)
def msee (st : kM) : kM := ms st 3 (if st 3 0 < st 1 0 - 1 - st 2 0 then st 1 0 - 1 - st 2 0 else st 3 0)
def mdelay (st : kM) (x : Int32) : Int32 × kM :=
  if inr x 0 100 = true then (st 2 0, msee (ms (ms st 0 0) 2 x)) else (0, ms st 0 1)
def hasR (st : kM) (x f : Int32) : Nat → Int32
  | 0 => 0
  | k + 1 => if hasR st x f k = 0 then (if st 21 k = x then (if st 24 k = f then 1 else 0) else 0) else 1
def sumR (st : kM) (x : Int32) (nE : Nat) : Nat → Int32
  | 0 => st 4 (st 7 x.toNatClampNeg).toNatClampNeg + st 4 (st 8 x.toNatClampNeg).toNatClampNeg
  | t + 1 => sumR st x nE t + (if hasR st x (st 1 0 - 5 + nI t) nE = 0 then 0 else 10)
def mheat (st : kM) (nE : Nat) (x : Int32) : Int32 := sumR st x nE 5
def hotR (st : kM) (nE : Nat) : Nat → Int32
  | 0 => -1
  | k + 1 => if st 6 k = 0 then (if hotR st nE k = -1 then nI k else if mheat st nE (hotR st nE k) < mheat st nE (nI k) then nI k else if mheat st nE (nI k) = mheat st nE (hotR st nE k) then (if nI k = st 16 0 then nI k else hotR st nE k) else hotR st nE k) else hotR st nE k
theorem hotR_r (st : kM) (nE : Nat) : ∀ n, hotR st nE n = -1 ∨ ∃ j, j < n ∧ hotR st nE n = nI j
  | 0 => Or.inl rfl
  | k + 1 => by
    have ih := hotR_r st nE k
    have up : hotR st nE k = -1 ∨ ∃ j, j < k + 1 ∧ hotR st nE k = nI j := by
      rcases ih with h | ⟨j, h1, h2⟩
      · exact Or.inl h
      · exact Or.inr ⟨j, by omega, h2⟩
    rw [hotR]
    split
    · split
      · exact Or.inr ⟨k, by omega, rfl⟩
      · split
        · exact Or.inr ⟨k, by omega, rfl⟩
        · split
          · split
            · exact Or.inr ⟨k, by omega, rfl⟩
            · exact up
          · exact up
    · exact up
def choR (st : kM) (nC : Nat) : Nat → Int32
  | 0 => -1
  | d + 1 => if st 14 (nC - (d + 1)) = 0 then nI (nC - (d + 1)) else choR st nC d
theorem choR_r (st : kM) (nC : Nat) : ∀ d, d ≤ nC → choR st nC d = -1 ∨ ∃ j, j < nC ∧ choR st nC d = nI j
  | 0, _ => Or.inl rfl
  | d + 1, h => by
    rw [choR]
    split
    · exact Or.inr ⟨nC - (d + 1), by omega, rfl⟩
    · exact choR_r st nC d (by omega)
def mcho (st : kM) (nC : Nat) : Int32 := if st 15 0 = -1 then choR st nC nC else if st 14 (st 15 0).toNatClampNeg = 0 then st 15 0 else choR st nC nC
def cntR (f : Nat → Int32) (x : Int32) : Nat → Int32
  | 0 => 0
  | k + 1 => cntR f x k + (if f k = x then 1 else 0)
def mowed (st : kM) (w : Nat) (k : Nat) : Int32 := if st 26 k - cntR (st 19) (nI k) w < 0 then 0 else st 26 k - cntR (st 19) (nI k) w
def spoR (st : kM) (w p1 p2 : Nat) : Nat → Int32
  | 0 => -1
  | k + 1 => if st 27 (10 * k + p1) = 0 ∧ st 27 (10 * k + p2) = 0 then spoR st w p1 p2 k
    else if spoR st w p1 p2 k = -1 then (if 0 < mowed st w k then nI k else spoR st w p1 p2 k)
    else if mowed st w (spoR st w p1 p2 k).toNatClampNeg < mowed st w k then nI k else spoR st w p1 p2 k
theorem spoR_r (st : kM) (w p1 p2 : Nat) : ∀ n, spoR st w p1 p2 n = -1 ∨ ∃ j, j < n ∧ spoR st w p1 p2 n = nI j
  | 0 => Or.inl rfl
  | k + 1 => by
    have ih := spoR_r st w p1 p2 k
    have up : spoR st w p1 p2 k = -1 ∨ ∃ j, j < k + 1 ∧ spoR st w p1 p2 k = nI j := by
      rcases ih with h | ⟨j, h1, h2⟩
      · exact Or.inl h
      · exact Or.inr ⟨j, by omega, h2⟩
    rw [spoR]
    split
    · exact up
    · split
      · split
        · exact Or.inr ⟨k, by omega, rfl⟩
        · exact up
      · split
        · exact Or.inr ⟨k, by omega, rfl⟩
        · exact up
def mspo (st : kM) (w : Nat) (x : Int32) : Int32 := spoR st w (st 7 x.toNatClampNeg).toNatClampNeg (st 8 x.toNatClampNeg).toNatClampNeg 6
/-- a camera's frames in a row, and how many it is off, behind a frame in which 'cam' is on air -/
def inA (st : kM) (cam : Int32) (n : Nat) : Nat → Int32 := fun k => if k < n then (if nI k = cam then st 13 k + 1 else 0) else st 13 k
def offA (st : kM) (cam : Int32) (n : Nat) : Nat → Int32 := fun k => if k < n then (if (if nI k = cam then st 13 k + 1 else 0) = st 11 k then (if 1 < st 12 k then st 12 k else 1) else st 14 k - (if 0 < st 14 k then 1 else 0)) else st 14 k
def mpS (st : kM) (nF nC nE w : Nat) : Int32 × Int32 × kM :=
  let own0 := hotR st nE nF
  let cam := if own0 = -1 then -1 else mcho st nC
  let own := if cam = -1 then -1 else own0
  let s2 := ma (ma st 17 w own) 18 w cam
  (own, cam, ma s2 19 w (if own = -1 then -1 else mspo s2 w own))
def mpasses (st : kM) (nF nC nE w : Nat) : kM :=
  let q := mpS st nF nC nE w
  let s3 := q.2.2
  msee (ms (ms (ms (mf (mf s3 14 (offA s3 q.2.1 nC)) 13 (inA s3 q.2.1 nC)) 16 q.1) 15 q.2.1) 1 (nI (w + 1)))
def passR (st : kM) (nF nC nE w : Nat) : Nat → kM
  | 0 => st
  | i + 1 => mpasses (passR st nF nC nE w i) nF nC nE (w + i)
def mpass (st : kM) (nF nC nE w : Nat) (x : Int32) : Int32 × kM :=
  if inr x 1 200 = true then
    if 3000 < st 1 0 + x then (0, ms st 0 2) else (passR (ms st 0 0) nF nC nE w x.toNatClampNeg 1 0, passR (ms st 0 0) nF nC nE w x.toNatClampNeg)
  else (0, ms st 0 1)
def mblow (st : kM) (nE : Nat) (x y z : Int32) : Int32 × kM :=
  if inr x 0 (st 5 0 - 1) = true ∧ inr y 0 9 = true then
    if inr z 1 9 = true ∧ (st 7 x.toNatClampNeg = y ∨ st 8 x.toNatClampNeg = y) then
      if st 6 x.toNatClampNeg = 0 ∧ ¬ st 20 0 = 80 then
        (nI nE, ms (ma (ma (ma (ma (ms st 0 0) 21 nE x) 22 nE y) 23 nE z) 24 nE (st 1 0)) 20 (nI (nE + 1)))
      else (0, ms st 0 3)
    else (0, ms st 0 2)
  else (0, ms st 0 1)
def mfix (st : kM) (x : Int32) : Int32 := if st 25 x.toNatClampNeg = 0 then (if st 6 (st 21 x.toNatClampNeg).toNatClampNeg = 0 then 0 else 1) else 1
def mstrike (st : kM) (x : Int32) : Int32 × kM :=
  if inr x 0 (st 20 0 - 1) = true then
    if mfix st x = 0 then (st 23 x.toNatClampNeg, ma (ms st 0 0) 25 x.toNatClampNeg 1) else (0, ms st 0 2)
  else (0, ms st 0 1)
def mmend (st : kM) (x y : Int32) : Int32 × kM :=
  if inr x 0 (st 20 0 - 1) = true then
    if inr y 1 9 = true then
      if mfix st x = 0 then (st 23 x.toNatClampNeg, ma (ms st 0 0) 23 x.toNatClampNeg y) else (0, ms st 0 3)
    else (0, ms st 0 2)
  else (0, ms st 0 1)
def mpromise (st : kM) (x y : Int32) : Int32 × kM :=
  if inr x 0 5 = true then
    if inr y 0 1000 = true then (st 26 x.toNatClampNeg, ma (ms st 0 0) 26 x.toNatClampNeg y) else (0, ms st 0 2)
  else (0, ms st 0 1)
def mslot (st : kM) (x y : Int32) : Int32 × kM :=
  if inr x 0 5 = true ∧ inr y 0 9 = true then
    if st 28 0 = 12 then (0, ms st 0 2)
    else if st 27 (10 * x.toNatClampNeg + y.toNatClampNeg) = 0 then
      (st 28 0 + 1, ms (ma (ms st 0 0) 27 (10 * x.toNatClampNeg + y.toNatClampNeg) 1) 28 (st 28 0 + 1))
    else (0, ms st 0 2)
  else (0, ms st 0 1)
def mshown (st : kM) (x y : Int32) : Int32 × kM :=
  if inr x 0 (st 1 0 - 1) = true then
    if inr y 0 2 = true then (if y = 0 then st 17 x.toNatClampNeg else if y = 1 then st 18 x.toNatClampNeg else st 19 x.toNatClampNeg, ms st 0 0) else (0, ms st 0 2)
  else (0, ms st 0 1)
def mpoints (st : kM) (nE : Nat) (x y e : Int32) : Int32 × kM :=
  if inr x 0 (st 5 0 - 1) = true ∧ inr y 0 9 = true then (ptsR (ms st 0 0) x y e nE, ms st 0 0) else (0, ms st 0 1)
def mfightOf (st : kM) (w : Nat) (x y : Int32) : Int32 × kM :=
  if inr x 0 (st 5 0 - 1) = true then
    if inr y 0 4 = true then
      (if y < 4 then (if y = 0 then st 6 x.toNatClampNeg else if y = 1 then st 7 x.toNatClampNeg else if y = 2 then st 8 x.toNatClampNeg else st 9 x.toNatClampNeg) else cntR (st 17) x w, ms st 0 0)
    else (0, ms st 0 2)
  else (0, ms st 0 1)
def mcameraOf (st : kM) (x y : Int32) : Int32 × kM :=
  if inr x 0 (st 10 0 - 1) = true then
    if inr y 0 1 = true then (if y = 0 then st 13 x.toNatClampNeg else st 14 x.toNatClampNeg, ms st 0 0) else (0, ms st 0 2)
  else (0, ms st 0 1)
def mcounted (st : kM) (w : Nat) (x : Int32) : Int32 × kM :=
  if inr x 0 5 = true then (cntR (st 19) x w, ms st 0 0) else (0, ms st 0 1)
def mowedP (st : kM) (w : Nat) (x : Int32) : Int32 × kM :=
  if inr x 0 5 = true then (mowed st w x.toNatClampNeg, ms st 0 0) else (0, ms st 0 1)
def winR (st : kM) (x : Int32) : Nat → Int32
  | 0 => 0
  | k + 1 => winR st x k + (if st 6 k = 1 then (if st 9 k = x then 1 else 0) else 0)
def aheR (st : kM) (nF k : Nat) : Nat → Int32
  | 0 => 0
  | j + 1 => aheR st nF k j + (if winR st (nI k) nF < winR st (nI j) nF then 1 else if winR st (nI j) nF = winR st (nI k) nF then (if nI j < nI k then 1 else 0) else 0)
def leaR (st : kM) (nF : Nat) (x : Int32) : Nat → Int32
  | 0 => 0
  | k + 1 => if aheR st nF k 10 = x then nI k else leaR st nF x k
def mleader (st : kM) (nF : Nat) (x : Int32) : Int32 × kM :=
  if inr x 0 9 = true then (leaR (ms st 0 0) nF x 10, ms st 0 0) else (0, ms st 0 1)
theorem mwf_0 {st : kM} {nF nC nE w : Nat} {v : Int32} (h : mwf st nF nC nE w) : mwf (ms st 0 v) nF nC nE w := h
theorem busyR01 (st : kM) (p : Int32) : ∀ n, busyR st p n = 0 ∨ busyR st p n = 1
  | 0 => Or.inl rfl
  | k + 1 => by
    rw [busyR]
    repeat' split
    all_goals simp
theorem busyR_nar (st : kM) (p : Int32) (n : Nat) : narrow .boolean (.int (busyR st p n)) = .int (busyR st p n) := by
  rcases busyR01 st p n with h | h <;> rw [h] <;> rfl
theorem n20 {nF : Nat} (h : nF ≤ 20) (z : ¬ nI nF = 20) : nF < 20 := by
  rcases Nat.lt_or_ge nF 20 with q | q
  · exact q
  · have : nF = 20 := by omega
    subst this
    exact absurd rfl z
theorem mf_self (st : kM) (k : Nat) (f : Nat → Int32) (h : f = st k) : mf st k f = st := by
  funext j
  by_cases c : j = k
  · subst c; simp [mf, h]
  · simp [mf, c]
theorem ma_mf (st : kM) (k i : Nat) (f : Nat → Int32) (v : Int32) : ma (mf st k f) k i v = mf st k (upd f i v) := by
  funext j
  by_cases c : j = k <;> simp [ma, mf, c]
theorem mf_comm (st : kM) {k l : Nat} (n : k ≠ l) (f g : Nat → Int32) : mf (mf st k f) l g = mf (mf st l g) k f := by
  funext j
  by_cases c : j = k
  · subst c; simp [mf, n]
  · simp [mf, c]
theorem ma_mf_n (st : kM) {k l : Nat} (n : k ≠ l) (i : Nat) (f : Nat → Int32) (v : Int32) : ma (mf st l f) k i v = mf (ma st k i v) l f := by
  funext j
  by_cases c : j = k
  · subst c; simp [ma, mf, n]
  · simp [ma, mf, c]
theorem updA {f g : Nat → Int32} {i : Nat} {v : Int32} (h1 : v = g i) (h2 : ∀ j, j ≠ i → f j = g j) : upd f i v = g := by
  funext j
  by_cases c : j = i
  · subst c; simp [upd, h1]
  · simp [upd, c, h2 j c]
theorem strA_s {st : kM} {x v : Int32} {i : Nat} (hv : v = if st 25 i = 0 then (if st 21 i = x then 1 else 0) else 1) : ma (mf st 25 (strA st x i)) 25 i v = mf st 25 (strA st x (i + 1)) := by
  rw [ma_mf]
  congr 1
  refine updA (by simp [strA, hv]) (fun j hj => ?_)
  by_cases c : j < i
  · have : j < i + 1 := by omega
    simp [strA, c, this]
  · have : ¬ j < i + 1 := by omega
    simp [strA, c, this]
theorem uncA_s {st : kM} {x v : Int32} {i : Nat} (hv : v = if st 17 i = x then -1 else st 19 i) : ma (mf st 19 (uncA st x i)) 19 i v = mf st 19 (uncA st x (i + 1)) := by
  rw [ma_mf]
  congr 1
  refine updA (by simp [uncA, hv]) (fun j hj => ?_)
  by_cases c : j < i
  · have : j < i + 1 := by omega
    simp [uncA, c, this]
  · have : ¬ j < i + 1 := by omega
    simp [uncA, c, this]
theorem kadd {x y : Int32} (h1 : -2147483648 ≤ x.toInt + y.toInt) (h2 : x.toInt + y.toInt < 2147483648) : (x + y).toInt = x.toInt + y.toInt := by
  rw [Int32.toInt_add, Int.bmod_eq_of_le] <;> omega
theorem ksub {x y : Int32} (h1 : -2147483648 ≤ x.toInt - y.toInt) (h2 : x.toInt - y.toInt < 2147483648) : (x - y).toInt = x.toInt - y.toInt := by
  rw [Int32.toInt_sub, Int.bmod_eq_of_le] <;> omega
theorem heat_c {w t : Nat} (hw : w ≤ 3000) (ht : t ≤ 5) : nI w - 5 + nI t < nI w ↔ t < 5 := by
  have e1 : (nI w).toInt = w := nI_toInt (by omega)
  have e2 : (nI t).toInt = t := nI_toInt (by omega)
  have e3 : (5 : Int32).toInt = 5 := rfl
  have e4 : (nI w - 5).toInt = w - 5 := by rw [ksub] <;> omega
  rw [kI_lt, kadd (by omega) (by omega)]
  omega
theorem vp_mono {x : Int32} {a c : Nat} (h : vp_in x a) (hc : a ≤ c) : vp_in x c := by
  rw [vp_in_iff] at h ⊢
  omega
theorem on_vp {x : Int32} {nC : Nat} (h : x = -1 ∨ ∃ c, c < nC ∧ x = nI c) (h6 : nC ≤ 6) (hn : ¬ x = -1) : vp_in x 6 := by
  rcases h with h | ⟨c, h1, h2⟩
  · exact absurd h hn
  · rw [h2]; exact vp_in_nI (by omega) (by decide)
theorem n6 {nC : Nat} (h : nC ≤ 6) (z : ¬ nI nC = 6) : nC < 6 := by
  rcases Nat.lt_or_ge nC 6 with q | q
  · exact q
  · have : nC = 6 := by omega
    subst this
    exact absurd rfl z
theorem n80 {nE : Nat} (h : nE ≤ 80) (z : ¬ nI nE = 80) : nE < 80 := by
  rcases Nat.lt_or_ge nE 80 with q | q
  · exact q
  · have : nE = 80 := by omega
    subst this
    exact absurd rfl z
theorem hot_in {st : kM} {nE i nF : Nat} {v : Int32} (e : v = hotR st nE i) (h : i ≤ nF) (c : ¬ v = -1) : ∃ o, o < nF ∧ v = nI o := by
  rcases hotR_r st nE i with h1 | ⟨j, h1, h3⟩
  · exact absurd (e.trans h1) c
  · exact ⟨j, by omega, e.trans h3⟩
theorem cho_c {nC i : Nat} (h6 : nC ≤ 6) (hi : i ≤ nC) : nI (nC - i) - 1 < 0 ↔ i = nC := by
  have e1 : (nI (nC - i)).toInt = ((nC - i : Nat) : Int) := nI_toInt (by omega)
  have e2 : (1 : Int32).toInt = 1 := rfl
  have e3 : (0 : Int32).toInt = 0 := rfl
  rw [kI_lt, ksub (by omega) (by omega)]
  omega
theorem cho_x {nC i : Nat} (hi : i < nC) : nI (nC - i) - 1 = nI (nC - (i + 1)) := by
  have e : nC - i = (nC - (i + 1)) + 1 := by omega
  rw [e, nI_pred]
theorem spo_in {st : kM} {w p1 p2 i : Nat} {v : Int32} (e : v = spoR st w p1 p2 i) (h : i ≤ 6) (c : ¬ v = -1) : ∃ o, o < 6 ∧ v = nI o := by
  rcases spoR_r st w p1 p2 i with h1 | ⟨j, h1, h3⟩
  · exact absurd (e.trans h1) c
  · exact ⟨j, by omega, e.trans h3⟩
theorem sp_ix {x : Int32} {i p : Nat} (h : x = nI p) : (10 * (nI i)) + x = nI (10 * i + p) := by
  rw [h, show (10 : Int32) = nI 10 from rfl, pk_mul, nI_add]
theorem pas_0 (st : kM) (cam : Int32) : mf (mf st 14 (offA st cam 0)) 13 (inA st cam 0) = st := by
  rw [mf_self _ 13 _ (by funext k; simp [inA, mf]), mf_self _ 14 _ (by funext k; simp [offA])]
theorem inA_s {st : kM} {cam v : Int32} {i : Nat} (hv : v = if nI i = cam then st 13 i + 1 else 0) : upd (inA st cam i) i v = inA st cam (i + 1) := by
  refine updA (by simp [inA, hv]) (fun j hj => ?_)
  by_cases c : j < i
  · have : j < i + 1 := by omega
    simp [inA, c, this]
  · have : ¬ j < i + 1 := by omega
    simp [inA, c, this]
theorem offA_s {st : kM} {cam v : Int32} {i : Nat} (hv : v = if (if nI i = cam then st 13 i + 1 else 0) = st 11 i then (if 1 < st 12 i then st 12 i else 1) else st 14 i - (if 0 < st 14 i then 1 else 0)) : upd (offA st cam i) i v = offA st cam (i + 1) := by
  refine updA (by simp [offA, hv]) (fun j hj => ?_)
  by_cases c : j < i
  · have : j < i + 1 := by omega
    simp [offA, c, this]
  · have : ¬ j < i + 1 := by omega
    simp [offA, c, this]
theorem pas_2 {st : kM} {cam v1 v2 : Int32} {i : Nat} (h1 : v1 = if (if nI i = cam then st 13 i + 1 else 0) = st 11 i then (if 1 < st 12 i then st 12 i else 1) else st 14 i - (if 0 < st 14 i then 1 else 0)) (h2 : v2 = if nI i = cam then st 13 i + 1 else 0) : ma (ma (mf (mf st 14 (offA st cam i)) 13 (inA st cam i)) 14 i v1) 13 i v2 = mf (mf st 14 (offA st cam (i + 1))) 13 (inA st cam (i + 1)) := by
  rw [ma_mf_n _ (by decide), ma_mf, ma_mf, offA_s h1, inA_s h2]
theorem upd2 (f : Nat → Int32) (i : Nat) (a c : Int32) : upd (upd f i a) i c = upd f i c := by
  funext j
  by_cases h : j = i <;> simp [upd, h]
theorem pas_3 {st : kM} {cam v1 v2 v3 : Int32} {i : Nat} (h1 : v3 = if (if nI i = cam then st 13 i + 1 else 0) = st 11 i then (if 1 < st 12 i then st 12 i else 1) else st 14 i - (if 0 < st 14 i then 1 else 0)) (h2 : v2 = if nI i = cam then st 13 i + 1 else 0) : ma (ma (ma (mf (mf st 14 (offA st cam i)) 13 (inA st cam i)) 14 i v1) 13 i v2) 14 i v3 = mf (mf st 14 (offA st cam (i + 1))) 13 (inA st cam (i + 1)) := by
  rw [ma_mf_n _ (by decide), ma_mf, ma_mf, ma_mf_n _ (by decide), ma_mf, upd2, offA_s h1, inA_s h2]
theorem inr_low {x : Int32} {l m : Nat} (hl : l < 2 ^ 31) (hm : m < 2 ^ 31) (h : inr x (nI l) (nI m) = true) : ∃ j, (l ≤ j ∧ j ≤ m) ∧ x = nI j := by
  obtain ⟨h1, h2⟩ := inr_iff.mp h
  have e1 : (nI l).toInt = l := nI_toInt hl
  have e2 : (nI m).toInt = m := nI_toInt hm
  rw [kI_lt] at h1 h2
  obtain ⟨j, rfl, hj, e3⟩ := kI_ex (x := x) (by omega)
  exact ⟨j, by omega, rfl⟩
theorem pass_o {st : kM} {w o : Nat} (hW : st 1 0 = nI w) (hw : w ≤ 3000) (ho : o ≤ 200) (h : ¬ 3000 < st 1 0 + nI o) : w + o ≤ 3000 := by
  rw [hW, nI_add, show (3000 : Int32) = nI 3000 from rfl, nI_ltI (by decide) (by omega)] at h
  omega
theorem mcho_r {st : kM} {nF nC nE w : Nat} (h : mwf st nF nC nE w) : mcho st nC = -1 ∨ ∃ c, c < nC ∧ mcho st nC = nI c := by
  obtain ⟨hF, hF20, hC, hC6, hE, hE80, hW, hW3, hpl, hof, hon, hsl⟩ := h
  unfold mcho
  split
  · exact choR_r st nC nC (Nat.le_refl _)
  · split
    · exact hon
    · exact choR_r st nC nC (Nat.le_refl _)
theorem mpasses_wf {st : kM} {nF nC nE w : Nat} (h : mwf st nF nC nE w) (hw : w < 3000) : mwf (mpasses st nF nC nE w) nF nC nE (w + 1) := by
  have hc := mcho_r h
  obtain ⟨hF, hF20, hC, hC6, hE, hE80, hW, hW3, hpl, hof, hon, hsl⟩ := h
  refine ⟨hF, hF20, hC, hC6, hE, hE80, rfl, hw, hpl, hof, ?_, hsl⟩
  show (mpS st nF nC nE w).2.1 = -1 ∨ ∃ c, c < nC ∧ (mpS st nF nC nE w).2.1 = nI c
  simp only [mpS]
  split
  · exact Or.inl rfl
  · exact hc
theorem passR_wf {st : kM} {nF nC nE w : Nat} (h : mwf st nF nC nE w) : ∀ i, w + i ≤ 3000 → mwf (passR st nF nC nE w i) nF nC nE (w + i)
  | 0, _ => h
  | i + 1, hi => mpasses_wf (passR_wf h i (by omega)) (by omega)
