/-! what the reference's methods compute, in its own order, over its state -/
def inr (v a c : Int32) : Bool := !(decide (v < a)) && !(decide (c < v))
theorem inr_t {v a c : Int32} (h1 : ¬ v < a) (h2 : ¬ c < v) : inr v a c = true := by simp [inr, h1, h2]
theorem inr_f1 {v a c : Int32} (h1 : v < a) : inr v a c = false := by simp [inr, h1]
theorem inr_f2 {v a c : Int32} (h1 : c < v) : inr v a c = false := by simp [inr, h1]
theorem inr_iff {v a c : Int32} : inr v a c = true ↔ ¬ v < a ∧ ¬ c < v := by simp [inr]
theorem kI_lt {a b : Int32} : a < b ↔ a.toInt < b.toInt := Int32.lt_iff_toInt_lt
theorem kI_eq {a b : Int32} : a = b ↔ a.toInt = b.toInt := Int32.toInt_inj.symm
theorem kI_ex {x : Int32} (h : 0 ≤ x.toInt) : ∃ j : Nat, x = nI j ∧ j < 2 ^ 31 ∧ x.toInt = j := by
  have h0 : ¬ x < 0 := by rw [kI_lt, show (0 : Int32).toInt = 0 from rfl]; omega
  obtain ⟨j, hj, rfl⟩ := nI_of h0
  exact ⟨j, rfl, hj, nI_toInt hj⟩
theorem inr_nat {x : Int32} {m : Nat} (hm : m < 2 ^ 31) (h : inr x 0 (nI m) = true) : ∃ j, j ≤ m ∧ x = nI j := by
  obtain ⟨h1, h2⟩ := inr_iff.mp h
  obtain ⟨j, hj, rfl⟩ := nI_of h1
  rw [nI_ltI hm hj] at h2
  exact ⟨j, by omega, rfl⟩
theorem inr_pred {x : Int32} {m : Nat} (hm : m < 2 ^ 31) (h : inr x 0 (nI m - 1) = true) : ∃ j, j < m ∧ x = nI j := by
  cases m with
  | zero =>
    obtain ⟨h1, h2⟩ := inr_iff.mp h
    have e : nI 0 - 1 = (-1 : Int32) := by decide
    rw [e] at h2
    rw [kI_lt] at h1 h2
    rw [show (0 : Int32).toInt = 0 from rfl] at h1
    rw [show (-1 : Int32).toInt = -1 from rfl] at h2
    omega
  | succ m =>
    rw [nI_pred] at h
    obtain ⟨j, hj, rfl⟩ := inr_nat (by omega) h
    exact ⟨j, by omega, rfl⟩
def mf (st : kM) (k : Nat) (f : Nat → Int32) : kM := fun j => if j = k then f else st j
/-- the reference's state: its counts, and what its indices are -/
def mwf (st : kM) (nF nC nE w : Nat) : Prop := st 5 0 = nI nF ∧ nF ≤ 20 ∧ st 10 0 = nI nC ∧ nC ≤ 6 ∧ st 20 0 = nI nE ∧ nE ≤ 80 ∧ st 1 0 = nI w ∧ w ≤ 3000 ∧ (∀ k, k < nF → vp_in (st 7 k) 10 ∧ vp_in (st 8 k) 10) ∧ (∀ k, k < nE → vp_in (st 21 k) nF) ∧ (st 15 0 = -1 ∨ ∃ c, c < nC ∧ st 15 0 = nI c) ∧ ∃ t, t ≤ 12 ∧ st 28 0 = nI t
abbrev kR2 (r : Int32) (c : Bool) : Prop := (c = true ∧ r = 1) ∨ (c = false ∧ r = 0)
def mrank (st : kM) (x y : Int32) : Int32 × kM :=
  if inr x 0 9 = true then
    if inr y 0 99 = true then (st 4 x.toNatClampNeg, ma (ms st 0 0) 4 x.toNatClampNeg y) else (0, ms st 0 2)
  else (0, ms st 0 1)
def busyR (st : kM) (p : Int32) : Nat → Int32
  | 0 => 0
  | i + 1 => if busyR st p i = 0 then (if st 6 i = 0 then (if st 7 i = p then 1 else if st 8 i = p then 1 else 0) else 0) else 1
def mbegin (st : kM) (nF : Nat) (x y : Int32) : kM := ms (ma (ma (ma st 7 nF x) 8 nF y) 9 nF (-1)) 5 (nI (nF + 1))
def mfight (st : kM) (nF : Nat) (x y : Int32) : Int32 × kM :=
  if inr x 0 9 = true ∧ inr y 0 9 = true then
    if x = y then (0, ms st 0 2)
    else if busyR st x nF = 0 ∧ busyR st y nF = 0 ∧ ¬ st 5 0 = 20 then (nI nF, mbegin (ms st 0 0) nF x y)
    else (0, ms st 0 3)
  else (0, ms st 0 1)
def ptsR (st : kM) (f p e : Int32) : Nat → Int32
  | 0 => 0
  | k + 1 => ptsR st f p e k + (if st 21 k = f then (if st 22 k = p then (if st 25 k = 0 then (if e < st 24 k then 0 else st 23 k) else 0) else 0) else 0)
