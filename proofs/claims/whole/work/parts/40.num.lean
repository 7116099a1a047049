/-! PURE ROWS: numbers, counts, the functions that the methods compute -/
theorem n5 : (5 : Int32) = nI 5 := rfl
theorem i0 : (0 : Int32) = nI 0 := rfl
theorem i1 : (1 : Int32) = nI 1 := rfl
theorem i3 : (3 : Int32) = nI 3 := rfl
theorem i4 : (4 : Int32) = nI 4 := rfl
theorem i6 : (6 : Int32) = nI 6 := rfl
theorem clN {n : Nat} (h : n < 2147483648) : (nI n).toNatClampNeg = n := nI_clamp h
theorem ix5 (a b : Nat) : nI a * 5 + nI b = nI (a * 5 + b) := by rw [n5, pk_mul, nI_add]
theorem ix5' (a b : Nat) : 5 * nI a + nI b = nI (a * 5 + b) := by rw [n5, pk_mul, nI_add, Nat.mul_comm]
theorem ix4 (a b : Nat) : nI a * 4 + nI b = nI (a * 4 + b) := by rw [i4, pk_mul, nI_add]
theorem ix4' (a b : Nat) : 4 * nI a + nI b = nI (a * 4 + b) := by rw [i4, pk_mul, nI_add, Nat.mul_comm]
theorem ix6' (a b : Nat) : 6 * nI a + nI b = nI (6 * a + b) := by rw [i6, pk_mul, nI_add]
/-- a loop's test: the counter against a bound -/
theorem leN {a b : Nat} (ha : a < 2147483648) (hb : b < 2147483648) : nI a ≤ nI b ↔ a ≤ b := nI_leI ha hb
theorem ltN {a b : Nat} (ha : a < 2147483648) (hb : b < 2147483648) : nI a < nI b ↔ a < b := nI_ltI ha hb
theorem eqN {a b : Nat} (ha : a < 2147483648) (hb : b < 2147483648) : nI a = nI b ↔ a = b := nI_eq ha hb
theorem inN {a N : Nat} (h : a < N) (hN : N < 2147483648) : vp_in (nI a) N := vp_in_nI h hN
def bI (b : Bool) : Int32 := if b = true then 1 else 0
theorem bI_0 (b : Bool) : bI b = 0 ↔ b = false := by cases b <;> simp [bI] <;> decide
theorem bI_nb (b : Bool) : narrow .boolean (.int (bI b)) = .int (bI b) := by cases b <;> decide
/-- how many below n -/
def ct (p : Nat → Bool) : Nat → Nat
  | 0 => 0
  | n + 1 => ct p n + (if p n = true then 1 else 0)
theorem ct_le (p : Nat → Bool) : ∀ n, ct p n ≤ n
  | 0 => Nat.le_refl 0
  | n + 1 => by
    have h := ct_le p n
    unfold ct
    split <;> omega
theorem uA_self (w : St) (k : Nat) : uA w k (w.1 k) = w := by
  unfold uA
  refine Prod.ext ?_ rfl
  funext j
  by_cases h : j = k <;> simp [h]
theorem uA_same (w : St) (k : Nat) (f : Nat → Int32) : (uA w k f).1 k = f := by simp [uA]
theorem uA_ne (w : St) {k j : Nat} (f : Nat → Int32) (h : j ≠ k) : (uA w k f).1 j = w.1 j := by simp [uA, h]
theorem uA_2 (w : St) (k : Nat) (f : Nat → Int32) : (uA w k f).2 = w.2 := rfl
theorem uA_uA (w : St) (k : Nat) (f g : Nat → Int32) : uA (uA w k f) k g = uA w k g := by
  unfold uA
  refine Prod.ext ?_ rfl
  funext j
  by_cases h : j = k <;> simp [h]
/-! members -/
def rch (dn cu : Nat → Int32) (a b : Nat) : Bool := decide (dn a = 0) && (decide (dn b = 0) && decide (cu (a * 5 + b) = 0))
def gtr (dn cu tm : Nat → Int32) (a : Nat) : Nat → Int32
  | 0 => tm a
  | k + 1 => if rch dn cu a k = true ∧ gtr dn cu tm a k < tm k then tm k else gtr dn cu tm a k
def spr (dn cu : Nat → Int32) (a : Nat) (tm : Nat → Int32) : Nat → (Nat → Int32)
  | 0 => tm
  | k + 1 => if rch dn cu a k = true then upd (spr dn cu a tm k) k (spr dn cu a tm k a) else spr dn cu a tm k
def vtT (dn cu : Nat → Int32) (a : Nat) (nx : Int32) (tm : Nat → Int32) : Nat → (Nat → Int32)
  | 0 => tm
  | k + 1 => if rch dn cu a k = true ∧ vtT dn cu a nx tm k k < nx then upd (vtT dn cu a nx tm k) k nx else vtT dn cu a nx tm k
def vtN (dn cu kn : Nat → Int32) (a : Nat) (nx : Int32) (tm : Nat → Int32) : Nat → Nat
  | 0 => 1
  | k + 1 => if (rch dn cu a k = true ∧ vtT dn cu a nx tm k k < nx) ∧ kn k ≤ kn a then vtN dn cu kn a nx tm k + 1 else vtN dn cu kn a nx tm k
def tch (dn cu : Nat → Int32) (a : Nat) (c : Int32) (kn : Nat → Int32) : Nat → (Nat → Int32)
  | 0 => kn
  | k + 1 => if rch dn cu a k = true then upd (tch dn cu a c kn k) k c else tch dn cu a c kn k
/-- what asking a leader brings: the answer, the terms -/
def csR (dn cu tm : Nat → Int32) (a : Nat) : Int32 := if tm a < gtr dn cu tm a 5 then 116 else if ct (rch dn cu a) 5 < 3 then 110 else 103
def csT (dn cu tm : Nat → Int32) (a : Nat) : Nat → Int32 := if tm a < gtr dn cu tm a 5 then upd tm a (gtr dn cu tm a 5) else if ct (rch dn cu a) 5 < 3 then tm else spr dn cu a tm 5
