-- the class's answers as functions of ints and longs: small ones, and a Cell's
def m_in (v lo hi : Int64) : Int32 := if v < lo then 0 else if hi < v then 0 else 1
def m_abs (x : Int32) : Int32 := if 0 ≤ x then x else 0 - x
def m_max (x y : Int32) : Int32 := if x < y then y else x
def m_min (x y : Int32) : Int32 := if y < x then y else x
def m_maxL (x y : Int64) : Int64 := if y < x then x else y
def m_minL (x y : Int64) : Int64 := if y < x then y else x
def m_floorDiv (x y : Int64) : Int64 := if 0 ≤ x ^^^ y then x / y else if (x / y) * y = x then x / y else (x / y) - 1
def m_gcd : Nat → Int32 → Int32 → Int32
  | 0, g, _ => g
  | n + 1, g, b => if b = 0 then g else m_gcd n b (g - g / b * b)
theorem m_gcd_end {n : Nat} {g b : Int32} (h : n = 0) : m_gcd n g b = g := by subst h; rfl
theorem m_gcd_z {n : Nat} {g b : Int32} (h : b = 0) : m_gcd n g b = g := by
  cases n with
  | zero => rfl
  | succ n => rw [m_gcd, if_pos h]
theorem ix_nge {i k : Nat} (h : ¬ nI k ≤ nI i) (hk : k < 2 ^ 31 := by decide) (hi : i < 2 ^ 31 := by omega) : i < k := by
  rcases Nat.lt_or_ge i k with q | q
  · exact q
  · exact absurd (nI_le q hi) h
theorem m_gcd_s {i : Nat} {g b : Int32} (hi : i < 64) (h : ¬ b = 0) : m_gcd (64 - i) g b = m_gcd (64 - (i + 1)) b (g - g / b * b) := by
  rw [show 64 - i = (64 - (i + 1)) + 1 by omega, m_gcd, if_neg h]
def m_partOf (x y k : Int32) : Int32 := if m_gcd 64 x y = 0 ∨ m_in k.toInt64 0 1 = 0 then -1 else if k = 0 then x / m_gcd 64 x y else y / m_gcd 64 x y
def m_open (st rs : Int32) : Int32 := if st = 0 ∨ rs = 0 then 1 else 0
def m_hasLoss (rs : Int32) : Int32 := if rs ≤ 1 then 0 else 1
def m_hasRes (ac : Int32) : Int32 := if ac ≤ 0 then 0 else 1
def m_uns (st sv rs rv : Int32) : Int32 := if (¬ rs ≤ 0 ∧ m_in rv.toInt64 1000 4500 = 0) ∨ (¬ st ≤ 0 ∧ ¬ sv ≤ 5000) then 1 else 0
abbrev CeT : Type := Int32 × Int32 × Int64 × Int32 × Int32 × Int32 × Int32 × Int32 × Int32 × Int32 × Int32 × Int32
def m_addStep (f0 f1 : Int32) (f2 : Int64) (f3 f4 f5 f6 f7 f8 f9 f10 f11 p0 p1 p2 : Int32) : Int32 × CeT :=
  if 30 ≤ f1 ∨ m_in p0.toInt64 1 100000 = 0 ∨ m_in p1.toInt64 (-100000) 100000 = 0 ∨ m_in p2.toInt64 0 10000 = 0 then (0, f0, f1, f2, f3, f4, f5, f6, f7, f8, f9, f10, f11)
  else (1, f0, f1 + 1, f2 + p0.toInt64 * p1.toInt64, p1, p2, if f1 ≤ 0 ∨ p1 = f3 then f5 else m_abs (p2 - f4), if f1 ≤ 0 ∨ p1 = f3 then f6 else m_abs (p1 - f3), f7, f8, f9, f10, f11)
def m_addRest (f0 f1 : Int32) (f2 : Int64) (f3 f4 f5 f6 f7 f8 f9 f10 f11 p0 p1 : Int32) : Int32 × CeT :=
  if 10 ≤ f7 ∨ m_in p0.toInt64 0 100000 = 0 ∨ m_in p1.toInt64 0 10000 = 0 ∨ (¬ f7 ≤ 0 ∧ p0 ≤ f10) then (0, f0, f1, f2, f3, f4, f5, f6, f7, f8, f9, f10, f11)
  else (1, f0, f1, f2, f3, f4, f5, f6, f7 + 1, if f7 = 0 then p0 else f8, if f7 = 0 then p1 else f9, p0, p1)
