/-! PURE: towers. -/
def tw_F (n : Nat) : Nat := ([0, 1, 3, 5, 9, 13, 17, 25, 33, 41, 49, 65, 81, 97, 113, 129, 161, 193, 225, 257, 289, 321, 385, 449, 513, 577, 641, 705, 769, 897, 1025, 1153, 1281, 1409, 1537, 1665, 1793, 2049, 2305, 2561, 2817] : List Nat).getD n 0
def tw_K (n : Nat) : Nat := ([0, 0, 0, 1, 1, 2, 3, 3, 4, 5, 6, 6, 7, 8, 9, 10, 10, 11, 12, 13, 14, 15, 15, 16, 17, 18, 19, 20, 21, 21, 22, 23, 24, 25, 26, 27, 28, 28, 29, 30, 31] : List Nat).getD n 0
/-- the least so far of 2 * F j + three (n - j), j < k, and the first j that has it -/
def tw_in (n : Nat) : Nat → Nat × Nat
  | 0 => (9223372036854775807, 0)
  | k + 1 => if 2 * tw_F k + (2 ^ (n - k) - 1) < (tw_in n k).1 then (2 * tw_F k + (2 ^ (n - k) - 1), k) else tw_in n k
theorem tw_in_ok : ∀ n : Nat, n < 41 → 1 ≤ n → tw_in n n = (tw_F n, tw_K n) := by decide +kernel
theorem tw_in_lt : ∀ n : Nat, n < 41 → ∀ k : Nat, k < 41 → (tw_in n k).1 < 9223372036854775808 ∧ (tw_in n k).2 < 41 := by decide +kernel
theorem tw_c_lt : ∀ n : Nat, n < 41 → ∀ k : Nat, k < 41 → 2 * tw_F k + (2 ^ (n - k) - 1) < 4611686018427387904 := by decide +kernel
theorem tw_F_lt : ∀ n : Nat, n < 41 → tw_F n < 1000000 ∧ tw_K n ≤ n ∧ (1 ≤ n → tw_K n < n) := by decide +kernel
theorem tw_th : ∀ n : Nat, n < 63 → ((1 : Int64) <<< ((nI n).toInt64 &&& 63)) - 1 = lN (2 ^ n - 1) := by decide +kernel
def tw_M (pg ds : Nat) : Nat := if pg = 3 then 2 ^ ds - 1 else tw_F ds
def tw_les (a b : Nat) : Nat := if a = 0 ∨ b = 0 then (if a = 1 ∨ b = 1 then 2 else 1) else 0
def tw_three (what : Int32) (low : Nat) : Nat → Nat → Int32 → Int32 → Int32 → Int32
  | 0, _, _, _, _ => -1
  | n + 1, rest, f, t, d => if rest = 2 ^ n - 1 then (if what = 0 then nI (low + n) else if what = 1 then f else t) else if rest < 2 ^ n - 1 then tw_three what low n rest f d t else tw_three what low n (rest - (2 ^ n - 1 + 1)) d t f
def tw_four (what : Int32) : Nat → Nat → Nat → Nat → Nat → Int32
  | 0, _, _, _, _ => -1
  | f + 1, n, rest, fr, to => if n = 0 then -1 else if rest < tw_F (tw_K n) then tw_four what f (tw_K n) rest fr (tw_les fr to) else if rest - tw_F (tw_K n) < 2 ^ (n - tw_K n) - 1 then tw_three what (tw_K n) (n - tw_K n) (rest - tw_F (tw_K n)) (nI fr) (nI to) (nI (6 - fr - to - tw_les fr to)) else tw_four what f (tw_K n) (rest - tw_F (tw_K n) - (2 ^ (n - tw_K n) - 1)) (tw_les fr to) to
theorem tw_lesE : ∀ a : Nat, a < 4 → ∀ b : Nat, b < 4 → tw_les a b < 3 := by decide +kernel
theorem tw_six : ∀ a : Nat, a < 4 → ∀ b : Nat, b < 4 → a ≠ b → tw_les a b ≠ a ∧ tw_les a b ≠ b ∧ (6 : Int32) - nI a - nI b - nI (tw_les a b) = nI (6 - a - b - tw_les a b) := by decide +kernel
theorem tw_pow {n : Nat} (h : n < 41) : 2 ^ n ≤ 1099511627776 := Nat.le_trans (Nat.pow_le_pow_right (by decide) (show n ≤ 40 by omega)) (by decide)
def tw_tell (pg ds rest : Nat) (wh : Int32) : Int32 := if rest < tw_M pg ds ∧ ¬ wh < 0 ∧ wh ≤ 2 then (if pg = 3 then tw_three wh 0 ds rest 0 1 2 else tw_four wh 40 ds rest 0 1) else -1
theorem tw_M_lt {pg ds : Nat} (hd : ds ≤ 40) : tw_M pg ds < 4611686018427387904 := by
  unfold tw_M
  have h1 := tw_pow (n := ds) (by omega)
  have h2 := (tw_F_lt ds (by omega)).1
  split <;> omega
def wg_h (k : Nat) : Nat → Nat → Nat
  | 0, i => i
  | f + 1, i => if 3 ^ i < k then wg_h k f (i + 1) else i
def wg_e : Nat → Nat
  | 0 => 3
  | j + 1 => wg_e j * 3 + 3
def wg_o (k : Nat) : Nat → Nat → Nat
  | 0, j => j + 2
  | f + 1, j => if wg_e j < k then wg_o k f (j + 1) else j + 2
/-- the tries for n coins of a kind -/
def wg (n : Nat) (kind : Int32) : Int32 := if kind = 0 then nI (wg_h n 3 0) else if kind = 1 then (if n < 3 then -1 else nI (wg_o n 2 0)) else -2
def rg (n : Nat) : Nat := 2 * 2 ^ n / 3
theorem rg_E : ∀ n : Nat, n < 61 → ((2 : Int64) <<< ((nI n).toInt64 &&& 63)) / 3 = lN (rg n) ∧ rg n < 4611686018427387904 := by decide +kernel
theorem rg_gray {a : Nat} (h : a < 4611686018427387904) : lN a ^^^ (lN a >>> ((1 : Int32).toInt64 &&& 63)) = lN (a ^^^ (a / 2)) := by
  have e1 : lN a >>> ((1 : Int32).toInt64 &&& 63) = lN (a / 2) := by
    apply Int64.toInt_inj.mp
    have e : (lN a >>> ((1 : Int32).toInt64 &&& 63)).toInt = (lN a).toInt >>> 1 := by
      rw [← (show ((((1 : Int32).toInt64 &&& 63)).toBitVec.smod 64).toNat = 1 by decide)]
      exact BitVec.toInt_sshiftRight ..
    rw [e, Int.shiftRight_eq_div_pow, pk_lT (by omega), pk_lT (by omega)]
    rfl
  rw [e1]
  apply Int64.toBitVec_inj.mp
  simp only [lN, Int64.toBitVec_xor, Int64.toBitVec_ofNat', Int64.toBitVec_ofNat]
  apply BitVec.eq_of_toNat_eq
  simp only [BitVec.toNat_xor, BitVec.toNat_ofNat]
  rw [Nat.xor_mod_two_pow]
