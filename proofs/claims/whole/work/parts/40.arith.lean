def p_I (k : Int) : Int32 := Int32.ofInt k
def p_J (k : Int) : Int64 := Int64.ofInt k
theorem p_Iadd (a b : Int) : p_I a + p_I b = p_I (a + b) := (Int32.ofInt_add a b).symm
theorem p_Isub (a b : Int) : p_I a - p_I b = p_I (a - b) := (Int32.ofInt_sub a b).symm
theorem p_Imul (a b : Int) : p_I a * p_I b = p_I (a * b) := (Int32.ofInt_mul a b).symm
theorem p_Jadd (a b : Int) : p_J a + p_J b = p_J (a + b) := (Int64.ofInt_add a b).symm
theorem p_Iint {a : Int} (h1 : -2147483648 ≤ a) (h2 : a < 2147483648) : (p_I a).toInt = a := Int32.toInt_ofInt_of_le (by omega) (by omega)
theorem p_Jint {a : Int} (h1 : -9223372036854775808 ≤ a) (h2 : a < 9223372036854775808) : (p_J a).toInt = a := Int64.toInt_ofInt_of_le (by omega) (by omega)
theorem p_Ilt {a b : Int} (h1 : -2147483648 ≤ a) (h2 : a < 2147483648) (h3 : -2147483648 ≤ b) (h4 : b < 2147483648) : (p_I a < p_I b) ↔ a < b := by
  rw [Int32.lt_iff_toInt_lt, p_Iint h1 h2, p_Iint h3 h4]
theorem p_Ile {a b : Int} (h1 : -2147483648 ≤ a) (h2 : a < 2147483648) (h3 : -2147483648 ≤ b) (h4 : b < 2147483648) : (p_I a ≤ p_I b) ↔ a ≤ b := by
  rw [Int32.le_iff_toInt_le, p_Iint h1 h2, p_Iint h3 h4]
theorem p_Ieq {a b : Int} (h1 : -2147483648 ≤ a) (h2 : a < 2147483648) (h3 : -2147483648 ≤ b) (h4 : b < 2147483648) : (p_I a = p_I b) ↔ a = b := by
  constructor
  · intro h
    have := congrArg Int32.toInt h
    rwa [p_Iint h1 h2, p_Iint h3 h4] at this
  · intro h; rw [h]
theorem p_Jlt {a b : Int} (h1 : -4000000000000000000 ≤ a) (h2 : a < 4000000000000000000) (h3 : -4000000000000000000 ≤ b) (h4 : b < 4000000000000000000) : (p_J a < p_J b) ↔ a < b := by
  rw [Int64.lt_iff_toInt_lt, p_Jint (by omega) (by omega), p_Jint (by omega) (by omega)]
theorem p_Jle {a b : Int} (h1 : -4000000000000000000 ≤ a) (h2 : a < 4000000000000000000) (h3 : -4000000000000000000 ≤ b) (h4 : b < 4000000000000000000) : (p_J a ≤ p_J b) ↔ a ≤ b := by
  rw [Int64.le_iff_toInt_le, p_Jint (by omega) (by omega), p_Jint (by omega) (by omega)]
theorem p_Jeq {a b : Int} (h1 : -4000000000000000000 ≤ a) (h2 : a < 4000000000000000000) (h3 : -4000000000000000000 ≤ b) (h4 : b < 4000000000000000000) : (p_J a = p_J b) ↔ a = b := by
  constructor
  · intro h
    have := congrArg Int64.toInt h
    rwa [p_Jint (by omega) (by omega), p_Jint (by omega) (by omega)] at this
  · intro h; rw [h]
theorem p_0 : (0 : Int32) = p_I 0 := by decide
theorem p_1 : (1 : Int32) = p_I 1 := by decide
theorem p_6 : (6 : Int32) = p_I 6 := by decide
theorem p_7 : (7 : Int32) = p_I 7 := by decide
theorem p_8 : (8 : Int32) = p_I 8 := by decide
theorem p_m1 : (-1 : Int32) = p_I (-1) := by decide
theorem p_64 : (64 : Int32) = p_I 64 := by decide
theorem p_512 : (512 : Int32) = p_I 512 := by decide
theorem p_J0 : (0 : Int64) = p_J 0 := by decide
theorem p_Jm1 : (-1 : Int64) = p_J (-1) := by decide
theorem p_ix (k : Nat) (h : k < 2147483648) : Int32.toNatClampNeg (p_I k) = k := by
  unfold p_I
  rw [Int32.toNatClampNeg_ofInt_of_le (by omega) (by omega)]
  omega
theorem p_in {k n : Nat} (h : k < n) (hk : k < 2147483648) : ¬ (p_I k < 0 ∨ n ≤ Int32.toNatClampNeg (p_I k)) := by
  rw [p_ix k hk, p_0, p_Ilt (by omega) (by omega) (by omega) (by omega)]
  omega
theorem p_up (k : Nat) : p_I k + 1 = p_I ((k + 1 : Nat) : Int) := by
  rw [p_1, p_Iadd]; rfl
theorem p_cell (a l b : Nat) : (p_I a * 64 + p_I l) * 8 + p_I b = p_I (((a * 64 + l) * 8 + b : Nat) : Int) := by
  rw [p_64, p_8, p_Imul, p_Iadd, p_Imul, p_Iadd]; congr 1
theorem p_cell0 (a l : Nat) : (p_I a * 64 + p_I l) * 8 = p_I (((a * 64 + l) * 8 : Nat) : Int) := by
  rw [p_64, p_8, p_Imul, p_Iadd, p_Imul]; congr 1
theorem p_addN (a b : Nat) : p_I a + p_I b = p_I ((a + b : Nat) : Int) := by
  rw [p_Iadd]; rfl
theorem p_pair (a b : Nat) : p_I a * 8 + p_I b = p_I ((a * 8 + b : Nat) : Int) := by
  rw [p_8, p_Imul, p_Iadd]; congr 1
theorem p_bit : ∀ k : Nat, k < 8 → (1 : Int32) <<< (p_I k &&& 31) = p_I ((2 ^ k : Nat) : Int) := by decide +kernel
theorem p_has : ∀ s : Nat, s < 64 → ∀ k : Nat, k < 8 → ((p_I s &&& p_I ((2 ^ k : Nat) : Int)) = 0 ↔ Nat.testBit s k = false) := by decide +kernel
theorem p_cl : ∀ s : Nat, s < 64 → ∀ k : Nat, k < 6 → Nat.testBit s k = true → (p_I s &&& (p_I ((2 ^ k : Nat) : Int) ^^^ (-1))) = p_I ((s - 2 ^ k : Nat) : Int) := by decide +kernel
theorem p_or : ∀ s : Nat, s < 64 → ∀ k : Nat, k < 6 → (p_I s ||| p_I ((2 ^ k : Nat) : Int)) = p_I ((s ||| 2 ^ k : Nat) : Int) := by decide +kernel
theorem p_and : ∀ s : Nat, s < 64 → ∀ t : Nat, t < 64 → (p_I s &&& p_I t) = p_I ((s &&& t : Nat) : Int) := by decide +kernel
theorem p_dif : ∀ s : Nat, s < 64 → ∀ t : Nat, t < 64 → (p_I s &&& (p_I t ^^^ (-1))) = p_I ((s &&& (63 ^^^ t) : Nat) : Int) := by decide +kernel
theorem p_u {f : Nat → Int32} {k j : Nat} {x : Int32} : upd f k x j = if j = k then x else f j := rfl
theorem p_uL {f : Nat → Int64} {k j : Nat} {x : Int64} : vp_updL f k x j = if j = k then x else f j := rfl
theorem p_b1 : ∀ s : Nat, s < 64 → ∀ k : Nat, k < 6 → Nat.testBit s k = true → 2 ^ k ≤ s ∧ Nat.testBit (s - 2 ^ k) k = false ∧ ∀ j : Nat, j < 6 → Nat.testBit s j = (Nat.testBit (s - 2 ^ k) j || j == k) := by decide +kernel
theorem p_b2 : ∀ s : Nat, s < 64 → ∀ k : Nat, k < 6 → Nat.testBit s k = false → s + 2 ^ k < 64 ∧ s ||| 2 ^ k = s + 2 ^ k ∧ Nat.testBit (s + 2 ^ k) k = true := by decide +kernel
theorem p_b3a : ∀ e : Nat, e < 64 → ∀ u : Nat, u < 64 → ∀ k : Nat, k < 6 → Nat.testBit e k = false → (((e + 2 ^ k) &&& u) = 0 ↔ (Nat.testBit u k = false ∧ (e &&& (u ||| 2 ^ k)) = 0)) := by decide +kernel
theorem p_b3b : ∀ e : Nat, e < 64 → ∀ u : Nat, u < 64 → ∀ k : Nat, k < 6 → Nat.testBit e k = false → Nat.testBit u k = false → (e + 2 ^ k) ||| u = e ||| (u ||| 2 ^ k) := by decide +kernel
theorem p_lt64 : ∀ s : Nat, s < 64 → ∀ t : Nat, t < 64 → s ||| t < 64 ∧ s &&& t < 64 ∧ s &&& (63 ^^^ t) < 64 := by decide +kernel
theorem p_pw : ∀ k : Nat, k < 6 → 2 ^ k < 64 := by decide +kernel
theorem p_b4 : ∀ s : Nat, s < 64 → ∀ n : Nat, n < 7 → s < 2 ^ n → ∀ k : Nat, k < 6 → Nat.testBit s k = true → k < n := by decide +kernel

def p_sum (g : Nat → Int) (s : Nat) : Int := (if Nat.testBit s 0 then g 0 else 0) + (if Nat.testBit s 1 then g 1 else 0) + (if Nat.testBit s 2 then g 2 else 0) + (if Nat.testBit s 3 then g 3 else 0) + (if Nat.testBit s 4 then g 4 else 0) + (if Nat.testBit s 5 then g 5 else 0)
theorem p_six {k : Nat} (h : k < 6) : k = 0 ∨ k = 1 ∨ k = 2 ∨ k = 3 ∨ k = 4 ∨ k = 5 := by omega
theorem p_sum_cl (g : Nat → Int) {s k : Nat} (hs : s < 64) (hk : k < 6) (hb : Nat.testBit s k = true) : p_sum g s = p_sum g (s - 2 ^ k) + g k := by
  obtain ⟨-, h1, h2⟩ := p_b1 s hs k hk hb
  unfold p_sum
  rw [h2 0 (by omega), h2 1 (by omega), h2 2 (by omega), h2 3 (by omega), h2 4 (by omega), h2 5 (by omega)]
  rcases p_six hk with rfl | rfl | rfl | rfl | rfl | rfl <;> rw [h1] <;> simp <;> omega
theorem p_sum_0 (g : Nat → Int) : p_sum g 0 = 0 := by simp [p_sum]
theorem p_sum_nn (g : Nat → Int) (hg : ∀ k, 0 ≤ g k) (s : Nat) : 0 ≤ p_sum g s := by
  have h0 := hg 0
  have h1 := hg 1
  have h2 := hg 2
  have h3 := hg 3
  have h4 := hg 4
  have h5 := hg 5
  unfold p_sum
  repeat' split
  all_goals omega
theorem p_sum_le (g : Nat → Int) (M : Int) (hM : 0 ≤ M) (hg : ∀ k, g k ≤ M) (s : Nat) : p_sum g s ≤ 6 * M := by
  have h0 := hg 0
  have h1 := hg 1
  have h2 := hg 2
  have h3 := hg 3
  have h4 := hg 4
  have h5 := hg 5
  unfold p_sum
  repeat' split
  all_goals omega
theorem p_b5 : ∀ s : Nat, s < 64 → ∀ n : Nat, n < 7 → ∀ k : Nat, k < n → Nat.testBit s k = true → s - 2 ^ k < 2 ^ n → s < 2 ^ n := by decide +kernel
theorem p_s64 {s : Nat} (k : Nat) (h : s < 64) : s - 2 ^ k < 64 := Nat.lt_of_le_of_lt (Nat.sub_le _ _) h
theorem p_inx {k n : Nat} (h : k < n) (hk : k < 2147483648) : ¬ (p_I k < 0 ∨ n ≤ k) := by
  rw [p_0, p_Ilt (by omega) (by omega) (by omega) (by omega)]
  omega
