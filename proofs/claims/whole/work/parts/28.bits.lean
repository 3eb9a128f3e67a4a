/-! ===== bits ===== -/
theorem nI_and (a b : Nat) : nI a &&& nI b = nI (a &&& b) := by
  apply Int32.toBitVec_inj.mp
  show (nI a).toBitVec &&& (nI b).toBitVec = (nI (a &&& b)).toBitVec
  show BitVec.ofNat 32 a &&& BitVec.ofNat 32 b = BitVec.ofNat 32 (a &&& b)
  apply BitVec.eq_of_toNat_eq
  rw [BitVec.toNat_and, BitVec.toNat_ofNat, BitVec.toNat_ofNat, BitVec.toNat_ofNat, Nat.and_mod_two_pow]
theorem nI_or (a b : Nat) : nI a ||| nI b = nI (a ||| b) := by
  apply Int32.toBitVec_inj.mp
  show BitVec.ofNat 32 a ||| BitVec.ofNat 32 b = BitVec.ofNat 32 (a ||| b)
  apply BitVec.eq_of_toNat_eq
  rw [BitVec.toNat_or, BitVec.toNat_ofNat, BitVec.toNat_ofNat, BitVec.toNat_ofNat, Nat.or_mod_two_pow]
theorem and_split {x y m n : Nat} (hx : x < 256) (hm : m < 256) : (256 * y + x) &&& (256 * n + m) = 256 * (y &&& n) + (x &&& m) := by
  apply Nat.eq_of_testBit_eq
  intro i
  have h1 : x &&& m < 2 ^ 8 := Nat.lt_of_le_of_lt Nat.and_le_left hx
  rw [Nat.testBit_and, show (256 : Nat) = 2 ^ 8 from rfl, Nat.testBit_two_pow_mul_add y (show x < 2 ^ 8 from hx) i, Nat.testBit_two_pow_mul_add n (show m < 2 ^ 8 from hm) i, Nat.testBit_two_pow_mul_add (y &&& n) h1 i]
  split
  · rw [Nat.testBit_and]
  · rw [Nat.testBit_and]
def f1 (a : Nat) : Nat := a / 2 &&& 85
def f2 (a : Nat) : Nat := (a - f1 a &&& 51) + ((a - f1 a) / 4 &&& 51)
def f3 (a : Nat) : Nat := (f2 a + f2 a / 16) &&& 15
theorem byte1 : ∀ a, a < 256 → ∀ e, e < 2 → (a / 2 + 128 * e) &&& 85 = f1 a := by decide +kernel
theorem byte2 : ∀ a, a < 256 → f1 a ≤ a ∧ ∀ e, e < 4 → ((a - f1 a) / 4 + 64 * e) &&& 51 = (a - f1 a) / 4 &&& 51 := by decide +kernel
theorem byte3 : ∀ a, a < 256 → f2 a ≤ 68 ∧ ∀ e, e < 5 → (f2 a + f2 a / 16 + 16 * e) &&& 15 = f3 a := by decide +kernel
theorem byte4 : ∀ a, a < 256 → f2 a % 16 < 5 ∧ f3 a = a % 2 + a / 2 % 2 + a / 4 % 2 + a / 8 % 2 + a / 16 % 2 + a / 32 % 2 + a / 64 % 2 + a / 128 % 2 := by decide +kernel
def bcN (M : Nat) : Nat :=
  let i1 := M - (M / 2 &&& 1431655765)
  let i2 := (i1 &&& 858993459) + (i1 / 4 &&& 858993459)
  let i3 := (i2 + i2 / 16) &&& 252645135
  let i4 := i3 + i3 / 256
  let i5 := i4 + i4 / 65536
  i5 &&& 63
theorem and3 {a b c m : Nat} (ha : a < 256) (hb : b < 256) (hm : m < 256) : (a + 256 * (b + 256 * c)) &&& (m + 256 * (m + 256 * (m + 256 * m))) = (a &&& m) + 256 * ((b &&& m) + 256 * (c &&& (m + 256 * m))) := by
  have h1 := and_split (x := a) (y := b + 256 * c) (m := m) (n := m + 256 * (m + 256 * m)) ha hm
  have h2 := and_split (x := b) (y := c) (m := m) (n := m + 256 * m) hb hm
  rw [show a + 256 * (b + 256 * c) = 256 * (b + 256 * c) + a by omega, show m + 256 * (m + 256 * (m + 256 * m)) = 256 * (m + 256 * (m + 256 * m)) + m by omega, h1, show b + 256 * c = 256 * c + b by omega, show m + 256 * (m + 256 * m) = 256 * (m + 256 * m) + m by omega, h2]
  omega
theorem and1 {c m : Nat} (hc : c < 256) (hm : m < 256) : c &&& (m + 256 * m) = c &&& m := by
  have h := and_split (x := c) (y := 0) (m := m) (n := m) hc hm
  rw [show m + 256 * m = 256 * m + m by omega, show c = 256 * 0 + c by omega, h]
  simp
theorem bs1 (a b c : Nat) : (a + 256 * (b + 256 * c)) / 2 = (a / 2 + 128 * (b % 2)) + 256 * ((b / 2 + 128 * (c % 2)) + 256 * (c / 2 + 128 * 0)) := by omega
theorem bs2 (a b c : Nat) : (a + 256 * (b + 256 * c)) / 4 = (a / 4 + 64 * (b % 4)) + 256 * ((b / 4 + 64 * (c % 4)) + 256 * (c / 4 + 64 * 0)) := by omega
theorem bs3 (a b c : Nat) : (a + 256 * (b + 256 * c)) + (a + 256 * (b + 256 * c)) / 16 = (a + a / 16 + 16 * (b % 16)) + 256 * ((b + b / 16 + 16 * (c % 16)) + 256 * (c + c / 16 + 16 * 0)) := by omega
theorem bs4 {x y z : Nat} (hx : x ≤ 8) (hy : y ≤ 8) (hz : z ≤ 8) : x + 256 * (y + 256 * z) + (x + 256 * (y + 256 * z)) / 256 = (x + y) + 256 * ((y + z) + 256 * z) := by omega
theorem bs5 {x y z : Nat} (hx : x ≤ 8) (hy : y ≤ 8) (hz : z ≤ 8) : (x + y) + 256 * ((y + z) + 256 * z) + ((x + y) + 256 * ((y + z) + 256 * z)) / 65536 = (x + y + z) + 256 * ((y + z) + 256 * z) := by omega
theorem bs6 {x y z : Nat} (hx : x ≤ 8) (hy : y ≤ 8) (hz : z ≤ 8) : ((x + y + z) + 256 * ((y + z) + 256 * z)) &&& 63 = x + y + z := by
  rw [show (63 : Nat) = 2 ^ 6 - 1 from rfl, Nat.and_two_pow_sub_one_eq_mod]
  omega
theorem bs7 {a b c x y z : Nat} (hx : x ≤ a) (hy : y ≤ b) (hz : z ≤ c) : a + 256 * (b + 256 * c) - (x + 256 * (y + 256 * z)) = (a - x) + 256 * ((b - y) + 256 * (c - z)) := by omega
theorem bs8 (a b c x y z : Nat) : a + 256 * (b + 256 * c) + (x + 256 * (y + 256 * z)) = (a + x) + 256 * ((b + y) + 256 * (c + z)) := by omega
theorem hlf {a b : Nat} (ha : a < 256) : a / 2 + 128 * (b % 2) < 256 := by omega
theorem qrt {a b : Nat} (ha : a < 256) : a / 4 + 64 * (b % 4) < 256 := by omega
theorem nib {a b : Nat} (ha : a ≤ 68) (hb : b % 16 < 5) : a + a / 16 + 16 * (b % 16) < 256 := by omega
theorem m55 : (1431655765 : Nat) = 85 + 256 * (85 + 256 * (85 + 256 * 85)) := by decide
theorem m33 : (858993459 : Nat) = 51 + 256 * (51 + 256 * (51 + 256 * 51)) := by decide
theorem m0f : (252645135 : Nat) = 15 + 256 * (15 + 256 * (15 + 256 * 15)) := by decide
theorem be1 {a b c : Nat} (ha : a < 256) (hb : b < 256) (hc : c < 256) : (a + 256 * (b + 256 * c)) / 2 &&& 1431655765 = f1 a + 256 * (f1 b + 256 * f1 c) := by
  rw [bs1, m55, and3 (hlf ha) (hlf hb) (by decide), byte1 a ha _ (Nat.mod_lt _ (by decide)), byte1 b hb _ (Nat.mod_lt _ (by decide)), and1 (by omega) (by decide), byte1 c hc 0 (by decide)]
theorem be3 {a b c : Nat} (ha : a < 256) (hb : b < 256) (hc : c < 256) : a + 256 * (b + 256 * c) &&& 858993459 = (a &&& 51) + 256 * ((b &&& 51) + 256 * (c &&& 51)) := by
  rw [m33, and3 ha hb (by decide), and1 hc (by decide)]
theorem be4 {a b c : Nat} (ha : a < 256) (hb : b < 256) (hc : c < 256) : ((a - f1 a) + 256 * ((b - f1 b) + 256 * (c - f1 c))) / 4 &&& 858993459 = ((a - f1 a) / 4 &&& 51) + 256 * (((b - f1 b) / 4 &&& 51) + 256 * ((c - f1 c) / 4 &&& 51)) := by
  rw [bs2, m33, and3 (qrt (by omega)) (qrt (by omega)) (by decide), (byte2 a ha).2 _ (Nat.mod_lt _ (by decide)), (byte2 b hb).2 _ (Nat.mod_lt _ (by decide)), and1 (by omega) (by decide), (byte2 c hc).2 0 (by decide)]
theorem be6 {a b c : Nat} (ha : a < 256) (hb : b < 256) (hc : c < 256) : (f2 a + 256 * (f2 b + 256 * f2 c)) + (f2 a + 256 * (f2 b + 256 * f2 c)) / 16 &&& 252645135 = f3 a + 256 * (f3 b + 256 * f3 c) := by
  have a3 := (byte3 a ha).1
  have b3 := (byte3 b hb).1
  have c3 := (byte3 c hc).1
  have b4 := (byte4 b hb).1
  have c4 := (byte4 c hc).1
  rw [bs3, m0f, and3 (nib a3 b4) (nib b3 c4) (by decide), (byte3 a ha).2 _ b4, (byte3 b hb).2 _ c4, and1 (by omega) (by decide), (byte3 c hc).2 0 (by decide)]
theorem f3_le {a : Nat} (ha : a < 256) : f3 a ≤ 8 := by
  rw [(byte4 a ha).2]
  omega
theorem bcN_eq {a b c : Nat} (ha : a < 256) (hb : b < 256) (hc : c < 256) : bcN (a + 256 * (b + 256 * c)) = f3 a + f3 b + f3 c := by
  have h1 := be1 ha hb hc
  have h2 := bs7 (byte2 a ha).1 (byte2 b hb).1 (byte2 c hc).1
  have h3 := be3 (a := a - f1 a) (b := b - f1 b) (c := c - f1 c) (by omega) (by omega) (by omega)
  have h4 := be4 ha hb hc
  have h5 := bs8 (a - f1 a &&& 51) (b - f1 b &&& 51) (c - f1 c &&& 51) ((a - f1 a) / 4 &&& 51) ((b - f1 b) / 4 &&& 51) ((c - f1 c) / 4 &&& 51)
  have h6 := be6 ha hb hc
  have k1 := f3_le ha
  have k2 := f3_le hb
  have k3 := f3_le hc
  unfold bcN
  dsimp only
  rw [h1, h2, h3, h4, h5]
  rw [show (a - f1 a &&& 51) + ((a - f1 a) / 4 &&& 51) = f2 a from rfl, show (b - f1 b &&& 51) + ((b - f1 b) / 4 &&& 51) = f2 b from rfl, show (c - f1 c &&& 51) + ((c - f1 c) / 4 &&& 51) = f2 c from rfl, h6, bs4 k1 k2 k3, bs5 k1 k2 k3, bs6 k1 k2 k3]
/-- how many of the first n bits are set -/
def pop (M : Nat) : Nat → Nat
  | 0 => 0
  | n + 1 => pop M n + M / 2 ^ n % 2
theorem lb1 (M : Nat) : M % 256 / 2 % 2 = M / 2 % 2 := by omega
theorem lb2 (M : Nat) : M % 256 / 4 % 2 = M / 4 % 2 := by omega
theorem lb3 (M : Nat) : M % 256 / 8 % 2 = M / 8 % 2 := by omega
theorem lb4 (M : Nat) : M % 256 / 16 % 2 = M / 16 % 2 := by omega
theorem lb5 (M : Nat) : M % 256 / 32 % 2 = M / 32 % 2 := by omega
theorem lb6 (M : Nat) : M % 256 / 64 % 2 = M / 64 % 2 := by omega
theorem lb7 (M : Nat) : M % 256 / 128 % 2 = M / 128 % 2 := by omega
theorem lb0 (M : Nat) : M % 256 % 2 = M / 1 % 2 := by omega
theorem mb0 (M : Nat) : M / 256 % 256 % 2 = M / 256 % 2 := by omega
theorem mb1 (M : Nat) : M / 256 % 256 / 2 % 2 = M / 512 % 2 := by omega
theorem mb2 (M : Nat) : M / 256 % 256 / 4 % 2 = M / 1024 % 2 := by omega
theorem mb3 (M : Nat) : M / 256 % 256 / 8 % 2 = M / 2048 % 2 := by omega
theorem mb4 (M : Nat) : M / 256 % 256 / 16 % 2 = M / 4096 % 2 := by omega
theorem mb5 (M : Nat) : M / 256 % 256 / 32 % 2 = M / 8192 % 2 := by omega
theorem mb6 (M : Nat) : M / 256 % 256 / 64 % 2 = M / 16384 % 2 := by omega
theorem mb7 (M : Nat) : M / 256 % 256 / 128 % 2 = M / 32768 % 2 := by omega
theorem hb1 (M : Nat) : M / 65536 / 2 % 2 = M / 131072 % 2 := by omega
theorem hb2 (M : Nat) : M / 65536 / 4 % 2 = M / 262144 % 2 := by omega
theorem hb3 (M : Nat) : M / 65536 / 8 % 2 = M / 524288 % 2 := by omega
theorem hb4 (M : Nat) : M / 65536 / 16 % 2 = M / 1048576 % 2 := by omega
theorem hb5 (M : Nat) : M / 65536 / 32 % 2 = M / 2097152 % 2 := by omega
theorem hb6 (M : Nat) : M / 65536 / 64 % 2 = M / 4194304 % 2 := by omega
theorem hb7 (M : Nat) : M / 65536 / 128 % 2 = M / 8388608 % 2 := by omega
theorem pop24 (M : Nat) : pop M 24 = 0 + M / 1 % 2 + M / 2 % 2 + M / 4 % 2 + M / 8 % 2 + M / 16 % 2 + M / 32 % 2 + M / 64 % 2 + M / 128 % 2 + M / 256 % 2 + M / 512 % 2 + M / 1024 % 2 + M / 2048 % 2 + M / 4096 % 2 + M / 8192 % 2 + M / 16384 % 2 + M / 32768 % 2 + M / 65536 % 2 + M / 131072 % 2 + M / 262144 % 2 + M / 524288 % 2 + M / 1048576 % 2 + M / 2097152 % 2 + M / 4194304 % 2 + M / 8388608 % 2 := rfl
theorem bcN_pop {M : Nat} (h : M < 2 ^ 24) : bcN M = pop M 24 := by
  have e : M = M % 256 + 256 * (M / 256 % 256 + 256 * (M / 65536)) := by omega
  have hc : M / 65536 < 256 := by omega
  have h1 := bcN_eq (a := M % 256) (b := M / 256 % 256) (c := M / 65536) (by omega) (by omega) hc
  rw [← e] at h1
  rw [h1, (byte4 (M % 256) (by omega)).2, (byte4 (M / 256 % 256) (by omega)).2, (byte4 (M / 65536) hc).2, pop24]
  rw [lb0, lb1, lb2, lb3, lb4, lb5, lb6, lb7, mb0, mb1, mb2, mb3, mb4, mb5, mb6, mb7, hb1, hb2, hb3, hb4, hb5, hb6, hb7]
  rw [Nat.zero_add]
  simp only [Nat.add_assoc]
/-- the mask of a row of bits -/
def msk (f : Nat → Nat) : Nat → Nat
  | 0 => 0
  | n + 1 => msk f n + f n * 2 ^ n
theorem msk_lt {f : Nat → Nat} (hf : ∀ i, f i ≤ 1) : ∀ n, msk f n < 2 ^ n := by
  intro n
  induction n with
  | zero => exact Nat.one_pos
  | succ n ih =>
    have := hf n
    have h2 : f n * 2 ^ n ≤ 1 * 2 ^ n := Nat.mul_le_mul_right _ this
    rw [msk, Nat.pow_succ]
    omega
theorem msk_bit {f : Nat → Nat} (hf : ∀ i, f i ≤ 1) : ∀ n i, msk f n / 2 ^ i % 2 = if i < n then f i else 0 := by
  intro n
  induction n with
  | zero =>
    intro i
    rw [msk, Nat.zero_div, if_neg (by omega)]
  | succ n ih =>
    intro i
    have hlt := msk_lt hf n
    have h1 := hf n
    rw [msk]
    by_cases hi : i < n
    · rw [if_pos (by omega)]
      have e : 2 ^ n = 2 ^ i * (2 * 2 ^ (n - i - 1)) := by
        rw [← Nat.pow_succ', ← Nat.pow_add]
        congr 1
        omega
      rw [show f n * 2 ^ n = 2 ^ i * (f n * (2 * 2 ^ (n - i - 1))) by rw [e]; ac_rfl, Nat.add_mul_div_left _ _ (Nat.two_pow_pos i), show f n * (2 * 2 ^ (n - i - 1)) = 2 * (f n * 2 ^ (n - i - 1)) by ac_rfl, Nat.add_mul_mod_self_left, ih i, if_pos hi]
    · by_cases hi2 : i = n
      · subst hi2
        rw [if_pos (by omega), Nat.mul_comm, Nat.add_mul_div_left _ _ (Nat.two_pow_pos i), Nat.div_eq_of_lt hlt, Nat.zero_add]
        omega
      · rw [if_neg (by omega)]
        have h3 : msk f n + f n * 2 ^ n < 2 ^ i := Nat.lt_of_lt_of_le (msk_lt hf (n + 1)) (Nat.pow_le_pow_right (by decide) (by omega))
        rw [Nat.div_eq_of_lt h3]
def sumF (f : Nat → Nat) : Nat → Nat
  | 0 => 0
  | n + 1 => sumF f n + f n
theorem msk_pop {f : Nat → Nat} (hf : ∀ i, f i ≤ 1) (n : Nat) : ∀ k, pop (msk f n) k = sumF (fun i => if i < n then f i else 0) k := by
  intro k
  induction k with
  | zero => rfl
  | succ k ih => rw [pop, sumF, ih, msk_bit hf]
theorem sumF_cut {f : Nat → Nat} {n : Nat} : ∀ k, sumF (fun i => if i < n then f i else 0) k = sumF f (min k n) := by
  intro k
  induction k with
  | zero => rw [Nat.zero_min]; rfl
  | succ k ih =>
    rw [sumF, ih]
    by_cases h : k < n
    · rw [if_pos h, Nat.min_eq_left (by omega), Nat.min_eq_left (by omega)]; rfl
    · rw [if_neg h, Nat.min_eq_right (by omega), Nat.min_eq_right (by omega)]; rfl
theorem msk_count {f : Nat → Nat} (hf : ∀ i, f i ≤ 1) {n : Nat} (hn : n ≤ 24) : pop (msk f n) 24 = sumF f n := by
  rw [msk_pop hf, sumF_cut, Nat.min_eq_right hn]
theorem msk_or {M n : Nat} (h : M < 2 ^ n) : M ||| 2 ^ n = M + 2 ^ n := by
  have := Nat.two_pow_add_eq_or_of_lt h 1
  rw [Nat.mul_one] at this
  rw [Nat.or_comm, ← this, Nat.add_comm]
theorem sh_l : ∀ n, n < 32 → nI 1 <<< (nI n &&& 31) = nI (2 ^ n) := by decide +kernel
theorem sh_s : ∀ n, n < 32 → ((nI n &&& 31).toBitVec.smod 32).toNat = n := by decide +kernel
theorem sh_r {M n : Nat} (hM : M < 2 ^ 31) (hn : n < 32) : nI M >>> (nI n &&& 31) = nI (M / 2 ^ n) := pk_shrN hM _ n (sh_s n hn)
