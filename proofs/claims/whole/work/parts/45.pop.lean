/-! ===== the library's count of bits is the count of bits ===== -/
theorem and_low {k a b d e : Nat} (hd : d < 2 ^ k) (he : e < 2 ^ k) : (2 ^ k * a + d) &&& (2 ^ k * b + e) = 2 ^ k * (a &&& b) + (d &&& e) := by
  apply Nat.eq_of_testBit_eq
  intro j
  rw [Nat.testBit_and, Nat.testBit_two_pow_mul_add a hd, Nat.testBit_two_pow_mul_add b he, Nat.testBit_two_pow_mul_add _ (Nat.and_lt_two_pow d he)]
  by_cases h : j < k
  · rw [if_pos h, if_pos h, if_pos h, Nat.testBit_and]
  · rw [if_neg h, if_neg h, if_neg h, Nat.testBit_and]
def pm1 : Nat → Nat
  | 0 => 0
  | n + 1 => 4 * pm1 n + 1
def pm2 : Nat → Nat
  | 0 => 0
  | n + 1 => 16 * pm2 n + 3
def pm3 : Nat → Nat
  | 0 => 0
  | n + 1 => 256 * pm3 n + 15
def pq1 : Nat → Nat → Nat
  | 0, _ => 0
  | n + 1, x => 4 * pq1 n (x / 4) + (x % 4 - x % 4 / 2)
def pq2 : Nat → Nat → Nat
  | 0, _ => 0
  | n + 1, x => 16 * pq2 n (x / 16) + (x % 4 + x / 4 % 4)
def pq3 : Nat → Nat → Nat
  | 0, _ => 0
  | n + 1, x => 256 * pq3 n (x / 256) + (x % 16 + x / 16 % 16)
def pcn : Nat → Nat → Nat
  | 0, _ => 0
  | n + 1, x => x % 2 + pcn n (x / 2)
def ps4 : Nat → Nat → Nat
  | 0, _ => 0
  | n + 1, x => x % 4 + ps4 n (x / 4)
def ps16 : Nat → Nat → Nat
  | 0, _ => 0
  | n + 1, x => x % 16 + ps16 n (x / 16)
def ps256 : Nat → Nat → Nat
  | 0, _ => 0
  | n + 1, x => x % 256 + ps256 n (x / 256)
def pk1 : Nat → Nat → Prop
  | 0, _ => True
  | n + 1, x => x % 4 ≤ 2 ∧ pk1 n (x / 4)
def pk2 : Nat → Nat → Prop
  | 0, x => x = 0
  | n + 1, x => x % 16 ≤ 4 ∧ pk2 n (x / 16)
def pk3 : Nat → Nat → Prop
  | 0, x => x = 0
  | n + 1, x => x % 256 ≤ 8 ∧ pk3 n (x / 256)
theorem pst1 : ∀ n x : Nat, x < 4 ^ n → (x / 2 &&& pm1 n) + pq1 n x = x
  | 0, x, h => by
    have : x = 0 := by simpa using h
    subst this
    rfl
  | n + 1, x, h => by
    have hx : x / 4 < 4 ^ n := by rw [Nat.pow_succ] at h; omega
    have ih := pst1 n (x / 4) hx
    have e : x / 2 = 2 ^ 2 * (x / 4 / 2) + (x % 4 / 2 + 2 * (x / 4 % 2)) := by omega
    have e1 : (x % 4 / 2 + 2 * (x / 4 % 2)) &&& 1 = x % 4 / 2 := by rw [Nat.and_one_is_mod]; omega
    have e2 : x / 2 &&& pm1 (n + 1) = 4 * (x / 4 / 2 &&& pm1 n) + x % 4 / 2 := by
      rw [e]
      show (2 ^ 2 * (x / 4 / 2) + (x % 4 / 2 + 2 * (x / 4 % 2))) &&& (2 ^ 2 * pm1 n + 1) = _
      rw [and_low (by omega) (by decide), e1]
    rw [e2]
    simp only [pq1]
    omega
theorem pst2 : ∀ n x : Nat, x < 16 ^ n → (x &&& pm2 n) + (x / 4 &&& pm2 n) = pq2 n x
  | 0, x, h => by
    have : x = 0 := by simpa using h
    subst this
    rfl
  | n + 1, x, h => by
    have hx : x / 16 < 16 ^ n := by rw [Nat.pow_succ] at h; omega
    have ih := pst2 n (x / 16) hx
    have a1 : ∀ y : Nat, y &&& 3 = y % 4 := fun y => Nat.and_two_pow_sub_one_eq_mod y 2
    have e1 : x &&& pm2 (n + 1) = 16 * (x / 16 &&& pm2 n) + x % 4 := by
      conv => lhs; rw [show x = 2 ^ 4 * (x / 16) + x % 16 by omega]
      show (2 ^ 4 * (x / 16) + x % 16) &&& (2 ^ 4 * pm2 n + 3) = _
      rw [and_low (by omega) (by decide), a1]
      omega
    have e2 : x / 4 &&& pm2 (n + 1) = 16 * (x / 16 / 4 &&& pm2 n) + x / 4 % 4 := by
      conv => lhs; rw [show x / 4 = 2 ^ 4 * (x / 16 / 4) + x / 4 % 16 by omega]
      show (2 ^ 4 * (x / 16 / 4) + x / 4 % 16) &&& (2 ^ 4 * pm2 n + 3) = _
      rw [and_low (by omega) (by decide), a1]
      omega
    rw [e1, e2]
    simp only [pq2]
    omega
theorem pk2_low {n x : Nat} (h : pk2 n x) : x % 16 ≤ 4 := by
  cases n with
  | zero =>
    have : x = 0 := h
    omega
  | succ n => exact h.1
theorem pst3 : ∀ n x : Nat, pk2 (2 * n) x → (x + x / 16) &&& pm3 n = pq3 n x
  | 0, x, h => by
    have : x = 0 := h
    subst this
    rfl
  | n + 1, x, h => by
    obtain ⟨h1, h2, h3⟩ : x % 16 ≤ 4 ∧ x / 16 % 16 ≤ 4 ∧ pk2 (2 * n) (x / 16 / 16) := h
    have h4 := pk2_low h3
    rw [show x / 16 / 16 = x / 256 by omega] at h3 h4
    have ih := pst3 n (x / 256) h3
    have a1 : ∀ y : Nat, y &&& 15 = y % 16 := fun y => Nat.and_two_pow_sub_one_eq_mod y 4
    rw [show x + x / 16 = 2 ^ 8 * (x / 256 + x / 256 / 16) + (x % 16 + x / 16 % 16 + 16 * (x / 16 % 16 + x / 256 % 16)) by omega]
    show (2 ^ 8 * (x / 256 + x / 256 / 16) + (x % 16 + x / 16 % 16 + 16 * (x / 16 % 16 + x / 256 % 16))) &&& (2 ^ 8 * pm3 n + 15) = _
    rw [and_low (by omega) (by decide), a1, ih]
    simp only [pq3]
    omega
theorem pq1_ok : ∀ n x : Nat, pk1 n (pq1 n x)
  | 0, _ => trivial
  | n + 1, x => by
    have ih := pq1_ok n (x / 4)
    simp only [pq1]
    refine ⟨by omega, ?_⟩
    rw [show (4 * pq1 n (x / 4) + (x % 4 - x % 4 / 2)) / 4 = pq1 n (x / 4) by omega]
    exact ih
theorem pq2_ok : ∀ n x : Nat, pk1 (2 * n) x → pk2 n (pq2 n x)
  | 0, _, _ => rfl
  | n + 1, x, h => by
    obtain ⟨h1, h2, h3⟩ : x % 4 ≤ 2 ∧ x / 4 % 4 ≤ 2 ∧ pk1 (2 * n) (x / 4 / 4) := h
    rw [show x / 4 / 4 = x / 16 by omega] at h3
    have ih := pq2_ok n (x / 16) h3
    simp only [pq2]
    refine ⟨by omega, ?_⟩
    rw [show (16 * pq2 n (x / 16) + (x % 4 + x / 4 % 4)) / 16 = pq2 n (x / 16) by omega]
    exact ih
theorem pq3_ok : ∀ n x : Nat, pk2 (2 * n) x → pk3 n (pq3 n x)
  | 0, _, _ => rfl
  | n + 1, x, h => by
    obtain ⟨h1, h2, h3⟩ : x % 16 ≤ 4 ∧ x / 16 % 16 ≤ 4 ∧ pk2 (2 * n) (x / 16 / 16) := h
    rw [show x / 16 / 16 = x / 256 by omega] at h3
    have ih := pq3_ok n (x / 256) h3
    simp only [pq3]
    refine ⟨by omega, ?_⟩
    rw [show (256 * pq3 n (x / 256) + (x % 16 + x / 16 % 16)) / 256 = pq3 n (x / 256) by omega]
    exact ih
theorem ps4_q : ∀ n x : Nat, ps4 n (pq1 n x) = pcn (2 * n) x
  | 0, _ => rfl
  | n + 1, x => by
    have ih := ps4_q n (x / 4)
    show ps4 (n + 1) (4 * pq1 n (x / 4) + (x % 4 - x % 4 / 2)) = x % 2 + (x / 2 % 2 + pcn (2 * n) (x / 2 / 2))
    rw [show x / 2 / 2 = x / 4 by omega, ← ih]
    simp only [ps4]
    rw [show (4 * pq1 n (x / 4) + (x % 4 - x % 4 / 2)) / 4 = pq1 n (x / 4) by omega]
    omega
theorem ps16_q : ∀ n x : Nat, pk1 (2 * n) x → ps16 n (pq2 n x) = ps4 (2 * n) x
  | 0, _, _ => rfl
  | n + 1, x, h => by
    obtain ⟨h1, h2, h3⟩ : x % 4 ≤ 2 ∧ x / 4 % 4 ≤ 2 ∧ pk1 (2 * n) (x / 4 / 4) := h
    rw [show x / 4 / 4 = x / 16 by omega] at h3
    have ih := ps16_q n (x / 16) h3
    show ps16 (n + 1) (16 * pq2 n (x / 16) + (x % 4 + x / 4 % 4)) = x % 4 + (x / 4 % 4 + ps4 (2 * n) (x / 4 / 4))
    rw [show x / 4 / 4 = x / 16 by omega, ← ih]
    simp only [ps16]
    rw [show (16 * pq2 n (x / 16) + (x % 4 + x / 4 % 4)) / 16 = pq2 n (x / 16) by omega]
    omega
theorem ps256_q : ∀ n x : Nat, pk2 (2 * n) x → ps256 n (pq3 n x) = ps16 (2 * n) x
  | 0, _, _ => rfl
  | n + 1, x, h => by
    obtain ⟨h1, h2, h3⟩ : x % 16 ≤ 4 ∧ x / 16 % 16 ≤ 4 ∧ pk2 (2 * n) (x / 16 / 16) := h
    rw [show x / 16 / 16 = x / 256 by omega] at h3
    have ih := ps256_q n (x / 256) h3
    show ps256 (n + 1) (256 * pq3 n (x / 256) + (x % 16 + x / 16 % 16)) = x % 16 + (x / 16 % 16 + ps16 (2 * n) (x / 16 / 16))
    rw [show x / 16 / 16 = x / 256 by omega, ← ih]
    simp only [ps256]
    rw [show (256 * pq3 n (x / 256) + (x % 16 + x / 16 % 16)) / 256 = pq3 n (x / 256) by omega]
    omega
theorem pfin {c : Nat} (h : pk3 4 c) : (c + c / 256 + (c + c / 256) / 65536) % 64 = ps256 4 c ∧ c + c / 256 + (c + c / 256) / 65536 < 4294967296 ∧ c + c / 256 < 4294967296 := by
  obtain ⟨h1, h2, h3, h4, h5⟩ : c % 256 ≤ 8 ∧ c / 256 % 256 ≤ 8 ∧ c / 256 / 256 % 256 ≤ 8 ∧ c / 256 / 256 / 256 % 256 ≤ 8 ∧ c / 256 / 256 / 256 / 256 = 0 := h
  obtain ⟨g0, e0⟩ : ∃ g, g = c % 256 := ⟨_, rfl⟩
  obtain ⟨g1, e1⟩ : ∃ g, g = c / 256 % 256 := ⟨_, rfl⟩
  obtain ⟨g2, e2⟩ : ∃ g, g = c / 256 / 256 % 256 := ⟨_, rfl⟩
  obtain ⟨g3, e3⟩ : ∃ g, g = c / 256 / 256 / 256 % 256 := ⟨_, rfl⟩
  have ec : c = g0 + 256 * g1 + 65536 * g2 + 16777216 * g3 := by omega
  have hd : c / 256 = g1 + 256 * g2 + 65536 * g3 := by omega
  have h6 : (c + c / 256) / 65536 = g2 + g3 + 256 * g3 := by omega
  have h7 : ps256 4 c = g0 + g1 + g2 + g3 := by
    simp only [ps256]
    omega
  rw [h6, h7, hd]
  omega
theorem u_shr (x : Int32) (k : Nat) (hk : k < 32) (s : UInt32) (hs : s.toNat = k) : ((x.toUInt32 >>> s).toInt32).toBitVec.toNat = x.toBitVec.toNat / 2 ^ k := by
  show (x.toUInt32 >>> s).toNat = _
  rw [UInt32.toNat_shiftRight, hs, Nat.mod_eq_of_lt hk, Nat.shiftRight_eq_div_pow]
  rfl
theorem i_and (x y : Int32) : (x &&& y).toBitVec.toNat = x.toBitVec.toNat &&& y.toBitVec.toNat := by rw [Int32.toBitVec_and, BitVec.toNat_and]
theorem i_add (x y : Int32) : (x + y).toBitVec.toNat = (x.toBitVec.toNat + y.toBitVec.toNat) % 4294967296 := by rw [Int32.toBitVec_add, BitVec.toNat_add]
theorem i_sub {x y : Int32} (h : y.toBitVec.toNat ≤ x.toBitVec.toNat) : (x - y).toBitVec.toNat = x.toBitVec.toNat - y.toBitVec.toNat := by
  rw [Int32.toBitVec_sub, BitVec.toNat_sub]
  have := x.toBitVec.isLt
  omega
theorem pq1_lt : ∀ n x : Nat, pq1 n x < 4 ^ n
  | 0, _ => by simp [pq1]
  | n + 1, x => by
    have ih := pq1_lt n (x / 4)
    simp only [pq1]
    rw [Nat.pow_succ]
    omega
theorem pq2_lt (n x : Nat) : pk1 (2 * n) x → pq2 n x < 16 ^ n := by
  induction n generalizing x with
  | zero => intro _; simp [pq2]
  | succ n ihn =>
    intro h
    obtain ⟨h1, h2, h3⟩ : x % 4 ≤ 2 ∧ x / 4 % 4 ≤ 2 ∧ pk1 (2 * n) (x / 4 / 4) := h
    rw [show x / 4 / 4 = x / 16 by omega] at h3
    have ih := ihn (x / 16) h3
    simp only [pq2]
    rw [Nat.pow_succ]
    omega
theorem bcF_pc (x : Int32) : (bcF x).toBitVec.toNat = pcn 32 x.toBitVec.toNat := by
  obtain ⟨X, hX⟩ : ∃ X, X = x.toBitVec.toNat := ⟨_, rfl⟩
  have hlt : X < 4 ^ 16 := by rw [hX]; exact x.toBitVec.isLt
  have s1 : ∀ y : Int32, ((y.toUInt32 >>> ((iZ 1).toUInt32 &&& Int32.toUInt32 31)).toInt32).toBitVec.toNat = y.toBitVec.toNat / 2 := fun y => u_shr y 1 (by decide) _ (by decide)
  have s2 : ∀ y : Int32, ((y.toUInt32 >>> ((iZ 2).toUInt32 &&& Int32.toUInt32 31)).toInt32).toBitVec.toNat = y.toBitVec.toNat / 4 := fun y => u_shr y 2 (by decide) _ (by decide)
  have s4 : ∀ y : Int32, ((y.toUInt32 >>> ((iZ 4).toUInt32 &&& Int32.toUInt32 31)).toInt32).toBitVec.toNat = y.toBitVec.toNat / 16 := fun y => u_shr y 4 (by decide) _ (by decide)
  have s8 : ∀ y : Int32, ((y.toUInt32 >>> ((iZ 8).toUInt32 &&& Int32.toUInt32 31)).toInt32).toBitVec.toNat = y.toBitVec.toNat / 256 := fun y => u_shr y 8 (by decide) _ (by decide)
  have s16 : ∀ y : Int32, ((y.toUInt32 >>> ((iZ 16).toUInt32 &&& Int32.toUInt32 31)).toInt32).toBitVec.toNat = y.toBitVec.toNat / 65536 := fun y => u_shr y 16 (by decide) _ (by decide)
  have k1 : (iZ 1431655765).toBitVec.toNat = pm1 16 := by decide
  have k2 : (iZ 858993459).toBitVec.toNat = pm2 8 := by decide
  have k3 : (iZ 252645135).toBitVec.toNat = pm3 4 := by decide
  have k4 : (iZ 63).toBitVec.toNat = 2 ^ 6 - 1 := by decide
  have p1 := pst1 16 X hlt
  have o1 := pq1_ok 16 X
  have l1 := pq1_lt 16 X
  have p2 := pst2 8 (pq1 16 X) (by have : (16 : Nat) ^ 8 = 4 ^ 16 := by decide
                                   omega)
  have o2 := pq2_ok 8 (pq1 16 X) o1
  have l2 := pq2_lt 8 (pq1 16 X) o1
  have p3 := pst3 4 (pq2 8 (pq1 16 X)) o2
  have o3 := pq3_ok 4 (pq2 8 (pq1 16 X)) o2
  have p4 := pfin o3
  have e1 : (x - ((x.toUInt32 >>> ((iZ 1).toUInt32 &&& Int32.toUInt32 31)).toInt32 &&& iZ 1431655765)).toBitVec.toNat = pq1 16 X := by
    have e : ((x.toUInt32 >>> ((iZ 1).toUInt32 &&& Int32.toUInt32 31)).toInt32 &&& iZ 1431655765).toBitVec.toNat = X / 2 &&& pm1 16 := by rw [i_and, s1, k1, hX]
    rw [i_sub (by rw [e, ← hX]; omega), e, ← hX]
    omega
  obtain ⟨a, ha⟩ : ∃ a, a = x - ((x.toUInt32 >>> ((iZ 1).toUInt32 &&& Int32.toUInt32 31)).toInt32 &&& iZ 1431655765) := ⟨_, rfl⟩
  rw [← ha] at e1
  have e2 : ((a &&& iZ 858993459) + ((a.toUInt32 >>> ((iZ 2).toUInt32 &&& Int32.toUInt32 31)).toInt32 &&& iZ 858993459)).toBitVec.toNat = pq2 8 (pq1 16 X) := by
    rw [i_add, i_and, i_and, s2, e1, k2, p2]
    have : (16 : Nat) ^ 8 = 4294967296 := by decide
    exact Nat.mod_eq_of_lt (by omega)
  obtain ⟨b, hb⟩ : ∃ b, b = (a &&& iZ 858993459) + ((a.toUInt32 >>> ((iZ 2).toUInt32 &&& Int32.toUInt32 31)).toInt32 &&& iZ 858993459) := ⟨_, rfl⟩
  rw [← hb] at e2
  have l3 : pq2 8 (pq1 16 X) + pq2 8 (pq1 16 X) / 16 < 4294967296 := by
    obtain ⟨q0, q1, q2, q3, q4, q5, q6, q7, q8⟩ : (pq2 8 (pq1 16 X)) % 16 ≤ 4 ∧ (pq2 8 (pq1 16 X)) / 16 % 16 ≤ 4 ∧ (pq2 8 (pq1 16 X)) / 16 / 16 % 16 ≤ 4 ∧ (pq2 8 (pq1 16 X)) / 16 / 16 / 16 % 16 ≤ 4 ∧ (pq2 8 (pq1 16 X)) / 16 / 16 / 16 / 16 % 16 ≤ 4 ∧ (pq2 8 (pq1 16 X)) / 16 / 16 / 16 / 16 / 16 % 16 ≤ 4 ∧ (pq2 8 (pq1 16 X)) / 16 / 16 / 16 / 16 / 16 / 16 % 16 ≤ 4 ∧ (pq2 8 (pq1 16 X)) / 16 / 16 / 16 / 16 / 16 / 16 / 16 % 16 ≤ 4 ∧ (pq2 8 (pq1 16 X)) / 16 / 16 / 16 / 16 / 16 / 16 / 16 / 16 = 0 := o2
    omega
  have e3 : ((b + (b.toUInt32 >>> ((iZ 4).toUInt32 &&& Int32.toUInt32 31)).toInt32) &&& iZ 252645135).toBitVec.toNat = pq3 4 (pq2 8 (pq1 16 X)) := by
    rw [i_and, i_add, s4, e2, k3, Nat.mod_eq_of_lt l3, p3]
  obtain ⟨c, hc⟩ : ∃ c, c = (b + (b.toUInt32 >>> ((iZ 4).toUInt32 &&& Int32.toUInt32 31)).toInt32) &&& iZ 252645135 := ⟨_, rfl⟩
  rw [← hc] at e3
  have e4 : (c + (c.toUInt32 >>> ((iZ 8).toUInt32 &&& Int32.toUInt32 31)).toInt32).toBitVec.toNat = pq3 4 (pq2 8 (pq1 16 X)) + pq3 4 (pq2 8 (pq1 16 X)) / 256 := by
    rw [i_add, s8, e3, Nat.mod_eq_of_lt p4.2.2]
  obtain ⟨e, he⟩ : ∃ e, e = c + (c.toUInt32 >>> ((iZ 8).toUInt32 &&& Int32.toUInt32 31)).toInt32 := ⟨_, rfl⟩
  rw [← he] at e4
  have e5 : bcF x = (e + (e.toUInt32 >>> ((iZ 16).toUInt32 &&& Int32.toUInt32 31)).toInt32) &&& iZ 63 := by rw [he, hc, hb, ha]; rfl
  rw [e5, i_and, i_add, s16, e4, k4, Nat.and_two_pow_sub_one_eq_mod, Nat.mod_eq_of_lt p4.2.1, ← hX]
  show (pq3 4 (pq2 8 (pq1 16 X)) + pq3 4 (pq2 8 (pq1 16 X)) / 256 + (pq3 4 (pq2 8 (pq1 16 X)) + pq3 4 (pq2 8 (pq1 16 X)) / 256) / 65536) % 64 = _
  rw [p4.1, ps256_q 4 _ o2, ps16_q 8 _ o1, ps4_q]
theorem pcn_zsum : ∀ (n : Nat) (x : Nat), (pcn n x : Int) = zsum (fun k : Int => (x : Int) / 2 ^ k.toNat % 2) n := by
  intro n
  induction n with
  | zero => intro x; rfl
  | succ n ih =>
    intro x
    have sh : ∀ (f : Int → Int) (m : Nat), zsum f (m + 1) = f 0 + zsum (fun k => f (k + 1)) m := by
      intro f m
      induction m with
      | zero => simp [zsum]
      | succ m im =>
        show zsum f (m + 1) + f ((m + 1 : Nat) : Int) = f 0 + (zsum (fun k => f (k + 1)) m + f ((m : Int) + 1))
        rw [im]
        have : ((m + 1 : Nat) : Int) = (m : Int) + 1 := by omega
        rw [this]
        omega
    rw [sh]
    simp only [pcn]
    rw [show (0 : Int).toNat = 0 from rfl, Int.pow_zero, Int.ediv_one]
    have := ih (x / 2)
    have e : zsum (fun k : Int => ((x / 2 : Nat) : Int) / 2 ^ k.toNat % 2) n = zsum (fun k : Int => (x : Int) / 2 ^ (k + 1).toNat % 2) n := by
      refine zsum_congr (fun i h0 h1 => ?_)
      rw [show (i + 1).toNat = i.toNat + 1 by omega, Int.pow_succ', ← Int.ediv_ediv_of_nonneg (by decide)]
      rfl
    rw [← e, ← this]
    omega
theorem zsum_pad {f : Int → Int} {n : Nat} : ∀ m : Nat, (∀ i : Int, n ≤ i → f i = 0) → zsum f (n + m) = zsum f n
  | 0, _ => rfl
  | m + 1, h => by
    show zsum f (n + m) + f ((n + m : Nat) : Int) = _
    rw [zsum_pad m h, h _ (by omega), Int.add_zero]
/-- what both count -/
theorem bcF_bts {v : Int} (h0 : 0 ≤ v) (h1 : v < 1073741824) : (bcF (iZ v)).toInt = bts v := by
  have hp := bcF_pc (iZ v)
  rw [iZ_bv h0 (by omega)] at hp
  have hz := pcn_zsum 32 v.toNat
  rw [Int.toNat_of_nonneg h0] at hz
  have hpad : zsum (fun k : Int => v / 2 ^ k.toNat % 2) (30 + 2) = zsum (fun k : Int => v / 2 ^ k.toNat % 2) 30 := zsum_pad 2 (fun i hi => by
    have hpw : (1073741824 : Int) ≤ 2 ^ i.toNat := by
      have : (2 : Nat) ^ 30 ≤ 2 ^ i.toNat := Nat.pow_le_pow_right (by decide) (by omega)
      have e : ((2 : Int) ^ i.toNat) = ((2 ^ i.toNat : Nat) : Int) := by simp
      rw [e]
      have : (2 : Nat) ^ 30 = 1073741824 := by decide
      omega
    rw [Int.ediv_eq_zero_of_lt h0 (by omega)]
    rfl)
  have hb := bts_in v
  have e : ((bcF (iZ v)).toBitVec.toNat : Int) = bts v := by
    rw [hp, hz]
    exact hpad
  have hn : (bcF (iZ v)).toBitVec.toNat ≤ 30 := by omega
  have : (bcF (iZ v)).toInt = ((bcF (iZ v)).toBitVec.toNat : Int) := by
    show (bcF (iZ v)).toBitVec.toInt = _
    rw [BitVec.toInt_eq_toNat_of_lt (by omega)]
  rw [this, e]
