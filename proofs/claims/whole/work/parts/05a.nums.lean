def zs (f : Int → Int) (n : Int) : Int := zsum f n.toNat
def zb (f : Int → Int) (n : Int) : Int := zbits f n.toNat
theorem zs_0 (f : Int → Int) : zs f 0 = 0 := rfl
theorem zb_0 (f : Int → Int) : zb f 0 = 0 := rfl
theorem zs_succ (f : Int → Int) {i : Int} (h : 0 ≤ i) : zs f (i + 1) = zs f i + f i := by
  obtain ⟨k, rfl⟩ := Int.eq_ofNat_of_zero_le h
  rfl
theorem zb_succ (f : Int → Int) {i : Int} (h : 0 ≤ i) : zb f (i + 1) = zb f i + (if f i = 1 then 2 ^ i.toNat else 0) := by
  obtain ⟨k, rfl⟩ := Int.eq_ofNat_of_zero_le h
  rfl
theorem zbits_lt (f : Int → Int) : ∀ n : Nat, 0 ≤ zbits f n ∧ zbits f n < 2 ^ n
  | 0 => ⟨Int.le_refl _, by show (0 : Int) < 1; decide⟩
  | n + 1 => by
    have h := zbits_lt f n
    have e : (2 : Int) ^ (n + 1) = 2 ^ n + 2 ^ n := by rw [Int.pow_succ]; omega
    simp only [zbits]
    rw [e]
    split <;> omega
theorem zb_lt (f : Int → Int) {i : Int} : 0 ≤ zb f i ∧ zb f i < 2 ^ i.toNat := zbits_lt f _
theorem zsum_congr {f g : Int → Int} : ∀ {n : Nat}, (∀ i : Int, 0 ≤ i → i < n → f i = g i) → zsum f n = zsum g n
  | 0, _ => rfl
  | n + 1, h => by
    simp only [zsum]
    rw [zsum_congr (n := n) (fun i h0 h1 => h i h0 (by omega)), h n (by omega) (by omega)]
theorem zbits_congr {f g : Int → Int} : ∀ {n : Nat}, (∀ i : Int, 0 ≤ i → i < n → f i = g i) → zbits f n = zbits g n
  | 0, _ => rfl
  | n + 1, h => by
    simp only [zbits]
    rw [zbits_congr (n := n) (fun i h0 h1 => h i h0 (by omega)), h n (by omega) (by omega)]
theorem zs_congr {f g : Int → Int} {n : Int} (h : ∀ i : Int, 0 ≤ i → i < n → f i = g i) : zs f n = zs g n := zsum_congr (fun i h0 h1 => h i h0 (by omega))
theorem zb_congr {f g : Int → Int} {n : Int} (h : ∀ i : Int, 0 ≤ i → i < n → f i = g i) : zb f n = zb g n := zbits_congr (fun i h0 h1 => h i h0 (by omega))
theorem p2_le {k : Nat} (h : k ≤ 30) : (2 : Int) ^ k ≤ 1073741824 ∧ (1 : Int) ≤ 2 ^ k := by
  have : ∀ k : Nat, k ≤ 30 → (2 : Int) ^ k ≤ 1073741824 ∧ (1 : Int) ≤ 2 ^ k := by decide +kernel
  exact this k h
theorem iZ_bv {x : Int} (h0 : 0 ≤ x) (h1 : x ≤ 2147483647) : (iZ x).toBitVec.toNat = x.toNat := by
  have e : (iZ x).toBitVec.toInt = x := iZ_toInt ⟨by omega, h1⟩
  have h := BitVec.toInt_eq_toNat_bmod (iZ x).toBitVec
  have hlt := (iZ x).toBitVec.isLt
  rw [e, Int.bmod_def] at h
  split at h <;> omega
theorem iZ_ext {x y : Int32} (h : x.toBitVec.toNat = y.toBitVec.toNat) : x = y := Int32.toBitVec_inj.mp (BitVec.eq_of_toNat_eq h)
theorem iZ_shl1 {i : Int} (h0 : 0 ≤ i) (h1 : i ≤ 30) : iZ 1 <<< (iZ i &&& 31) = iZ (2 ^ i.toNat) := by
  obtain ⟨k, rfl⟩ := Int.eq_ofNat_of_zero_le h0
  have : ∀ k : Nat, k < 31 → iZ 1 <<< (iZ k &&& 31) = iZ (2 ^ k) := by decide +kernel
  exact this k (by omega)
theorem iZ_orp {b : Int} {k : Nat} (h0 : 0 ≤ b) (h1 : b < 2 ^ k) (hk : k ≤ 30) : iZ b ||| iZ (2 ^ k) = iZ (b + 2 ^ k) := by
  have hp := p2_le hk
  apply iZ_ext
  rw [Int32.toBitVec_or, BitVec.toNat_or, iZ_bv h0 (by omega), iZ_bv (by omega) (by omega), iZ_bv (by omega) (by omega)]
  have e : ((2 : Int) ^ k).toNat = 2 ^ k := by
    have : ((2 : Int) ^ k) = ((2 ^ k : Nat) : Int) := by simp
    rw [this]; rfl
  have e2 : (b + 2 ^ k).toNat = 2 ^ k * 1 + b.toNat := by
    have := e
    omega
  rw [e2, Nat.two_pow_add_eq_or_of_lt (by omega) 1, e, Nat.mul_one, Nat.or_comm]
theorem iZ_shrk {b : Int} {i : Int} (h0 : 0 ≤ b) (h1 : b ≤ 2147483647) (hi : 0 ≤ i) (hk : i ≤ 30) : iZ b >>> (iZ i &&& 31) = iZ (b / 2 ^ i.toNat) := by
  obtain ⟨k, rfl⟩ := Int.eq_ofNat_of_zero_le hi
  have hs : ∀ k : Nat, k < 31 → ((iZ k &&& 31).toBitVec.smod 32).toNat = k := by decide +kernel
  have h := pk_shr (iZ b) (iZ k &&& 31) k (hs k (by omega))
  rw [iZ_toInt ⟨by omega, h1⟩] at h
  rw [← iZ_of (iZ b >>> (iZ k &&& 31)), h, Int.shiftRight_eq_div_pow]
  congr 2
theorem iZ_andm {b : Int} {k : Nat} (h0 : 0 ≤ b) (h1 : b ≤ 2147483647) (hk : k ≤ 30) : iZ b &&& iZ (2 ^ k - 1) = iZ (b % 2 ^ k) := by
  have hp := p2_le hk
  have e : ((2 : Int) ^ k) = ((2 ^ k : Nat) : Int) := by simp
  have hpos : 0 < 2 ^ k := Nat.two_pow_pos k
  apply iZ_ext
  have hm0 : 0 ≤ b % 2 ^ k := Int.emod_nonneg _ (by omega)
  have hm1 : b % 2 ^ k < 2 ^ k := Int.emod_lt_of_pos _ (by omega)
  rw [Int32.toBitVec_and, BitVec.toNat_and, iZ_bv h0 h1, iZ_bv (by omega) (by omega), iZ_bv hm0 (by omega)]
  have e1 : ((2 : Int) ^ k - 1).toNat = 2 ^ k - 1 := by rw [e]; omega
  rw [e1, Nat.and_two_pow_sub_one_eq_mod]
  rw [e]
  obtain ⟨c, rfl⟩ := Int.eq_ofNat_of_zero_le h0
  rfl
theorem iZ_and1 {b : Int} (h0 : 0 ≤ b) (h1 : b ≤ 2147483647) : iZ b &&& iZ 1 = iZ (b % 2) := iZ_andm (k := 1) h0 h1 (by decide)
theorem iZ_div {x y : Int} (h0 : 0 ≤ x) (h1 : x ≤ 2147483647) (h2 : 0 < y) (h3 : y ≤ 2147483647) : iZ x / iZ y = iZ (x / y) := by
  have e : (iZ x / iZ y).toInt = x / y := by
    rw [Int32.toInt_div_of_ne_left _ _ (by intro h; have := congrArg Int32.toInt h; rw [iZ_toInt ⟨by omega, h1⟩] at this; have hm : Int32.minValue.toInt = -2147483648 := by decide
                                           omega), iZ_toInt ⟨by omega, h1⟩, iZ_toInt ⟨by omega, h3⟩, Int.tdiv_eq_ediv_of_nonneg h0]
  rw [← e, iZ_of]
theorem iZ_rem {x y : Int} (h0 : 0 ≤ x) (h1 : x ≤ 2147483647) (h2 : 0 < y) (h3 : y ≤ 2147483647) : iZ x - iZ x / iZ y * iZ y = iZ (x % y) := by
  rw [iZ_div h0 h1 h2 h3, iZ_mul, iZ_sub]
  congr 1
  have := Int.emod_add_mul_ediv x y
  have e : x / y * y = y * (x / y) := Int.mul_comm _ _
  omega
