/-! ===== small sets as bits; colours ===== -/
def zor (a b : Int) : Int := (iZ a ||| iZ b).toInt
theorem zor_eq (a b : Int) : iZ a ||| iZ b = iZ (zor a b) := (iZ_of _).symm
theorem zor_16 {a b : Int} (h0 : 0 ≤ a) (h1 : a < 16) (h2 : 0 ≤ b) (h3 : b < 16) : 0 ≤ zor a b ∧ zor a b < 16 := by
  obtain ⟨m, rfl⟩ := Int.eq_ofNat_of_zero_le h0
  obtain ⟨n, rfl⟩ := Int.eq_ofNat_of_zero_le h2
  have : ∀ m : Nat, m < 16 → ∀ n : Nat, n < 16 → 0 ≤ zor m n ∧ zor m n < 16 := by decide +kernel
  exact this m (by omega) n (by omega)
theorem iZ_and3 {b : Int} (h0 : 0 ≤ b) (h1 : b ≤ 2147483647) : iZ b &&& iZ 3 = iZ (b % 4) := iZ_andm (k := 2) h0 h1 (by decide)
/-- one turn over all n: what hangs with those that are in b -/
def hgIn (T : Int → Int) : Nat → Int → Int
  | 0, b => b
  | k + 1, b => if hgIn T k b / 2 ^ k % 2 = 0 then hgIn T k b else zor (hgIn T k b) (T k)
def hgOut (T : Int → Int) (n : Nat) : Nat → Int → Int
  | 0, b => b
  | k + 1, b => hgIn T n (hgOut T n k b)
theorem hgIn_16 {T : Int → Int} (hT : ∀ k : Nat, k < 4 → 0 ≤ T k ∧ T k < 16) : ∀ (k : Nat) (b : Int), k ≤ 4 → 0 ≤ b → b < 16 → 0 ≤ hgIn T k b ∧ hgIn T k b < 16
  | 0, _, _, h0, h1 => ⟨h0, h1⟩
  | k + 1, b, hk, h0, h1 => by
    have h := hgIn_16 hT k b (by omega) h0 h1
    have ht := hT k (by omega)
    simp only [hgIn]
    split
    · exact h
    · exact zor_16 h.1 h.2 ht.1 ht.2
theorem hgOut_16 {T : Int → Int} {n : Nat} (hn : n ≤ 4) (hT : ∀ k : Nat, k < 4 → 0 ≤ T k ∧ T k < 16) : ∀ (k : Nat) (b : Int), 0 ≤ b → b < 16 → 0 ≤ hgOut T n k b ∧ hgOut T n k b < 16
  | 0, _, h0, h1 => ⟨h0, h1⟩
  | k + 1, b, h0, h1 => by
    have h := hgOut_16 hn hT k b h0 h1
    exact hgIn_16 hT n _ hn h.1 h.2
def hIn (T : Int → Int) (k : Int) (b : Int) : Int := hgIn T k.toNat b
def hOut (T : Int → Int) (n k : Int) (b : Int) : Int := hgOut T n.toNat k.toNat b
theorem hIn_succ (T : Int → Int) {k : Int} (h : 0 ≤ k) (b : Int) : hIn T (k + 1) b = if hIn T k b / 2 ^ k.toNat % 2 = 0 then hIn T k b else zor (hIn T k b) (T k) := by
  obtain ⟨m, rfl⟩ := Int.eq_ofNat_of_zero_le h
  rfl
theorem hOut_succ (T : Int → Int) (n : Int) {k : Int} (h : 0 ≤ k) (b : Int) : hOut T n (k + 1) b = hIn T n (hOut T n k b) := by
  obtain ⟨m, rfl⟩ := Int.eq_ofNat_of_zero_le h
  rfl
theorem hIn_16 {T : Int → Int} (hT : ∀ k : Nat, k < 4 → 0 ≤ T k ∧ T k < 16) {k b : Int} (hk : k ≤ 4) (h0 : 0 ≤ b) (h1 : b < 16) : 0 ≤ hIn T k b ∧ hIn T k b < 16 := hgIn_16 hT _ b (by omega) h0 h1
theorem hOut_16 {T : Int → Int} {n : Int} (hn : n ≤ 4) (hT : ∀ k : Nat, k < 4 → 0 ≤ T k ∧ T k < 16) {k b : Int} (h0 : 0 ≤ b) (h1 : b < 16) : 0 ≤ hOut T n k b ∧ hOut T n k b < 16 := hgOut_16 (by omega) hT _ b h0 h1
/-- colours by two bits a parish -/
def pCol (x : Int) (k : Int) : Int := x / 2 ^ (2 * k).toNat % 4
def pBad (t : Int → Int → Int) (x c i : Int) : Prop := c ≤ pCol x i ∨ ∃ j, 0 ≤ j ∧ j < i ∧ pCol x i = pCol x j ∧ t i j = 1
def pOk (t : Int → Int → Int) (x c n : Int) : Prop := ∀ i, 0 ≤ i → i < n → ¬ pBad t x c i
