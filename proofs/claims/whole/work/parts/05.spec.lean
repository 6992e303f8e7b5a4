/-! ===== what a land is, by its churches' rows and columns (by parish) and its stones (four a parish) ===== -/
def gTop (rw fr : Int → Int) (p : Int) : Int := rw p - fr (4 * p)
def gRgt (cl fr : Int → Int) (p : Int) : Int := cl p + fr (4 * p + 1)
def gBot (rw fr : Int → Int) (p : Int) : Int := rw p + fr (4 * p + 2)
def gLft (cl fr : Int → Int) (p : Int) : Int := cl p - fr (4 * p + 3)
def gArea (rw cl fr : Int → Int) (p : Int) : Int := (gBot rw fr p - gTop rw fr p + 1) * (gRgt cl fr p - gLft cl fr p + 1)
def gHold (rw cl fr : Int → Int) (p r c : Int) : Int := if gTop rw fr p ≤ r ∧ r ≤ gBot rw fr p ∧ gLft cl fr p ≤ c ∧ c ≤ gRgt cl fr p then 1 else 0
def gCR (rw fr : Int → Int) (p q : Int) : Int := min (gBot rw fr p) (gBot rw fr q) - max (gTop rw fr p) (gTop rw fr q) + 1
def gCC (cl fr : Int → Int) (p q : Int) : Int := min (gRgt cl fr p) (gRgt cl fr q) - max (gLft cl fr p) (gLft cl fr q) + 1
def gOv (rw cl fr : Int → Int) (p q : Int) : Int := max (gCR rw fr p q) 0 * max (gCC cl fr p q) 0
def gTouch (rw cl fr : Int → Int) (p q : Int) : Int := if 0 ≤ gCR rw fr p q ∧ 0 ≤ gCC cl fr p q ∧ 0 < gCR rw fr p q + gCC cl fr p q then 1 else 0
def zsum (f : Int → Int) : Nat → Int
  | 0 => 0
  | n + 1 => zsum f n + f n
/-- bits: the sum of 2 ^ i over all i below n with f i = 1 -/
def zbits (f : Int → Int) : Nat → Int
  | 0 => 0
  | n + 1 => zbits f n + (if f n = 1 then 2 ^ n else 0)
/-! ===== the class's cells: told 2 (row 3, column 4, names 5, legs 6, mood 7, names 8, slots 9, children 10, years 11, cakes 12), laws 13; lands 39, 44, 49, 71 (far, cake, legs, tired behind each) ===== -/
def isLand (L : Nat) : Prop := L = 39 ∨ L = 44 ∨ L = 49 ∨ L = 71
theorem ly0 {L : Nat} (h : isLand L) : lay[L]? = some (.inr (2, [4, L + 3, L + 4, L + 5, L + 6, 0, 0, 1, 0, 0, 0])) := by rcases h with rfl | rfl | rfl | rfl <;> rfl
theorem ly1 {L : Nat} (h : isLand L) : lay[L + 1]? = some (.inl (0, 16)) := by rcases h with rfl | rfl | rfl | rfl <;> rfl
theorem ly2 {L : Nat} (h : isLand L) : lay[L + 2]? = some (.inl (0, 16)) := by rcases h with rfl | rfl | rfl | rfl <;> rfl
theorem ly3 {L : Nat} (h : isLand L) : lay[L + 3]? = some (.inl (0, 6)) := by rcases h with rfl | rfl | rfl | rfl <;> rfl
theorem ly4 {L : Nat} (h : isLand L) : lay[L + 4]? = some (.inl (0, 6)) := by rcases h with rfl | rfl | rfl | rfl <;> rfl
/-- what holds of the text that is told -/
def TI (σ : Sg) : Prop := (5 ≤ σ.1 2 0 ∧ σ.1 2 0 ≤ 40) ∧ (0 ≤ σ.1 2 1 ∧ σ.1 2 1 ≤ 701) ∧ (0 ≤ σ.1 2 2 ∧ σ.1 2 2 ≤ 4) ∧ (0 ≤ σ.1 2 3 ∧ σ.1 2 3 ≤ 6) ∧ (0 ≤ σ.1 2 4 ∧ σ.1 2 4 ≤ 12) ∧ (-1 ≤ σ.1 2 5 ∧ σ.1 2 5 ≤ 99) ∧ (0 ≤ σ.1 2 6 ∧ σ.1 2 6 ≤ 100) ∧ (0 ≤ σ.1 2 7 ∧ σ.1 2 7 ≤ 99999)
  ∧ (∀ i, 0 ≤ i → i < 4 → 0 ≤ σ.1 3 i ∧ σ.1 3 i ≤ 39 ∧ 0 ≤ σ.1 4 i ∧ σ.1 4 i ≤ 39 ∧ R32 (σ.1 5 i)) ∧ (∀ i, 0 ≤ i → i < σ.1 2 2 → σ.1 3 i < σ.1 2 0 ∧ σ.1 4 i < σ.1 2 0)
  ∧ (∀ i, 0 ≤ i → i < 6 → 0 ≤ σ.1 6 i ∧ σ.1 6 i ≤ 30 ∧ 0 ≤ σ.1 7 i ∧ σ.1 7 i ≤ 9 ∧ R32 (σ.1 8 i))
  ∧ (∀ i, 0 ≤ i → i < 12 → 0 ≤ σ.1 9 i ∧ σ.1 9 i ≤ 15 ∧ 0 ≤ σ.1 10 i ∧ σ.1 10 i ≤ 5 ∧ 0 ≤ σ.1 11 i ∧ σ.1 11 i ≤ 99)
  ∧ (∀ i, 0 ≤ i → i < 16 → 0 ≤ σ.1 12 i ∧ σ.1 12 i ≤ 9)
/-- what holds of a land -/
def LI (σ : Sg) (L : Nat) : Prop := (∀ i, 0 ≤ i → i < 16 → 0 ≤ σ.1 (L + 1) i ∧ σ.1 (L + 1) i ≤ 39 ∧ 0 ≤ σ.1 (L + 2) i ∧ σ.1 (L + 2) i ≤ 9) ∧ (∀ i, 0 ≤ i → i < 6 → 0 ≤ σ.1 (L + 3) i ∧ σ.1 (L + 3) i ≤ 30 ∧ 0 ≤ σ.1 (L + 4) i ∧ σ.1 (L + 4) i ≤ 99)
  ∧ (0 ≤ σ.1 L 5 ∧ σ.1 L 5 ≤ 99999) ∧ (0 ≤ σ.1 L 6 ∧ σ.1 L 6 ≤ 100000) ∧ (0 ≤ σ.2 L 7 ∧ σ.2 L 7 ≤ 2147483647) ∧ (-1 ≤ σ.1 L 8 ∧ σ.1 L 8 ≤ 5) ∧ (σ.1 L 9 = 0 ∨ σ.1 L 9 = 1) ∧ (σ.1 L 10 = 0 ∨ σ.1 L 10 = 1)
theorem LI_side {σ : Sg} {L : Nat} {p : Int} (hT : TI σ) (hI : LI σ L) (h0 : 0 ≤ p) (h4 : p < 4) : (-39 ≤ gTop (σ.1 3) (σ.1 (L + 1)) p ∧ gTop (σ.1 3) (σ.1 (L + 1)) p ≤ 39) ∧ (0 ≤ gBot (σ.1 3) (σ.1 (L + 1)) p ∧ gBot (σ.1 3) (σ.1 (L + 1)) p ≤ 78) ∧ (-39 ≤ gLft (σ.1 4) (σ.1 (L + 1)) p ∧ gLft (σ.1 4) (σ.1 (L + 1)) p ≤ 39) ∧ (0 ≤ gRgt (σ.1 4) (σ.1 (L + 1)) p ∧ gRgt (σ.1 4) (σ.1 (L + 1)) p ≤ 78) ∧ gTop (σ.1 3) (σ.1 (L + 1)) p ≤ gBot (σ.1 3) (σ.1 (L + 1)) p ∧ gLft (σ.1 4) (σ.1 (L + 1)) p ≤ gRgt (σ.1 4) (σ.1 (L + 1)) p := by
  obtain ⟨-, -, -, -, -, -, -, -, h3, -⟩ := hT
  have a := h3 p h0 h4
  have b0 := hI.1 (4 * p) (by omega) (by omega)
  have b1 := hI.1 (4 * p + 1) (by omega) (by omega)
  have b2 := hI.1 (4 * p + 2) (by omega) (by omega)
  have b3 := hI.1 (4 * p + 3) (by omega) (by omega)
  unfold gTop gBot gLft gRgt
  omega
