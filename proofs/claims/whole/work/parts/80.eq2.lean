/-! ===== sets of parishes: the class's and the model's count of realms ===== -/
theorem hgIn_c {T T' : Int → Int} {n : Int} (h : ∀ k, 0 ≤ k → k < n → T k = T' k) : ∀ (k : Nat) (b : Int), (k : Int) ≤ n → hgIn T k b = hgIn T' k b
  | 0, _, _ => rfl
  | k + 1, b, hk => by
    simp only [hgIn]
    rw [hgIn_c h k b (by omega), h k (by omega) (by omega)]
theorem hgOut_c {T T' : Int → Int} {n : Int} (hn : 0 ≤ n) (h : ∀ k, 0 ≤ k → k < n → T k = T' k) : ∀ (k : Nat) (b : Int), hgOut T n.toNat k b = hgOut T' n.toNat k b
  | 0, _ => rfl
  | k + 1, b => by
    simp only [hgOut]
    rw [hgOut_c hn h k b, hgIn_c h n.toNat _ (by omega)]
theorem hOut_c {T T' : Int → Int} {n : Int} (hn : 0 ≤ n) (h : ∀ k, 0 ≤ k → k < n → T k = T' k) (k b : Int) : hOut T n k b = hOut T' n k b := hgOut_c hn h _ b
theorem mRl_c {T T' : Int → Int} {n : Int} (hn : 0 ≤ n) (h : ∀ k, 0 ≤ k → k < n → T k = T' k) : ∀ (k : Nat) (x : Int), mRl T n k x = mRl T' n k x
  | 0, _ => rfl
  | k + 1, x => by
    simp only [mRl]
    rw [hOut_c hn h, mRl_c hn h k]
def gSt (T : Int → Int) (n : Int) : Int := zs (fun p => if hOut T n n (2 ^ p.toNat) % 2 ^ p.toNat = 0 then 1 else 0) n
theorem gSt_c {T T' : Int → Int} {n : Int} (hn : 0 ≤ n) (h : ∀ k, 0 ≤ k → k < n → T k = T' k) : gSt T n = gSt T' n := by
  unfold gSt
  exact zs_congr (fun p _ _ => by rw [hOut_c hn h])
/-- who touches whom, by six bits -/
def ad6 (a b c d e f : Bool) (p q : Int) : Bool :=
  if (p = 0 ∧ q = 1) ∨ (p = 1 ∧ q = 0) then a else if (p = 0 ∧ q = 2) ∨ (p = 2 ∧ q = 0) then b else if (p = 0 ∧ q = 3) ∨ (p = 3 ∧ q = 0) then c else if (p = 1 ∧ q = 2) ∨ (p = 2 ∧ q = 1) then d else if (p = 1 ∧ q = 3) ∨ (p = 3 ∧ q = 1) then e else f
def td6 (a b c d e f : Bool) (n p : Int) : Int := zb (fun q => if q ≠ p ∧ ad6 a b c d e f p q = true then 1 else 0) n
theorem rl6 : ∀ n : Fin 5, ∀ a b c d e f : Bool, gSt (td6 a b c d e f n.val) n.val = mRl (td6 a b c d e f n.val) n.val 15 (2 ^ n.val - 1) := by decide +kernel
theorem ad_of {t : Int → Int → Int} (hs : ∀ p q, t p q = t q p) {p q : Int} (p0 : 0 ≤ p) (p4 : p < 4) (q0 : 0 ≤ q) (q4 : q < 4) (hne : q ≠ p) : ad6 (decide (t 0 1 = 1)) (decide (t 0 2 = 1)) (decide (t 0 3 = 1)) (decide (t 1 2 = 1)) (decide (t 1 3 = 1)) (decide (t 2 3 = 1)) p q = decide (t p q = 1) := by
  have e10 := hs 1 0
  have e20 := hs 2 0
  have e30 := hs 3 0
  have e21 := hs 2 1
  have e31 := hs 3 1
  have e32 := hs 3 2
  rcases (show p = 0 ∨ p = 1 ∨ p = 2 ∨ p = 3 by omega) with rfl | rfl | rfl | rfl <;> rcases (show q = 0 ∨ q = 1 ∨ q = 2 ∨ q = 3 by omega) with rfl | rfl | rfl | rfl <;> first | (exact absurd rfl hne) | rfl | (rw [e10]; rfl) | (rw [e20]; rfl) | (rw [e30]; rfl) | (rw [e21]; rfl) | (rw [e31]; rfl) | (rw [e32]; rfl)
theorem td_of {t : Int → Int → Int} (hs : ∀ p q, t p q = t q p) {n p : Int} (n4 : n ≤ 4) (p0 : 0 ≤ p) (p1 : p < n) : zb (fun q => if q ≠ p ∧ t p q = 1 then 1 else 0) n = td6 (decide (t 0 1 = 1)) (decide (t 0 2 = 1)) (decide (t 0 3 = 1)) (decide (t 1 2 = 1)) (decide (t 1 3 = 1)) (decide (t 2 3 = 1)) n p := by
  unfold td6
  apply zb_congr
  intro q q0 q1
  by_cases hne : q = p
  · rw [if_neg (fun w => w.1 hne), if_neg (fun w => w.1 hne)]
  · rw [ad_of hs p0 (by omega) q0 (by omega) hne]
    by_cases ht : t p q = 1
    · rw [if_pos ⟨hne, ht⟩, if_pos ⟨hne, decide_eq_true ht⟩]
    · rw [if_neg (fun w => ht w.2), if_neg (fun w => ht (of_decide_eq_true w.2))]
theorem gTouch_s (rw cl fr : Int → Int) (p q : Int) : gTouch rw cl fr p q = gTouch rw cl fr q p := by
  unfold gTouch gCR gCC
  rw [Int.min_comm (gBot rw fr p), Int.max_comm (gTop rw fr p), Int.min_comm (gRgt cl fr p), Int.max_comm (gLft cl fr p)]
theorem rl_eq (rw cl fr : Int → Int) {n : Int} (n0 : 0 ≤ n) (n4 : n ≤ 4) : gSets rw cl fr n = mRl (gTd rw cl fr n) n 15 (2 ^ n.toNat - 1) := by
  have hs := gTouch_s rw cl fr
  have h : ∀ k, 0 ≤ k → k < n → gTd rw cl fr n k = td6 (decide (gTouch rw cl fr 0 1 = 1)) (decide (gTouch rw cl fr 0 2 = 1)) (decide (gTouch rw cl fr 0 3 = 1)) (decide (gTouch rw cl fr 1 2 = 1)) (decide (gTouch rw cl fr 1 3 = 1)) (decide (gTouch rw cl fr 2 3 = 1)) n k := fun k a b => td_of hs n4 a b
  show gSt (gTd rw cl fr n) n = _
  rw [gSt_c n0 h, mRl_c n0 h]
  obtain ⟨m, rfl⟩ := Int.eq_ofNat_of_zero_le n0
  exact rl6 ⟨m, by omega⟩ _ _ _ _ _ _
/-! ===== colours ===== -/
theorem pC4 {a b c d : Int} (ha : 0 ≤ a ∧ a ≤ 3) (hb : 0 ≤ b ∧ b ≤ 3) (hc : 0 ≤ c ∧ c ≤ 3) (hd : 0 ≤ d ∧ d ≤ 3) : pCol (a + 4 * b + 16 * c + 64 * d) 0 = a ∧ pCol (a + 4 * b + 16 * c + 64 * d) 1 = b ∧ pCol (a + 4 * b + 16 * c + 64 * d) 2 = c ∧ pCol (a + 4 * b + 16 * c + 64 * d) 3 = d := by
  unfold pCol
  rw [show (2 : Int) ^ (2 * (0 : Int)).toNat = 1 by decide, show (2 : Int) ^ (2 * (1 : Int)).toNat = 4 by decide, show (2 : Int) ^ (2 * (2 : Int)).toNat = 16 by decide, show (2 : Int) ^ (2 * (3 : Int)).toNat = 64 by decide]
  omega
theorem mC4 {k a b c d : Int} (hk : k = 1 ∨ k = 2 ∨ k = 3) (ha : 0 ≤ a ∧ a < k) (hb : 0 ≤ b ∧ b < k) (hc : 0 ≤ c ∧ c < k) (hd : 0 ≤ d ∧ d < k) : mCol k (a + k * b + k * k * c + k * k * k * d) 0 = a ∧ mCol k (a + k * b + k * k * c + k * k * k * d) 1 = b ∧ mCol k (a + k * b + k * k * c + k * k * k * d) 2 = c ∧ mCol k (a + k * b + k * k * c + k * k * k * d) 3 = d := by
  unfold mCol
  rcases hk with rfl | rfl | rfl
  · rw [show (1 : Int) ^ (0 : Int).toNat = 1 by decide, show (1 : Int) ^ (1 : Int).toNat = 1 by decide, show (1 : Int) ^ (2 : Int).toNat = 1 by decide, show (1 : Int) ^ (3 : Int).toNat = 1 by decide]
    omega
  · rw [show (2 : Int) ^ (0 : Int).toNat = 1 by decide, show (2 : Int) ^ (1 : Int).toNat = 2 by decide, show (2 : Int) ^ (2 : Int).toNat = 4 by decide, show (2 : Int) ^ (3 : Int).toNat = 8 by decide]
    omega
  · rw [show (3 : Int) ^ (0 : Int).toNat = 1 by decide, show (3 : Int) ^ (1 : Int).toNat = 3 by decide, show (3 : Int) ^ (2 : Int).toNat = 9 by decide, show (3 : Int) ^ (3 : Int).toNat = 27 by decide]
    omega
def PcE (t : Int → Int → Int) (n c : Int) : Prop := ∃ x, 0 ≤ x ∧ x < 2 ^ (2 * n).toNat ∧ pOk t x c n
def McE (t : Int → Int → Int) (n c : Int) : Prop := ∃ x, 0 ≤ x ∧ x < c ^ n.toNat ∧ mOk t x c n
theorem col_i {f g : Int → Int} (h : f 0 = g 0 ∧ f 1 = g 1 ∧ f 2 = g 2 ∧ f 3 = g 3) {i : Int} (h0 : 0 ≤ i) (h1 : i < 4) : f i = g i := by
  rcases (show i = 0 ∨ i = 1 ∨ i = 2 ∨ i = 3 by omega) with rfl | rfl | rfl | rfl
  · exact h.1
  · exact h.2.1
  · exact h.2.2.1
  · exact h.2.2.2
theorem col_mp {t : Int → Int → Int} (hs : ∀ p q, t p q = t q p) {n c : Int} (n0 : 1 ≤ n) (n4 : n ≤ 4) (hc : c = 1 ∨ c = 2 ∨ c = 3) (h : McE t n c) : PcE t n c := by
  obtain ⟨x, x0, x1, hx⟩ := h
  have hA : ∀ i, 0 ≤ mCol c x i ∧ mCol c x i < c := fun i => by
    unfold mCol
    exact ⟨Int.emod_nonneg _ (by omega), Int.emod_lt_of_pos _ (by omega)⟩
  obtain ⟨A, hA0⟩ : ∃ A : Int → Int, A = fun i => if i < n then mCol c x i else 0 := ⟨_, rfl⟩
  have hAi : ∀ i, i < n → A i = mCol c x i := fun i q => by rw [hA0]; exact if_pos q
  have hAz : ∀ i, ¬ i < n → A i = 0 := fun i q => by rw [hA0]; exact if_neg q
  have hAb : ∀ i, 0 ≤ A i ∧ A i ≤ 3 := fun i => by
    by_cases q : i < n
    · rw [hAi i q]; have := hA i; omega
    · rw [hAz i q]; decide
  have h4 := pC4 (hAb 0) (hAb 1) (hAb 2) (hAb 3)
  have b0 := hAb 0
  have b1 := hAb 1
  have b2 := hAb 2
  have b3 := hAb 3
  have hp : ∀ i, 0 ≤ i → i < 4 → pCol (A 0 + 4 * A 1 + 16 * A 2 + 64 * A 3) i = A i := fun i a b => col_i (f := pCol (A 0 + 4 * A 1 + 16 * A 2 + 64 * A 3)) (g := A) h4 a b
  refine ⟨A 0 + 4 * A 1 + 16 * A 2 + 64 * A 3, by omega, ?_, ?_⟩
  · rcases (show n = 1 ∨ n = 2 ∨ n = 3 ∨ n = 4 by omega) with rfl | rfl | rfl | rfl
    · rw [hAz 1 (by decide), hAz 2 (by decide), hAz 3 (by decide), show (2 : Int) ^ (2 * (1 : Int)).toNat = 4 by decide]; omega
    · rw [hAz 2 (by decide), hAz 3 (by decide), show (2 : Int) ^ (2 * (2 : Int)).toNat = 16 by decide]; omega
    · rw [hAz 3 (by decide), show (2 : Int) ^ (2 * (3 : Int)).toNat = 64 by decide]; omega
    · rw [show (2 : Int) ^ (2 * (4 : Int)).toNat = 256 by decide]; omega
  · intro i i0 i1 hb
    rcases hb with hb | ⟨j, j0, j1, j2, j3⟩
    · rw [hp i i0 (by omega), hAi i i1] at hb
      have := hA i
      omega
    · rw [hp i i0 (by omega), hp j j0 (by omega), hAi i i1, hAi j (by omega)] at j2
      exact hx j i j0 j1 i1 j2.symm (by rw [hs]; exact j3)
theorem col_pm {t : Int → Int → Int} (hs : ∀ p q, t p q = t q p) {n c : Int} (n0 : 1 ≤ n) (n4 : n ≤ 4) (hc : c = 1 ∨ c = 2 ∨ c = 3) (h : PcE t n c) : McE t n c := by
  obtain ⟨x, x0, x1, hx⟩ := h
  have hA : ∀ i, 0 ≤ i → i < n → 0 ≤ pCol x i ∧ pCol x i < c := fun i a b => by
    have h1 : ¬ c ≤ pCol x i := fun q => hx i a b (Or.inl q)
    refine ⟨?_, by omega⟩
    unfold pCol
    exact Int.emod_nonneg _ (by decide)
  obtain ⟨A, hA0⟩ : ∃ A : Int → Int, A = fun i => if 0 ≤ i ∧ i < n then pCol x i else 0 := ⟨_, rfl⟩
  have hAi : ∀ i, 0 ≤ i → i < n → A i = pCol x i := fun i a q => by rw [hA0]; exact if_pos ⟨a, q⟩
  have hAz : ∀ i, ¬ i < n → A i = 0 := fun i q => by rw [hA0]; exact if_neg (fun w => q w.2)
  have hAb : ∀ i, 0 ≤ A i ∧ A i < c := fun i => by
    by_cases q : 0 ≤ i ∧ i < n
    · rw [hAi i q.1 q.2]; exact hA i q.1 q.2
    · rw [hA0]
      show 0 ≤ (if 0 ≤ i ∧ i < n then pCol x i else 0) ∧ (if 0 ≤ i ∧ i < n then pCol x i else 0) < c
      rw [if_neg q]; omega
  have h4 := mC4 hc (hAb 0) (hAb 1) (hAb 2) (hAb 3)
  have b0 := hAb 0
  have b1 := hAb 1
  have b2 := hAb 2
  have b3 := hAb 3
  have hp : ∀ i, 0 ≤ i → i < 4 → mCol c (A 0 + c * A 1 + c * c * A 2 + c * c * c * A 3) i = A i := fun i a b => col_i (f := mCol c (A 0 + c * A 1 + c * c * A 2 + c * c * c * A 3)) (g := A) h4 a b
  refine ⟨A 0 + c * A 1 + c * c * A 2 + c * c * c * A 3, ?_, ?_, ?_⟩
  · rcases hc with rfl | rfl | rfl <;> omega
  · rcases (show n = 1 ∨ n = 2 ∨ n = 3 ∨ n = 4 by omega) with rfl | rfl | rfl | rfl
    · rw [hAz 1 (by decide), hAz 2 (by decide), hAz 3 (by decide)]
      rcases hc with rfl | rfl | rfl
      · rw [show (1 : Int) ^ (1 : Int).toNat = 1 by decide]; omega
      · rw [show (2 : Int) ^ (1 : Int).toNat = 2 by decide]; omega
      · rw [show (3 : Int) ^ (1 : Int).toNat = 3 by decide]; omega
    · rw [hAz 2 (by decide), hAz 3 (by decide)]
      rcases hc with rfl | rfl | rfl
      · rw [show (1 : Int) ^ (2 : Int).toNat = 1 by decide]; omega
      · rw [show (2 : Int) ^ (2 : Int).toNat = 4 by decide]; omega
      · rw [show (3 : Int) ^ (2 : Int).toNat = 9 by decide]; omega
    · rw [hAz 3 (by decide)]
      rcases hc with rfl | rfl | rfl
      · rw [show (1 : Int) ^ (3 : Int).toNat = 1 by decide]; omega
      · rw [show (2 : Int) ^ (3 : Int).toNat = 8 by decide]; omega
      · rw [show (3 : Int) ^ (3 : Int).toNat = 27 by decide]; omega
    · rcases hc with rfl | rfl | rfl
      · rw [show (1 : Int) ^ (4 : Int).toNat = 1 by decide]; omega
      · rw [show (2 : Int) ^ (4 : Int).toNat = 16 by decide]; omega
      · rw [show (3 : Int) ^ (4 : Int).toNat = 81 by decide]; omega
  · intro i j i0 ij jn he ht
    rw [hp i i0 (by omega), hp j (by omega) (by omega), hAi i i0 (by omega), hAi j (by omega) jn] at he
    exact hx j (by omega) jn (Or.inr ⟨i, i0, ij, he.symm, by rw [hs]; exact ht⟩)
theorem col_id {t : Int → Int → Int} {n : Int} (n0 : 1 ≤ n) (n3 : n ≤ 3) : McE t n n := by
  rcases (show n = 1 ∨ n = 2 ∨ n = 3 by omega) with rfl | rfl | rfl
  · exact ⟨0, by decide, by decide, fun i j a b c _ => by omega⟩
  · refine ⟨2, by decide, by decide, fun i j a b c d => ?_⟩
    obtain ⟨rfl, rfl⟩ : i = 0 ∧ j = 1 := by omega
    exact absurd d (by decide)
  · refine ⟨21, by decide, by decide, fun i j a b c d => ?_⟩
    rcases (show (i = 0 ∧ j = 1) ∨ (i = 0 ∧ j = 2) ∨ (i = 1 ∧ j = 2) by omega) with ⟨rfl, rfl⟩ | ⟨rfl, rfl⟩ | ⟨rfl, rfl⟩
    · exact absurd d (by decide)
    · exact absurd d (by decide)
    · exact absurd d (by decide)
theorem col_eq {t : Int → Int → Int} (hs : ∀ p q, t p q = t q p) {n z z' : Int} (n0 : 0 ≤ n) (n4 : n ≤ 4) (h : 0 ≤ z ∧ z ≤ n ∧ (z < n → PcE t n z) ∧ ∀ c, 0 ≤ c → c < z → ∀ x, 0 ≤ x → x < 2 ^ (2 * n).toNat → ¬ pOk t x c n) (h' : (n = 0 ∧ z' = 0) ∨ (n ≠ 0 ∧ 1 ≤ z' ∧ z' ≤ 4 ∧ (z' < 4 → McE t n z') ∧ ∀ c, 1 ≤ c → c < z' → ¬ McE t n c)) : z' = z := by
  obtain ⟨h1, h2, h3, h4⟩ := h
  rcases h' with ⟨e1, e2⟩ | ⟨e0, e1, e2, e3, e4⟩
  · omega
  · have hz1 : 1 ≤ z := by
      rcases (show z = 0 ∨ 1 ≤ z by omega) with q | q
      · obtain ⟨x, x0, x1, hx⟩ := h3 (by omega)
        refine absurd (Or.inl ?_) (hx 0 (by decide) (by omega))
        rw [q]
        unfold pCol
        exact Int.emod_nonneg _ (by decide)
      · exact q
    rcases (show z' < z ∨ z < z' ∨ z' = z by omega) with q | q | q
    · obtain ⟨x, x0, x1, hx⟩ := col_mp hs (by omega) n4 (by omega) (e3 (by omega))
      exact absurd hx (h4 z' (by omega) q x x0 x1)
    · have hn := e4 z hz1 q
      rcases (show z < n ∨ z = n by omega) with r | r
      · exact absurd (col_pm hs (by omega) n4 (by omega) (h3 r)) hn
      · exact absurd (by rw [r]; exact col_id (by omega) (by omega)) hn
    · exact q
/-! ===== odds ===== -/
theorem dry6 : ∀ a : Fin 101, ∀ g : Fin 101, (1 ≤ g.val ∧ a.val % g.val = 0 ∧ 100 % g.val = 0 ∧ ∀ d : Fin 101, g.val < d.val → ¬ (a.val % d.val = 0 ∧ 100 % d.val = 0)) → ∀ m : Fin 7, (a.val / g.val) ^ m.val = a.val ^ m.val / Nat.gcd (a.val ^ m.val) (100 ^ m.val) ∧ (100 / g.val) ^ m.val = 100 ^ m.val / Nat.gcd (a.val ^ m.val) (100 ^ m.val) := by decide +kernel
theorem dry_eq {r m x z z' : Int} (hr : 0 ≤ r ∧ r ≤ 100) (h : (¬ (0 ≤ m ∧ m ≤ 6 ∧ 0 ≤ x ∧ x ≤ 1) ∧ z = -1) ∨ ((0 ≤ m ∧ m ≤ 6 ∧ 0 ≤ x ∧ x ≤ 1) ∧ ∃ g, (1 ≤ g ∧ g ≤ 100 ∧ (100 - r) % g = 0 ∧ 100 % g = 0 ∧ ∀ d, g < d → d ≤ 100 → ¬ ((100 - r) % d = 0 ∧ 100 % d = 0)) ∧ z = ((if x = 0 then 100 - r else 100) / g) ^ m.toNat)) (h' : z' = (if (0 ≤ m ∧ m ≤ 6 ∧ 0 ≤ x ∧ x ≤ 1) then (if x = 0 then (100 - r) ^ m.toNat else (100 : Int) ^ m.toNat) / (Int.gcd ((100 - r) ^ m.toNat) ((100 : Int) ^ m.toNat) : Int) else -1)) : z' = z := by
  rcases h with ⟨q, e⟩ | ⟨q, g, ⟨g1, g2, g3, g4, g5⟩, e⟩
  · rw [h', if_neg q, e]
  · rw [if_pos q] at h'
    obtain ⟨a, ha⟩ := Int.eq_ofNat_of_zero_le (show 0 ≤ 100 - r by omega)
    obtain ⟨k, hk⟩ := Int.eq_ofNat_of_zero_le (show 0 ≤ g by omega)
    rw [ha] at g3 g5 e h'
    subst hk
    have g3' : a % k = 0 := by exact_mod_cast g3
    have g4' : 100 % k = 0 := by exact_mod_cast g4
    have key := dry6 ⟨a, by omega⟩ ⟨k, by omega⟩ ⟨by show 1 ≤ k; omega, g3', g4', fun d d2 w => by
      have w1 : a % d.val = 0 := w.1
      have w2 : 100 % d.val = 0 := w.2
      have d1 := d.isLt
      have d2 : k < d.val := d2
      exact g5 d.val (by omega) (by omega) ⟨by exact_mod_cast w1, by exact_mod_cast w2⟩⟩ ⟨m.toNat, by omega⟩
    have key : (a / k) ^ m.toNat = a ^ m.toNat / Nat.gcd (a ^ m.toNat) (100 ^ m.toNat) ∧ (100 / k) ^ m.toNat = 100 ^ m.toNat / Nat.gcd (a ^ m.toNat) (100 ^ m.toNat) := key
    have eg : Int.gcd ((a : Int) ^ m.toNat) ((100 : Int) ^ m.toNat) = Nat.gcd (a ^ m.toNat) (100 ^ m.toNat) := by
      rw [show ((a : Int) ^ m.toNat) = ((a ^ m.toNat : Nat) : Int) by simp, show ((100 : Int) ^ m.toNat) = ((100 ^ m.toNat : Nat) : Int) by simp]
      rfl
    rw [h', e, eg]
    by_cases hx : x = 0
    · rw [if_pos hx, if_pos hx]
      have := congrArg (fun n : Nat => (n : Int)) key.1
      simp only [Int.natCast_ediv, Int.natCast_pow] at this
      rw [this]
    · rw [if_neg hx, if_neg hx]
      have := congrArg (fun n : Nat => (n : Int)) key.2
      simp only [Int.natCast_ediv, Int.natCast_pow] at this
      exact this.symm
/-! ===== rests ===== -/
theorem zs_le {f : Int → Int} (h : ∀ i, 0 ≤ f i) {a : Int} (ha : 0 ≤ a) : ∀ n : Nat, zs f a ≤ zs f (a + n)
  | 0 => by rw [show a + ((0 : Nat) : Int) = a by omega]; exact Int.le_refl _
  | n + 1 => by
    have ih := zs_le h ha n
    rw [show a + ((n + 1 : Nat) : Int) = (a + n) + 1 by omega, zs_succ f (by omega)]
    have := h (a + n)
    omega
theorem rest_un {f : Int → Int} (h01 : ∀ i, f i = 0 ∨ f i = 1) {k z z' : Int} (h : (z = -2 ∧ ∀ i, 0 ≤ i → i < 4 → ¬ (f i = 1 ∧ zs f i = k)) ∨ ∃ i, 0 ≤ i ∧ i < 4 ∧ f i = 1 ∧ zs f i = k ∧ z = 10 * (i / 2) + i % 2) (h' : (z' = -2 ∧ ∀ i, 0 ≤ i → i < 4 → ¬ (f i = 1 ∧ zs f i = k)) ∨ ∃ i, 0 ≤ i ∧ i < 4 ∧ f i = 1 ∧ zs f i = k ∧ z' = 10 * (i / 2) + i % 2) : z' = z := by
  have un : ∀ i j, 0 ≤ i → i < j → f i = 1 → zs f i = k → zs f j = k → False := by
    intro i j i0 ij fi zi zj
    have h1 := zs_le (f := f) (fun i => by have := h01 i; omega) (a := i + 1) (by omega) (j - (i + 1)).toNat
    rw [show i + 1 + (((j - (i + 1)).toNat : Nat) : Int) = j by omega, zs_succ f i0] at h1
    omega
  rcases h with ⟨e, n⟩ | ⟨i, i0, i1, i2, i3, i4⟩
  · rcases h' with ⟨e', _⟩ | ⟨j, j0, j1, j2, j3, j4⟩
    · omega
    · exact absurd ⟨j2, j3⟩ (n j j0 j1)
  · rcases h' with ⟨e', n⟩ | ⟨j, j0, j1, j2, j3, j4⟩
    · exact absurd ⟨i2, i3⟩ (n i i0 i1)
    · rcases (show i < j ∨ j < i ∨ i = j by omega) with q | q | q
      · exact (un i j i0 q i2 i3 j3).elim
      · exact (un j i j0 q j2 j3 i3).elim
      · rw [i4, j4, q]
theorem bts4 : ∀ a b c d : Fin 2, bts ((a.val : Int) + 2 * b.val + 4 * c.val + 8 * d.val) = a.val + b.val + c.val + d.val := by decide +kernel
theorem bts_z4 {f : Int → Int} (h01 : ∀ i, f i = 0 ∨ f i = 1) : bts (zb f 4) = zs f 4 := by
  have e1 : zb f 4 = f 0 + 2 * f 1 + 4 * f 2 + 8 * f 3 := by
    show zbits f 4 = _
    simp only [zbits]
    rcases h01 0 with a | a <;> rcases h01 1 with b | b <;> rcases h01 2 with c | c <;> rcases h01 3 with d | d <;> simp [a, b, c, d]
  have e2 : zs f 4 = f 0 + f 1 + f 2 + f 3 := by
    show zsum f 4 = _
    simp only [zsum]
    show 0 + f 0 + f 1 + f 2 + f 3 = _
    omega
  have hf : ∀ i, ∃ u : Fin 2, f i = (u.val : Int) := fun i => by
    rcases h01 i with q | q
    · exact ⟨0, q⟩
    · exact ⟨1, q⟩
  obtain ⟨a, ha⟩ := hf 0
  obtain ⟨b, hb⟩ := hf 1
  obtain ⟨c, hc⟩ := hf 2
  obtain ⟨d, hd⟩ := hf 3
  rw [e1, e2, ha, hb, hc, hd]
  exact bts4 a b c d

