/-! ===== the model's lines ===== -/
theorem bt_iff {T : Int} (h : 0 ≤ T) (n : Nat) : T / 2 ^ n % 2 = 1 ↔ T.toNat.testBit n = true := by
  obtain ⟨t, rfl⟩ := Int.eq_ofNat_of_zero_le h
  rw [Int.toNat_natCast, Nat.testBit_eq_decide_div_mod_eq, decide_eq_true_iff]
  have e : ((t : Int) / 2 ^ n % 2) = ((t / 2 ^ n % 2 : Nat) : Int) := by
    rw [Int.natCast_emod, Int.natCast_ediv]
    simp
  rw [e]
  omega
def stB (T : Int) (n : Nat) : Int := ((T.toNat ||| 2 ^ n : Nat) : Int)
theorem iZ_orB {T : Int} {n : Nat} (h0 : 0 ≤ T) (h1 : T < 524288) (hn : n ≤ 18) : iZ T ||| iZ (2 ^ n) = iZ (stB T n) := by
  have hp := p2_le (k := n) (by omega)
  have hb : T.toNat ||| 2 ^ n < 2 ^ 19 := Nat.or_lt_two_pow (by omega) (Nat.pow_lt_pow_right (by decide) (by omega))
  have e : ((2 : Int) ^ n) = ((2 ^ n : Nat) : Int) := by simp
  have hpos : (0 : Int) ≤ 2 ^ n := by rw [e]; omega
  apply iZ_ext
  rw [Int32.toBitVec_or, BitVec.toNat_or, iZ_bv h0 (by omega), iZ_bv hpos (by omega), iZ_bv (by unfold stB; omega) (by unfold stB; omega)]
  unfold stB
  rw [Int.toNat_natCast, e, Int.toNat_natCast]
theorem stB_in {T : Int} {n : Nat} (h0 : 0 ≤ T) (h1 : T < 524288) (hn : n ≤ 18) : 0 ≤ stB T n ∧ stB T n < 524288 := by
  have hb : T.toNat ||| 2 ^ n < 2 ^ 19 := Nat.or_lt_two_pow (by omega) (Nat.pow_lt_pow_right (by decide) (by omega))
  unfold stB
  omega
theorem stB_bt (T : Int) (n m : Nat) : (stB T n).toNat.testBit m = (T.toNat.testBit m || decide (n = m)) := by
  unfold stB
  rw [Int.toNat_natCast, Nat.testBit_or, Nat.testBit_two_pow]
/-- the half of each row that a draft lies behind -/
def hf2 (c : Nat) : Int := if c = 84 then 7 else if c ≤ 87 then 4 else if c = 88 then 16 else if c ≤ 91 then 6 else if c ≤ 95 then 12 else if c ≤ 97 then 3 else 64
def FMX : List Nat := [82, 84, 85, 86, 87, 88, 89, 90, 91, 92, 93, 94, 95, 96, 97, 98, 99]
def MFr (σ σ' : Sg) : Prop := Fr FMX σ σ' ∧ (∀ j : Int, j ∉ [19, 20, 22, 23, 24, 25, 26, 27, 30, 31] → σ'.1 82 j = σ.1 82 j) ∧ ∀ c : Nat, 84 ≤ c → c ≤ 99 → ∀ i : Int, i < hf2 c → σ'.1 c i = σ.1 c i
theorem MFr.rf (σ : Sg) : MFr σ σ := ⟨Fr.rf _ _, fun _ _ => rfl, fun _ _ _ _ _ => rfl⟩
theorem MFr.tr {σ τ ρ : Sg} (h : MFr σ τ) (h' : MFr τ ρ) : MFr σ ρ := ⟨h.1.tr h'.1, fun j q => (h'.2.1 j q).trans (h.2.1 j q), fun c a b i q => (h'.2.2 c a b i q).trans (h.2.2 c a b i q)⟩
theorem MFr.fm {σ τ : Sg} {F : List Int} (h : Fm [] F σ τ) (hF : ∀ j, j ∈ F → j ∈ ([19, 20, 22, 23, 24, 25, 26, 27, 30, 31] : List Int)) : MFr σ τ := ⟨h.1.mono (by decide), fun j q => h.2 j (fun r => q (hF j r)), fun c a b i _ => by rw [h.c (a := c) (by simp only [List.mem_cons, List.not_mem_nil, or_false]; omega)]⟩
theorem MFr.ef {σ τ : Sg} (h : EF σ τ) : MFr σ τ := by
  refine ⟨h.1.mono (by decide), fun j q => h.2.1 j (fun r => q ?_), fun c a b i q => ?_⟩
  · simp only [List.mem_cons, List.not_mem_nil, or_false] at r ⊢
    omega
  · by_cases q1 : c = 84
    · subst q1
      exact h.2.2.1 i (by unfold hf2 at q; rw [if_pos rfl] at q; omega)
    · by_cases q2 : c = 98
      · subst q2
        exact (h.2.2.2 i q).1
      · by_cases q3 : c = 99
        · subst q3
          exact (h.2.2.2 i q).2
        · rw [(h.1 c (by simp only [List.mem_cons, List.not_mem_nil, or_false]; omega)).1]
theorem MFr.si {σ τ : Sg} (h : MFr σ τ) {k : Nat} {j : Int} (h0 : 84 ≤ k) (h1 : k ≤ 99) (hj : hf2 k ≤ j) (v : Int) : MFr σ (sI τ k j v) := by
  refine ⟨h.1.sI (by unfold FMX; simp only [List.mem_cons, List.not_mem_nil, or_false]; omega) _ _, fun i q => ?_, fun c a b i q => ?_⟩
  · rw [sI_ne _ (by omega)]; exact h.2.1 i q
  · rw [sI_1, if_neg (fun r => by obtain ⟨r1, r2⟩ := r; subst r1; omega)]; exact h.2.2 c a b i q
theorem MFr.s82 {σ τ : Sg} (h : MFr σ τ) {j : Int} (hj : j ∈ ([19, 20, 22, 23, 24, 25, 26, 27, 30, 31] : List Int)) (v : Int) : MFr σ (sI τ 82 j v) := by
  refine ⟨h.1.sI (by decide) _ _, fun i q => ?_, fun c a b i q => ?_⟩
  · rw [sI_1, if_neg (fun r => q (by rw [r.2]; exact hj))]; exact h.2.1 i q
  · rw [sI_ne _ (by omega)]; exact h.2.2 c a b i q
/-- the model's draft holds what the lines told -/
def MD (σ : Sg) (δ : Dl) : Prop :=
  (σ.1 84 7 = δ 23 0 ∧ σ.1 84 8 = δ 23 2 ∧ σ.1 84 9 = δ 23 3 ∧ σ.1 84 10 = δ 23 4 ∧ σ.1 84 11 = δ 23 6 ∧ σ.1 84 12 = δ 23 7 ∧ σ.1 82 20 = δ 23 1 ∧ σ.1 82 30 = 0 ∧ σ.1 82 31 = δ 34 4)
  ∧ (∀ i, 0 ≤ i → i < δ 23 2 → σ.1 85 (4 + i) = δ 26 i ∧ σ.1 86 (4 + i) = δ 24 i ∧ σ.1 87 (4 + i) = δ 25 i)
  ∧ (∀ i, 0 ≤ i → i < 16 → σ.1 88 (16 + i) = δ 33 i)
  ∧ (∀ i, 0 ≤ i → i < δ 23 3 → σ.1 89 (6 + i) = δ 29 i ∧ σ.1 90 (6 + i) = δ 27 i ∧ σ.1 91 (6 + i) = δ 28 i)
  ∧ (∀ i, 0 ≤ i → i < δ 23 4 → 4 * σ.1 92 (12 + i) + σ.1 94 (12 + i) = δ 30 i ∧ (0 ≤ σ.1 94 (12 + i) ∧ σ.1 94 (12 + i) ≤ 3) ∧ σ.1 93 (12 + i) = δ 31 i ∧ σ.1 95 (12 + i) = δ 32 i)
  ∧ (∀ k, 0 ≤ k → k < 3 → σ.1 96 (3 + k) = δ 36 k ∧ σ.1 97 (3 + k) = δ 37 k)
  ∧ KR σ (δ 34 4, δ 35)
  ∧ (0 ≤ σ.1 82 19 ∧ σ.1 82 19 < 524288)
  ∧ ((σ.1 82 19).toNat.testBit 5 = true ↔ δ 18 3 ≠ 0) ∧ ((σ.1 82 19).toNat.testBit 6 = true ↔ δ 18 4 ≠ 0)
  ∧ (∀ k : Nat, k < 3 → ((σ.1 82 19).toNat.testBit (16 + k) = true ↔ δ 36 k < δ 37 k))
theorem MD.cg {σ τ : Sg} {δ : Dl} (h : MD σ δ) (h1 : ∀ c : Nat, 84 ≤ c → c ≤ 99 → τ.1 c = σ.1 c) (h2 : ∀ j, j ∈ ([19, 20, 30, 31] : List Int) → τ.1 82 j = σ.1 82 j) : MD τ δ := by
  unfold MD KR mKU mCU
  rw [h1 84 (by decide) (by decide), h1 85 (by decide) (by decide), h1 86 (by decide) (by decide), h1 87 (by decide) (by decide), h1 88 (by decide) (by decide), h1 89 (by decide) (by decide), h1 90 (by decide) (by decide), h1 91 (by decide) (by decide), h1 92 (by decide) (by decide), h1 93 (by decide) (by decide), h1 94 (by decide) (by decide), h1 95 (by decide) (by decide), h1 96 (by decide) (by decide), h1 97 (by decide) (by decide), h1 98 (by decide) (by decide), h1 99 (by decide) (by decide), h2 19 (by decide), h2 20 (by decide), h2 30 (by decide), h2 31 (by decide)]
  exact h
theorem MD.fm {σ τ : Sg} {δ : Dl} {F : List Int} (h : MD σ δ) (hF : Fm [] F σ τ) (h2 : ∀ j, j ∈ ([19, 20, 30, 31] : List Int) → j ∉ F) : MD τ δ := h.cg (fun c a b => hF.c (by simp only [List.mem_cons, List.not_mem_nil, or_false]; omega)) (fun j q => hF.2 j (h2 j q))
/-- a fault stands -/
def FM (σ τ : Sg) (e : Int × Int) : Prop := MFr σ τ ∧ τ.1 82 26 = e.1 ∧ τ.1 82 27 = e.2 ∧ (1 ≤ e.1 ∧ e.1 ≤ 4)
theorem FM.si {σ τ : Sg} {e : Int × Int} (h : FM σ τ e) {k : Nat} {j : Int} (h0 : 84 ≤ k) (h1 : k ≤ 99) (hj : hf2 k ≤ j) (v : Int) : FM σ (sI τ k j v) e := ⟨h.1.si h0 h1 hj v, by rw [sI_ne _ (by omega)]; exact h.2.1, by rw [sI_ne _ (by omega)]; exact h.2.2.1, h.2.2.2⟩
theorem FM.rf {σ τ : Sg} {e : Int × Int} (h : FM σ τ e) : R32 (τ.1 82 26) := by rw [h.2.1]; exact ⟨by have := h.2.2.2; omega, by have := h.2.2.2; omega⟩
theorem FM.ne {σ τ : Sg} {e : Int × Int} (h : FM σ τ e) : τ.1 82 26 ≠ 0 := by rw [h.2.1]; have := h.2.2.2; omega
theorem FM.mn {σ τ ρ : Sg} {e : Int × Int} (h : MFr σ τ) {z no : Int} (h2 : MN2 τ ρ z no (.inl e)) : FM σ ρ e := ⟨h.tr (MFr.fm h2.2.1 (by decide)), h2.2.2.1, h2.2.2.2.1, h2.2.2.2.2⟩
theorem FM.wr {σ τ : Sg} {k : Int} (h : MFr σ τ) (hk : 1 ≤ k ∧ k ≤ 4) : FM σ (wr τ k) (k, τ.1 82 23) := ⟨h.tr (MFr.fm wr_F (by decide)), wr_f, wr_p, hk⟩

