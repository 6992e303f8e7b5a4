/-! ===== the model's lines ===== -/
theorem bt_iff {T : Int} (h : 0 ≤ T) (n : Nat) : T / 2 ^ n % 2 = 1 ↔ T.toNat.testBit n = true := by
  obtain ⟨t, rfl⟩ := Int.eq_ofNat_of_zero_le h
  rw [Int.toNat_natCast, Nat.testBit_eq_decide_div_mod_eq, decide_eq_true_iff]
  have e : ((t : Int) / 2 ^ n % 2) = ((t / 2 ^ n % 2 : Nat) : Int) := by
    rw [Int.natCast_emod, Int.natCast_ediv]
    simp
  rw [e]
  omega
def stB (T : Int) (n : Nat) : Int := ((T.toNat ||| 2 ^ n : Nat) : Int)
theorem iZ_orB {T : Int} {n : Nat} (h0 : 0 ≤ T) (h1 : T < 524288) (hn : n ≤ 18) : iZ T ||| iZ (2 ^ n) = iZ (stB T n) := by
  have hp := p2_le (k := n) (by omega)
  have hb : T.toNat ||| 2 ^ n < 2 ^ 19 := Nat.or_lt_two_pow (by omega) (Nat.pow_lt_pow_right (by decide) (by omega))
  have e : ((2 : Int) ^ n) = ((2 ^ n : Nat) : Int) := by simp
  have hpos : (0 : Int) ≤ 2 ^ n := by rw [e]; omega
  apply iZ_ext
  rw [Int32.toBitVec_or, BitVec.toNat_or, iZ_bv h0 (by omega), iZ_bv hpos (by omega), iZ_bv (by unfold stB; omega) (by unfold stB; omega)]
  unfold stB
  rw [Int.toNat_natCast, e, Int.toNat_natCast]
theorem stB_in {T : Int} {n : Nat} (h0 : 0 ≤ T) (h1 : T < 524288) (hn : n ≤ 18) : 0 ≤ stB T n ∧ stB T n < 524288 := by
  have hb : T.toNat ||| 2 ^ n < 2 ^ 19 := Nat.or_lt_two_pow (by omega) (Nat.pow_lt_pow_right (by decide) (by omega))
  unfold stB
  omega
theorem stB_bt (T : Int) (n m : Nat) : (stB T n).toNat.testBit m = (T.toNat.testBit m || decide (n = m)) := by
  unfold stB
  rw [Int.toNat_natCast, Nat.testBit_or, Nat.testBit_two_pow]
/-- the half of each row that a draft lies behind -/
def hf2 (c : Nat) : Int := if c = 84 then 7 else if c ≤ 87 then 4 else if c = 88 then 16 else if c ≤ 91 then 6 else if c ≤ 95 then 12 else if c ≤ 97 then 3 else 64
def FMX : List Nat := [82, 84, 85, 86, 87, 88, 89, 90, 91, 92, 93, 94, 95, 96, 97, 98, 99]
/-- numbers in the upper halves, told or not, are small -/
def MG (σ : Sg) : Prop := (∀ i, 4 ≤ i → i < 8 → 0 ≤ σ.1 86 i ∧ σ.1 86 i ≤ 39 ∧ 0 ≤ σ.1 87 i ∧ σ.1 87 i ≤ 39) ∧ (∀ i, 6 ≤ i → i < 12 → 0 ≤ σ.1 90 i ∧ σ.1 90 i ≤ 30 ∧ 0 ≤ σ.1 91 i ∧ σ.1 91 i ≤ 9) ∧ (∀ i, 12 ≤ i → i < 24 → 0 ≤ σ.1 92 i ∧ σ.1 92 i ≤ 3 ∧ 0 ≤ σ.1 93 i ∧ σ.1 93 i ≤ 5 ∧ 0 ≤ σ.1 94 i ∧ σ.1 94 i ≤ 3 ∧ 0 ≤ σ.1 95 i ∧ σ.1 95 i ≤ 99)
def gOk (k : Nat) (v : Int) : Prop := (k = 86 → 0 ≤ v ∧ v ≤ 39) ∧ (k = 87 → 0 ≤ v ∧ v ≤ 39) ∧ (k = 90 → 0 ≤ v ∧ v ≤ 30) ∧ (k = 91 → 0 ≤ v ∧ v ≤ 9) ∧ (k = 92 → 0 ≤ v ∧ v ≤ 3) ∧ (k = 93 → 0 ≤ v ∧ v ≤ 5) ∧ (k = 94 → 0 ≤ v ∧ v ≤ 3) ∧ (k = 95 → 0 ≤ v ∧ v ≤ 99)
theorem MG.cg {σ τ : Sg} (h : MG σ) (h1 : ∀ c : Nat, 86 ≤ c → c ≤ 95 → τ.1 c = σ.1 c) : MG τ := by
  unfold MG
  rw [h1 86 (by decide) (by decide), h1 87 (by decide) (by decide), h1 90 (by decide) (by decide), h1 91 (by decide) (by decide), h1 92 (by decide) (by decide), h1 93 (by decide) (by decide), h1 94 (by decide) (by decide), h1 95 (by decide) (by decide)]
  exact h
theorem MG.si {τ : Sg} (h : MG τ) {k : Nat} {j v : Int} (hv : gOk k v) : MG (sI τ k j v) := by
  obtain ⟨g1, g2, g3, g4, g5, g6, g7, g8⟩ := hv
  obtain ⟨h1, h2, h3⟩ := h
  have sp : ∀ (c : Nat) (i lo hi : Int), (k = c → lo ≤ v ∧ v ≤ hi) → (lo ≤ τ.1 c i ∧ τ.1 c i ≤ hi) → (lo ≤ (sI τ k j v).1 c i ∧ (sI τ k j v).1 c i ≤ hi) := by
    intro c i lo hi a b
    rw [sI_1]
    by_cases q : c = k ∧ i = j
    · rw [if_pos q]; exact a q.1.symm
    · rw [if_neg q]; exact b
  refine ⟨fun i a b => ?_, fun i a b => ?_, fun i a b => ?_⟩
  · have q := h1 i a b
    have q1 := sp 86 i 0 39 g1 ⟨q.1, q.2.1⟩
    have q2 := sp 87 i 0 39 g2 ⟨q.2.2.1, q.2.2.2⟩
    exact ⟨q1.1, q1.2, q2.1, q2.2⟩
  · have q := h2 i a b
    have q1 := sp 90 i 0 30 g3 ⟨q.1, q.2.1⟩
    have q2 := sp 91 i 0 9 g4 ⟨q.2.2.1, q.2.2.2⟩
    exact ⟨q1.1, q1.2, q2.1, q2.2⟩
  · have q := h3 i a b
    have q1 := sp 92 i 0 3 g5 ⟨q.1, q.2.1⟩
    have q2 := sp 93 i 0 5 g6 ⟨q.2.2.1, q.2.2.2.1⟩
    have q3 := sp 94 i 0 3 g7 ⟨q.2.2.2.2.1, q.2.2.2.2.2.1⟩
    have q4 := sp 95 i 0 99 g8 ⟨q.2.2.2.2.2.2.1, q.2.2.2.2.2.2.2⟩
    exact ⟨q1.1, q1.2, q2.1, q2.2, q3.1, q3.2, q4.1, q4.2⟩
def MFr (σ σ' : Sg) : Prop := Fr FMX σ σ' ∧ (∀ j : Int, j ∉ [19, 20, 22, 23, 24, 25, 26, 27, 30, 31] → σ'.1 82 j = σ.1 82 j) ∧ (∀ c : Nat, 84 ≤ c → c ≤ 99 → ∀ i : Int, i < hf2 c → σ'.1 c i = σ.1 c i) ∧ NF σ σ' ∧ (MG σ → MG σ')
theorem MFr.rf (σ : Sg) : MFr σ σ := ⟨Fr.rf _ _, fun _ _ => rfl, fun _ _ _ _ _ => rfl, NF.of rfl rfl, id⟩
theorem MFr.tr {σ τ ρ : Sg} (h : MFr σ τ) (h' : MFr τ ρ) : MFr σ ρ := ⟨h.1.tr h'.1, fun j q => (h'.2.1 j q).trans (h.2.1 j q), fun c a b i q => (h'.2.2.1 c a b i q).trans (h.2.2.1 c a b i q), h.2.2.2.1.tr h'.2.2.2.1, fun q => h'.2.2.2.2 (h.2.2.2.2 q)⟩
theorem MFr.fw {σ τ : Sg} {F : List Int} (h : Fm [] F σ τ) (hF : ∀ j, j ∈ F → j ∈ ([19, 20, 22, 23, 24, 25, 26, 27, 30, 31] : List Int)) (hN : NF σ τ) : MFr σ τ := ⟨h.1.mono (by decide), fun j q => h.2 j (fun r => q (hF j r)), fun c a b i _ => by rw [h.c (a := c) (by simp only [List.mem_cons, List.not_mem_nil, or_false]; omega)], hN, fun q => q.cg (fun c a b => h.c (a := c) (by simp only [List.mem_cons, List.not_mem_nil, or_false]; omega))⟩
theorem MFr.fm {σ τ : Sg} {F : List Int} (h : Fm [] F σ τ) (hF : ∀ j, j ∈ F → j ∈ ([19, 20, 22, 23, 24, 25, 30, 31] : List Int)) : MFr σ τ := MFr.fw h (fun j q => by
  have r := hF j q
  simp only [List.mem_cons, List.not_mem_nil, or_false] at r ⊢
  omega) (NF.of (h.2 26 (fun r => absurd (hF 26 r) (by decide))) (h.2 27 (fun r => absurd (hF 27 r) (by decide))))
theorem MFr.ef {σ τ : Sg} (h : EF σ τ) : MFr σ τ := by
  refine ⟨h.1.mono (by decide), fun j q => h.2.1 j (fun r => q ?_), fun c a b i q => ?_, h.2.2.2.2, fun q => q.cg (fun c a b => (h.1 c (by simp only [List.mem_cons, List.not_mem_nil, or_false]; omega)).1)⟩
  · simp only [List.mem_cons, List.not_mem_nil, or_false] at r ⊢
    omega
  · by_cases q1 : c = 84
    · subst q1
      exact h.2.2.1 i (by unfold hf2 at q; rw [if_pos rfl] at q; omega)
    · by_cases q2 : c = 98
      · subst q2
        exact (h.2.2.2.1 i q).1
      · by_cases q3 : c = 99
        · subst q3
          exact (h.2.2.2.1 i q).2
        · rw [(h.1 c (by simp only [List.mem_cons, List.not_mem_nil, or_false]; omega)).1]
theorem MFr.si {σ τ : Sg} (h : MFr σ τ) {k : Nat} {j : Int} (h0 : 84 ≤ k) (h1 : k ≤ 99) (hj : hf2 k ≤ j) (v : Int) (hv : gOk k v := by unfold gOk; omega) : MFr σ (sI τ k j v) := by
  refine ⟨h.1.sI (by unfold FMX; simp only [List.mem_cons, List.not_mem_nil, or_false]; omega) _ _, fun i q => ?_, fun c a b i q => ?_, h.2.2.2.1.tr (NF.of (by rw [sI_ne _ (by omega)]) (by rw [sI_ne _ (by omega)])), fun q => (h.2.2.2.2 q).si hv⟩
  · rw [sI_ne _ (by omega)]; exact h.2.1 i q
  · rw [sI_1, if_neg (fun r => by obtain ⟨r1, r2⟩ := r; subst r1; omega)]; exact h.2.2.1 c a b i q
theorem MFr.s82 {σ τ : Sg} (h : MFr σ τ) {j : Int} (hj : j ∈ ([19, 20, 22, 23, 24, 25, 30, 31] : List Int)) (v : Int) : MFr σ (sI τ 82 j v) := by
  simp only [List.mem_cons, List.not_mem_nil, or_false] at hj
  refine ⟨h.1.sI (by decide) _ _, fun i q => ?_, fun c a b i q => ?_, h.2.2.2.1.tr (NF.of (by rw [sI_1, if_neg (by omega)]) (by rw [sI_1, if_neg (by omega)])), fun q => (h.2.2.2.2 q).cg (fun c a b => by rw [sI_ne _ (by omega)])⟩
  · rw [sI_1, if_neg (fun r => q (by rw [r.2]; simp only [List.mem_cons, List.not_mem_nil, or_false]; omega))]; exact h.2.1 i q
  · rw [sI_ne _ (by omega)]; exact h.2.2.1 c a b i q
/-- the model's draft holds what the lines told -/
def MD0 (σ : Sg) (δ : Dl) : Prop :=
  (σ.1 84 7 = δ 23 0 ∧ σ.1 84 8 = δ 23 2 ∧ σ.1 84 9 = δ 23 3 ∧ σ.1 84 10 = δ 23 4 ∧ σ.1 84 11 = δ 23 6 ∧ σ.1 84 12 = δ 23 7 ∧ σ.1 82 20 = δ 23 1 ∧ σ.1 82 30 = 0 ∧ σ.1 82 31 = δ 34 4)
  ∧ (∀ i, 0 ≤ i → i < δ 23 2 → σ.1 85 (4 + i) = δ 26 i ∧ σ.1 86 (4 + i) = δ 24 i ∧ σ.1 87 (4 + i) = δ 25 i)
  ∧ (∀ i, 0 ≤ i → i < 16 → σ.1 88 (16 + i) = δ 33 i)
  ∧ (∀ i, 0 ≤ i → i < δ 23 3 → σ.1 89 (6 + i) = δ 29 i ∧ σ.1 90 (6 + i) = δ 27 i ∧ σ.1 91 (6 + i) = δ 28 i)
  ∧ (∀ i, 0 ≤ i → i < δ 23 4 → 4 * σ.1 92 (12 + i) + σ.1 94 (12 + i) = δ 30 i ∧ (0 ≤ σ.1 94 (12 + i) ∧ σ.1 94 (12 + i) ≤ 3) ∧ σ.1 93 (12 + i) = δ 31 i ∧ σ.1 95 (12 + i) = δ 32 i)
  ∧ (∀ k, 0 ≤ k → k < 3 → σ.1 96 (3 + k) = δ 36 k ∧ σ.1 97 (3 + k) = δ 37 k)
  ∧ KR σ (δ 34 4, δ 35)
/-- what was told, by bits -/
def MDb (T : Int) (δ : Dl) : Prop := (0 ≤ T ∧ T < 524288) ∧ (T.toNat.testBit 5 = true ↔ δ 18 3 ≠ 0) ∧ (T.toNat.testBit 6 = true ↔ δ 18 4 ≠ 0) ∧ (∀ k : Nat, k < 3 → (T.toNat.testBit (16 + k) = true ↔ δ 36 k < δ 37 k))
def MD (σ : Sg) (δ : Dl) : Prop := MD0 σ δ ∧ MDb (σ.1 82 19) δ
theorem MD0.cg {σ τ : Sg} {δ : Dl} (h : MD0 σ δ) (h1 : ∀ c : Nat, 84 ≤ c → c ≤ 99 → τ.1 c = σ.1 c) (h2 : ∀ j, j ∈ ([20, 30, 31] : List Int) → τ.1 82 j = σ.1 82 j) : MD0 τ δ := by
  unfold MD0 KR mKU mCU
  rw [h1 84 (by decide) (by decide), h1 85 (by decide) (by decide), h1 86 (by decide) (by decide), h1 87 (by decide) (by decide), h1 88 (by decide) (by decide), h1 89 (by decide) (by decide), h1 90 (by decide) (by decide), h1 91 (by decide) (by decide), h1 92 (by decide) (by decide), h1 93 (by decide) (by decide), h1 94 (by decide) (by decide), h1 95 (by decide) (by decide), h1 96 (by decide) (by decide), h1 97 (by decide) (by decide), h1 98 (by decide) (by decide), h1 99 (by decide) (by decide), h2 20 (by decide), h2 30 (by decide), h2 31 (by decide)]
  exact h
theorem MD0.fm {σ τ : Sg} {δ : Dl} {F : List Int} (h : MD0 σ δ) (hF : Fm [] F σ τ) (h2 : ∀ j, j ∈ ([20, 30, 31] : List Int) → j ∉ F) : MD0 τ δ := h.cg (fun c a b => hF.c (by simp only [List.mem_cons, List.not_mem_nil, or_false]; omega)) (fun j q => hF.2 j (h2 j q))
/-- how a draft grows -/
theorem MD_par {σ τ : Sg} {δ : Dl} {l ro co : Int} (h : MD0 σ δ) (hn : 0 ≤ δ 23 2) (e84 : τ.1 84 = uf (σ.1 84) 8 (δ 23 2 + 1)) (e85 : τ.1 85 = uf (σ.1 85) (4 + δ 23 2) l) (e86 : τ.1 86 = uf (σ.1 86) (4 + δ 23 2) ro) (e87 : τ.1 87 = uf (σ.1 87) (4 + δ 23 2) co) (hc : ∀ c : Nat, 88 ≤ c → c ≤ 99 → τ.1 c = σ.1 c) (h2 : ∀ j, j ∈ ([20, 30, 31] : List Int) → τ.1 82 j = σ.1 82 j) : MD0 τ (u2 (u2 (u2 (u2 δ 26 (δ 23 2) l) 24 (δ 23 2) ro) 25 (δ 23 2) co) 23 2 (δ 23 2 + 1)) := by
  obtain ⟨⟨a1, a2, a3, a4, a5, a6, a7, a8, a9⟩, b, c, d, e, f, g⟩ := h
  refine ⟨?_, ?_, ?_, ?_, ?_, ?_, ?_⟩
  · rw [e84, h2 20 (by decide), h2 30 (by decide), h2 31 (by decide)]
    exact ⟨a1, rfl, a3, a4, a5, a6, a7, a8, a9⟩
  · intro i p q
    have q : i < δ 23 2 + 1 := q
    rw [e85, e86, e87]
    simp only [u2_1, uf, Nat.reduceEqDiff, false_and, true_and, if_false, reduceIte]
    by_cases r : i = δ 23 2
    · exact ⟨(if_pos (by omega)).trans (if_pos r).symm, (if_pos (by omega)).trans (if_pos r).symm, (if_pos (by omega)).trans (if_pos r).symm⟩
    · have h0 := b i p (by omega)
      exact ⟨(if_neg (by omega)).trans (h0.1.trans (if_neg r).symm), (if_neg (by omega)).trans (h0.2.1.trans (if_neg r).symm), (if_neg (by omega)).trans (h0.2.2.trans (if_neg r).symm)⟩
  · rw [hc 88 (by decide) (by decide)]; exact c
  · rw [hc 89 (by decide) (by decide), hc 90 (by decide) (by decide), hc 91 (by decide) (by decide)]; exact d
  · rw [hc 92 (by decide) (by decide), hc 93 (by decide) (by decide), hc 94 (by decide) (by decide), hc 95 (by decide) (by decide)]; exact e
  · rw [hc 96 (by decide) (by decide), hc 97 (by decide) (by decide)]; exact f
  · exact KR.cg g (by rw [e84]; rfl) (hc 98 (by decide) (by decide)) (hc 99 (by decide) (by decide))
theorem MD_chi {σ τ : Sg} {δ : Dl} {l g m : Int} (h : MD0 σ δ) (hn : 0 ≤ δ 23 3) (e84 : τ.1 84 = uf (σ.1 84) 9 (δ 23 3 + 1)) (e89 : τ.1 89 = uf (σ.1 89) (6 + δ 23 3) l) (e90 : τ.1 90 = uf (σ.1 90) (6 + δ 23 3) g) (e91 : τ.1 91 = uf (σ.1 91) (6 + δ 23 3) m) (hc : ∀ c : Nat, (85 ≤ c ∧ c ≤ 88) ∨ (92 ≤ c ∧ c ≤ 99) → τ.1 c = σ.1 c) (h2 : ∀ j, j ∈ ([20, 30, 31] : List Int) → τ.1 82 j = σ.1 82 j) : MD0 τ (u2 (u2 (u2 (u2 δ 29 (δ 23 3) l) 27 (δ 23 3) g) 28 (δ 23 3) m) 23 3 (δ 23 3 + 1)) := by
  obtain ⟨⟨a1, a2, a3, a4, a5, a6, a7, a8, a9⟩, b, c, d, e, f, k⟩ := h
  refine ⟨?_, ?_, ?_, ?_, ?_, ?_, ?_⟩
  · rw [e84, h2 20 (by decide), h2 30 (by decide), h2 31 (by decide)]
    exact ⟨a1, a2, rfl, a4, a5, a6, a7, a8, a9⟩
  · rw [hc 85 (by decide), hc 86 (by decide), hc 87 (by decide)]; exact b
  · rw [hc 88 (by decide)]; exact c
  · intro i p q
    have q : i < δ 23 3 + 1 := q
    rw [e89, e90, e91]
    simp only [u2_1, uf, Nat.reduceEqDiff, false_and, true_and, if_false, reduceIte]
    by_cases r : i = δ 23 3
    · exact ⟨(if_pos (by omega)).trans (if_pos r).symm, (if_pos (by omega)).trans (if_pos r).symm, (if_pos (by omega)).trans (if_pos r).symm⟩
    · have h0 := d i p (by omega)
      exact ⟨(if_neg (by omega)).trans (h0.1.trans (if_neg r).symm), (if_neg (by omega)).trans (h0.2.1.trans (if_neg r).symm), (if_neg (by omega)).trans (h0.2.2.trans (if_neg r).symm)⟩
  · rw [hc 92 (by decide), hc 93 (by decide), hc 94 (by decide), hc 95 (by decide)]; exact e
  · rw [hc 96 (by decide), hc 97 (by decide)]; exact f
  · exact KR.cg k (by rw [e84]; rfl) (hc 98 (by decide)) (hc 99 (by decide))
theorem MD_beat {σ τ : Sg} {δ : Dl} {p c w y : Int} (h : MD0 σ δ) (hn : 0 ≤ δ 23 4) (hw : 0 ≤ w ∧ w ≤ 3) (e84 : τ.1 84 = uf (σ.1 84) 10 (δ 23 4 + 1)) (e92 : τ.1 92 = uf (σ.1 92) (12 + δ 23 4) p) (e93 : τ.1 93 = uf (σ.1 93) (12 + δ 23 4) c) (e94 : τ.1 94 = uf (σ.1 94) (12 + δ 23 4) w) (e95 : τ.1 95 = uf (σ.1 95) (12 + δ 23 4) y) (hc : ∀ c : Nat, (85 ≤ c ∧ c ≤ 91) ∨ (96 ≤ c ∧ c ≤ 99) → τ.1 c = σ.1 c) (h2 : ∀ j, j ∈ ([20, 30, 31] : List Int) → τ.1 82 j = σ.1 82 j) : MD0 τ (u2 (u2 (u2 (u2 (u2 δ 30 (δ 23 4) (4 * p + w)) 31 (δ 23 4) c) 32 (δ 23 4) y) 23 5 (max (δ 23 5) y)) 23 4 (δ 23 4 + 1)) := by
  obtain ⟨⟨a1, a2, a3, a4, a5, a6, a7, a8, a9⟩, b, c', d, e, f, k⟩ := h
  refine ⟨?_, ?_, ?_, ?_, ?_, ?_, ?_⟩
  · rw [e84, h2 20 (by decide), h2 30 (by decide), h2 31 (by decide)]
    exact ⟨a1, a2, a3, rfl, a5, a6, a7, a8, a9⟩
  · rw [hc 85 (by decide), hc 86 (by decide), hc 87 (by decide)]; exact b
  · rw [hc 88 (by decide)]; exact c'
  · rw [hc 89 (by decide), hc 90 (by decide), hc 91 (by decide)]; exact d
  · intro i p' q
    have q : i < δ 23 4 + 1 := q
    rw [e92, e93, e94, e95]
    simp only [u2_1, uf, Nat.reduceEqDiff, false_and, true_and, if_false, reduceIte]
    by_cases r : i = δ 23 4
    · have z : ∀ a b : Int, (if 12 + i = 12 + δ 23 4 then a else b) = a := fun a b => if_pos (by omega)
      simp only [z]
      exact ⟨(if_pos r).symm, hw, (if_pos r).symm, (if_pos r).symm⟩
    · have h0 := e i p' (by omega)
      have z : ∀ a b : Int, (if 12 + i = 12 + δ 23 4 then a else b) = b := fun a b => if_neg (by omega)
      simp only [z]
      exact ⟨h0.1.trans (if_neg r).symm, h0.2.1, h0.2.2.1.trans (if_neg r).symm, h0.2.2.2.trans (if_neg r).symm⟩
  · rw [hc 96 (by decide), hc 97 (by decide)]; exact f
  · exact KR.cg k (by rw [e84]; rfl) (hc 98 (by decide)) (hc 99 (by decide))
theorem MD_cake {σ τ : Sg} {δ : Dl} {j v : Int} (h : MD0 σ δ) (e88 : τ.1 88 = uf (σ.1 88) (16 + j) v) (hc : ∀ c : Nat, (84 ≤ c ∧ c ≤ 87) ∨ (89 ≤ c ∧ c ≤ 99) → τ.1 c = σ.1 c) (h2 : ∀ j, j ∈ ([20, 30, 31] : List Int) → τ.1 82 j = σ.1 82 j) : MD0 τ (u2 δ 33 j v) := by
  obtain ⟨a, b, c, d, e, f, k⟩ := h
  refine ⟨?_, ?_, ?_, ?_, ?_, ?_, ?_⟩
  · rw [hc 84 (by decide), h2 20 (by decide), h2 30 (by decide), h2 31 (by decide)]; exact a
  · rw [hc 85 (by decide), hc 86 (by decide), hc 87 (by decide)]; exact b
  · intro i p q
    rw [e88]
    simp only [u2_1, uf, true_and]
    by_cases r : i = j
    · rw [if_pos (by omega), if_pos r]
    · rw [if_neg (by omega), if_neg r]; exact c i p q
  · rw [hc 89 (by decide), hc 90 (by decide), hc 91 (by decide)]; exact d
  · rw [hc 92 (by decide), hc 93 (by decide), hc 94 (by decide), hc 95 (by decide)]; exact e
  · rw [hc 96 (by decide), hc 97 (by decide)]; exact f
  · exact KR.cg k (by rw [hc 84 (by decide)]) (hc 98 (by decide)) (hc 99 (by decide))
theorem MD_num {σ τ : Sg} {δ δ' : Dl} {j v : Int} (h : MD0 σ δ) (e84 : τ.1 84 = uf (σ.1 84) j v) (hj : (j = 7 ∧ δ' = u2 δ 23 0 v) ∨ (j = 11 ∧ δ' = u2 (u2 δ 23 6 v) 18 3 1) ∨ (j = 12 ∧ δ' = u2 (u2 δ 23 7 v) 18 4 1)) (hc : ∀ c : Nat, 85 ≤ c → c ≤ 99 → τ.1 c = σ.1 c) (h2 : ∀ j, j ∈ ([20, 30, 31] : List Int) → τ.1 82 j = σ.1 82 j) : MD0 τ δ' := by
  obtain ⟨⟨a1, a2, a3, a4, a5, a6, a7, a8, a9⟩, b, c, d, e, f, k⟩ := h
  have hr : δ' 26 = δ 26 ∧ δ' 24 = δ 24 ∧ δ' 25 = δ 25 ∧ δ' 33 = δ 33 ∧ δ' 29 = δ 29 ∧ δ' 27 = δ 27 ∧ δ' 28 = δ 28 ∧ δ' 30 = δ 30 ∧ δ' 31 = δ 31 ∧ δ' 32 = δ 32 ∧ δ' 36 = δ 36 ∧ δ' 37 = δ 37 ∧ δ' 34 = δ 34 ∧ δ' 35 = δ 35 ∧ δ' 23 1 = δ 23 1 ∧ δ' 23 2 = δ 23 2 ∧ δ' 23 3 = δ 23 3 ∧ δ' 23 4 = δ 23 4 := by
    rcases hj with ⟨-, rfl⟩ | ⟨-, rfl⟩ | ⟨-, rfl⟩ <;> exact ⟨rfl, rfl, rfl, rfl, rfl, rfl, rfl, rfl, rfl, rfl, rfl, rfl, rfl, rfl, rfl, rfl, rfl, rfl⟩
  obtain ⟨r1, r2, r3, r4, r5, r6, r7, r8, r9, r10, r11, r12, r13, r14, r15, r16, r17, r18⟩ := hr
  unfold MD0
  rw [r1, r2, r3, r4, r5, r6, r7, r8, r9, r10, r11, r12, r13, r14, r15, r16, r17, r18]
  refine ⟨?_, ?_, ?_, ?_, ?_, ?_, ?_⟩
  · rw [e84, h2 20 (by decide), h2 30 (by decide), h2 31 (by decide)]
    rcases hj with ⟨rfl, rfl⟩ | ⟨rfl, rfl⟩ | ⟨rfl, rfl⟩
    · exact ⟨rfl, a2, a3, a4, a5, a6, a7, a8, a9⟩
    · exact ⟨a1, a2, a3, a4, rfl, a6, a7, a8, a9⟩
    · exact ⟨a1, a2, a3, a4, a5, rfl, a7, a8, a9⟩
  · rw [hc 85 (by decide) (by decide), hc 86 (by decide) (by decide), hc 87 (by decide) (by decide)]; exact b
  · rw [hc 88 (by decide) (by decide)]; exact c
  · rw [hc 89 (by decide) (by decide), hc 90 (by decide) (by decide), hc 91 (by decide) (by decide)]; exact d
  · rw [hc 92 (by decide) (by decide), hc 93 (by decide) (by decide), hc 94 (by decide) (by decide), hc 95 (by decide) (by decide)]; exact e
  · rw [hc 96 (by decide) (by decide), hc 97 (by decide) (by decide)]; exact f
  · exact KR.cg k (by rw [e84]; unfold uf; exact if_neg (by rcases hj with ⟨q, -⟩ | ⟨q, -⟩ | ⟨q, -⟩ <;> rw [q] <;> decide)) (hc 98 (by decide) (by decide)) (hc 99 (by decide) (by decide))
theorem fd_cg {f g : Int → Int} {x : Int} : ∀ n : Nat, (∀ i : Int, 0 ≤ i → i < n → f i = g i) → fd f x n = fd g x n
  | 0, _ => rfl
  | n + 1, h => by
    rw [show ((n + 1 : Nat) : Int) = (n : Int) + 1 by omega, fd_succ f x (by omega), fd_succ g x (by omega), fd_cg n (fun i a b => h i a (by omega)), h n (by omega) (by omega)]
theorem fd_cgz {f g : Int → Int} {x n : Int} (hn : 0 ≤ n) (h : ∀ i : Int, 0 ≤ i → i < n → f i = g i) : fd f x n = fd g x n := by
  obtain ⟨m, rfl⟩ := Int.eq_ofNat_of_zero_le hn
  exact fd_cg m h
theorem pNew_cg {f g : Int → Int} {n : Int} {ts : List Tk} (hn : 0 ≤ n) (h : ∀ i : Int, 0 ≤ i → i < n → f i = g i) : pNew f n ts = pNew g n ts := by
  match ts with
  | [] => rfl
  | t :: r => simp only [pNew]; rw [fd_cgz hn h]
theorem pTold_cg {f g : Int → Int} {n : Int} {ts : List Tk} (hn : 0 ≤ n) (h : ∀ i : Int, 0 ≤ i → i < n → f i = g i) : pTold f n ts = pTold g n ts := by
  match ts with
  | [] => rfl
  | t :: r => simp only [pTold]; rw [fd_cgz hn h]
/-- a fault stands -/
def FM (σ τ : Sg) (e : Int × Int) : Prop := MFr σ τ ∧ τ.1 82 26 = e.1 ∧ τ.1 82 27 = e.2 ∧ (1 ≤ e.1 ∧ e.1 ≤ 4)
theorem FM.si {σ τ : Sg} {e : Int × Int} (h : FM σ τ e) {k : Nat} {j : Int} (h0 : 84 ≤ k) (h1 : k ≤ 99) (hj : hf2 k ≤ j) (v : Int) (hv : gOk k v := by unfold gOk; omega) : FM σ (sI τ k j v) e := ⟨h.1.si h0 h1 hj v hv, by rw [sI_ne _ (by omega)]; exact h.2.1, by rw [sI_ne _ (by omega)]; exact h.2.2.1, h.2.2.2⟩
theorem FM.rf {σ τ : Sg} {e : Int × Int} (h : FM σ τ e) : R32 (τ.1 82 26) := by rw [h.2.1]; exact ⟨by have := h.2.2.2; omega, by have := h.2.2.2; omega⟩
theorem FM.ne {σ τ : Sg} {e : Int × Int} (h : FM σ τ e) : τ.1 82 26 ≠ 0 := by rw [h.2.1]; have := h.2.2.2; omega
theorem FM.mn {σ τ ρ : Sg} {e : Int × Int} (h : MFr σ τ) {z no : Int} (h2 : MN2 τ ρ z no (.inl e)) : FM σ ρ e := ⟨h.tr (MFr.fw h2.2.1 (by decide) (fun q => absurd (h2.2.2.1.symm.trans q) (by have := h2.2.2.2.2; omega))), h2.2.2.1, h2.2.2.2.1, h2.2.2.2.2⟩
theorem FM.wr {σ τ : Sg} {k : Int} (h : MFr σ τ) (hk : 1 ≤ k ∧ k ≤ 4) : FM σ (wr τ k) (k, τ.1 82 23) := ⟨h.tr (MFr.fw wr_F (by decide) (fun q => absurd (wr_f.symm.trans q) (by omega))), wr_f, wr_p, hk⟩

