theorem J_eq {G : Gx} {d : Nat} {M : Mt} {Post : Option Value → Sg → Prop} {σ τ : Sg} {pc : Nat} {L : List (Option Value)} {st : List Value} (hv : ∀ a i, iZ (τ.1 a i) = iZ (σ.1 a i)) (h2 : τ.2 = σ.2) (h : J G d M Post τ pc L st) : J G d M Post σ pc L st := by
  have e : ∀ a c, ent G.2.2.1 G.2.2.2 τ a c = ent G.2.2.1 G.2.2.2 σ a c := by
    intro a c
    cases c with
    | inl c =>
      obtain ⟨t, n⟩ := c
      unfold ent avl
      match t with
      | 1 => rw [h2]; rfl
      | 0 => simp only [hv]
      | t + 2 => simp only [hv]
    | inr c =>
      obtain ⟨ci, fl⟩ := c
      have h1 : ∀ j f, fvl G.2.2.2 τ a j f = fvl G.2.2.2 σ a j f := fun j f => by
        unfold fvl
        match f with
        | 0 => simp only [hv]
        | 1 => rw [h2]
        | t + 2 => rfl
      unfold ent
      simp only [h1]
  have ew : gW G τ = gW G σ := by
    unfold gW wsOf
    simp only [e]
  intro p e' s m args below meth c H locs ls h1 h2 h3 h4 h5 h6 h7 h8 h9 h10 h11
  refine h p e' s m args below meth c H locs ls h1 h2 h3 h4 h5 h6 h7 h8 ?_ h10 h11
  unfold gP at h9 ⊢
  rw [ew]
  exact h9
/-- names' cells by their ints -/
def nr2 (σ : Sg) : Sg := (fun a i => if a = 85 ∨ a = 89 then (iZ (σ.1 a i)).toInt else σ.1 a i, σ.2)
theorem nr2_1 (σ : Sg) (a : Nat) (i : Int) : (nr2 σ).1 a i = if a = 85 ∨ a = 89 then (iZ (σ.1 a i)).toInt else σ.1 a i := rfl
theorem nr2_ne (σ : Sg) {a : Nat} (h : a ≠ 85) (h' : a ≠ 89) : (nr2 σ).1 a = σ.1 a := by
  funext i
  exact if_neg (fun q => by omega)
theorem nr2_iZ (σ : Sg) (a : Nat) (i : Int) : iZ ((nr2 σ).1 a i) = iZ (σ.1 a i) := by
  rw [nr2_1]
  by_cases q : a = 85 ∨ a = 89
  · rw [if_pos q, iZ_of]
  · rw [if_neg q]
/-- the upper halves of the rows 84 .. u - 1 laid over the lower ones -/
def hvp (σ : Sg) (u : Nat) : Sg := (fun a i => if 84 ≤ a ∧ a < u ∧ 0 ≤ i ∧ i < hf2 a then σ.1 a (hf2 a + i) else σ.1 a i, σ.2)
theorem hvp_1 (σ : Sg) (u a : Nat) (i : Int) : (hvp σ u).1 a i = if 84 ≤ a ∧ a < u ∧ 0 ≤ i ∧ i < hf2 a then σ.1 a (hf2 a + i) else σ.1 a i := rfl
theorem hvp_0 (σ : Sg) : hvp σ 84 = σ := by
  apply Prod.ext
  · funext a i
    exact if_neg (by omega)
  · rfl
theorem hvp_ne (σ : Sg) {u a : Nat} (h : a < 84 ∨ u ≤ a) : (hvp σ u).1 a = σ.1 a := by
  funext i
  exact if_neg (by omega)
theorem hvp_s (σ : Sg) {u : Nat} {n : Int} (h : 84 ≤ u) (hn : hf2 u = n) : flA (hvp σ u) u 0 n (fun i => σ.1 u (n + i)) = hvp σ (u + 1) := by
  apply Prod.ext
  · funext a i
    rw [flA_1, hvp_1, hvp_1]
    by_cases q : a = u
    · subst q
      rw [hn]
      by_cases r : 0 ≤ i ∧ i < n
      · rw [if_pos ⟨rfl, r.1, by omega⟩, if_pos ⟨h, by omega, r.1, r.2⟩]
      · rw [if_neg (fun w => r ⟨w.2.1, by omega⟩), if_neg (fun w => by omega), if_neg (fun w => r ⟨w.2.2.1, w.2.2.2⟩)]
    · rw [if_neg (fun w => q w.1)]
      by_cases r : 84 ≤ a ∧ a < u ∧ 0 ≤ i ∧ i < hf2 a
      · rw [if_pos r, if_pos ⟨r.1, by omega, r.2.2⟩]
      · rw [if_neg r, if_neg (fun w => r ⟨w.1, by omega, w.2.2⟩)]
  · rfl

set_option maxHeartbeats 4000000 in
theorem c_X12_half {G : Gx} {σ : Sg} {u n : Nat} (hk : lay[u]? = some (.inl (0, 2 * n))) (hu : 84 ≤ u) (hn : hf2 u = n) (hn64 : n ≤ 64) : Con G 1 mX12_half [.ref (G.2.2.2 + u)] (hvp σ u) (pV (fun σ' => σ' = hvp σ (u + 1))) := by
  have lp : ∀ (n0 : Nat) (i : Int), 0 ≤ i → i + n0 = n → J G 1 mX12_half (pV (fun σ' => σ' = hvp σ (u + 1))) (flA (hvp σ u) u 0 i (fun i => σ.1 u (n + i))) 7 [some (.ref (G.2.2.2 + u)), some (.int (iZ n)), some (.int (iZ i))] [] := by
    intro n0
    induction n0 with
    | zero =>
      intro i i0 hi
      refine e_iload_n (q := 8) (i := 2) dX12_half_7 rfl rfl rfl ?_
      refine e_iload_n (q := 9) (i := 1) dX12_half_8 rfl rfl rfl ?_
      refine e_icmp_ge (q := 12) (tgt := 26) dX12_half_9 rfl (by decide) (fun c9 => ?_) (fun c9 => by exfalso; omega)
      exact r_v dX12_half_26 rfl (by rw [← hvp_s σ hu hn, show i = (n : Int) by omega])
    | succ n0 ih =>
      intro i i0 hi
      refine e_iload_n (q := 8) (i := 2) dX12_half_7 rfl rfl rfl ?_
      refine e_iload_n (q := 9) (i := 1) dX12_half_8 rfl rfl rfl ?_
      refine e_icmp_ge (q := 12) (tgt := 26) dX12_half_9 rfl (by decide) (fun c9 => by exfalso; omega) (fun c9 => ?_)
      refine e_aload_n (q := 13) (i := 0) dX12_half_12 rfl rfl rfl ?_
      refine e_iload_n (q := 14) (i := 2) dX12_half_13 rfl rfl rfl ?_
      refine e_aload_n (q := 15) (i := 0) dX12_half_14 rfl rfl rfl ?_
      refine e_iload_n (q := 16) (i := 1) dX12_half_15 rfl rfl rfl ?_
      refine e_iload_n (q := 17) (i := 2) dX12_half_16 rfl rfl rfl ?_
      refine e_iadd (q := 18) dX12_half_17 rfl ?_
      refine e_iald (q := 19) dX12_half_18 rfl hk ?_ (by omega) (by omega) (by omega)
      rw [show (flA (hvp σ u) u 0 i (fun i => σ.1 u (n + i))).1 u (n + i) = σ.1 u (n + i) from by rw [flA_1, if_neg (by omega), hvp_ne σ (Or.inr (Nat.le_refl u))]]
      refine e_iast (q := 20) dX12_half_19 rfl hk ?_ (by omega) (by omega) (by omega)
      rw [flA_s (hvp σ u) u i0 (Int.zero_add i).symm rfl]
      refine e_iinc (q := 23) (L' := [_, _, _]) dX12_half_20 rfl rfl (by decide) rfl rfl ?_
      refine e_goto (tgt := 7) dX12_half_23 (by decide) ?_
      exact ih (i + 1) (by omega) (by omega)
  refine e_entry om_X12_half (Nat.le_of_ble_eq_true rfl) (L := [some (.ref (G.2.2.2 + u)), none, none]) rfl ?_
  refine e_aload_n (q := 1) (i := 0) dX12_half_0 rfl rfl rfl ?_
  refine e_alen (q := 2) (nz := 2 * (n : Int)) dX12_half_1 rfl hk (by decide) (by omega) ?_
  refine e_iconst (q := 3) dX12_half_2 rfl ?_
  refine e_idiv (q := 4) dX12_half_3 rfl (by decide) (iZ_div (by omega) (by omega) (by omega) (by omega)) ?_
  rw [show 2 * (n : Int) / 2 = n by omega]
  refine e_istore_n (q := 5) (i := 1) (L' := [_, _, _]) dX12_half_4 rfl rfl (by decide) rfl rfl ?_
  refine e_iconst (q := 6) dX12_half_5 rfl ?_
  refine e_istore_n (q := 7) (i := 2) (L' := [_, _, _]) dX12_half_6 rfl rfl (by decide) rfl rfl ?_
  have h0 := lp n 0 (by decide) (by omega)
  rw [flA_0] at h0
  exact h0

/-! ===== the model's text ===== -/
def DZ (δ : Dl) : Prop := (δ 23 0 = 20 ∧ δ 23 1 = 0 ∧ δ 23 2 = 0 ∧ δ 23 3 = 0 ∧ δ 23 4 = 0 ∧ δ 23 6 = 0 ∧ δ 23 7 = 0 ∧ δ 34 4 = 0 ∧ δ 18 3 = 0 ∧ δ 18 4 = 0) ∧ (∀ i, 0 ≤ i → i < 16 → δ 33 i = 0) ∧ ∀ k, 0 ≤ k → k < 3 → δ 36 k = 0 ∧ δ 37 k = 0
theorem DZ_dp {δ : Dl} (h : DZ δ) : DPi δ := fun k a b q => by have := h.2.2 k a b; omega
def txS (σ : Sg) (m v : Int) : Sg := sI (sI (sI (sI (flA (flA (flA (flA (sI (sI (sI (sI (sI (sI σ 82 25 v) 82 21 m) 82 2 0) 82 22 0) 82 26 0) 82 27 (-1)) 84 7 7 (fun j => if j = 7 then 20 else 0)) 96 3 3 (fun _ => 0)) 97 3 3 (fun _ => 0)) 88 16 16 (fun _ => 0)) 82 19 0) 82 20 0) 82 30 0) 82 31 0
/-- where a text's reading begins -/
def TxI (σ T : Sg) (m : Int) : Prop := (T.1 82 2 = 0 ∧ T.1 82 19 = 0 ∧ T.1 82 20 = 0 ∧ T.1 82 21 = m ∧ T.1 82 22 = 0 ∧ T.1 82 26 = 0 ∧ T.1 82 27 = -1 ∧ T.1 82 30 = 0 ∧ T.1 82 31 = 0 ∧ R32 (T.1 82 25)) ∧ (∀ j : Int, j ∉ [2, 19, 20, 21, 22, 25, 26, 27, 30, 31] → T.1 82 j = σ.1 82 j) ∧ Fr [82, 84, 88, 96, 97] σ T ∧ (T.1 84 7 = 20 ∧ ∀ i, 8 ≤ i → i < 14 → T.1 84 i = 0) ∧ (∀ i, 16 ≤ i → i < 32 → T.1 88 i = 0) ∧ (∀ i, 3 ≤ i → i < 6 → T.1 96 i = 0 ∧ T.1 97 i = 0) ∧ ∀ c : Nat, 84 ≤ c → c ≤ 99 → ∀ i : Int, i < hf2 c → T.1 c i = σ.1 c i
theorem txS_I {σ : Sg} {m v : Int} (hv : R32 v) : TxI σ (txS σ m v) m := by
  have f82 : ∀ j : Int, (txS σ m v).1 82 j = if j = 31 then 0 else if j = 30 then 0 else if j = 20 then 0 else if j = 19 then 0 else if j = 27 then -1 else if j = 26 then 0 else if j = 22 then 0 else if j = 2 then 0 else if j = 21 then m else if j = 25 then v else σ.1 82 j := by
    intro j
    unfold txS
    simp only [sI_1, flA_1, true_and, Nat.reduceEqDiff, false_and, if_false]
  have f84 : (txS σ m v).1 84 = (flA σ 84 7 7 (fun j => if j = 7 then 20 else 0)).1 84 := by
    funext i
    unfold txS
    simp only [sI_1, flA_1, true_and, Nat.reduceEqDiff, false_and, if_false]
  have f88 : (txS σ m v).1 88 = (flA σ 88 16 16 (fun _ => 0)).1 88 := by
    funext i
    unfold txS
    simp only [sI_1, flA_1, true_and, Nat.reduceEqDiff, false_and, if_false]
  have f96 : (txS σ m v).1 96 = (flA σ 96 3 3 (fun _ => 0)).1 96 := by
    funext i
    unfold txS
    simp only [sI_1, flA_1, true_and, Nat.reduceEqDiff, false_and, if_false]
  have f97 : (txS σ m v).1 97 = (flA σ 97 3 3 (fun _ => 0)).1 97 := by
    funext i
    unfold txS
    simp only [sI_1, flA_1, true_and, Nat.reduceEqDiff, false_and, if_false]
  have fo : ∀ a : Nat, a ∉ [82, 84, 88, 96, 97] → (txS σ m v).1 a = σ.1 a := by
    intro a ha
    simp only [List.mem_cons, List.not_mem_nil, or_false] at ha
    funext i
    unfold txS
    rw [sI_1, if_neg (by omega), sI_1, if_neg (by omega), sI_1, if_neg (by omega), sI_1, if_neg (by omega), flA_1, if_neg (by omega), flA_1, if_neg (by omega), flA_1, if_neg (by omega), flA_1, if_neg (by omega), sI_1, if_neg (by omega), sI_1, if_neg (by omega), sI_1, if_neg (by omega), sI_1, if_neg (by omega), sI_1, if_neg (by omega), sI_1, if_neg (by omega)]
  refine ⟨⟨?_, ?_, ?_, ?_, ?_, ?_, ?_, ?_, ?_, ?_⟩, ?_, fun a ha => ⟨fo a ha, rfl⟩, ?_, ?_, ?_, ?_⟩
  · rw [f82]; rfl
  · rw [f82]; rfl
  · rw [f82]; rfl
  · rw [f82]; rfl
  · rw [f82]; rfl
  · rw [f82]; rfl
  · rw [f82]; rfl
  · rw [f82]; rfl
  · rw [f82]; rfl
  · rw [f82]; exact hv
  · intro j hj
    simp only [List.mem_cons, List.not_mem_nil, or_false] at hj
    rw [f82, if_neg (by omega), if_neg (by omega), if_neg (by omega), if_neg (by omega), if_neg (by omega), if_neg (by omega), if_neg (by omega), if_neg (by omega), if_neg (by omega), if_neg (by omega)]
  · rw [f84]
    refine ⟨rfl, fun i a b => ?_⟩
    rw [flA_1, if_pos ⟨rfl, by omega, by omega⟩, if_neg (by omega)]
  · intro i a b
    rw [f88, flA_1, if_pos ⟨rfl, by omega, by omega⟩]
  · intro i a b
    rw [f96, f97, flA_1, if_pos ⟨rfl, by omega, by omega⟩, flA_1, if_pos ⟨rfl, by omega, by omega⟩]
    exact ⟨rfl, rfl⟩
  · intro c c0 c1 i hi
    by_cases q4 : c = 84
    · subst q4
      have hi : i < 7 := hi
      rw [f84, flA_1, if_neg (by omega)]
    by_cases q8 : c = 88
    · subst q8
      have hi : i < 16 := hi
      rw [f88, flA_1, if_neg (by omega)]
    by_cases q6 : c = 96
    · subst q6
      have hi : i < 3 := hi
      rw [f96, flA_1, if_neg (by omega)]
    by_cases q7 : c = 97
    · subst q7
      have hi : i < 3 := hi
      rw [f97, flA_1, if_neg (by omega)]
    rw [fo c (by simp only [List.mem_cons, List.not_mem_nil, or_false]; omega)]
theorem TxI_MD {σ T : Sg} {m : Int} {δ : Dl} (h : TxI σ T m) (hZ : DZ δ) : MD T δ := by
  obtain ⟨⟨g2, g19, g20, g21, g22, g26, g27, g30, g31, g25⟩, -, -, ⟨a7, a8⟩, a88, a96, -⟩ := h
  obtain ⟨⟨z0, z1, z2, z3, z4, z6, z7, z34, z83, z84⟩, zc, zl⟩ := hZ
  refine ⟨⟨⟨a7.trans z0.symm, ?_, ?_, ?_, ?_, ?_, g20.trans z1.symm, g30, g31.trans z34.symm⟩, ?_, ?_, ?_, ?_, ?_, ?_⟩, ?_, ?_, ?_, ?_⟩
  · rw [z2]; exact a8 8 (by decide) (by decide)
  · rw [z3]; exact a8 9 (by decide) (by decide)
  · rw [z4]; exact a8 10 (by decide) (by decide)
  · rw [z6]; exact a8 11 (by decide) (by decide)
  · rw [z7]; exact a8 12 (by decide) (by decide)
  · intro i p q; rw [z2] at q; omega
  · intro i p q; rw [a88 (16 + i) (by omega) (by omega), zc i p q]
  · intro i p q; rw [z3] at q; omega
  · intro i p q; rw [z4] at q; omega
  · intro k p q
    have h1 := a96 (3 + k) (by omega) (by omega)
    have h2 := zl k p q
    exact ⟨h1.1.trans h2.1.symm, h1.2.trans h2.2.symm⟩
  · refine ⟨?_, ?_, ?_⟩
    · show T.1 84 13 = δ 34 4
      rw [z34]; exact a8 13 (by decide) (by decide)
    · show 0 ≤ δ 34 4
      omega
    · intro i p q
      have q : i < δ 34 4 := q
      omega
  · rw [g19]; decide
  · rw [g19, z83]; decide
  · rw [g19, z84]; decide
  · intro k hk
    have h2 := zl k (by omega) (by omega)
    rw [g19, h2.1, h2.2, show (0 : Int).toNat = 0 from rfl, Nat.zero_testBit]
    exact ⟨fun q => (by cases q), fun q => (by omega)⟩
/-- what the model holds of a text that was read -/
def MLo (σ : Sg) (δ : Dl) : Prop :=
  (σ.1 84 0 = δ 23 0 ∧ σ.1 84 1 = δ 23 2 ∧ σ.1 84 2 = δ 23 3 ∧ σ.1 84 3 = δ 23 4 ∧ σ.1 84 4 = δ 23 6 ∧ σ.1 84 5 = δ 23 7 ∧ σ.1 84 6 = δ 34 4)
  ∧ (∀ i, 0 ≤ i → i < δ 23 2 → σ.1 85 i = δ 26 i ∧ σ.1 86 i = δ 24 i ∧ σ.1 87 i = δ 25 i)
  ∧ (∀ i, 0 ≤ i → i < 16 → σ.1 88 i = δ 33 i)
  ∧ (∀ i, 0 ≤ i → i < δ 23 3 → σ.1 89 i = δ 29 i ∧ σ.1 90 i = δ 27 i ∧ σ.1 91 i = δ 28 i)
  ∧ (∀ i, 0 ≤ i → i < δ 23 4 → 4 * σ.1 92 i + σ.1 94 i = δ 30 i ∧ (0 ≤ σ.1 94 i ∧ σ.1 94 i ≤ 3) ∧ σ.1 93 i = δ 31 i ∧ σ.1 95 i = δ 32 i)
  ∧ (∀ k, 0 ≤ k → k < 3 → σ.1 96 k = δ 36 k ∧ σ.1 97 k = δ 37 k)
  ∧ (∀ i, 0 ≤ i → i < δ 34 4 → mKn σ i ∧ mCode σ i = δ 35 i)
def FTX : List Int := [2, 19, 20, 21, 22, 23, 24, 25, 26, 27, 28, 29, 30, 31]
def MFt (σ σ' : Sg) : Prop := Fr FMX σ σ' ∧ (∀ j : Int, j ∉ FTX → σ'.1 82 j = σ.1 82 j) ∧ (∀ c : Nat, 84 ≤ c → c ≤ 99 → ∀ i : Int, i < hf2 c → σ'.1 c i = σ.1 c i) ∧ (MG σ → MG σ')
def bgS (τ : Sg) : Sg := nr2 (sI (sI (sI (sI (hvp (sI (sI τ 82 28 (τ.1 82 26)) 82 29 (τ.1 82 27)) 100) 82 53 0) 82 54 (-1)) 82 42 0) 82 43 0)
theorem bgS_lo {τ : Sg} {c : Nat} (h0 : 84 ≤ c) (h1 : c ≤ 99) (h85 : c ≠ 85) (h89 : c ≠ 89) {i : Int} (i0 : 0 ≤ i) (i1 : i < hf2 c) : (bgS τ).1 c i = τ.1 c (hf2 c + i) := by
  unfold bgS
  rw [nr2_ne _ h85 h89, sI_ne _ (by omega), sI_ne _ (by omega), sI_ne _ (by omega), sI_ne _ (by omega), hvp_1, if_pos ⟨h0, by omega, i0, i1⟩, sI_ne _ (by omega), sI_ne _ (by omega)]
theorem bgS_nm {τ : Sg} {c : Nat} (hc : c = 85 ∨ c = 89) {i : Int} (i0 : 0 ≤ i) (i1 : i < hf2 c) : (bgS τ).1 c i = (iZ (τ.1 c (hf2 c + i))).toInt := by
  unfold bgS
  rw [nr2_1, if_pos hc, sI_ne _ (by omega), sI_ne _ (by omega), sI_ne _ (by omega), sI_ne _ (by omega), hvp_1, if_pos ⟨by omega, by omega, i0, i1⟩, sI_ne _ (by omega), sI_ne _ (by omega)]
theorem bgS_up {τ : Sg} {c : Nat} (h0 : 83 ≤ c) (h85 : c ≠ 85) (h89 : c ≠ 89) {i : Int} (i1 : hf2 c ≤ i ∨ 100 ≤ c ∨ c < 84) : (bgS τ).1 c i = τ.1 c i := by
  unfold bgS
  rw [nr2_ne _ h85 h89, sI_ne _ (by omega), sI_ne _ (by omega), sI_ne _ (by omega), sI_ne _ (by omega), hvp_1, if_neg (by omega), sI_ne _ (by omega), sI_ne _ (by omega)]
theorem bgS_82 (τ : Sg) (j : Int) : (bgS τ).1 82 j = if j = 43 then 0 else if j = 42 then 0 else if j = 54 then -1 else if j = 53 then 0 else if j = 29 then τ.1 82 27 else if j = 28 then τ.1 82 26 else τ.1 82 j := by
  unfold bgS
  rw [nr2_ne _ (by decide) (by decide)]
  simp only [sI_1, true_and]
  rw [hvp_ne _ (Or.inl (by decide))]
  simp only [sI_1, true_and]
theorem bgS_Fr (τ : Sg) : Fr FMX τ (bgS τ) := by
  intro a ha
  simp only [FMX, List.mem_cons, List.not_mem_nil, or_false] at ha
  refine ⟨?_, rfl⟩
  unfold bgS
  rw [nr2_ne _ (by omega) (by omega), sI_ne _ (by omega), sI_ne _ (by omega), sI_ne _ (by omega), sI_ne _ (by omega), hvp_ne _ (by omega), sI_ne _ (by omega), sI_ne _ (by omega)]
theorem bgS_Lo {τ : Sg} {δ : Dl} (h : MD0 τ δ) (hO : DOk δ) : MLo (bgS τ) δ := by
  obtain ⟨⟨b1, b2, b3, b4, b5, b6, b7, b8, b9⟩, hb, hbk, hbc, hbb, hbl, hKR⟩ := h
  obtain ⟨o0, o1, o2, o3, o4, o5, o6, o7, o8, o9, oc, ob, ok, og, ou, ow, ox, ot, oz, oy⟩ := id hO
  have l84 : ∀ i, 0 ≤ i → i < 7 → (bgS τ).1 84 i = τ.1 84 (7 + i) := fun i a b => bgS_lo (by decide) (by decide) (by decide) (by decide) a b
  have l98 : ∀ i, 0 ≤ i → i < 64 → (bgS τ).1 98 i = τ.1 98 (64 + i) := fun i a b => bgS_lo (by decide) (by decide) (by decide) (by decide) a b
  have l99 : ∀ i, 0 ≤ i → i < 64 → (bgS τ).1 99 i = τ.1 99 (64 + i) := fun i a b => bgS_lo (by decide) (by decide) (by decide) (by decide) a b
  refine ⟨⟨?_, ?_, ?_, ?_, ?_, ?_, ?_⟩, ?_, ?_, ?_, ?_, ?_, ?_⟩
  · rw [l84 0 (by decide) (by decide)]; exact b1
  · rw [l84 1 (by decide) (by decide)]; exact b2
  · rw [l84 2 (by decide) (by decide)]; exact b3
  · rw [l84 3 (by decide) (by decide)]; exact b4
  · rw [l84 4 (by decide) (by decide)]; exact b5
  · rw [l84 5 (by decide) (by decide)]; exact b6
  · rw [l84 6 (by decide) (by decide)]; exact hKR.1
  · intro i p q
    have h1 := hb i p q
    rw [bgS_nm (c := 85) (Or.inl rfl) p (by show i < 4; omega), bgS_lo (c := 86) (by decide) (by decide) (by decide) (by decide) p (by show i < 4; omega), bgS_lo (c := 87) (by decide) (by decide) (by decide) (by decide) p (by show i < 4; omega)]
    refine ⟨?_, h1.2.1, h1.2.2⟩
    show (iZ (τ.1 85 (4 + i))).toInt = _
    rw [h1.1, iZ_toInt (o8 i p (by omega)).2.2.2.2]
  · intro i p q
    rw [bgS_lo (c := 88) (by decide) (by decide) (by decide) (by decide) p (by show i < 16; omega)]
    exact hbk i p q
  · intro i p q
    have h1 := hbc i p q
    rw [bgS_nm (c := 89) (Or.inr rfl) p (by show i < 6; omega), bgS_lo (c := 90) (by decide) (by decide) (by decide) (by decide) p (by show i < 6; omega), bgS_lo (c := 91) (by decide) (by decide) (by decide) (by decide) p (by show i < 6; omega)]
    refine ⟨?_, h1.2.1, h1.2.2⟩
    show (iZ (τ.1 89 (6 + i))).toInt = _
    rw [h1.1, iZ_toInt (oc i p (by omega)).2.2.2.2]
  · intro i p q
    rw [bgS_lo (c := 92) (by decide) (by decide) (by decide) (by decide) p (by show i < 12; omega), bgS_lo (c := 93) (by decide) (by decide) (by decide) (by decide) p (by show i < 12; omega), bgS_lo (c := 94) (by decide) (by decide) (by decide) (by decide) p (by show i < 12; omega), bgS_lo (c := 95) (by decide) (by decide) (by decide) (by decide) p (by show i < 12; omega)]
    exact hbb i p q
  · intro i p q
    rw [bgS_lo (c := 96) (by decide) (by decide) (by decide) (by decide) p (by show i < 3; omega), bgS_lo (c := 97) (by decide) (by decide) (by decide) (by decide) p (by show i < 3; omega)]
    exact hbl i p q
  · intro i p q
    unfold mKn mCode
    rw [l98 i p (by omega), l99 i p (by omega)]
    exact hKR.2.2 i p q
theorem bgS_MT {τ : Sg} {δ : Dl} (h : MD0 τ δ) (hO : DOk δ) (hG : MG τ) : MT (bgS τ) := by
  have hL := bgS_Lo h hO
  obtain ⟨⟨c0, c1, c2, c3, c4, c5, c6⟩, lb, lk, lc, lbb, ll, -⟩ := hL
  obtain ⟨o0, o1, o2, o3, o4, o5, o6, o7, o8, o9, oc, ob, ok, og, ou, ow, ox, ot, oz, oy⟩ := id hO
  obtain ⟨g1, g2, g3⟩ := hG
  refine ⟨by rw [c0]; exact o0, by rw [c1]; exact o2, by rw [c2]; exact o3, by rw [c3]; exact o4, by rw [c4]; exact o6, by rw [c5]; exact o7, ?_, ?_, ?_, ?_, ?_⟩
  · intro i p q
    rw [bgS_nm (c := 85) (Or.inl rfl) p q, bgS_lo (c := 86) (by decide) (by decide) (by decide) (by decide) p q, bgS_lo (c := 87) (by decide) (by decide) (by decide) (by decide) p q]
    have g := g1 (4 + i) (by omega) (by omega)
    exact ⟨g.1, g.2.1, g.2.2.1, g.2.2.2, R32_of _⟩
  · intro i p q
    rw [c1] at q
    rw [(lb i p q).2.1, (lb i p q).2.2, c0]
    exact o9 i p q
  · intro i p q
    rw [bgS_nm (c := 89) (Or.inr rfl) p q, bgS_lo (c := 90) (by decide) (by decide) (by decide) (by decide) p q, bgS_lo (c := 91) (by decide) (by decide) (by decide) (by decide) p q]
    have g := g2 (6 + i) (by omega) (by omega)
    exact ⟨g.1, g.2.1, g.2.2.1, g.2.2.2, R32_of _⟩
  · intro i p q
    rw [bgS_lo (c := 92) (by decide) (by decide) (by decide) (by decide) p q, bgS_lo (c := 93) (by decide) (by decide) (by decide) (by decide) p q, bgS_lo (c := 94) (by decide) (by decide) (by decide) (by decide) p q, bgS_lo (c := 95) (by decide) (by decide) (by decide) (by decide) p q]
    exact g3 (12 + i) (by omega) (by omega)
  · intro i p q
    rw [lk i p q]
    exact ok i p q
theorem bgS_MG {τ : Sg} (hG : MG τ) : MG (bgS τ) := by
  obtain ⟨g1, g2, g3⟩ := hG
  refine ⟨fun i p q => ?_, fun i p q => ?_, fun i p q => ?_⟩
  · rw [bgS_up (c := 86) (by decide) (by decide) (by decide) (Or.inl p), bgS_up (c := 87) (by decide) (by decide) (by decide) (Or.inl p)]; exact g1 i p q
  · rw [bgS_up (c := 90) (by decide) (by decide) (by decide) (Or.inl p), bgS_up (c := 91) (by decide) (by decide) (by decide) (Or.inl p)]; exact g2 i p q
  · rw [bgS_up (c := 92) (by decide) (by decide) (by decide) (Or.inl p), bgS_up (c := 93) (by decide) (by decide) (by decide) (Or.inl p), bgS_up (c := 94) (by decide) (by decide) (by decide) (Or.inl p), bgS_up (c := 95) (by decide) (by decide) (by decide) (Or.inl p)]; exact g3 i p q
def FTB : List Int := [2, 19, 20, 21, 22, 23, 24, 25, 26, 27, 28, 29, 30, 31, 42, 43, 53, 54]
def TxM (σ σ' : Sg) (m : Int) (δ : Dl) (z : Int) : Prop := (¬ (0 ≤ m ∧ m ≤ σ.1 82 2) ∧ z = -2 ∧ σ' = σ) ∨ ((0 ≤ m ∧ m ≤ σ.1 82 2) ∧ σ'.1 82 2 = 0 ∧ match lText 701 δ (tkl (σ.1 83) m 0) with
  | .inl e => z = -1 ∧ MFt σ σ' ∧ σ'.1 82 28 = e.1 ∧ σ'.1 82 29 = e.2
  | .inr q => z = q.1 23 1 ∧ DOk q.1 ∧ DPi q.1 ∧ ∃ B, MSt B 0 σ' ∧ MT B ∧ MLo B q.1 ∧ MG B ∧ Fr FMX σ B ∧ (∀ j : Int, j ∉ FTB → B.1 82 j = σ.1 82 j) ∧ B.1 82 28 = 0 ∧ B.1 82 29 = -1 ∧ B.1 82 42 = 0 ∧ B.1 82 43 = 0 ∧ B.1 82 53 = 0 ∧ B.1 82 54 = -1)
theorem TxI_MFt {σ T τ : Sg} {m : Int} (h : TxI σ T m) (h2 : MFr T τ) (v w : Int) : MFt σ (sI (sI τ 82 28 v) 82 29 w) := by
  obtain ⟨-, a2, a3, -, -, -, a7⟩ := h
  obtain ⟨b1, b2, b3, -, b5⟩ := h2
  refine ⟨((Fr.tr (a3.mono (by decide)) b1).sI (by decide) _ _).sI (by decide) _ _, fun j hj => ?_, fun c p q i r => ?_, fun g => ?_⟩
  · simp only [FTX, List.mem_cons, List.not_mem_nil, or_false] at hj
    rw [sI_1, if_neg (by omega), sI_1, if_neg (by omega), b2 j (by simp only [List.mem_cons, List.not_mem_nil, or_false]; omega), a2 j (by simp only [List.mem_cons, List.not_mem_nil, or_false]; omega)]
  · rw [sI_ne _ (by omega), sI_ne _ (by omega), b3 c p q i r, a7 c p q i r]
  · have g' : MG T := by
      unfold MG
      rw [(a3 86 (by decide)).1, (a3 87 (by decide)).1, (a3 90 (by decide)).1, (a3 91 (by decide)).1, (a3 92 (by decide)).1, (a3 93 (by decide)).1, (a3 94 (by decide)).1, (a3 95 (by decide)).1]
      exact g
    exact (b5 g').cg (fun c p q => by rw [sI_ne _ (by omega), sI_ne _ (by omega)])

