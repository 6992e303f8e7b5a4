/-! ===== what is told ===== -/
def isTold (T : Nat) : Prop := T = 2 ∨ T = 23
theorem lt0 {T : Nat} (h : isTold T) : lay[T]? = some (.inr (9, [0, 0, 0, 0, 0, 0, 0, 0, T + 3, T + 4, T + 5, T + 6, T + 7, T + 8, T + 9, T + 10, T + 11, T + 12, T + 13])) := by rcases h with rfl | rfl <;> rfl
theorem lt3 {T : Nat} (h : isTold T) : lay[T + 3]? = some (.inl (0, 4)) := by rcases h with rfl | rfl <;> rfl
theorem lt6 {T : Nat} (h : isTold T) : lay[T + 6]? = some (.inl (0, 6)) := by rcases h with rfl | rfl <;> rfl
/-- the first place below n where a row has x, else -1 -/
def fnd (f : Int → Int) (x : Int) : Nat → Int
  | 0 => -1
  | n + 1 => if fnd f x n ≠ -1 then fnd f x n else if f n = x then n else -1
def fd (f : Int → Int) (x n : Int) : Int := fnd f x n.toNat
theorem fd_0 (f : Int → Int) (x : Int) : fd f x 0 = -1 := rfl
theorem fd_succ (f : Int → Int) (x : Int) {n : Int} (h : 0 ≤ n) : fd f x (n + 1) = if fd f x n ≠ -1 then fd f x n else if f n = x then n else -1 := by
  obtain ⟨m, rfl⟩ := Int.eq_ofNat_of_zero_le h
  rfl
theorem fnd_in (f : Int → Int) (x : Int) : ∀ n : Nat, -1 ≤ fnd f x n ∧ fnd f x n < n
  | 0 => ⟨by simp [fnd], by simp [fnd]⟩
  | n + 1 => by
    have h := fnd_in f x n
    simp only [fnd]
    split
    · omega
    · split <;> omega
theorem fd_in (f : Int → Int) (x : Int) {n : Int} (h : 0 ≤ n) : -1 ≤ fd f x n ∧ fd f x n < n := by
  have := fnd_in f x n.toNat
  unfold fd
  omega
theorem fnd_at {f : Int → Int} {x : Int} {k : Int} (hk : 0 ≤ k) (hf : fd f x k = -1) (he : f k = x) : ∀ n : Nat, k < n → fnd f x n = k
  | 0, h => by omega
  | n + 1, h => by
    simp only [fnd]
    by_cases e : k < n
    · rw [fnd_at hk hf he n e, if_pos (by omega)]
    · have e2 : k = n := by omega
      subst e2
      have : fnd f x n = -1 := hf
      rw [if_neg (by omega), if_pos he]
theorem fd_at {f : Int → Int} {x k n : Int} (hk : 0 ≤ k) (hf : fd f x k = -1) (he : f k = x) (hn : k < n) : fd f x n = k := fnd_at hk hf he n.toNat (by omega)
def gEdge (rw cl : Int → Int) (z p w : Int) : Int := if w = 0 then rw p else if w = 1 then z - 1 - cl p else if w = 2 then z - 1 - rw p else cl p

theorem c_X9_placeOf {G : Gx} {σ : Sg} {k mN : Nat} {x m : Int} (hk : lay[k]? = some (.inl (0, mN))) (hmN : mN < 1000) (hm0 : 0 ≤ m) (hm : m ≤ mN) (hR : ∀ i, 0 ≤ i → i < m → R32 (σ.1 k i)) (hx : R32 x) : Con G 1 mX9_placeOf [.int (iZ x), .ref (G.2.2.2 + k), .int (iZ m)] σ (pI (pE σ (fd (σ.1 k) x m))) := by
  have lp : ∀ (n : Nat) (i : Int), 0 ≤ i → i + n = m → fd (σ.1 k) x i = -1 → J G 1 mX9_placeOf (pI (pE σ (fd (σ.1 k) x m))) σ 2 [some (.int (iZ x)), some (.ref (G.2.2.2 + k)), some (.int (iZ m)), some (.int (iZ i))] [] := by
    intro n
    induction n with
    | zero =>
      intro i h0 hn hs
      refine e_iload_n (q := 3) (i := 3) dX9_placeOf_2 rfl rfl rfl ?_
      refine e_iload_n (q := 4) (i := 2) dX9_placeOf_3 rfl rfl rfl ?_
      refine e_icmp_ge (q := 7) (tgt := 28) dX9_placeOf_4 rfl (by decide) (fun c4 => ?_) (fun c4 => absurd (by omega) c4)
      refine e_iconst (q := 29) dX9_placeOf_28 rfl ?_
      exact r_i dX9_placeOf_29 rfl ⟨by rw [← hs]; congr 1; omega, rfl⟩
    | succ n ih =>
      intro i h0 hn hs
      refine e_iload_n (q := 3) (i := 3) dX9_placeOf_2 rfl rfl rfl ?_
      refine e_iload_n (q := 4) (i := 2) dX9_placeOf_3 rfl rfl rfl ?_
      refine e_icmp_ge (q := 7) (tgt := 28) dX9_placeOf_4 rfl (by decide) (fun c4 => absurd c4 (by omega)) (fun c4 => ?_)
      refine e_iload_n (q := 8) (i := 3) dX9_placeOf_7 rfl rfl rfl ?_
      refine e_aload_n (q := 9) (i := 1) dX9_placeOf_8 rfl rfl rfl ?_
      refine e_alen (q := 10) (nz := mN) dX9_placeOf_9 rfl hk (by decide) rfl ?_
      refine e_icmp_ge (q := 13) (tgt := 28) dX9_placeOf_10 rfl (by decide) (fun c10 => absurd c10 (by omega)) (fun c10 => ?_) (hy := ⟨by omega, by omega⟩)
      refine e_aload_n (q := 14) (i := 1) dX9_placeOf_13 rfl rfl rfl ?_
      refine e_iload_n (q := 15) (i := 3) dX9_placeOf_14 rfl rfl rfl ?_
      refine e_iald (q := 16) dX9_placeOf_15 rfl (by first | assumption | rfl) ?_ (h0 := h0) (hi := by omega) (hn := by omega)
      refine e_iload_n (q := 17) (i := 0) dX9_placeOf_16 rfl rfl rfl ?_
      refine e_icmp_ne (q := 20) (tgt := 22) dX9_placeOf_17 rfl (by decide) (fun c17 => ?_) (fun c17 => ?_) (hx := hR i h0 (by omega)) (hy := hx)
      · refine e_iinc (q := 25) (L' := [_, _, _, _]) dX9_placeOf_22 rfl rfl (by decide) rfl rfl ?_
        refine e_goto (tgt := 2) dX9_placeOf_25 (by decide) ?_
        exact ih _ (by omega) (by omega) (by rw [fd_succ _ _ h0, if_neg (by omega), if_neg c17])
      · refine e_iload_n (q := 21) (i := 3) dX9_placeOf_20 rfl rfl rfl ?_
        exact r_i dX9_placeOf_21 rfl ⟨(fd_at h0 hs c17 (by omega)).symm, rfl⟩
  refine e_entry om_X9_placeOf (Nat.le_of_ble_eq_true rfl) (L := [some (.int (iZ x)), some (.ref (G.2.2.2 + k)), some (.int (iZ m)), none]) rfl ?_
  refine e_iconst (q := 1) dX9_placeOf_0 rfl ?_
  refine e_istore_n (q := 2) (i := 3) (L' := [_, _, _, _]) dX9_placeOf_1 rfl rfl (by decide) rfl rfl ?_
  exact lp m.toNat 0 (by omega) (by omega) rfl

theorem c_X9_parishNamed {G : Gx} {σ : Sg} {T : Nat} {x : Int} (hT : isTold T) (hn0 : 0 ≤ σ.1 T 2) (hn1 : σ.1 T 2 ≤ 4) (hR : ∀ i, 0 ≤ i → i < σ.1 T 2 → R32 (σ.1 (T + 3) i)) (hx : R32 x) : Con G 2 mX9_parishNamed [.ref (G.2.2.2 + T), .int (iZ x)] σ (pI (pE σ (fd (σ.1 (T + 3)) x (σ.1 T 2)))) := by
  have t0 := lt0 hT
  have t3 := lt3 hT
  have t6 := lt6 hT
  refine e_entry om_X9_parishNamed (Nat.le_of_ble_eq_true rfl) (L := [some (.ref (G.2.2.2 + T)), some (.int (iZ x))]) rfl ?_
  refine e_iload_n (q := 1) (i := 1) dX9_parishNamed_0 rfl rfl rfl ?_
  refine e_aload_n (q := 2) (i := 0) dX9_parishNamed_1 rfl rfl rfl ?_
  refine e_getR (q := 5) dX9_parishNamed_2 rfl fg_X9_25 (by first | assumption | rfl) rfl ?_
  refine e_aload_n (q := 6) (i := 0) dX9_parishNamed_5 rfl rfl rfl ?_
  refine e_getI (q := 9) (jz := 2) dX9_parishNamed_6 rfl fg_X9_59 rfl (by first | assumption | rfl) rfl ?_
  refine e_Sip (q := 12) (vs := [_, _, _]) ok_X9_placeOf ml_X9_93 dX9_parishNamed_9 rfl rfl rfl (Nat.le_of_ble_eq_true rfl) (by decide) (c_X9_placeOf t3 (by decide) hn0 hn1 hR hx) ?_
  exact r_i dX9_parishNamed_12 rfl ⟨rfl, rfl⟩

theorem c_X9_childNamed {G : Gx} {σ : Sg} {T : Nat} {x : Int} (hT : isTold T) (hn0 : 0 ≤ σ.1 T 3) (hn1 : σ.1 T 3 ≤ 6) (hR : ∀ i, 0 ≤ i → i < σ.1 T 3 → R32 (σ.1 (T + 6) i)) (hx : R32 x) : Con G 2 mX9_childNamed [.ref (G.2.2.2 + T), .int (iZ x)] σ (pI (pE σ (fd (σ.1 (T + 6)) x (σ.1 T 3)))) := by
  have t0 := lt0 hT
  have t3 := lt3 hT
  have t6 := lt6 hT
  refine e_entry om_X9_childNamed (Nat.le_of_ble_eq_true rfl) (L := [some (.ref (G.2.2.2 + T)), some (.int (iZ x))]) rfl ?_
  refine e_iload_n (q := 1) (i := 1) dX9_childNamed_0 rfl rfl rfl ?_
  refine e_aload_n (q := 2) (i := 0) dX9_childNamed_1 rfl rfl rfl ?_
  refine e_getR (q := 5) dX9_childNamed_2 rfl fg_X9_34 (by first | assumption | rfl) rfl ?_
  refine e_aload_n (q := 6) (i := 0) dX9_childNamed_5 rfl rfl rfl ?_
  refine e_getI (q := 9) (jz := 3) dX9_childNamed_6 rfl fg_X9_62 rfl (by first | assumption | rfl) rfl ?_
  refine e_Sip (q := 12) (vs := [_, _, _]) ok_X9_placeOf ml_X9_93 dX9_childNamed_9 rfl rfl rfl (Nat.le_of_ble_eq_true rfl) (by decide) (c_X9_placeOf t6 (by decide) hn0 hn1 hR hx) ?_
  exact r_i dX9_childNamed_12 rfl ⟨rfl, rfl⟩

theorem c_X9_hasChurch {G : Gx} {σ : Sg} {r c : Int} (hn0 : 0 ≤ (σ.1 23 2)) (hn1 : (σ.1 23 2) ≤ 4) (hR : ∀ i, 0 ≤ i → i < (σ.1 23 2) → R32 (σ.1 24 i) ∧ R32 (σ.1 25 i)) (hr : R32 r) (hc : R32 c) : Con G 1 mX9_hasChurch [.ref (G.2.2.2 + 23), .int (iZ r), .int (iZ c)] σ (pI (fun z σ' => ((z = 1 ∧ ∃ k, 0 ≤ k ∧ k < (σ.1 23 2) ∧ σ.1 24 k = r ∧ σ.1 25 k = c) ∨ (z = 0 ∧ ¬ ∃ k, 0 ≤ k ∧ k < (σ.1 23 2) ∧ σ.1 24 k = r ∧ σ.1 25 k = c)) ∧ σ' = σ)) := by
  have lp : ∀ (n : Nat) (i : Int), 0 ≤ i → i + n = (σ.1 23 2) → (∀ k, 0 ≤ k → k < i → ¬ (σ.1 24 k = r ∧ σ.1 25 k = c)) → J G 1 mX9_hasChurch (pI (fun z σ' => ((z = 1 ∧ ∃ k, 0 ≤ k ∧ k < (σ.1 23 2) ∧ σ.1 24 k = r ∧ σ.1 25 k = c) ∨ (z = 0 ∧ ¬ ∃ k, 0 ≤ k ∧ k < (σ.1 23 2) ∧ σ.1 24 k = r ∧ σ.1 25 k = c)) ∧ σ' = σ)) σ 2 [some (.ref (G.2.2.2 + 23)), some (.int (iZ r)), some (.int (iZ c)), some (.int (iZ i))] [] := by
    intro n
    induction n with
    | zero =>
      intro i h0 hn hs
      refine e_iload_n (q := 3) (i := 3) dX9_hasChurch_2 rfl rfl rfl ?_
      refine e_aload_n (q := 4) (i := 0) dX9_hasChurch_3 rfl rfl rfl ?_
      refine e_getI (q := 7) (jz := 2) dX9_hasChurch_4 rfl fg_X9_59 rfl (by first | assumption | rfl) rfl ?_
      refine e_icmp_ge (q := 10) (tgt := 38) dX9_hasChurch_7 rfl (by decide) (fun c7 => ?_) (fun c7 => absurd (by omega) c7)
      refine e_iconst (q := 39) dX9_hasChurch_38 rfl ?_
      exact r_z dX9_hasChurch_39 rfl (by first | exact Or.inl rfl | exact Or.inr rfl | omega) ⟨Or.inr ⟨rfl, fun ⟨k, k0, k1, k2⟩ => hs k k0 (by omega) k2⟩, rfl⟩
    | succ n ih =>
      intro i h0 hn hs
      refine e_iload_n (q := 3) (i := 3) dX9_hasChurch_2 rfl rfl rfl ?_
      refine e_aload_n (q := 4) (i := 0) dX9_hasChurch_3 rfl rfl rfl ?_
      refine e_getI (q := 7) (jz := 2) dX9_hasChurch_4 rfl fg_X9_59 rfl (by first | assumption | rfl) rfl ?_
      refine e_icmp_ge (q := 10) (tgt := 38) dX9_hasChurch_7 rfl (by decide) (fun c7 => absurd c7 (by omega)) (fun c7 => ?_)
      refine e_aload_n (q := 11) (i := 0) dX9_hasChurch_10 rfl rfl rfl ?_
      refine e_getR (q := 14) dX9_hasChurch_11 rfl fg_X9_18 (by first | assumption | rfl) rfl ?_
      refine e_iload_n (q := 15) (i := 3) dX9_hasChurch_14 rfl rfl rfl ?_
      refine e_iald (q := 16) dX9_hasChurch_15 rfl (by first | assumption | rfl) ?_
      refine e_iload_n (q := 17) (i := 1) dX9_hasChurch_16 rfl rfl rfl ?_
      refine e_icmp_ne (q := 20) (tgt := 32) dX9_hasChurch_17 rfl (by decide) (fun c17 => ?_) (fun c17 => ?_) (hx := (hR i h0 (by omega)).1) (hy := hr)
      · refine e_iinc (q := 35) (L' := [_, _, _, _]) dX9_hasChurch_32 rfl rfl (by decide) rfl rfl ?_
        refine e_goto (tgt := 2) dX9_hasChurch_35 (by decide) ?_
        refine ih _ (by omega) (by omega) (fun k k0 k1 => ?_)
        by_cases e : k = i
        · subst e
          omega
        · exact hs k k0 (by omega)
      · refine e_aload_n (q := 21) (i := 0) dX9_hasChurch_20 rfl rfl rfl ?_
        refine e_getR (q := 24) dX9_hasChurch_21 rfl fg_X9_22 (by first | assumption | rfl) rfl ?_
        refine e_iload_n (q := 25) (i := 3) dX9_hasChurch_24 rfl rfl rfl ?_
        refine e_iald (q := 26) dX9_hasChurch_25 rfl (by first | assumption | rfl) ?_
        refine e_iload_n (q := 27) (i := 2) dX9_hasChurch_26 rfl rfl rfl ?_
        refine e_icmp_ne (q := 30) (tgt := 32) dX9_hasChurch_27 rfl (by decide) (fun c27 => ?_) (fun c27 => ?_) (hx := (hR i h0 (by omega)).2) (hy := hc)
        · refine e_iinc (q := 35) (L' := [_, _, _, _]) dX9_hasChurch_32 rfl rfl (by decide) rfl rfl ?_
          refine e_goto (tgt := 2) dX9_hasChurch_35 (by decide) ?_
          refine ih _ (by omega) (by omega) (fun k k0 k1 => ?_)
          by_cases e : k = i
          · subst e
            omega
          · exact hs k k0 (by omega)
        · refine e_iconst (q := 31) dX9_hasChurch_30 rfl ?_
          exact r_z dX9_hasChurch_31 rfl (by first | exact Or.inl rfl | exact Or.inr rfl | omega) ⟨Or.inl ⟨rfl, i, h0, by omega, c17, c27⟩, rfl⟩
  refine e_entry om_X9_hasChurch (Nat.le_of_ble_eq_true rfl) (L := [some (.ref (G.2.2.2 + 23)), some (.int (iZ r)), some (.int (iZ c)), none]) rfl ?_
  refine e_iconst (q := 1) dX9_hasChurch_0 rfl ?_
  refine e_istore_n (q := 2) (i := 3) (L' := [_, _, _, _]) dX9_hasChurch_1 rfl rfl (by decide) rfl rfl ?_
  exact lp ((σ.1 23 2)).toNat 0 (by omega) (by omega) (fun k k0 k1 => absurd k1 (by omega))

theorem c_X9_edge {G : Gx} {σ : Sg} {p w : Int} (hp : 0 ≤ p) (hp4 : p < 4) (hw0 : 0 ≤ w) (hw4 : w < 4) : Con G 1 mX9_edge [.ref (G.2.2.2 + 2), .int (iZ p), .int (iZ w)] σ (pI (pE σ (gEdge (σ.1 3) (σ.1 4) (σ.1 2 0) p w))) := by
  refine e_entry om_X9_edge (Nat.le_of_ble_eq_true rfl) (L := [some (.ref (G.2.2.2 + 2)), some (.int (iZ p)), some (.int (iZ w))]) rfl ?_
  refine e_iload_n (q := 1) (i := 2) dX9_edge_0 rfl rfl rfl ?_
  by_cases k1_0 : w = 0
  · refine e_tabIn (tgt := 28) dX9_edge_1 ⟨by omega, by omega⟩ (by omega) (by omega) (by rw [k1_0]; rfl) (by decide) ?_
    refine e_aload_n (q := 29) (i := 0) dX9_edge_28 rfl rfl rfl ?_
    refine e_getR (q := 32) dX9_edge_29 rfl fg_X9_18 (by first | assumption | rfl) rfl ?_
    refine e_iload_n (q := 33) (i := 1) dX9_edge_32 rfl rfl rfl ?_
    refine e_iald (q := 34) dX9_edge_33 rfl (by first | assumption | rfl) ?_
    exact r_i dX9_edge_34 rfl ⟨by unfold gEdge; rw [if_pos k1_0], rfl⟩
  by_cases k1_1 : w = 1
  · refine e_tabIn (tgt := 35) dX9_edge_1 ⟨by omega, by omega⟩ (by omega) (by omega) (by rw [k1_1]; rfl) (by decide) ?_
    refine e_aload_n (q := 36) (i := 0) dX9_edge_35 rfl rfl rfl ?_
    refine e_getI (q := 39) (jz := 0) dX9_edge_36 rfl fg_X9_9 rfl (by first | assumption | rfl) rfl ?_
    refine e_iconst (q := 40) dX9_edge_39 rfl ?_
    refine e_isub (q := 41) dX9_edge_40 rfl ?_
    refine e_aload_n (q := 42) (i := 0) dX9_edge_41 rfl rfl rfl ?_
    refine e_getR (q := 45) dX9_edge_42 rfl fg_X9_22 (by first | assumption | rfl) rfl ?_
    refine e_iload_n (q := 46) (i := 1) dX9_edge_45 rfl rfl rfl ?_
    refine e_iald (q := 47) dX9_edge_46 rfl (by first | assumption | rfl) ?_
    refine e_isub (q := 48) dX9_edge_47 rfl ?_
    exact r_i dX9_edge_48 rfl ⟨by unfold gEdge; rw [if_neg k1_0, if_pos k1_1], rfl⟩
  by_cases k1_2 : w = 2
  · refine e_tabIn (tgt := 49) dX9_edge_1 ⟨by omega, by omega⟩ (by omega) (by omega) (by rw [k1_2]; rfl) (by decide) ?_
    refine e_aload_n (q := 50) (i := 0) dX9_edge_49 rfl rfl rfl ?_
    refine e_getI (q := 53) (jz := 0) dX9_edge_50 rfl fg_X9_9 rfl (by first | assumption | rfl) rfl ?_
    refine e_iconst (q := 54) dX9_edge_53 rfl ?_
    refine e_isub (q := 55) dX9_edge_54 rfl ?_
    refine e_aload_n (q := 56) (i := 0) dX9_edge_55 rfl rfl rfl ?_
    refine e_getR (q := 59) dX9_edge_56 rfl fg_X9_18 (by first | assumption | rfl) rfl ?_
    refine e_iload_n (q := 60) (i := 1) dX9_edge_59 rfl rfl rfl ?_
    refine e_iald (q := 61) dX9_edge_60 rfl (by first | assumption | rfl) ?_
    refine e_isub (q := 62) dX9_edge_61 rfl ?_
    exact r_i dX9_edge_62 rfl ⟨by unfold gEdge; rw [if_neg k1_0, if_neg k1_1, if_pos k1_2], rfl⟩
  refine e_tabOut (tgt := 63) dX9_edge_1 ⟨by omega, by omega⟩ (by omega) (by decide) ?_
  refine e_aload_n (q := 64) (i := 0) dX9_edge_63 rfl rfl rfl ?_
  refine e_getR (q := 67) dX9_edge_64 rfl fg_X9_22 (by first | assumption | rfl) rfl ?_
  refine e_iload_n (q := 68) (i := 1) dX9_edge_67 rfl rfl rfl ?_
  refine e_iald (q := 69) dX9_edge_68 rfl (by first | assumption | rfl) ?_
  exact r_i dX9_edge_69 rfl ⟨by unfold gEdge; rw [if_neg k1_0, if_neg k1_1, if_neg k1_2], rfl⟩

theorem c_X3_clear {G : Gx} {σ : Sg} : Con G 2 mX3_clear [.ref (G.2.2.2 + 34)] σ (pV (fun σ' => σ' = flI (flI (sI σ 34 4 0) 36 3 0) 37 3 0)) := by
  refine e_entry om_X3_clear (Nat.le_of_ble_eq_true rfl) (L := [some (.ref (G.2.2.2 + 34))]) rfl ?_
  refine e_aload_n (q := 1) (i := 0) dX3_clear_0 rfl rfl rfl ?_
  refine e_iconst (q := 2) dX3_clear_1 rfl ?_
  refine e_putI (q := 5) (jz := 4) dX3_clear_2 rfl fp_X3_25 rfl (by first | assumption | rfl) rfl ?_
  refine e_aload_n (q := 6) (i := 0) dX3_clear_5 rfl rfl rfl ?_
  refine e_getR (q := 9) dX3_clear_6 rfl fg_X3_15 (by first | assumption | rfl) rfl ?_
  refine e_iconst (q := 10) dX3_clear_9 rfl ?_
  refine e_Sv (q := 13) (vs := [_, _]) ok_J7_fill_53178 ml_X3_29 dX3_clear_10 rfl rfl rfl (Nat.le_of_ble_eq_true rfl) (by decide) (c_fill (m := 3) rfl rfl (by decide)) (fun s10 h10 => ?_)
  refine e_aload_n (q := 14) (i := 0) dX3_clear_13 rfl rfl rfl ?_
  refine e_getR (q := 17) dX3_clear_14 rfl fg_X3_18 (by first | assumption | rfl) rfl ?_
  refine e_iconst (q := 18) dX3_clear_17 rfl ?_
  refine e_Sv (q := 21) (vs := [_, _]) ok_J7_fill_53178 ml_X3_29 dX3_clear_18 rfl rfl rfl (Nat.le_of_ble_eq_true rfl) (by decide) (c_fill (m := 3) rfl rfl (by decide)) (fun s18 h18 => ?_)
  subst h10 h18
  exact r_v dX3_clear_21 rfl rfl

theorem c_X3_take {G : Gx} {σ : Sg} : Con G 2 mX3_take [.ref (G.2.2.2 + 13), .ref (G.2.2.2 + 34)] σ (pV (fun σ' => σ' = cpI (cpI (cpI (sI σ 13 4 (σ.1 34 4)) 35 14 64) 36 15 3) 37 16 3)) := by
  refine e_entry om_X3_take (Nat.le_of_ble_eq_true rfl) (L := [some (.ref (G.2.2.2 + 13)), some (.ref (G.2.2.2 + 34))]) rfl ?_
  refine e_aload_n (q := 1) (i := 0) dX3_take_0 rfl rfl rfl ?_
  refine e_aload_n (q := 2) (i := 1) dX3_take_1 rfl rfl rfl ?_
  refine e_getI (q := 5) (jz := 4) dX3_take_2 rfl fg_X3_25 rfl (by first | assumption | rfl) rfl ?_
  refine e_putI (q := 8) (jz := 4) dX3_take_5 rfl fp_X3_25 rfl (by first | assumption | rfl) rfl ?_
  refine e_aload_n (q := 9) (i := 1) dX3_take_8 rfl rfl rfl ?_
  refine e_getR (q := 12) dX3_take_9 rfl fg_X3_11 (by first | assumption | rfl) rfl ?_
  refine e_iconst (q := 13) dX3_take_12 rfl ?_
  refine e_aload_n (q := 14) (i := 0) dX3_take_13 rfl rfl rfl ?_
  refine e_getR (q := 17) dX3_take_14 rfl fg_X3_11 (by first | assumption | rfl) rfl ?_
  refine e_iconst (q := 18) dX3_take_17 rfl ?_
  refine e_bipush (q := 20) dX3_take_18 rfl (by decide) ?_
  refine e_copyI (q := 23) dX3_take_20 rfl mlac_X3_35 mw_ac_n mw_ac_s mw_ac_i (by first | assumption | rfl) (by first | assumption | rfl) (Nat.le_of_ble_eq_true rfl) (by decide) ?_
  refine e_aload_n (q := 24) (i := 1) dX3_take_23 rfl rfl rfl ?_
  refine e_getR (q := 27) dX3_take_24 rfl fg_X3_15 (by first | assumption | rfl) rfl ?_
  refine e_iconst (q := 28) dX3_take_27 rfl ?_
  refine e_aload_n (q := 29) (i := 0) dX3_take_28 rfl rfl rfl ?_
  refine e_getR (q := 32) dX3_take_29 rfl fg_X3_15 (by first | assumption | rfl) rfl ?_
  refine e_iconst (q := 33) dX3_take_32 rfl ?_
  refine e_iconst (q := 34) dX3_take_33 rfl ?_
  refine e_copyI (q := 37) dX3_take_34 rfl mlac_X3_35 mw_ac_n mw_ac_s mw_ac_i (by first | assumption | rfl) (by first | assumption | rfl) (Nat.le_of_ble_eq_true rfl) (by decide) ?_
  refine e_aload_n (q := 38) (i := 1) dX3_take_37 rfl rfl rfl ?_
  refine e_getR (q := 41) dX3_take_38 rfl fg_X3_18 (by first | assumption | rfl) rfl ?_
  refine e_iconst (q := 42) dX3_take_41 rfl ?_
  refine e_aload_n (q := 43) (i := 0) dX3_take_42 rfl rfl rfl ?_
  refine e_getR (q := 46) dX3_take_43 rfl fg_X3_18 (by first | assumption | rfl) rfl ?_
  refine e_iconst (q := 47) dX3_take_46 rfl ?_
  refine e_iconst (q := 48) dX3_take_47 rfl ?_
  refine e_copyI (q := 51) dX3_take_48 rfl mlac_X3_35 mw_ac_n mw_ac_s mw_ac_i (by first | assumption | rfl) (by first | assumption | rfl) (Nat.le_of_ble_eq_true rfl) (by decide) ?_
  exact r_v dX3_take_51 rfl rfl

theorem c_X3_isTold {G : Gx} {σ : Sg} {k : Int} (h0 : 0 ≤ k) (h3 : k < 3) (he : R32 (σ.1 37 k)) (hs : R32 (σ.1 36 k)) : Con G 1 mX3_isTold [.ref (G.2.2.2 + 34), .int (iZ k)] σ (pI (pE σ (if σ.1 36 k < σ.1 37 k then 1 else 0))) := by
  refine e_entry om_X3_isTold (Nat.le_of_ble_eq_true rfl) (L := [some (.ref (G.2.2.2 + 34)), some (.int (iZ k))]) rfl ?_
  refine e_aload_n (q := 1) (i := 0) dX3_isTold_0 rfl rfl rfl ?_
  refine e_getR (q := 4) dX3_isTold_1 rfl fg_X3_18 (by first | assumption | rfl) rfl ?_
  refine e_iload_n (q := 5) (i := 1) dX3_isTold_4 rfl rfl rfl ?_
  refine e_iald (q := 6) dX3_isTold_5 rfl (by first | assumption | rfl) ?_
  refine e_aload_n (q := 7) (i := 0) dX3_isTold_6 rfl rfl rfl ?_
  refine e_getR (q := 10) dX3_isTold_7 rfl fg_X3_15 (by first | assumption | rfl) rfl ?_
  refine e_iload_n (q := 11) (i := 1) dX3_isTold_10 rfl rfl rfl ?_
  refine e_iald (q := 12) dX3_isTold_11 rfl (by first | assumption | rfl) ?_
  refine e_icmp_le (q := 15) (tgt := 19) dX3_isTold_12 rfl (by decide) (fun c12 => ?_) (fun c12 => ?_) (hx := he) (hy := hs)
  · refine e_iconst (q := 20) dX3_isTold_19 rfl ?_
    exact r_z dX3_isTold_20 rfl (by first | exact Or.inl rfl | exact Or.inr rfl | omega) ⟨by split <;> omega, rfl⟩
  · refine e_iconst (q := 16) dX3_isTold_15 rfl ?_
    refine e_goto (tgt := 20) dX3_isTold_16 (by decide) ?_
    exact r_z dX3_isTold_20 rfl (by first | exact Or.inl rfl | exact Or.inr rfl | omega) ⟨by split <;> omega, rfl⟩

theorem c_X3_put {G : Gx} {σ : Sg} {v : Int} (h0 : 0 ≤ σ.1 34 4) (h1 : σ.1 34 4 < 64) : Con G 1 mX3_put [.ref (G.2.2.2 + 34), .int (iZ v)] σ (pV (fun σ' => σ' = sI (sI σ 35 (σ.1 34 4) v) 34 4 (σ.1 34 4 + 1))) := by
  refine e_entry om_X3_put (Nat.le_of_ble_eq_true rfl) (L := [some (.ref (G.2.2.2 + 34)), some (.int (iZ v))]) rfl ?_
  refine e_aload_n (q := 1) (i := 0) dX3_put_0 rfl rfl rfl ?_
  refine e_getI (q := 4) (jz := 4) dX3_put_1 rfl fg_X3_25 rfl (by first | assumption | rfl) rfl ?_
  refine e_bipush (q := 6) dX3_put_4 rfl (by decide) ?_
  refine e_icmp_ge (q := 9) (tgt := 29) dX3_put_6 rfl (by decide) (fun c6 => absurd c6 (by omega)) (fun c6 => ?_)
  refine e_aload_n (q := 10) (i := 0) dX3_put_9 rfl rfl rfl ?_
  refine e_getR (q := 13) dX3_put_10 rfl fg_X3_11 (by first | assumption | rfl) rfl ?_
  refine e_aload_n (q := 14) (i := 0) dX3_put_13 rfl rfl rfl ?_
  refine e_getI (q := 17) (jz := 4) dX3_put_14 rfl fg_X3_25 rfl (by first | assumption | rfl) rfl ?_
  refine e_iload_n (q := 18) (i := 1) dX3_put_17 rfl rfl rfl ?_
  refine e_iast (q := 19) dX3_put_18 rfl (by first | assumption | rfl) ?_
  refine e_aload_n (q := 20) (i := 0) dX3_put_19 rfl rfl rfl ?_
  refine e_dup (q := 21) dX3_put_20 rfl rfl ?_
  refine e_getI (q := 24) (jz := 4) dX3_put_21 rfl fg_X3_25 rfl (by first | assumption | rfl) rfl ?_
  refine e_iconst (q := 25) dX3_put_24 rfl ?_
  refine e_iadd (q := 26) dX3_put_25 rfl ?_
  refine e_putI (q := 29) (jz := 4) dX3_put_26 rfl fp_X3_25 rfl (by first | assumption | rfl) rfl ?_
  exact r_v dX3_put_29 rfl (by rw [sI_1, if_neg (by omega)])

theorem c_X3_isName {G : Gx} {σ : Sg} {t : Int} (ht : R32 t) : Con G 1 mX3_isName [.int (iZ t)] σ (pI (pE σ (if 14 ≤ t ∧ t ≤ 20 then 1 else 0))) := by
  refine e_entry om_X3_isName (Nat.le_of_ble_eq_true rfl) (L := [some (.int (iZ t))]) rfl ?_
  refine e_iload_n (q := 1) (i := 0) dX3_isName_0 rfl rfl rfl ?_
  refine e_bipush (q := 3) dX3_isName_1 rfl (by decide) ?_
  refine e_icmp_lt (q := 6) (tgt := 16) dX3_isName_3 rfl (by decide) (fun c3 => ?_) (fun c3 => ?_)
  · refine e_iconst (q := 17) dX3_isName_16 rfl ?_
    exact r_z dX3_isName_17 rfl (by first | exact Or.inl rfl | exact Or.inr rfl | omega) ⟨by split <;> omega, rfl⟩
  · refine e_iload_n (q := 7) (i := 0) dX3_isName_6 rfl rfl rfl ?_
    refine e_bipush (q := 9) dX3_isName_7 rfl (by decide) ?_
    refine e_icmp_gt (q := 12) (tgt := 16) dX3_isName_9 rfl (by decide) (fun c9 => ?_) (fun c9 => ?_)
    · refine e_iconst (q := 17) dX3_isName_16 rfl ?_
      exact r_z dX3_isName_17 rfl (by first | exact Or.inl rfl | exact Or.inr rfl | omega) ⟨by split <;> omega, rfl⟩
    · refine e_iconst (q := 13) dX3_isName_12 rfl ?_
      refine e_goto (tgt := 17) dX3_isName_13 (by decide) ?_
      exact r_z dX3_isName_17 rfl (by first | exact Or.inl rfl | exact Or.inr rfl | omega) ⟨by split <;> omega, rfl⟩

