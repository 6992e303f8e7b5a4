theorem c_bitCount {G : Gx} {σ : Sg} {x : Int} : Con G 1 mJ6_bitCount_0f7a4 [.int (iZ x)] σ (pI (pE σ (bcF (iZ x)).toInt)) := by
  refine e_entry om_J6_bitCount_0f7a4 (Nat.le_of_ble_eq_true rfl) (L := [some (.int (iZ x))]) rfl ?_
  refine e_iload_n (q := 1) (i := 0) dJ6_bitCount_0f7a4_0 rfl rfl rfl ?_
  refine e_iload_n (q := 2) (i := 0) dJ6_bitCount_0f7a4_1 rfl rfl rfl ?_
  refine e_iconst (q := 3) dJ6_bitCount_0f7a4_2 rfl ?_
  refine e_iushr (q := 4) dJ6_bitCount_0f7a4_3 rfl (iZ_of _).symm ?_
  refine e_ldcw (q := 7) (z := 1431655765) dJ6_bitCount_0f7a4_4 rfl kw_J6_265 (by decide) ?_
  refine e_iand (q := 8) dJ6_bitCount_0f7a4_7 rfl (iZ_of _).symm ?_
  refine e_isub (q := 9) dJ6_bitCount_0f7a4_8 rfl ?_
  refine e_istore_n (q := 10) (i := 0) (L' := [_]) dJ6_bitCount_0f7a4_9 rfl rfl (by decide) rfl rfl ?_
  refine e_iload_n (q := 11) (i := 0) dJ6_bitCount_0f7a4_10 rfl rfl rfl ?_
  refine e_ldcw (q := 14) (z := 858993459) dJ6_bitCount_0f7a4_11 rfl kw_J6_266 (by decide) ?_
  refine e_iand (q := 15) dJ6_bitCount_0f7a4_14 rfl (iZ_of _).symm ?_
  refine e_iload_n (q := 16) (i := 0) dJ6_bitCount_0f7a4_15 rfl rfl rfl ?_
  refine e_iconst (q := 17) dJ6_bitCount_0f7a4_16 rfl ?_
  refine e_iushr (q := 18) dJ6_bitCount_0f7a4_17 rfl (iZ_of _).symm ?_
  refine e_ldcw (q := 21) (z := 858993459) dJ6_bitCount_0f7a4_18 rfl kw_J6_266 (by decide) ?_
  refine e_iand (q := 22) dJ6_bitCount_0f7a4_21 rfl (iZ_of _).symm ?_
  refine e_iadd (q := 23) dJ6_bitCount_0f7a4_22 rfl ?_
  refine e_istore_n (q := 24) (i := 0) (L' := [_]) dJ6_bitCount_0f7a4_23 rfl rfl (by decide) rfl rfl ?_
  refine e_iload_n (q := 25) (i := 0) dJ6_bitCount_0f7a4_24 rfl rfl rfl ?_
  refine e_iload_n (q := 26) (i := 0) dJ6_bitCount_0f7a4_25 rfl rfl rfl ?_
  refine e_iconst (q := 27) dJ6_bitCount_0f7a4_26 rfl ?_
  refine e_iushr (q := 28) dJ6_bitCount_0f7a4_27 rfl (iZ_of _).symm ?_
  refine e_iadd (q := 29) dJ6_bitCount_0f7a4_28 rfl ?_
  refine e_ldcw (q := 32) (z := 252645135) dJ6_bitCount_0f7a4_29 rfl kw_J6_267 (by decide) ?_
  refine e_iand (q := 33) dJ6_bitCount_0f7a4_32 rfl (iZ_of _).symm ?_
  refine e_istore_n (q := 34) (i := 0) (L' := [_]) dJ6_bitCount_0f7a4_33 rfl rfl (by decide) rfl rfl ?_
  refine e_iload_n (q := 35) (i := 0) dJ6_bitCount_0f7a4_34 rfl rfl rfl ?_
  refine e_iload_n (q := 36) (i := 0) dJ6_bitCount_0f7a4_35 rfl rfl rfl ?_
  refine e_bipush (q := 38) dJ6_bitCount_0f7a4_36 rfl (by decide) ?_
  refine e_iushr (q := 39) dJ6_bitCount_0f7a4_38 rfl (iZ_of _).symm ?_
  refine e_iadd (q := 40) dJ6_bitCount_0f7a4_39 rfl ?_
  refine e_istore_n (q := 41) (i := 0) (L' := [_]) dJ6_bitCount_0f7a4_40 rfl rfl (by decide) rfl rfl ?_
  refine e_iload_n (q := 42) (i := 0) dJ6_bitCount_0f7a4_41 rfl rfl rfl ?_
  refine e_iload_n (q := 43) (i := 0) dJ6_bitCount_0f7a4_42 rfl rfl rfl ?_
  refine e_bipush (q := 45) dJ6_bitCount_0f7a4_43 rfl (by decide) ?_
  refine e_iushr (q := 46) dJ6_bitCount_0f7a4_45 rfl (iZ_of _).symm ?_
  refine e_iadd (q := 47) dJ6_bitCount_0f7a4_46 rfl ?_
  refine e_istore_n (q := 48) (i := 0) (L' := [_]) dJ6_bitCount_0f7a4_47 rfl rfl (by decide) rfl rfl ?_
  refine e_iload_n (q := 49) (i := 0) dJ6_bitCount_0f7a4_48 rfl rfl rfl ?_
  refine e_bipush (q := 51) dJ6_bitCount_0f7a4_49 rfl (by decide) ?_
  refine e_iand (q := 52) dJ6_bitCount_0f7a4_51 rfl (iZ_of _).symm ?_
  exact r_i dJ6_bitCount_0f7a4_52 rfl ⟨by simp only [iZ_of, ← iZ_add, ← iZ_sub]; rfl, rfl⟩

theorem c_fill {G : Gx} {σ : Sg} {k mN : Nat} {v m : Int} (hk : lay[k]? = some (.inl (0, mN))) (hm : ((mN : Nat) : Int) = m) (hml : mN < 1000) : Con G 1 mJ7_fill_53178 [.ref (G.2.2.2 + k), .int (iZ v)] σ (pV (fun σ' => σ' = flI σ k m v)) := by
  have lp : ∀ (n : Nat) (τ : Sg) (i : Int), 0 ≤ i → i + n = m → τ = flI σ k i v → J G 1 mJ7_fill_53178 (pV (fun σ' => σ' = flI σ k m v)) τ 5 [some (.ref (G.2.2.2 + k)), some (.int (iZ v)), some (.int (iZ i)), some (.int (iZ m))] [] := by
    intro n
    induction n with
    | zero =>
      intro τ i h0 hn hs
      refine e_iload_n (q := 6) (i := 2) dJ7_fill_53178_5 rfl rfl rfl ?_
      refine e_iload_n (q := 7) (i := 3) dJ7_fill_53178_6 rfl rfl rfl ?_
      refine e_icmp_ge (q := 10) (tgt := 20) dJ7_fill_53178_7 rfl (by decide) (fun c7 => ?_) (fun c7 => absurd (by omega) c7)
      exact r_v dJ7_fill_53178_20 rfl (by rw [hs]; congr 1; omega)
    | succ n ih =>
      intro τ i h0 hn hs
      refine e_iload_n (q := 6) (i := 2) dJ7_fill_53178_5 rfl rfl rfl ?_
      refine e_iload_n (q := 7) (i := 3) dJ7_fill_53178_6 rfl rfl rfl ?_
      refine e_icmp_ge (q := 10) (tgt := 20) dJ7_fill_53178_7 rfl (by decide) (fun c7 => absurd c7 (by omega)) (fun c7 => ?_)
      refine e_aload_n (q := 11) (i := 0) dJ7_fill_53178_10 rfl rfl rfl ?_
      refine e_iload_n (q := 12) (i := 2) dJ7_fill_53178_11 rfl rfl rfl ?_
      refine e_iload_n (q := 13) (i := 1) dJ7_fill_53178_12 rfl rfl rfl ?_
      refine e_iast (q := 14) dJ7_fill_53178_13 rfl (by first | assumption | rfl) ?_ (h0 := h0) (hi := by omega) (hn := by omega)
      refine e_iinc (q := 17) (L' := [_, _, _, _]) dJ7_fill_53178_14 rfl rfl (by decide) rfl rfl ?_
      refine e_goto (tgt := 5) dJ7_fill_53178_17 (by decide) ?_
      exact ih _ _ (by omega) (by omega) (by rw [hs, flI_succ _ _ h0])
  refine e_entry om_J7_fill_53178 (Nat.le_of_ble_eq_true rfl) (L := [some (.ref (G.2.2.2 + k)), some (.int (iZ v)), none, none]) rfl ?_
  refine e_iconst (q := 1) dJ7_fill_53178_0 rfl ?_
  refine e_istore_n (q := 2) (i := 2) (L' := [_, _, _, _]) dJ7_fill_53178_1 rfl rfl (by decide) rfl rfl ?_
  refine e_aload_n (q := 3) (i := 0) dJ7_fill_53178_2 rfl rfl rfl ?_
  refine e_alen (q := 4) (nz := m) dJ7_fill_53178_3 rfl hk (by decide) hm ?_
  refine e_istore_n (q := 5) (i := 3) (L' := [_, _, _, _]) dJ7_fill_53178_4 rfl rfl (by decide) rfl rfl ?_
  exact lp m.toNat _ 0 (by omega) (by omega) (flI_0 _ _ _).symm

/-- a land as a text begins it -/
def LB (σ : Sg) (L : Nat) (σ' : Sg) : Prop := Fr [L, L + 1, L + 2, L + 3, L + 4] σ σ' ∧ (∀ i, 0 ≤ i → i < 16 → σ'.1 (L + 1) i = 0 ∧ σ'.1 (L + 2) i = σ.1 12 i) ∧ (∀ i, 0 ≤ i → i < 6 → σ'.1 (L + 3) i = σ.1 6 i ∧ σ'.1 (L + 4) i = 0) ∧ σ'.1 L 5 = 0 ∧ σ'.1 L 6 = 0 ∧ σ'.2 L 7 = σ.1 2 7 ∧ σ'.1 L 8 = -1 ∧ σ'.1 L 9 = 0 ∧ σ'.1 L 10 = 0
/-- a land that has become another -/
def LC (σ : Sg) (L K : Nat) (σ' : Sg) : Prop := Fr [L, L + 1, L + 2, L + 3, L + 4] σ σ' ∧ ldv σ' L = ldv σ K ∧ σ'.1 L 8 = -1 ∧ σ'.1 L 9 = 0 ∧ σ'.1 L 10 = 0

theorem c_X2_begin {G : Gx} {σ : Sg} {L : Nat} (hT : TI σ) (hL : isLand L) : Con G 2 mX2_begin [.ref (G.2.2.2 + L)] σ (pV (LB σ L)) := by
  have y0 := ly0 hL
  have y1 := ly1 hL
  have y2 := ly2 hL
  have y3 := ly3 hL
  have y4 := ly4 hL
  refine e_entry om_X2_begin (Nat.le_of_ble_eq_true rfl) (L := [some (.ref (G.2.2.2 + L))]) rfl ?_
  refine e_aload_n (q := 1) (i := 0) dX2_begin_0 rfl rfl rfl ?_
  refine e_getR (q := 4) dX2_begin_1 rfl fg_X2_15 (by first | assumption | rfl) rfl ?_
  refine e_iconst (q := 5) dX2_begin_4 rfl ?_
  refine e_Sv (q := 8) (vs := [_, _]) ok_J7_fill_53178 ml_X2_32 dX2_begin_5 rfl rfl rfl (Nat.le_of_ble_eq_true rfl) (by decide) (c_fill (m := 16) (by assumption) rfl (by decide)) (fun s5 h5 => ?_)
  refine e_aload_n (q := 9) (i := 0) dX2_begin_8 rfl rfl rfl ?_
  refine e_getR (q := 12) dX2_begin_9 rfl fg_X2_25 (by first | assumption | rfl) rfl ?_
  refine e_iconst (q := 13) dX2_begin_12 rfl ?_
  refine e_Sv (q := 16) (vs := [_, _]) ok_J7_fill_53178 ml_X2_32 dX2_begin_13 rfl rfl rfl (Nat.le_of_ble_eq_true rfl) (by decide) (c_fill (m := 6) (by assumption) rfl (by decide)) (fun s13 h13 => ?_)
  refine e_aload_n (q := 17) (i := 0) dX2_begin_16 rfl rfl rfl ?_
  refine e_getR (q := 20) dX2_begin_17 rfl fg_X2_9 (by first | assumption | rfl) rfl ?_
  refine e_getR (q := 23) dX2_begin_20 rfl fg_X2_38 (by first | assumption | rfl) rfl ?_
  refine e_iconst (q := 24) dX2_begin_23 rfl ?_
  refine e_aload_n (q := 25) (i := 0) dX2_begin_24 rfl rfl rfl ?_
  refine e_getR (q := 28) dX2_begin_25 rfl fg_X2_19 (by first | assumption | rfl) rfl ?_
  refine e_iconst (q := 29) dX2_begin_28 rfl ?_
  refine e_aload_n (q := 30) (i := 0) dX2_begin_29 rfl rfl rfl ?_
  refine e_getR (q := 33) dX2_begin_30 rfl fg_X2_19 (by first | assumption | rfl) rfl ?_
  refine e_alen (q := 34) (nz := 16) dX2_begin_33 rfl (by first | assumption | rfl) (by decide) rfl ?_
  refine e_copyI (q := 37) dX2_begin_34 rfl mlac_X2_41 mw_ac_n mw_ac_s mw_ac_i (by first | assumption | rfl) (by first | assumption | rfl) (Nat.le_of_ble_eq_true rfl) (by decide) ?_
  refine e_aload_n (q := 38) (i := 0) dX2_begin_37 rfl rfl rfl ?_
  refine e_getR (q := 41) dX2_begin_38 rfl fg_X2_9 (by first | assumption | rfl) rfl ?_
  refine e_getR (q := 44) dX2_begin_41 rfl fg_X2_47 (by first | assumption | rfl) rfl ?_
  refine e_iconst (q := 45) dX2_begin_44 rfl ?_
  refine e_aload_n (q := 46) (i := 0) dX2_begin_45 rfl rfl rfl ?_
  refine e_getR (q := 49) dX2_begin_46 rfl fg_X2_22 (by first | assumption | rfl) rfl ?_
  refine e_iconst (q := 50) dX2_begin_49 rfl ?_
  refine e_aload_n (q := 51) (i := 0) dX2_begin_50 rfl rfl rfl ?_
  refine e_getR (q := 54) dX2_begin_51 rfl fg_X2_22 (by first | assumption | rfl) rfl ?_
  refine e_alen (q := 55) (nz := 6) dX2_begin_54 rfl (by first | assumption | rfl) (by decide) rfl ?_
  refine e_copyI (q := 58) dX2_begin_55 rfl mlac_X2_41 mw_ac_n mw_ac_s mw_ac_i (by first | assumption | rfl) (by first | assumption | rfl) (Nat.le_of_ble_eq_true rfl) (by decide) ?_
  refine e_aload_n (q := 59) (i := 0) dX2_begin_58 rfl rfl rfl ?_
  refine e_iconst (q := 60) dX2_begin_59 rfl ?_
  refine e_putI (q := 63) (jz := 5) dX2_begin_60 rfl fp_X2_48 rfl (by first | assumption | rfl) rfl ?_
  refine e_aload_n (q := 64) (i := 0) dX2_begin_63 rfl rfl rfl ?_
  refine e_iconst (q := 65) dX2_begin_64 rfl ?_
  refine e_putI (q := 68) (jz := 6) dX2_begin_65 rfl fp_X2_51 rfl (by first | assumption | rfl) rfl ?_
  refine e_aload_n (q := 69) (i := 0) dX2_begin_68 rfl rfl rfl ?_
  refine e_aload_n (q := 70) (i := 0) dX2_begin_69 rfl rfl rfl ?_
  refine e_getR (q := 73) dX2_begin_70 rfl fg_X2_9 (by first | assumption | rfl) rfl ?_
  refine e_getI (q := 76) (jz := 7) dX2_begin_73 rfl fg_X2_54 rfl (by first | assumption | rfl) rfl ?_
  subst h5 h13
  have hsd : ∀ σ0 : Sg, σ0 = sI (sI (cpI (cpI (flI (flI σ (L + 1) 16 0) (L + 4) 6 0) 12 (L + 2) 16) 6 (L + 3) 6) L 5 0) L 6 0 → σ0.1 2 7 = σ.1 2 7 := by
    intro σ0 e0
    subst e0
    have l0 : ¬ 2 = L := by rcases hL with rfl | rfl | rfl | rfl <;> decide
    have l1 : ¬ 2 = L + 1 := by rcases hL with rfl | rfl | rfl | rfl <;> decide
    have l2 : ¬ 2 = L + 2 := by rcases hL with rfl | rfl | rfl | rfl <;> decide
    have l3 : ¬ 2 = L + 3 := by rcases hL with rfl | rfl | rfl | rfl <;> decide
    have l4 : ¬ 2 = L + 4 := by rcases hL with rfl | rfl | rfl | rfl <;> decide
    simp only [sI_1, cpI_1, flI_1, l0, l1, l2, l3, l4, false_and, if_false]
  obtain ⟨-, -, -, -, -, -, -, ⟨hs0, hs1⟩, -⟩ := id hT
  refine e_i2l (q := 77) dX2_begin_76 rfl (by rw [hsd _ rfl]; exact ⟨by omega, by omega⟩) ?_
  refine e_putL (q := 80) (jz := 7) dX2_begin_77 rfl fp_X2_57 rfl (by first | assumption | rfl) rfl ?_
  refine e_aload_n (q := 81) (i := 0) dX2_begin_80 rfl rfl rfl ?_
  refine e_iconst (q := 82) dX2_begin_81 rfl ?_
  refine e_putI (q := 85) (jz := 8) dX2_begin_82 rfl fp_X2_28 rfl (by first | assumption | rfl) rfl ?_
  refine e_aload_n (q := 86) (i := 0) dX2_begin_85 rfl rfl rfl ?_
  refine e_iconst (q := 87) dX2_begin_86 rfl ?_
  refine e_putZ (q := 90) (jz := 9) dX2_begin_87 rfl fp_X2_61 rfl (by first | assumption | rfl) rfl (by first | exact Or.inl rfl | exact Or.inr rfl | omega) ?_
  refine e_aload_n (q := 91) (i := 0) dX2_begin_90 rfl rfl rfl ?_
  refine e_iconst (q := 92) dX2_begin_91 rfl ?_
  refine e_putZ (q := 95) (jz := 10) dX2_begin_92 rfl fp_X2_65 rfl (by first | assumption | rfl) rfl (by first | exact Or.inl rfl | exact Or.inr rfl | omega) ?_
  refine r_v dX2_begin_95 rfl ?_
  refine ⟨?_, fun i h0 h1 => ?_, fun i h0 h1 => ?_, ?_, ?_, ?_, ?_, ?_, ?_⟩
  · exact (((((((((((Fr.rf _ σ).flI (by simp) _ _).flI (by simp) _ _).cpI (by simp) _ _).cpI (by simp) _ _).sI (by simp) _ _).sI (by simp) _ _).sJ (by simp) _ _).sI (by simp) _ _).sI (by simp) _ _).sI (by simp) _ _)
  · rcases hL with rfl | rfl | rfl | rfl <;> simp [sI_1, sJ_1, cpI_1, flI_1, h0, h1]
  · rcases hL with rfl | rfl | rfl | rfl <;> simp [sI_1, sJ_1, cpI_1, flI_1, h0, h1]
  · simp [sI_1, sJ_1]
  · simp [sI_1, sJ_1]
  · rw [sI_2, sI_2, sI_2, sJ_2, if_pos ⟨rfl, rfl⟩]; exact hsd _ rfl
  · simp [sI_1, sJ_1]
  · simp [sI_1, sJ_1]
  · simp [sI_1, sJ_1]

theorem c_X2_become {G : Gx} {σ : Sg} {L : Nat} {K : Nat} (hL : isLand L) (hK : isLand K) (hne : L ≠ K) : Con G 2 mX2_become [.ref (G.2.2.2 + L), .ref (G.2.2.2 + K)] σ (pV (LC σ L K)) := by
  have y0 := ly0 hL
  have y1 := ly1 hL
  have y2 := ly2 hL
  have y3 := ly3 hL
  have y4 := ly4 hL
  have k0 := ly0 hK
  have k1 := ly1 hK
  have k2 := ly2 hK
  have k3 := ly3 hK
  have k4 := ly4 hK
  refine e_entry om_X2_become (Nat.le_of_ble_eq_true rfl) (L := [some (.ref (G.2.2.2 + L)), some (.ref (G.2.2.2 + K))]) rfl ?_
  refine e_aload_n (q := 1) (i := 1) dX2_become_0 rfl rfl rfl ?_
  refine e_getR (q := 4) dX2_become_1 rfl fg_X2_15 (by first | assumption | rfl) rfl ?_
  refine e_iconst (q := 5) dX2_become_4 rfl ?_
  refine e_aload_n (q := 6) (i := 0) dX2_become_5 rfl rfl rfl ?_
  refine e_getR (q := 9) dX2_become_6 rfl fg_X2_15 (by first | assumption | rfl) rfl ?_
  refine e_iconst (q := 10) dX2_become_9 rfl ?_
  refine e_aload_n (q := 11) (i := 0) dX2_become_10 rfl rfl rfl ?_
  refine e_getR (q := 14) dX2_become_11 rfl fg_X2_15 (by first | assumption | rfl) rfl ?_
  refine e_alen (q := 15) (nz := 16) dX2_become_14 rfl (by first | assumption | rfl) (by decide) rfl ?_
  refine e_copyI (q := 18) dX2_become_15 rfl mlac_X2_41 mw_ac_n mw_ac_s mw_ac_i (by first | assumption | rfl) (by first | assumption | rfl) (Nat.le_of_ble_eq_true rfl) (by decide) ?_
  refine e_aload_n (q := 19) (i := 1) dX2_become_18 rfl rfl rfl ?_
  refine e_getR (q := 22) dX2_become_19 rfl fg_X2_25 (by first | assumption | rfl) rfl ?_
  refine e_iconst (q := 23) dX2_become_22 rfl ?_
  refine e_aload_n (q := 24) (i := 0) dX2_become_23 rfl rfl rfl ?_
  refine e_getR (q := 27) dX2_become_24 rfl fg_X2_25 (by first | assumption | rfl) rfl ?_
  refine e_iconst (q := 28) dX2_become_27 rfl ?_
  refine e_aload_n (q := 29) (i := 0) dX2_become_28 rfl rfl rfl ?_
  refine e_getR (q := 32) dX2_become_29 rfl fg_X2_25 (by first | assumption | rfl) rfl ?_
  refine e_alen (q := 33) (nz := 6) dX2_become_32 rfl (by first | assumption | rfl) (by decide) rfl ?_
  refine e_copyI (q := 36) dX2_become_33 rfl mlac_X2_41 mw_ac_n mw_ac_s mw_ac_i (by first | assumption | rfl) (by first | assumption | rfl) (Nat.le_of_ble_eq_true rfl) (by decide) ?_
  refine e_aload_n (q := 37) (i := 1) dX2_become_36 rfl rfl rfl ?_
  refine e_getR (q := 40) dX2_become_37 rfl fg_X2_19 (by first | assumption | rfl) rfl ?_
  refine e_iconst (q := 41) dX2_become_40 rfl ?_
  refine e_aload_n (q := 42) (i := 0) dX2_become_41 rfl rfl rfl ?_
  refine e_getR (q := 45) dX2_become_42 rfl fg_X2_19 (by first | assumption | rfl) rfl ?_
  refine e_iconst (q := 46) dX2_become_45 rfl ?_
  refine e_aload_n (q := 47) (i := 0) dX2_become_46 rfl rfl rfl ?_
  refine e_getR (q := 50) dX2_become_47 rfl fg_X2_19 (by first | assumption | rfl) rfl ?_
  refine e_alen (q := 51) (nz := 16) dX2_become_50 rfl (by first | assumption | rfl) (by decide) rfl ?_
  refine e_copyI (q := 54) dX2_become_51 rfl mlac_X2_41 mw_ac_n mw_ac_s mw_ac_i (by first | assumption | rfl) (by first | assumption | rfl) (Nat.le_of_ble_eq_true rfl) (by decide) ?_
  refine e_aload_n (q := 55) (i := 1) dX2_become_54 rfl rfl rfl ?_
  refine e_getR (q := 58) dX2_become_55 rfl fg_X2_22 (by first | assumption | rfl) rfl ?_
  refine e_iconst (q := 59) dX2_become_58 rfl ?_
  refine e_aload_n (q := 60) (i := 0) dX2_become_59 rfl rfl rfl ?_
  refine e_getR (q := 63) dX2_become_60 rfl fg_X2_22 (by first | assumption | rfl) rfl ?_
  refine e_iconst (q := 64) dX2_become_63 rfl ?_
  refine e_aload_n (q := 65) (i := 0) dX2_become_64 rfl rfl rfl ?_
  refine e_getR (q := 68) dX2_become_65 rfl fg_X2_22 (by first | assumption | rfl) rfl ?_
  refine e_alen (q := 69) (nz := 6) dX2_become_68 rfl (by first | assumption | rfl) (by decide) rfl ?_
  refine e_copyI (q := 72) dX2_become_69 rfl mlac_X2_41 mw_ac_n mw_ac_s mw_ac_i (by first | assumption | rfl) (by first | assumption | rfl) (Nat.le_of_ble_eq_true rfl) (by decide) ?_
  refine e_aload_n (q := 73) (i := 0) dX2_become_72 rfl rfl rfl ?_
  refine e_aload_n (q := 74) (i := 1) dX2_become_73 rfl rfl rfl ?_
  refine e_getI (q := 77) (jz := 5) dX2_become_74 rfl fg_X2_48 rfl (by first | assumption | rfl) rfl ?_
  refine e_putI (q := 80) (jz := 5) dX2_become_77 rfl fp_X2_48 rfl (by first | assumption | rfl) rfl ?_
  refine e_aload_n (q := 81) (i := 0) dX2_become_80 rfl rfl rfl ?_
  refine e_aload_n (q := 82) (i := 1) dX2_become_81 rfl rfl rfl ?_
  refine e_getI (q := 85) (jz := 6) dX2_become_82 rfl fg_X2_51 rfl (by first | assumption | rfl) rfl ?_
  refine e_putI (q := 88) (jz := 6) dX2_become_85 rfl fp_X2_51 rfl (by first | assumption | rfl) rfl ?_
  refine e_aload_n (q := 89) (i := 0) dX2_become_88 rfl rfl rfl ?_
  refine e_aload_n (q := 90) (i := 1) dX2_become_89 rfl rfl rfl ?_
  refine e_getL (q := 93) (jz := 7) dX2_become_90 rfl fg_X2_57 rfl (by first | assumption | rfl) rfl ?_
  refine e_putL (q := 96) (jz := 7) dX2_become_93 rfl fp_X2_57 rfl (by first | assumption | rfl) rfl ?_
  refine e_aload_n (q := 97) (i := 0) dX2_become_96 rfl rfl rfl ?_
  refine e_iconst (q := 98) dX2_become_97 rfl ?_
  refine e_putI (q := 101) (jz := 8) dX2_become_98 rfl fp_X2_28 rfl (by first | assumption | rfl) rfl ?_
  refine e_aload_n (q := 102) (i := 0) dX2_become_101 rfl rfl rfl ?_
  refine e_iconst (q := 103) dX2_become_102 rfl ?_
  refine e_putZ (q := 106) (jz := 9) dX2_become_103 rfl fp_X2_61 rfl (by first | assumption | rfl) rfl (by first | exact Or.inl rfl | exact Or.inr rfl | omega) ?_
  refine e_aload_n (q := 107) (i := 0) dX2_become_106 rfl rfl rfl ?_
  refine e_iconst (q := 108) dX2_become_107 rfl ?_
  refine e_putZ (q := 111) (jz := 10) dX2_become_108 rfl fp_X2_65 rfl (by first | assumption | rfl) rfl (by first | exact Or.inl rfl | exact Or.inr rfl | omega) ?_
  refine r_v dX2_become_111 rfl ?_
  refine ⟨?_, ldv_ext ?_ ?_ ?_ ?_ ?_ ?_ ?_, ?_, ?_, ?_⟩
  · exact (((((((((((Fr.rf _ σ).cpI (by simp) _ _).cpI (by simp) _ _).cpI (by simp) _ _).cpI (by simp) _ _).sI (by simp) _ _).sI (by simp) _ _).sJ (by simp) _ _).sI (by simp) _ _).sI (by simp) _ _).sI (by simp) _ _)
  · intro i h0 h1
    rcases hL with rfl | rfl | rfl | rfl <;> rcases hK with rfl | rfl | rfl | rfl <;> first | exact absurd rfl hne | simp [sI_1, sJ_1, cpI_1, h0, h1]
  · intro i h0 h1
    rcases hL with rfl | rfl | rfl | rfl <;> rcases hK with rfl | rfl | rfl | rfl <;> first | exact absurd rfl hne | simp [sI_1, sJ_1, cpI_1, h0, h1]
  · intro i h0 h1
    rcases hL with rfl | rfl | rfl | rfl <;> rcases hK with rfl | rfl | rfl | rfl <;> first | exact absurd rfl hne | simp [sI_1, sJ_1, cpI_1, h0, h1]
  · intro i h0 h1
    rcases hL with rfl | rfl | rfl | rfl <;> rcases hK with rfl | rfl | rfl | rfl <;> first | exact absurd rfl hne | simp [sI_1, sJ_1, cpI_1, h0, h1]
  · rcases hL with rfl | rfl | rfl | rfl <;> rcases hK with rfl | rfl | rfl | rfl <;> first | exact absurd rfl hne | simp [sI_1, sJ_1, cpI_1]
  · rcases hL with rfl | rfl | rfl | rfl <;> rcases hK with rfl | rfl | rfl | rfl <;> first | exact absurd rfl hne | simp [sI_1, sJ_1, cpI_1]
  · rcases hL with rfl | rfl | rfl | rfl <;> rcases hK with rfl | rfl | rfl | rfl <;> first | exact absurd rfl hne | simp [sI_2, sJ_2, cpI_2]
  · simp [sI_1, sJ_1]
  · simp [sI_1, sJ_1]
  · simp [sI_1, sJ_1]

