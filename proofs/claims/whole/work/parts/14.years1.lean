theorem lZ_i (x : Int) : (lZ x).toInt32 = iZ x := Int64.toInt32_ofInt
theorem lZ_bv {x : Int} (h0 : 0 ≤ x) (h1 : x ≤ 9223372036854775807) : (lZ x).toBitVec.toNat = x.toNat := by
  have e : (lZ x).toBitVec.toInt = x := lZ_toInt ⟨by omega, h1⟩
  have h := BitVec.toInt_eq_toNat_bmod (lZ x).toBitVec
  have hlt := (lZ x).toBitVec.isLt
  rw [e, Int.bmod_def] at h
  split at h <;> omega
theorem lZ_and31 {b : Int} (h0 : 0 ≤ b) (h1 : b ≤ 9223372036854775807) : lZ b &&& lZ 2147483647 = lZ (b % 2147483648) := by
  apply Int64.toBitVec_inj.mp
  apply BitVec.eq_of_toNat_eq
  rw [Int64.toBitVec_and, BitVec.toNat_and, lZ_bv h0 h1, lZ_bv (by decide) (by decide), lZ_bv (by omega) (by omega)]
  have e1 : (2147483647 : Int).toNat = 2 ^ 31 - 1 := by decide
  rw [e1, Nat.and_two_pow_sub_one_eq_mod]
  obtain ⟨c, rfl⟩ := Int.eq_ofNat_of_zero_le h0
  rfl
theorem sJ_self (σ : Sg) (k : Nat) (j : Int) : sJ σ k j (σ.2 k j) = σ := by
  apply Prod.ext
  · rfl
  · funext a i
    rw [sJ_2]
    split
    · rename_i h
      rw [h.1, h.2]
    · rfl
def nx (n : Int) : Int := (n * 1103515245 + 12345) % 2147483648
def gWet (rain n w : Int) : Int × Int :=
  if w = 1 then (if rain = 100 then (1, n) else if rain ≤ 0 then (0, n) else (if nx n / 65536 % 100 < rain then 1 else 0, nx n)) else if w = 2 then (0, n) else if w = 3 then (1, n) else (if 50 ≤ rain then 1 else 0, n)
theorem gWet_1 (rain n w : Int) : (gWet rain n w).1 = 0 ∨ (gWet rain n w).1 = 1 := by
  unfold gWet
  repeat' split
  all_goals simp

theorem c_X10_wetAsItGoes {G : Gx} {σ : Sg} (hT : TI σ) : Con G 1 mX10_wetAsItGoes [.ref (G.2.2.2 + 54)] σ (pI (pE σ (if 50 ≤ σ.1 2 6 then 1 else 0))) := by
  obtain ⟨hzz, -, hnp, hnc, hnb, hlb, hrn, hsd, hrw, hrq, hch, hbt, hck⟩ := id hT
  refine e_entry om_X10_wetAsItGoes (Nat.le_of_ble_eq_true rfl) (L := [some (.ref (G.2.2.2 + 54))]) rfl ?_
  refine e_aload_n (q := 1) (i := 0) dX10_wetAsItGoes_0 rfl rfl rfl ?_
  refine e_getR (q := 4) dX10_wetAsItGoes_1 rfl fg_X10_9 (by first | assumption | rfl) rfl ?_
  refine e_getI (q := 7) (jz := 6) dX10_wetAsItGoes_4 rfl fg_X10_29 rfl (by first | assumption | rfl) rfl ?_
  refine e_bipush (q := 9) dX10_wetAsItGoes_7 rfl (by decide) ?_
  refine e_icmp_lt (q := 12) (tgt := 16) dX10_wetAsItGoes_9 rfl (by decide) (fun c9 => ?_) (fun c9 => ?_)
  · refine e_iconst (q := 17) dX10_wetAsItGoes_16 rfl ?_
    exact r_z dX10_wetAsItGoes_17 rfl (by first | exact Or.inl rfl | exact Or.inr rfl | omega) ⟨by split <;> omega, rfl⟩
  · refine e_iconst (q := 13) dX10_wetAsItGoes_12 rfl ?_
    refine e_goto (tgt := 17) dX10_wetAsItGoes_13 (by decide) ?_
    exact r_z dX10_wetAsItGoes_17 rfl (by first | exact Or.inl rfl | exact Or.inr rfl | omega) ⟨by split <;> omega, rfl⟩

theorem c_X10_within {G : Gx} {σ : Sg} {v lo hi : Int} (hv : R64 v) (hlo : R32 lo) (hhi : R32 hi) : Con G 1 mX10_within [.long (lZ v), .int (iZ lo), .int (iZ hi)] σ (pI (pE σ (gWi v lo hi))) := by
  refine e_entry om_X10_within (Nat.le_of_ble_eq_true rfl) (L := [some (.long (lZ v)), none, some (.int (iZ lo)), some (.int (iZ hi))]) rfl ?_
  refine e_iload_n (q := 1) (i := 2) dX10_within_0 rfl rfl rfl ?_
  refine e_i2l (q := 2) dX10_within_1 rfl hlo ?_
  refine e_iload_n (q := 3) (i := 3) dX10_within_2 rfl rfl rfl ?_
  refine e_i2l (q := 4) dX10_within_3 rfl hhi ?_
  refine e_lload_n (q := 5) (i := 0) dX10_within_4 rfl rfl rfl ?_
  refine e_mminL (q := 8) dX10_within_5 rfl ml_X10_117 mw_minL_s mw_minL_c mw_init (Nat.le_of_ble_eq_true rfl) (by decide) ?_ (hx := ⟨by omega, by omega⟩) (hy := hv)
  refine e_mmaxL (q := 11) dX10_within_8 rfl ml_X10_121 mw_maxL_s mw_maxL_c mw_init (Nat.le_of_ble_eq_true rfl) (by decide) ?_ (hx := ⟨by omega, by omega⟩) (hy := ⟨by omega, by omega⟩)
  refine e_l2i (q := 12) dX10_within_11 rfl (lZ_i _) ?_
  exact r_i dX10_within_12 rfl ⟨rfl, rfl⟩

theorem c_X10_drawn {G : Gx} {σ : Sg} {L : Nat} (hL : isLand L) (h0 : 0 ≤ σ.2 L 7) (h1 : σ.2 L 7 ≤ 2147483647) : Con G 1 mX10_drawn [.ref (G.2.2.2 + L)] σ (pL (fun z σ' => z = nx (σ.2 L 7) / 65536 ∧ σ' = sJ σ L 7 (nx (σ.2 L 7)))) := by
  have y0 := ly0 hL
  have y1 := ly1 hL
  have y2 := ly2 hL
  have y3 := ly3 hL
  have y4 := ly4 hL
  refine e_entry om_X10_drawn (Nat.le_of_ble_eq_true rfl) (L := [some (.ref (G.2.2.2 + L))]) rfl ?_
  refine e_aload_n (q := 1) (i := 0) dX10_drawn_0 rfl rfl rfl ?_
  refine e_aload_n (q := 2) (i := 0) dX10_drawn_1 rfl rfl rfl ?_
  refine e_getL (q := 5) (jz := 7) dX10_drawn_2 rfl fg_X10_45 rfl (by first | assumption | rfl) rfl ?_
  refine e_ldc2 (q := 8) (z := 1103515245) dX10_drawn_5 rfl kw_X10_51 (by decide) ?_
  refine e_lmul (q := 9) dX10_drawn_8 rfl ?_
  refine e_ldc2 (q := 12) (z := 12345) dX10_drawn_9 rfl kw_X10_53 (by decide) ?_
  refine e_ladd (q := 13) dX10_drawn_12 rfl ?_
  refine e_ldc2 (q := 16) (z := 2147483647) dX10_drawn_13 rfl kw_X10_55 (by decide) ?_
  refine e_land (q := 17) dX10_drawn_16 rfl (lZ_and31 (by omega) (by omega)) ?_
  refine e_putL (q := 20) (jz := 7) dX10_drawn_17 rfl fp_X10_45 rfl (by first | assumption | rfl) rfl ?_
  refine e_aload_n (q := 21) (i := 0) dX10_drawn_20 rfl rfl rfl ?_
  refine e_getL (q := 24) (jz := 7) dX10_drawn_21 rfl fg_X10_45 rfl (by first | assumption | rfl) rfl ?_
  refine e_ldc2 (q := 27) (z := 65536) dX10_drawn_24 rfl kw_X10_57 (by decide) ?_
  rw [sJ_2, if_pos ⟨rfl, rfl⟩]
  refine e_ldiv (q := 28) dX10_drawn_27 rfl (by decide) (lZ_div (by omega) (by omega) (by decide) (by decide)) ?_
  exact r_l dX10_drawn_28 rfl ⟨rfl, rfl⟩

theorem c_X10_isWet {G : Gx} {σ : Sg} {L : Nat} {w : Int} (hT : TI σ) (hL : isLand L) (h0 : 0 ≤ σ.2 L 7) (h1 : σ.2 L 7 ≤ 2147483647) (hw0 : 0 ≤ w) (hw1 : w ≤ 3) : Con G 2 mX10_isWet [.ref (G.2.2.2 + 54), .ref (G.2.2.2 + L), .int (iZ w)] σ (pI (fun z σ' => z = (gWet (σ.1 2 6) (σ.2 L 7) w).1 ∧ σ' = sJ σ L 7 (gWet (σ.1 2 6) (σ.2 L 7) w).2)) := by
  have y0 := ly0 hL
  have y1 := ly1 hL
  have y2 := ly2 hL
  have y3 := ly3 hL
  have y4 := ly4 hL
  obtain ⟨hzz, -, hnp, hnc, hnb, hlb, hrn, hsd, hrw, hrq, hch, hbt, hck⟩ := id hT
  refine e_entry om_X10_isWet (Nat.le_of_ble_eq_true rfl) (L := [some (.ref (G.2.2.2 + 54)), some (.ref (G.2.2.2 + L)), some (.int (iZ w))]) rfl ?_
  refine e_iload_n (q := 1) (i := 2) dX10_isWet_0 rfl rfl rfl ?_
  by_cases k1_1 : w = 1
  · refine e_tabIn (tgt := 28) dX10_isWet_1 ⟨by omega, by omega⟩ (by omega) (by omega) (by rw [k1_1]; rfl) (by decide) ?_
    refine e_aload_n (q := 29) (i := 0) dX10_isWet_28 rfl rfl rfl ?_
    refine e_getR (q := 32) dX10_isWet_29 rfl fg_X10_9 (by first | assumption | rfl) rfl ?_
    refine e_getI (q := 35) (jz := 6) dX10_isWet_32 rfl fg_X10_29 rfl (by first | assumption | rfl) rfl ?_
    refine e_bipush (q := 37) dX10_isWet_35 rfl (by decide) ?_
    refine e_icmp_eq (q := 40) (tgt := 70) dX10_isWet_37 rfl (by decide) (fun c37 => ?_) (fun c37 => ?_)
    · refine e_iconst (q := 71) dX10_isWet_70 rfl ?_
      refine e_goto (tgt := 75) dX10_isWet_71 (by decide) ?_
      exact r_z dX10_isWet_75 rfl (by first | exact Or.inl rfl | exact Or.inr rfl | omega) ⟨by unfold gWet; rw [if_pos k1_1, if_pos c37], by unfold gWet; rw [if_pos k1_1, if_pos c37, sJ_self]⟩
    · refine e_aload_n (q := 41) (i := 0) dX10_isWet_40 rfl rfl rfl ?_
      refine e_getR (q := 44) dX10_isWet_41 rfl fg_X10_9 (by first | assumption | rfl) rfl ?_
      refine e_getI (q := 47) (jz := 6) dX10_isWet_44 rfl fg_X10_29 rfl (by first | assumption | rfl) rfl ?_
      refine e_if_le (q := 50) (tgt := 74) dX10_isWet_47 rfl (by decide) (fun c47 => ?_) (fun c47 => ?_)
      · refine e_iconst (q := 75) dX10_isWet_74 rfl ?_
        exact r_z dX10_isWet_75 rfl (by first | exact Or.inl rfl | exact Or.inr rfl | omega) ⟨by unfold gWet; rw [if_pos k1_1, if_neg c37, if_pos c47], by unfold gWet; rw [if_pos k1_1, if_neg c37, if_pos c47, sJ_self]⟩
      · refine e_aload_n (q := 51) (i := 1) dX10_isWet_50 rfl rfl rfl ?_
        refine e_Sl (q := 54) (vs := [_]) ok_X10_drawn ml_X10_35 dX10_isWet_51 rfl rfl rfl (Nat.le_of_ble_eq_true rfl) (by decide) (c_X10_drawn hL h0 h1) (fun z51 s51 h51 => ?_)
        obtain ⟨e51, f51⟩ := h51
        subst f51
        have hz51 : 0 ≤ z51 ∧ z51 ≤ 32767 := by rw [e51]; unfold nx; omega
        refine e_ldc2 (q := 57) (z := 100) dX10_isWet_54 rfl kw_X10_39 (by decide) ?_
        refine e_lrem (q := 58) dX10_isWet_57 rfl (by decide) (lZ_rem (by omega) (by omega) (by decide) (by decide)) ?_
        refine e_aload_n (q := 59) (i := 0) dX10_isWet_58 rfl rfl rfl ?_
        refine e_getR (q := 62) dX10_isWet_59 rfl fg_X10_9 (by first | assumption | rfl) rfl ?_
        refine e_getI (q := 65) (jz := 6) dX10_isWet_62 rfl fg_X10_29 rfl (by first | assumption | rfl) rfl ?_
        refine e_i2l (q := 66) dX10_isWet_65 rfl (show R32 (σ.1 2 6) from ⟨by omega, by omega⟩) ?_
        refine e_lcmp (q := 67) dX10_isWet_66 rfl ⟨by omega, by omega⟩ (show R64 (σ.1 2 6) from ⟨by omega, by omega⟩) ?_
        have e26 : (sJ σ L 7 (nx (σ.2 L 7))).1 2 6 = σ.1 2 6 := rfl
        refine e_if_ge (q := 70) (tgt := 74) dX10_isWet_67 rfl (by decide) (fun c67 => ?_) (fun c67 => ?_)
        · refine e_iconst (q := 75) dX10_isWet_74 rfl ?_
          exact r_z dX10_isWet_75 rfl (by first | exact Or.inl rfl | exact Or.inr rfl | omega) ⟨by unfold gWet; rw [if_pos k1_1, if_neg c37, if_neg c47]; show _ = (if nx (σ.2 L 7) / 65536 % 100 < σ.1 2 6 then 1 else 0); rw [← e51]; split <;> omega, by unfold gWet; rw [if_pos k1_1, if_neg c37, if_neg c47]⟩
        · refine e_iconst (q := 71) dX10_isWet_70 rfl ?_
          refine e_goto (tgt := 75) dX10_isWet_71 (by decide) ?_
          exact r_z dX10_isWet_75 rfl (by first | exact Or.inl rfl | exact Or.inr rfl | omega) ⟨by unfold gWet; rw [if_pos k1_1, if_neg c37, if_neg c47]; show _ = (if nx (σ.2 L 7) / 65536 % 100 < σ.1 2 6 then 1 else 0); rw [← e51]; split <;> omega, by unfold gWet; rw [if_pos k1_1, if_neg c37, if_neg c47]⟩
  by_cases k1_2 : w = 2
  · refine e_tabIn (tgt := 76) dX10_isWet_1 ⟨by omega, by omega⟩ (by omega) (by omega) (by rw [k1_2]; rfl) (by decide) ?_
    refine e_iconst (q := 77) dX10_isWet_76 rfl ?_
    exact r_z dX10_isWet_77 rfl (by first | exact Or.inl rfl | exact Or.inr rfl | omega) ⟨by unfold gWet; rw [if_neg k1_1, if_pos k1_2], by unfold gWet; rw [if_neg k1_1, if_pos k1_2, sJ_self]⟩
  by_cases k1_3 : w = 3
  · refine e_tabIn (tgt := 78) dX10_isWet_1 ⟨by omega, by omega⟩ (by omega) (by omega) (by rw [k1_3]; rfl) (by decide) ?_
    refine e_iconst (q := 79) dX10_isWet_78 rfl ?_
    exact r_z dX10_isWet_79 rfl (by first | exact Or.inl rfl | exact Or.inr rfl | omega) ⟨by unfold gWet; rw [if_neg k1_1, if_neg k1_2, if_pos k1_3], by unfold gWet; rw [if_neg k1_1, if_neg k1_2, if_pos k1_3, sJ_self]⟩
  refine e_tabOut (tgt := 80) dX10_isWet_1 ⟨by omega, by omega⟩ (by omega) (by decide) ?_
  refine e_aload_n (q := 81) (i := 0) dX10_isWet_80 rfl rfl rfl ?_
  refine e_Vip (q := 84) (vs := []) ok_X10_wetAsItGoes ml_X10_41 dX10_isWet_81 rfl ⟨_, _, rfl⟩ (by first | assumption | rfl) rfl rfl (Nat.le_of_ble_eq_true rfl) (by decide) (c_X10_wetAsItGoes hT) ?_
  exact r_z dX10_isWet_84 rfl (by split <;> simp) ⟨by unfold gWet; rw [if_neg k1_1, if_neg k1_2, if_neg k1_3], by unfold gWet; rw [if_neg k1_1, if_neg k1_2, if_neg k1_3, sJ_self]⟩

theorem c_X10_ofChild {G : Gx} {σ : Sg} {L : Nat} {c : Int} (hT : TI σ) (hI : LI σ L) (hL : isLand L) (hc : 0 ≤ c) (hc6 : c < 6) : Con G 1 mX10_ofChild [.ref (G.2.2.2 + 54), .ref (G.2.2.2 + L), .int (iZ c)] σ (pV (fun σ' => σ' = sJ (sJ (sJ σ 55 0 (σ.1 (L + 3) c)) 55 1 (σ.1 7 c)) 55 2 (σ.1 (L + 4) c))) := by
  have y0 := ly0 hL
  have y1 := ly1 hL
  have y2 := ly2 hL
  have y3 := ly3 hL
  have y4 := ly4 hL
  obtain ⟨hzz, -, hnp, hnc, hnb, hlb, hrn, hsd, hrw, hrq, hch, hbt, hck⟩ := id hT
  have hb := hI.2.1 c hc hc6
  have hm := hch c hc hc6
  refine e_entry om_X10_ofChild (Nat.le_of_ble_eq_true rfl) (L := [some (.ref (G.2.2.2 + 54)), some (.ref (G.2.2.2 + L)), some (.int (iZ c))]) rfl ?_
  refine e_aload_n (q := 1) (i := 0) dX10_ofChild_0 rfl rfl rfl ?_
  refine e_getR (q := 4) dX10_ofChild_1 rfl fg_X10_17 (by first | assumption | rfl) rfl ?_
  refine e_iconst (q := 5) dX10_ofChild_4 rfl ?_
  refine e_aload_n (q := 6) (i := 1) dX10_ofChild_5 rfl rfl rfl ?_
  refine e_getR (q := 9) dX10_ofChild_6 rfl fg_X10_110 (by first | assumption | rfl) rfl ?_
  refine e_iload_n (q := 10) (i := 2) dX10_ofChild_9 rfl rfl rfl ?_
  refine e_iald (q := 11) dX10_ofChild_10 rfl (by first | assumption | rfl) ?_
  refine e_i2l (q := 12) dX10_ofChild_11 rfl (show R32 (σ.1 (L + 3) c) from ⟨by omega, by omega⟩) ?_
  refine e_last (q := 13) dX10_ofChild_12 rfl (by first | assumption | rfl) ?_
  refine e_aload_n (q := 14) (i := 0) dX10_ofChild_13 rfl rfl rfl ?_
  refine e_getR (q := 17) dX10_ofChild_14 rfl fg_X10_17 (by first | assumption | rfl) rfl ?_
  refine e_iconst (q := 18) dX10_ofChild_17 rfl ?_
  refine e_aload_n (q := 19) (i := 0) dX10_ofChild_18 rfl rfl rfl ?_
  refine e_getR (q := 22) dX10_ofChild_19 rfl fg_X10_9 (by first | assumption | rfl) rfl ?_
  refine e_getR (q := 25) dX10_ofChild_22 rfl fg_X10_176 (by first | assumption | rfl) rfl ?_
  refine e_iload_n (q := 26) (i := 2) dX10_ofChild_25 rfl rfl rfl ?_
  refine e_iald (q := 27) dX10_ofChild_26 rfl (by first | assumption | rfl) ?_
  refine e_i2l (q := 28) dX10_ofChild_27 rfl (show R32 (σ.1 7 c) from ⟨by omega, by omega⟩) ?_
  refine e_last (q := 29) dX10_ofChild_28 rfl (by first | assumption | rfl) ?_
  refine e_aload_n (q := 30) (i := 0) dX10_ofChild_29 rfl rfl rfl ?_
  refine e_getR (q := 33) dX10_ofChild_30 rfl fg_X10_17 (by first | assumption | rfl) rfl ?_
  refine e_iconst (q := 34) dX10_ofChild_33 rfl ?_
  refine e_aload_n (q := 35) (i := 1) dX10_ofChild_34 rfl rfl rfl ?_
  refine e_getR (q := 38) dX10_ofChild_35 rfl fg_X10_95 (by first | assumption | rfl) rfl ?_
  refine e_iload_n (q := 39) (i := 2) dX10_ofChild_38 rfl rfl rfl ?_
  refine e_iald (q := 40) dX10_ofChild_39 rfl (by first | assumption | rfl) ?_
  refine e_i2l (q := 41) dX10_ofChild_40 rfl (show R32 (σ.1 (L + 4) c) from ⟨by omega, by omega⟩) ?_
  refine e_last (q := 42) dX10_ofChild_41 rfl (by first | assumption | rfl) ?_
  exact r_v dX10_ofChild_42 rfl rfl

theorem c_X10_ofYear {G : Gx} {σ : Sg} {L : Nat} {sw wt fa : Int} (hI : LI σ L) (hL : isLand L) (hsw : R32 sw) (hwt : wt = 0 ∨ wt = 1) (hfa : R32 fa) : Con G 1 mX10_ofYear [.ref (G.2.2.2 + 54), .ref (G.2.2.2 + L), .int (iZ sw), .int (iZ wt), .int (iZ fa)] σ (pV (fun σ' => σ' = sJ (sJ (sJ (sJ σ 55 3 sw) 55 4 wt) 55 5 fa) 55 6 (σ.1 L 6))) := by
  have y0 := ly0 hL
  have y1 := ly1 hL
  have y2 := ly2 hL
  have y3 := ly3 hL
  have y4 := ly4 hL
  have hy := hI.2.2.2.1
  refine e_entry om_X10_ofYear (Nat.le_of_ble_eq_true rfl) (L := [some (.ref (G.2.2.2 + 54)), some (.ref (G.2.2.2 + L)), some (.int (iZ sw)), some (.int (iZ wt)), some (.int (iZ fa))]) rfl ?_
  refine e_aload_n (q := 1) (i := 0) dX10_ofYear_0 rfl rfl rfl ?_
  refine e_getR (q := 4) dX10_ofYear_1 rfl fg_X10_17 (by first | assumption | rfl) rfl ?_
  refine e_iconst (q := 5) dX10_ofYear_4 rfl ?_
  refine e_iload_n (q := 6) (i := 2) dX10_ofYear_5 rfl rfl rfl ?_
  refine e_i2l (q := 7) dX10_ofYear_6 rfl hsw ?_
  refine e_last (q := 8) dX10_ofYear_7 rfl (by first | assumption | rfl) ?_
  refine e_aload_n (q := 9) (i := 0) dX10_ofYear_8 rfl rfl rfl ?_
  refine e_getR (q := 12) dX10_ofYear_9 rfl fg_X10_17 (by first | assumption | rfl) rfl ?_
  refine e_iconst (q := 13) dX10_ofYear_12 rfl ?_
  refine e_iload_n (q := 14) (i := 3) dX10_ofYear_13 rfl rfl rfl ?_
  refine e_if_eq (q := 17) (tgt := 21) dX10_ofYear_14 rfl (by decide) (fun c14 => ?_) (fun c14 => ?_)
  · refine e_lconst (q := 22) (z := 0) dX10_ofYear_21 rfl (by decide) ?_
    refine e_last (q := 23) dX10_ofYear_22 rfl (by first | assumption | rfl) ?_
    refine e_aload_n (q := 24) (i := 0) dX10_ofYear_23 rfl rfl rfl ?_
    refine e_getR (q := 27) dX10_ofYear_24 rfl fg_X10_17 (by first | assumption | rfl) rfl ?_
    refine e_iconst (q := 28) dX10_ofYear_27 rfl ?_
    refine e_iload (q := 30) dX10_ofYear_28 rfl rfl ?_
    refine e_i2l (q := 31) dX10_ofYear_30 rfl hfa ?_
    refine e_last (q := 32) dX10_ofYear_31 rfl (by first | assumption | rfl) ?_
    refine e_aload_n (q := 33) (i := 0) dX10_ofYear_32 rfl rfl rfl ?_
    refine e_getR (q := 36) dX10_ofYear_33 rfl fg_X10_17 (by first | assumption | rfl) rfl ?_
    refine e_bipush (q := 38) dX10_ofYear_36 rfl (by decide) ?_
    refine e_aload_n (q := 39) (i := 1) dX10_ofYear_38 rfl rfl rfl ?_
    refine e_getI (q := 42) (jz := 6) dX10_ofYear_39 rfl fg_X10_63 rfl (by first | assumption | rfl) rfl ?_
    refine e_i2l (q := 43) dX10_ofYear_42 rfl (show R32 (σ.1 L 6) from ⟨by omega, by omega⟩) ?_
    refine e_last (q := 44) dX10_ofYear_43 rfl (by first | assumption | rfl) ?_
    exact r_v dX10_ofYear_44 rfl (by rw [c14]; rfl)
  · refine e_lconst (q := 18) (z := 1) dX10_ofYear_17 rfl (by decide) ?_
    refine e_goto (tgt := 22) dX10_ofYear_18 (by decide) ?_
    refine e_last (q := 23) dX10_ofYear_22 rfl (by first | assumption | rfl) ?_
    refine e_aload_n (q := 24) (i := 0) dX10_ofYear_23 rfl rfl rfl ?_
    refine e_getR (q := 27) dX10_ofYear_24 rfl fg_X10_17 (by first | assumption | rfl) rfl ?_
    refine e_iconst (q := 28) dX10_ofYear_27 rfl ?_
    refine e_iload (q := 30) dX10_ofYear_28 rfl rfl ?_
    refine e_i2l (q := 31) dX10_ofYear_30 rfl hfa ?_
    refine e_last (q := 32) dX10_ofYear_31 rfl (by first | assumption | rfl) ?_
    refine e_aload_n (q := 33) (i := 0) dX10_ofYear_32 rfl rfl rfl ?_
    refine e_getR (q := 36) dX10_ofYear_33 rfl fg_X10_17 (by first | assumption | rfl) rfl ?_
    refine e_bipush (q := 38) dX10_ofYear_36 rfl (by decide) ?_
    refine e_aload_n (q := 39) (i := 1) dX10_ofYear_38 rfl rfl rfl ?_
    refine e_getI (q := 42) (jz := 6) dX10_ofYear_39 rfl fg_X10_63 rfl (by first | assumption | rfl) rfl ?_
    refine e_i2l (q := 43) dX10_ofYear_42 rfl (show R32 (σ.1 L 6) from ⟨by omega, by omega⟩) ?_
    refine e_last (q := 44) dX10_ofYear_43 rfl (by first | assumption | rfl) ?_
    exact r_v dX10_ofYear_44 rfl (by rw [show wt = 1 by omega]; rfl)

