theorem c_X2_top {G : Gx} {σ : Sg} {L : Nat} {p : Int} (hL : isLand L) (hp : 0 ≤ p) (hp4 : p < 4) : Con G 1 mX2_top [.ref (G.2.2.2 + L), .int (iZ p)] σ (pI (pE σ (gTop (σ.1 3) (σ.1 (L + 1)) p))) := by
  have y0 := ly0 hL
  have y1 := ly1 hL
  have y2 := ly2 hL
  have y3 := ly3 hL
  have y4 := ly4 hL
  refine e_entry om_X2_top (Nat.le_of_ble_eq_true rfl) (L := [some (.ref (G.2.2.2 + L)), some (.int (iZ p))]) rfl ?_
  refine e_aload_n (q := 1) (i := 0) dX2_top_0 rfl rfl rfl ?_
  refine e_getR (q := 4) dX2_top_1 rfl fg_X2_9 (by first | assumption | rfl) rfl ?_
  refine e_getR (q := 7) dX2_top_4 rfl fg_X2_68 (by first | assumption | rfl) rfl ?_
  refine e_iload_n (q := 8) (i := 1) dX2_top_7 rfl rfl rfl ?_
  refine e_iald (q := 9) dX2_top_8 rfl (by first | assumption | rfl) ?_
  refine e_aload_n (q := 10) (i := 0) dX2_top_9 rfl rfl rfl ?_
  refine e_getR (q := 13) dX2_top_10 rfl fg_X2_15 (by first | assumption | rfl) rfl ?_
  refine e_iconst (q := 14) dX2_top_13 rfl ?_
  refine e_iload_n (q := 15) (i := 1) dX2_top_14 rfl rfl rfl ?_
  refine e_imul (q := 16) dX2_top_15 rfl ?_
  refine e_iald (q := 17) dX2_top_16 rfl (by first | assumption | rfl) ?_
  refine e_isub (q := 18) dX2_top_17 rfl ?_
  exact r_i dX2_top_18 rfl ⟨rfl, rfl⟩

theorem c_X2_right {G : Gx} {σ : Sg} {L : Nat} {p : Int} (hL : isLand L) (hp : 0 ≤ p) (hp4 : p < 4) : Con G 1 mX2_right [.ref (G.2.2.2 + L), .int (iZ p)] σ (pI (pE σ (gRgt (σ.1 4) (σ.1 (L + 1)) p))) := by
  have y0 := ly0 hL
  have y1 := ly1 hL
  have y2 := ly2 hL
  have y3 := ly3 hL
  have y4 := ly4 hL
  refine e_entry om_X2_right (Nat.le_of_ble_eq_true rfl) (L := [some (.ref (G.2.2.2 + L)), some (.int (iZ p))]) rfl ?_
  refine e_aload_n (q := 1) (i := 0) dX2_right_0 rfl rfl rfl ?_
  refine e_getR (q := 4) dX2_right_1 rfl fg_X2_9 (by first | assumption | rfl) rfl ?_
  refine e_getR (q := 7) dX2_right_4 rfl fg_X2_71 (by first | assumption | rfl) rfl ?_
  refine e_iload_n (q := 8) (i := 1) dX2_right_7 rfl rfl rfl ?_
  refine e_iald (q := 9) dX2_right_8 rfl (by first | assumption | rfl) ?_
  refine e_aload_n (q := 10) (i := 0) dX2_right_9 rfl rfl rfl ?_
  refine e_getR (q := 13) dX2_right_10 rfl fg_X2_15 (by first | assumption | rfl) rfl ?_
  refine e_iconst (q := 14) dX2_right_13 rfl ?_
  refine e_iload_n (q := 15) (i := 1) dX2_right_14 rfl rfl rfl ?_
  refine e_imul (q := 16) dX2_right_15 rfl ?_
  refine e_iconst (q := 17) dX2_right_16 rfl ?_
  refine e_iadd (q := 18) dX2_right_17 rfl ?_
  refine e_iald (q := 19) dX2_right_18 rfl (by first | assumption | rfl) ?_
  refine e_iadd (q := 20) dX2_right_19 rfl ?_
  exact r_i dX2_right_20 rfl ⟨rfl, rfl⟩

theorem c_X2_bottom {G : Gx} {σ : Sg} {L : Nat} {p : Int} (hL : isLand L) (hp : 0 ≤ p) (hp4 : p < 4) : Con G 1 mX2_bottom [.ref (G.2.2.2 + L), .int (iZ p)] σ (pI (pE σ (gBot (σ.1 3) (σ.1 (L + 1)) p))) := by
  have y0 := ly0 hL
  have y1 := ly1 hL
  have y2 := ly2 hL
  have y3 := ly3 hL
  have y4 := ly4 hL
  refine e_entry om_X2_bottom (Nat.le_of_ble_eq_true rfl) (L := [some (.ref (G.2.2.2 + L)), some (.int (iZ p))]) rfl ?_
  refine e_aload_n (q := 1) (i := 0) dX2_bottom_0 rfl rfl rfl ?_
  refine e_getR (q := 4) dX2_bottom_1 rfl fg_X2_9 (by first | assumption | rfl) rfl ?_
  refine e_getR (q := 7) dX2_bottom_4 rfl fg_X2_68 (by first | assumption | rfl) rfl ?_
  refine e_iload_n (q := 8) (i := 1) dX2_bottom_7 rfl rfl rfl ?_
  refine e_iald (q := 9) dX2_bottom_8 rfl (by first | assumption | rfl) ?_
  refine e_aload_n (q := 10) (i := 0) dX2_bottom_9 rfl rfl rfl ?_
  refine e_getR (q := 13) dX2_bottom_10 rfl fg_X2_15 (by first | assumption | rfl) rfl ?_
  refine e_iconst (q := 14) dX2_bottom_13 rfl ?_
  refine e_iload_n (q := 15) (i := 1) dX2_bottom_14 rfl rfl rfl ?_
  refine e_imul (q := 16) dX2_bottom_15 rfl ?_
  refine e_iconst (q := 17) dX2_bottom_16 rfl ?_
  refine e_iadd (q := 18) dX2_bottom_17 rfl ?_
  refine e_iald (q := 19) dX2_bottom_18 rfl (by first | assumption | rfl) ?_
  refine e_iadd (q := 20) dX2_bottom_19 rfl ?_
  exact r_i dX2_bottom_20 rfl ⟨rfl, rfl⟩

theorem c_X2_left {G : Gx} {σ : Sg} {L : Nat} {p : Int} (hL : isLand L) (hp : 0 ≤ p) (hp4 : p < 4) : Con G 1 mX2_left [.ref (G.2.2.2 + L), .int (iZ p)] σ (pI (pE σ (gLft (σ.1 4) (σ.1 (L + 1)) p))) := by
  have y0 := ly0 hL
  have y1 := ly1 hL
  have y2 := ly2 hL
  have y3 := ly3 hL
  have y4 := ly4 hL
  refine e_entry om_X2_left (Nat.le_of_ble_eq_true rfl) (L := [some (.ref (G.2.2.2 + L)), some (.int (iZ p))]) rfl ?_
  refine e_aload_n (q := 1) (i := 0) dX2_left_0 rfl rfl rfl ?_
  refine e_getR (q := 4) dX2_left_1 rfl fg_X2_9 (by first | assumption | rfl) rfl ?_
  refine e_getR (q := 7) dX2_left_4 rfl fg_X2_71 (by first | assumption | rfl) rfl ?_
  refine e_iload_n (q := 8) (i := 1) dX2_left_7 rfl rfl rfl ?_
  refine e_iald (q := 9) dX2_left_8 rfl (by first | assumption | rfl) ?_
  refine e_aload_n (q := 10) (i := 0) dX2_left_9 rfl rfl rfl ?_
  refine e_getR (q := 13) dX2_left_10 rfl fg_X2_15 (by first | assumption | rfl) rfl ?_
  refine e_iconst (q := 14) dX2_left_13 rfl ?_
  refine e_iload_n (q := 15) (i := 1) dX2_left_14 rfl rfl rfl ?_
  refine e_imul (q := 16) dX2_left_15 rfl ?_
  refine e_iconst (q := 17) dX2_left_16 rfl ?_
  refine e_iadd (q := 18) dX2_left_17 rfl ?_
  refine e_iald (q := 19) dX2_left_18 rfl (by first | assumption | rfl) ?_
  refine e_isub (q := 20) dX2_left_19 rfl ?_
  exact r_i dX2_left_20 rfl ⟨rfl, rfl⟩

theorem c_X2_area {G : Gx} {σ : Sg} {L : Nat} {p : Int} (hL : isLand L) (hp : 0 ≤ p) (hp4 : p < 4) : Con G 2 mX2_area [.ref (G.2.2.2 + L), .int (iZ p)] σ (pI (pE σ (gArea (σ.1 3) (σ.1 4) (σ.1 (L + 1)) p))) := by
  have y0 := ly0 hL
  have y1 := ly1 hL
  have y2 := ly2 hL
  have y3 := ly3 hL
  have y4 := ly4 hL
  refine e_entry om_X2_area (Nat.le_of_ble_eq_true rfl) (L := [some (.ref (G.2.2.2 + L)), some (.int (iZ p))]) rfl ?_
  refine e_aload_n (q := 1) (i := 0) dX2_area_0 rfl rfl rfl ?_
  refine e_iload_n (q := 2) (i := 1) dX2_area_1 rfl rfl rfl ?_
  refine e_Vip (q := 5) (vs := [_]) ok_X2_bottom ml_X2_74 dX2_area_2 rfl ⟨_, _, rfl⟩ (by first | assumption | rfl) rfl rfl (Nat.le_of_ble_eq_true rfl) (by decide) (c_X2_bottom hL (by omega) (by omega)) ?_
  refine e_aload_n (q := 6) (i := 0) dX2_area_5 rfl rfl rfl ?_
  refine e_iload_n (q := 7) (i := 1) dX2_area_6 rfl rfl rfl ?_
  refine e_Vip (q := 10) (vs := [_]) ok_X2_top ml_X2_78 dX2_area_7 rfl ⟨_, _, rfl⟩ (by first | assumption | rfl) rfl rfl (Nat.le_of_ble_eq_true rfl) (by decide) (c_X2_top hL (by omega) (by omega)) ?_
  refine e_isub (q := 11) dX2_area_10 rfl ?_
  refine e_iconst (q := 12) dX2_area_11 rfl ?_
  refine e_iadd (q := 13) dX2_area_12 rfl ?_
  refine e_aload_n (q := 14) (i := 0) dX2_area_13 rfl rfl rfl ?_
  refine e_iload_n (q := 15) (i := 1) dX2_area_14 rfl rfl rfl ?_
  refine e_Vip (q := 18) (vs := [_]) ok_X2_right ml_X2_81 dX2_area_15 rfl ⟨_, _, rfl⟩ (by first | assumption | rfl) rfl rfl (Nat.le_of_ble_eq_true rfl) (by decide) (c_X2_right hL (by omega) (by omega)) ?_
  refine e_aload_n (q := 19) (i := 0) dX2_area_18 rfl rfl rfl ?_
  refine e_iload_n (q := 20) (i := 1) dX2_area_19 rfl rfl rfl ?_
  refine e_Vip (q := 23) (vs := [_]) ok_X2_left ml_X2_84 dX2_area_20 rfl ⟨_, _, rfl⟩ (by first | assumption | rfl) rfl rfl (Nat.le_of_ble_eq_true rfl) (by decide) (c_X2_left hL (by omega) (by omega)) ?_
  refine e_isub (q := 24) dX2_area_23 rfl ?_
  refine e_iconst (q := 25) dX2_area_24 rfl ?_
  refine e_iadd (q := 26) dX2_area_25 rfl ?_
  refine e_imul (q := 27) dX2_area_26 rfl ?_
  exact r_i dX2_area_27 rfl ⟨rfl, rfl⟩

theorem c_X2_holds {G : Gx} {σ : Sg} {L : Nat} {p r c : Int} (hT : TI σ) (hI : LI σ L) (hL : isLand L) (hp : 0 ≤ p) (hp4 : p < 4) (hr : R32 r) (hc : R32 c) : Con G 2 mX2_holds [.ref (G.2.2.2 + L), .int (iZ p), .int (iZ r), .int (iZ c)] σ (pI (pE σ (gHold (σ.1 3) (σ.1 4) (σ.1 (L + 1)) p r c))) := by
  have y0 := ly0 hL
  have y1 := ly1 hL
  have y2 := ly2 hL
  have y3 := ly3 hL
  have y4 := ly4 hL
  have hs := LI_side hT hI hp hp4
  refine e_entry om_X2_holds (Nat.le_of_ble_eq_true rfl) (L := [some (.ref (G.2.2.2 + L)), some (.int (iZ p)), some (.int (iZ r)), some (.int (iZ c))]) rfl ?_
  refine e_iload_n (q := 1) (i := 2) dX2_holds_0 rfl rfl rfl ?_
  refine e_aload_n (q := 2) (i := 0) dX2_holds_1 rfl rfl rfl ?_
  refine e_iload_n (q := 3) (i := 1) dX2_holds_2 rfl rfl rfl ?_
  refine e_Vip (q := 6) (vs := [_]) ok_X2_top ml_X2_78 dX2_holds_3 rfl ⟨_, _, rfl⟩ (by first | assumption | rfl) rfl rfl (Nat.le_of_ble_eq_true rfl) (by decide) (c_X2_top hL (by omega) (by omega)) ?_
  refine e_icmp_lt (q := 9) (tgt := 40) dX2_holds_6 rfl (by decide) (fun c6 => ?_) (fun c6 => ?_)
  · refine e_iconst (q := 41) dX2_holds_40 rfl ?_
    exact r_z dX2_holds_41 rfl (by first | exact Or.inl rfl | exact Or.inr rfl | omega) ⟨by unfold gHold; split <;> omega, rfl⟩
  · refine e_iload_n (q := 10) (i := 2) dX2_holds_9 rfl rfl rfl ?_
    refine e_aload_n (q := 11) (i := 0) dX2_holds_10 rfl rfl rfl ?_
    refine e_iload_n (q := 12) (i := 1) dX2_holds_11 rfl rfl rfl ?_
    refine e_Vip (q := 15) (vs := [_]) ok_X2_bottom ml_X2_74 dX2_holds_12 rfl ⟨_, _, rfl⟩ (by first | assumption | rfl) rfl rfl (Nat.le_of_ble_eq_true rfl) (by decide) (c_X2_bottom hL (by omega) (by omega)) ?_
    refine e_icmp_gt (q := 18) (tgt := 40) dX2_holds_15 rfl (by decide) (fun c15 => ?_) (fun c15 => ?_)
    · refine e_iconst (q := 41) dX2_holds_40 rfl ?_
      exact r_z dX2_holds_41 rfl (by first | exact Or.inl rfl | exact Or.inr rfl | omega) ⟨by unfold gHold; split <;> omega, rfl⟩
    · refine e_iload_n (q := 19) (i := 3) dX2_holds_18 rfl rfl rfl ?_
      refine e_aload_n (q := 20) (i := 0) dX2_holds_19 rfl rfl rfl ?_
      refine e_iload_n (q := 21) (i := 1) dX2_holds_20 rfl rfl rfl ?_
      refine e_Vip (q := 24) (vs := [_]) ok_X2_left ml_X2_84 dX2_holds_21 rfl ⟨_, _, rfl⟩ (by first | assumption | rfl) rfl rfl (Nat.le_of_ble_eq_true rfl) (by decide) (c_X2_left hL (by omega) (by omega)) ?_
      refine e_icmp_lt (q := 27) (tgt := 40) dX2_holds_24 rfl (by decide) (fun c24 => ?_) (fun c24 => ?_)
      · refine e_iconst (q := 41) dX2_holds_40 rfl ?_
        exact r_z dX2_holds_41 rfl (by first | exact Or.inl rfl | exact Or.inr rfl | omega) ⟨by unfold gHold; split <;> omega, rfl⟩
      · refine e_iload_n (q := 28) (i := 3) dX2_holds_27 rfl rfl rfl ?_
        refine e_aload_n (q := 29) (i := 0) dX2_holds_28 rfl rfl rfl ?_
        refine e_iload_n (q := 30) (i := 1) dX2_holds_29 rfl rfl rfl ?_
        refine e_Vip (q := 33) (vs := [_]) ok_X2_right ml_X2_81 dX2_holds_30 rfl ⟨_, _, rfl⟩ (by first | assumption | rfl) rfl rfl (Nat.le_of_ble_eq_true rfl) (by decide) (c_X2_right hL (by omega) (by omega)) ?_
        refine e_icmp_gt (q := 36) (tgt := 40) dX2_holds_33 rfl (by decide) (fun c33 => ?_) (fun c33 => ?_)
        · refine e_iconst (q := 41) dX2_holds_40 rfl ?_
          exact r_z dX2_holds_41 rfl (by first | exact Or.inl rfl | exact Or.inr rfl | omega) ⟨by unfold gHold; split <;> omega, rfl⟩
        · refine e_iconst (q := 37) dX2_holds_36 rfl ?_
          refine e_goto (tgt := 41) dX2_holds_37 (by decide) ?_
          exact r_z dX2_holds_41 rfl (by first | exact Or.inl rfl | exact Or.inr rfl | omega) ⟨by unfold gHold; split <;> omega, rfl⟩

theorem c_X2_commonRows {G : Gx} {σ : Sg} {L : Nat} {p q : Int} (hT : TI σ) (hI : LI σ L) (hL : isLand L) (hp : 0 ≤ p) (hp4 : p < 4) (hq : 0 ≤ q) (hq4 : q < 4) : Con G 2 mX2_commonRows [.ref (G.2.2.2 + L), .int (iZ p), .int (iZ q)] σ (pI (pE σ (gCR (σ.1 3) (σ.1 (L + 1)) p q))) := by
  have y0 := ly0 hL
  have y1 := ly1 hL
  have y2 := ly2 hL
  have y3 := ly3 hL
  have y4 := ly4 hL
  have hs := LI_side hT hI hp hp4
  have hs2 := LI_side hT hI hq hq4
  refine e_entry om_X2_commonRows (Nat.le_of_ble_eq_true rfl) (L := [some (.ref (G.2.2.2 + L)), some (.int (iZ p)), some (.int (iZ q))]) rfl ?_
  refine e_aload_n (q := 1) (i := 0) dX2_commonRows_0 rfl rfl rfl ?_
  refine e_iload_n (q := 2) (i := 1) dX2_commonRows_1 rfl rfl rfl ?_
  refine e_Vip (q := 5) (vs := [_]) ok_X2_bottom ml_X2_74 dX2_commonRows_2 rfl ⟨_, _, rfl⟩ (by first | assumption | rfl) rfl rfl (Nat.le_of_ble_eq_true rfl) (by decide) (c_X2_bottom hL (by omega) (by omega)) ?_
  refine e_aload_n (q := 6) (i := 0) dX2_commonRows_5 rfl rfl rfl ?_
  refine e_iload_n (q := 7) (i := 2) dX2_commonRows_6 rfl rfl rfl ?_
  refine e_Vip (q := 10) (vs := [_]) ok_X2_bottom ml_X2_74 dX2_commonRows_7 rfl ⟨_, _, rfl⟩ (by first | assumption | rfl) rfl rfl (Nat.le_of_ble_eq_true rfl) (by decide) (c_X2_bottom hL (by omega) (by omega)) ?_
  refine e_mmin (q := 13) dX2_commonRows_10 rfl ml_X2_106 mw_min_s mw_min_c mw_init (Nat.le_of_ble_eq_true rfl) (by decide) ?_
  refine e_aload_n (q := 14) (i := 0) dX2_commonRows_13 rfl rfl rfl ?_
  refine e_iload_n (q := 15) (i := 1) dX2_commonRows_14 rfl rfl rfl ?_
  refine e_Vip (q := 18) (vs := [_]) ok_X2_top ml_X2_78 dX2_commonRows_15 rfl ⟨_, _, rfl⟩ (by first | assumption | rfl) rfl rfl (Nat.le_of_ble_eq_true rfl) (by decide) (c_X2_top hL (by omega) (by omega)) ?_
  refine e_aload_n (q := 19) (i := 0) dX2_commonRows_18 rfl rfl rfl ?_
  refine e_iload_n (q := 20) (i := 2) dX2_commonRows_19 rfl rfl rfl ?_
  refine e_Vip (q := 23) (vs := [_]) ok_X2_top ml_X2_78 dX2_commonRows_20 rfl ⟨_, _, rfl⟩ (by first | assumption | rfl) rfl rfl (Nat.le_of_ble_eq_true rfl) (by decide) (c_X2_top hL (by omega) (by omega)) ?_
  refine e_mmax (q := 26) dX2_commonRows_23 rfl ml_X2_111 mw_max_s mw_max_c mw_init (Nat.le_of_ble_eq_true rfl) (by decide) ?_
  refine e_isub (q := 27) dX2_commonRows_26 rfl ?_
  refine e_iconst (q := 28) dX2_commonRows_27 rfl ?_
  refine e_iadd (q := 29) dX2_commonRows_28 rfl ?_
  exact r_i dX2_commonRows_29 rfl ⟨rfl, rfl⟩

theorem c_X2_commonColumns {G : Gx} {σ : Sg} {L : Nat} {p q : Int} (hT : TI σ) (hI : LI σ L) (hL : isLand L) (hp : 0 ≤ p) (hp4 : p < 4) (hq : 0 ≤ q) (hq4 : q < 4) : Con G 2 mX2_commonColumns [.ref (G.2.2.2 + L), .int (iZ p), .int (iZ q)] σ (pI (pE σ (gCC (σ.1 4) (σ.1 (L + 1)) p q))) := by
  have y0 := ly0 hL
  have y1 := ly1 hL
  have y2 := ly2 hL
  have y3 := ly3 hL
  have y4 := ly4 hL
  have hs := LI_side hT hI hp hp4
  have hs2 := LI_side hT hI hq hq4
  refine e_entry om_X2_commonColumns (Nat.le_of_ble_eq_true rfl) (L := [some (.ref (G.2.2.2 + L)), some (.int (iZ p)), some (.int (iZ q))]) rfl ?_
  refine e_aload_n (q := 1) (i := 0) dX2_commonColumns_0 rfl rfl rfl ?_
  refine e_iload_n (q := 2) (i := 1) dX2_commonColumns_1 rfl rfl rfl ?_
  refine e_Vip (q := 5) (vs := [_]) ok_X2_right ml_X2_81 dX2_commonColumns_2 rfl ⟨_, _, rfl⟩ (by first | assumption | rfl) rfl rfl (Nat.le_of_ble_eq_true rfl) (by decide) (c_X2_right hL (by omega) (by omega)) ?_
  refine e_aload_n (q := 6) (i := 0) dX2_commonColumns_5 rfl rfl rfl ?_
  refine e_iload_n (q := 7) (i := 2) dX2_commonColumns_6 rfl rfl rfl ?_
  refine e_Vip (q := 10) (vs := [_]) ok_X2_right ml_X2_81 dX2_commonColumns_7 rfl ⟨_, _, rfl⟩ (by first | assumption | rfl) rfl rfl (Nat.le_of_ble_eq_true rfl) (by decide) (c_X2_right hL (by omega) (by omega)) ?_
  refine e_mmin (q := 13) dX2_commonColumns_10 rfl ml_X2_106 mw_min_s mw_min_c mw_init (Nat.le_of_ble_eq_true rfl) (by decide) ?_
  refine e_aload_n (q := 14) (i := 0) dX2_commonColumns_13 rfl rfl rfl ?_
  refine e_iload_n (q := 15) (i := 1) dX2_commonColumns_14 rfl rfl rfl ?_
  refine e_Vip (q := 18) (vs := [_]) ok_X2_left ml_X2_84 dX2_commonColumns_15 rfl ⟨_, _, rfl⟩ (by first | assumption | rfl) rfl rfl (Nat.le_of_ble_eq_true rfl) (by decide) (c_X2_left hL (by omega) (by omega)) ?_
  refine e_aload_n (q := 19) (i := 0) dX2_commonColumns_18 rfl rfl rfl ?_
  refine e_iload_n (q := 20) (i := 2) dX2_commonColumns_19 rfl rfl rfl ?_
  refine e_Vip (q := 23) (vs := [_]) ok_X2_left ml_X2_84 dX2_commonColumns_20 rfl ⟨_, _, rfl⟩ (by first | assumption | rfl) rfl rfl (Nat.le_of_ble_eq_true rfl) (by decide) (c_X2_left hL (by omega) (by omega)) ?_
  refine e_mmax (q := 26) dX2_commonColumns_23 rfl ml_X2_111 mw_max_s mw_max_c mw_init (Nat.le_of_ble_eq_true rfl) (by decide) ?_
  refine e_isub (q := 27) dX2_commonColumns_26 rfl ?_
  refine e_iconst (q := 28) dX2_commonColumns_27 rfl ?_
  refine e_iadd (q := 29) dX2_commonColumns_28 rfl ?_
  exact r_i dX2_commonColumns_29 rfl ⟨rfl, rfl⟩

theorem c_X2_shared {G : Gx} {σ : Sg} {L : Nat} {p q : Int} (hT : TI σ) (hI : LI σ L) (hL : isLand L) (hp : 0 ≤ p) (hp4 : p < 4) (hq : 0 ≤ q) (hq4 : q < 4) : Con G 3 mX2_shared [.ref (G.2.2.2 + L), .int (iZ p), .int (iZ q)] σ (pI (pE σ (gOv (σ.1 3) (σ.1 4) (σ.1 (L + 1)) p q))) := by
  have y0 := ly0 hL
  have y1 := ly1 hL
  have y2 := ly2 hL
  have y3 := ly3 hL
  have y4 := ly4 hL
  have hs := LI_side hT hI hp hp4
  have hs2 := LI_side hT hI hq hq4
  have e1 : -200 ≤ gCR (σ.1 3) (σ.1 (L + 1)) p q ∧ gCR (σ.1 3) (σ.1 (L + 1)) p q ≤ 200 := by unfold gCR; omega
  have e2 : -200 ≤ gCC (σ.1 4) (σ.1 (L + 1)) p q ∧ gCC (σ.1 4) (σ.1 (L + 1)) p q ≤ 200 := by unfold gCC; omega
  refine e_entry om_X2_shared (Nat.le_of_ble_eq_true rfl) (L := [some (.ref (G.2.2.2 + L)), some (.int (iZ p)), some (.int (iZ q))]) rfl ?_
  refine e_aload_n (q := 1) (i := 0) dX2_shared_0 rfl rfl rfl ?_
  refine e_iload_n (q := 2) (i := 1) dX2_shared_1 rfl rfl rfl ?_
  refine e_iload_n (q := 3) (i := 2) dX2_shared_2 rfl rfl rfl ?_
  refine e_Vip (q := 6) (vs := [_, _]) ok_X2_commonRows ml_X2_114 dX2_shared_3 rfl ⟨_, _, rfl⟩ (by first | assumption | rfl) rfl rfl (Nat.le_of_ble_eq_true rfl) (by decide) (c_X2_commonRows hT hI hL (by omega) (by omega) (by omega) (by omega)) ?_
  refine e_iconst (q := 7) dX2_shared_6 rfl ?_
  refine e_mmax (q := 10) dX2_shared_7 rfl ml_X2_111 mw_max_s mw_max_c mw_init (Nat.le_of_ble_eq_true rfl) (by decide) ?_
  refine e_aload_n (q := 11) (i := 0) dX2_shared_10 rfl rfl rfl ?_
  refine e_iload_n (q := 12) (i := 1) dX2_shared_11 rfl rfl rfl ?_
  refine e_iload_n (q := 13) (i := 2) dX2_shared_12 rfl rfl rfl ?_
  refine e_Vip (q := 16) (vs := [_, _]) ok_X2_commonColumns ml_X2_117 dX2_shared_13 rfl ⟨_, _, rfl⟩ (by first | assumption | rfl) rfl rfl (Nat.le_of_ble_eq_true rfl) (by decide) (c_X2_commonColumns hT hI hL (by omega) (by omega) (by omega) (by omega)) ?_
  refine e_iconst (q := 17) dX2_shared_16 rfl ?_
  refine e_mmax (q := 20) dX2_shared_17 rfl ml_X2_111 mw_max_s mw_max_c mw_init (Nat.le_of_ble_eq_true rfl) (by decide) ?_
  refine e_imul (q := 21) dX2_shared_20 rfl ?_
  exact r_i dX2_shared_21 rfl ⟨rfl, rfl⟩

theorem c_X2_touch {G : Gx} {σ : Sg} {L : Nat} {p q : Int} (hT : TI σ) (hI : LI σ L) (hL : isLand L) (hp : 0 ≤ p) (hp4 : p < 4) (hq : 0 ≤ q) (hq4 : q < 4) : Con G 3 mX2_touch [.ref (G.2.2.2 + L), .int (iZ p), .int (iZ q)] σ (pI (pE σ (gTouch (σ.1 3) (σ.1 4) (σ.1 (L + 1)) p q))) := by
  have y0 := ly0 hL
  have y1 := ly1 hL
  have y2 := ly2 hL
  have y3 := ly3 hL
  have y4 := ly4 hL
  have hs := LI_side hT hI hp hp4
  have hs2 := LI_side hT hI hq hq4
  have e1 : -200 ≤ gCR (σ.1 3) (σ.1 (L + 1)) p q ∧ gCR (σ.1 3) (σ.1 (L + 1)) p q ≤ 200 := by unfold gCR; omega
  have e2 : -200 ≤ gCC (σ.1 4) (σ.1 (L + 1)) p q ∧ gCC (σ.1 4) (σ.1 (L + 1)) p q ≤ 200 := by unfold gCC; omega
  refine e_entry om_X2_touch (Nat.le_of_ble_eq_true rfl) (L := [some (.ref (G.2.2.2 + L)), some (.int (iZ p)), some (.int (iZ q)), none, none]) rfl ?_
  refine e_aload_n (q := 1) (i := 0) dX2_touch_0 rfl rfl rfl ?_
  refine e_iload_n (q := 2) (i := 1) dX2_touch_1 rfl rfl rfl ?_
  refine e_iload_n (q := 3) (i := 2) dX2_touch_2 rfl rfl rfl ?_
  refine e_Vip (q := 6) (vs := [_, _]) ok_X2_commonRows ml_X2_114 dX2_touch_3 rfl ⟨_, _, rfl⟩ (by first | assumption | rfl) rfl rfl (Nat.le_of_ble_eq_true rfl) (by decide) (c_X2_commonRows hT hI hL (by omega) (by omega) (by omega) (by omega)) ?_
  refine e_istore_n (q := 7) (i := 3) (L' := [_, _, _, _, _]) dX2_touch_6 rfl rfl (by decide) rfl rfl ?_
  refine e_aload_n (q := 8) (i := 0) dX2_touch_7 rfl rfl rfl ?_
  refine e_iload_n (q := 9) (i := 1) dX2_touch_8 rfl rfl rfl ?_
  refine e_iload_n (q := 10) (i := 2) dX2_touch_9 rfl rfl rfl ?_
  refine e_Vip (q := 13) (vs := [_, _]) ok_X2_commonColumns ml_X2_117 dX2_touch_10 rfl ⟨_, _, rfl⟩ (by first | assumption | rfl) rfl rfl (Nat.le_of_ble_eq_true rfl) (by decide) (c_X2_commonColumns hT hI hL (by omega) (by omega) (by omega) (by omega)) ?_
  refine e_istore (q := 15) (L' := [_, _, _, _, _]) dX2_touch_13 rfl (by decide) rfl rfl ?_
  refine e_iload_n (q := 16) (i := 3) dX2_touch_15 rfl rfl rfl ?_
  refine e_if_lt (q := 19) (tgt := 35) dX2_touch_16 rfl (by decide) (fun c16 => ?_) (fun c16 => ?_)
  · refine e_iconst (q := 36) dX2_touch_35 rfl ?_
    exact r_z dX2_touch_36 rfl (by first | exact Or.inl rfl | exact Or.inr rfl | omega) ⟨by unfold gTouch; split <;> omega, rfl⟩
  · refine e_iload (q := 21) dX2_touch_19 rfl rfl ?_
    refine e_if_lt (q := 24) (tgt := 35) dX2_touch_21 rfl (by decide) (fun c21 => ?_) (fun c21 => ?_)
    · refine e_iconst (q := 36) dX2_touch_35 rfl ?_
      exact r_z dX2_touch_36 rfl (by first | exact Or.inl rfl | exact Or.inr rfl | omega) ⟨by unfold gTouch; split <;> omega, rfl⟩
    · refine e_iload_n (q := 25) (i := 3) dX2_touch_24 rfl rfl rfl ?_
      refine e_iload (q := 27) dX2_touch_25 rfl rfl ?_
      refine e_iadd (q := 28) dX2_touch_27 rfl ?_
      refine e_if_le (q := 31) (tgt := 35) dX2_touch_28 rfl (by decide) (fun c28 => ?_) (fun c28 => ?_)
      · refine e_iconst (q := 36) dX2_touch_35 rfl ?_
        exact r_z dX2_touch_36 rfl (by first | exact Or.inl rfl | exact Or.inr rfl | omega) ⟨by unfold gTouch; split <;> omega, rfl⟩
      · refine e_iconst (q := 32) dX2_touch_31 rfl ?_
        refine e_goto (tgt := 36) dX2_touch_32 (by decide) ?_
        exact r_z dX2_touch_36 rfl (by first | exact Or.inl rfl | exact Or.inr rfl | omega) ⟨by unfold gTouch; split <;> omega, rfl⟩

