theorem c_X11_isParish {G : Gx} {σ : Sg} {p : Int} (hT : TI σ) (hp : R32 p) : Con G 1 mX11_isParish [.ref (G.2.2.2 + 0), .int (iZ p)] σ (pI (pE σ (if (0 ≤ p ∧ p < σ.1 2 2) then 1 else 0))) := by
  obtain ⟨hzz, -, hnp, hnc, hnb, hlb, hrn, hsd, hrw, hrq, hch, hbt, hck⟩ := id hT
  refine e_entry om_X11_isParish (Nat.le_of_ble_eq_true rfl) (L := [some (.ref (G.2.2.2 + 0)), some (.int (iZ p))]) rfl ?_
  refine e_iload_n (q := 1) (i := 1) dX11_isParish_0 rfl rfl rfl ?_
  refine e_if_lt (q := 4) (tgt := 19) dX11_isParish_1 rfl (by decide) (fun c1 => ?_) (fun c1 => ?_)
  · refine e_iconst (q := 20) dX11_isParish_19 rfl ?_
    exact r_z dX11_isParish_20 rfl (by first | exact Or.inl rfl | exact Or.inr rfl | omega) ⟨by split <;> omega, rfl⟩
  · refine e_iload_n (q := 5) (i := 1) dX11_isParish_4 rfl rfl rfl ?_
    refine e_aload_n (q := 6) (i := 0) dX11_isParish_5 rfl rfl rfl ?_
    refine e_getR (q := 9) dX11_isParish_6 rfl fg_X11_18 (by first | assumption | rfl) rfl ?_
    refine e_getI (q := 12) (jz := 2) dX11_isParish_9 rfl fg_X11_351 rfl (by first | assumption | rfl) rfl ?_
    refine e_icmp_ge (q := 15) (tgt := 19) dX11_isParish_12 rfl (by decide) (fun c12 => ?_) (fun c12 => ?_)
    · refine e_iconst (q := 20) dX11_isParish_19 rfl ?_
      exact r_z dX11_isParish_20 rfl (by first | exact Or.inl rfl | exact Or.inr rfl | omega) ⟨by split <;> omega, rfl⟩
    · refine e_iconst (q := 16) dX11_isParish_15 rfl ?_
      refine e_goto (tgt := 20) dX11_isParish_16 (by decide) ?_
      exact r_z dX11_isParish_20 rfl (by first | exact Or.inl rfl | exact Or.inr rfl | omega) ⟨by split <;> omega, rfl⟩

theorem c_X11_isChild {G : Gx} {σ : Sg} {p : Int} (hT : TI σ) (hp : R32 p) : Con G 1 mX11_isChild [.ref (G.2.2.2 + 0), .int (iZ p)] σ (pI (pE σ (if (0 ≤ p ∧ p < σ.1 2 3) then 1 else 0))) := by
  obtain ⟨hzz, -, hnp, hnc, hnb, hlb, hrn, hsd, hrw, hrq, hch, hbt, hck⟩ := id hT
  refine e_entry om_X11_isChild (Nat.le_of_ble_eq_true rfl) (L := [some (.ref (G.2.2.2 + 0)), some (.int (iZ p))]) rfl ?_
  refine e_iload_n (q := 1) (i := 1) dX11_isChild_0 rfl rfl rfl ?_
  refine e_if_lt (q := 4) (tgt := 19) dX11_isChild_1 rfl (by decide) (fun c1 => ?_) (fun c1 => ?_)
  · refine e_iconst (q := 20) dX11_isChild_19 rfl ?_
    exact r_z dX11_isChild_20 rfl (by first | exact Or.inl rfl | exact Or.inr rfl | omega) ⟨by split <;> omega, rfl⟩
  · refine e_iload_n (q := 5) (i := 1) dX11_isChild_4 rfl rfl rfl ?_
    refine e_aload_n (q := 6) (i := 0) dX11_isChild_5 rfl rfl rfl ?_
    refine e_getR (q := 9) dX11_isChild_6 rfl fg_X11_18 (by first | assumption | rfl) rfl ?_
    refine e_getI (q := 12) (jz := 3) dX11_isChild_9 rfl fg_X11_354 rfl (by first | assumption | rfl) rfl ?_
    refine e_icmp_ge (q := 15) (tgt := 19) dX11_isChild_12 rfl (by decide) (fun c12 => ?_) (fun c12 => ?_)
    · refine e_iconst (q := 20) dX11_isChild_19 rfl ?_
      exact r_z dX11_isChild_20 rfl (by first | exact Or.inl rfl | exact Or.inr rfl | omega) ⟨by split <;> omega, rfl⟩
    · refine e_iconst (q := 16) dX11_isChild_15 rfl ?_
      refine e_goto (tgt := 20) dX11_isChild_16 (by decide) ?_
      exact r_z dX11_isChild_20 rfl (by first | exact Or.inl rfl | exact Or.inr rfl | omega) ⟨by split <;> omega, rfl⟩

theorem c_X11_isWay {G : Gx} {σ : Sg} {p : Int} (hp : R32 p) : Con G 1 mX11_isWay [.int (iZ p)] σ (pI (pE σ (if (0 ≤ p ∧ p < 4) then 1 else 0))) := by
  refine e_entry om_X11_isWay (Nat.le_of_ble_eq_true rfl) (L := [some (.int (iZ p))]) rfl ?_
  refine e_iload_n (q := 1) (i := 0) dX11_isWay_0 rfl rfl rfl ?_
  refine e_if_lt (q := 4) (tgt := 13) dX11_isWay_1 rfl (by decide) (fun c1 => ?_) (fun c1 => ?_)
  · refine e_iconst (q := 14) dX11_isWay_13 rfl ?_
    exact r_z dX11_isWay_14 rfl (by first | exact Or.inl rfl | exact Or.inr rfl | omega) ⟨by split <;> omega, rfl⟩
  · refine e_iload_n (q := 5) (i := 0) dX11_isWay_4 rfl rfl rfl ?_
    refine e_iconst (q := 6) dX11_isWay_5 rfl ?_
    refine e_icmp_ge (q := 9) (tgt := 13) dX11_isWay_6 rfl (by decide) (fun c6 => ?_) (fun c6 => ?_)
    · refine e_iconst (q := 14) dX11_isWay_13 rfl ?_
      exact r_z dX11_isWay_14 rfl (by first | exact Or.inl rfl | exact Or.inr rfl | omega) ⟨by split <;> omega, rfl⟩
    · refine e_iconst (q := 10) dX11_isWay_9 rfl ?_
      refine e_goto (tgt := 14) dX11_isWay_10 (by decide) ?_
      exact r_z dX11_isWay_14 rfl (by first | exact Or.inl rfl | exact Or.inr rfl | omega) ⟨by split <;> omega, rfl⟩

theorem c_X11_isCell {G : Gx} {σ : Sg} {r c : Int} (hT : TI σ) (hr : R32 r) (hc : R32 c) : Con G 1 mX11_isCell [.ref (G.2.2.2 + 0), .int (iZ r), .int (iZ c)] σ (pI (pE σ (if (0 ≤ r ∧ r < σ.1 2 0 ∧ 0 ≤ c ∧ c < σ.1 2 0) then 1 else 0))) := by
  obtain ⟨hzz, -, hnp, hnc, hnb, hlb, hrn, hsd, hrw, hrq, hch, hbt, hck⟩ := id hT
  refine e_entry om_X11_isCell (Nat.le_of_ble_eq_true rfl) (L := [some (.ref (G.2.2.2 + 0)), some (.int (iZ r)), some (.int (iZ c))]) rfl ?_
  refine e_iload_n (q := 1) (i := 1) dX11_isCell_0 rfl rfl rfl ?_
  refine e_if_lt (q := 4) (tgt := 34) dX11_isCell_1 rfl (by decide) (fun c1 => ?_) (fun c1 => ?_)
  · refine e_iconst (q := 35) dX11_isCell_34 rfl ?_
    exact r_z dX11_isCell_35 rfl (by first | exact Or.inl rfl | exact Or.inr rfl | omega) ⟨by split <;> omega, rfl⟩
  · refine e_iload_n (q := 5) (i := 1) dX11_isCell_4 rfl rfl rfl ?_
    refine e_aload_n (q := 6) (i := 0) dX11_isCell_5 rfl rfl rfl ?_
    refine e_getR (q := 9) dX11_isCell_6 rfl fg_X11_18 (by first | assumption | rfl) rfl ?_
    refine e_getI (q := 12) (jz := 0) dX11_isCell_9 rfl fg_X11_360 rfl (by first | assumption | rfl) rfl ?_
    refine e_icmp_ge (q := 15) (tgt := 34) dX11_isCell_12 rfl (by decide) (fun c12 => ?_) (fun c12 => ?_)
    · refine e_iconst (q := 35) dX11_isCell_34 rfl ?_
      exact r_z dX11_isCell_35 rfl (by first | exact Or.inl rfl | exact Or.inr rfl | omega) ⟨by split <;> omega, rfl⟩
    · refine e_iload_n (q := 16) (i := 2) dX11_isCell_15 rfl rfl rfl ?_
      refine e_if_lt (q := 19) (tgt := 34) dX11_isCell_16 rfl (by decide) (fun c16 => ?_) (fun c16 => ?_)
      · refine e_iconst (q := 35) dX11_isCell_34 rfl ?_
        exact r_z dX11_isCell_35 rfl (by first | exact Or.inl rfl | exact Or.inr rfl | omega) ⟨by split <;> omega, rfl⟩
      · refine e_iload_n (q := 20) (i := 2) dX11_isCell_19 rfl rfl rfl ?_
        refine e_aload_n (q := 21) (i := 0) dX11_isCell_20 rfl rfl rfl ?_
        refine e_getR (q := 24) dX11_isCell_21 rfl fg_X11_18 (by first | assumption | rfl) rfl ?_
        refine e_getI (q := 27) (jz := 0) dX11_isCell_24 rfl fg_X11_360 rfl (by first | assumption | rfl) rfl ?_
        refine e_icmp_ge (q := 30) (tgt := 34) dX11_isCell_27 rfl (by decide) (fun c27 => ?_) (fun c27 => ?_)
        · refine e_iconst (q := 35) dX11_isCell_34 rfl ?_
          exact r_z dX11_isCell_35 rfl (by first | exact Or.inl rfl | exact Or.inr rfl | omega) ⟨by split <;> omega, rfl⟩
        · refine e_iconst (q := 31) dX11_isCell_30 rfl ?_
          refine e_goto (tgt := 35) dX11_isCell_31 (by decide) ?_
          exact r_z dX11_isCell_35 rfl (by first | exact Or.inl rfl | exact Or.inr rfl | omega) ⟨by split <;> omega, rfl⟩

theorem c_X11_isPair {G : Gx} {σ : Sg} {a b : Int} (hT : TI σ) (ha : R32 a) (hb : R32 b) : Con G 2 mX11_isPair [.ref (G.2.2.2 + 0), .int (iZ a), .int (iZ b)] σ (pI (pE σ (if ((0 ≤ a ∧ a < σ.1 2 2) ∧ (0 ≤ b ∧ b < σ.1 2 2) ∧ a ≠ b) then 1 else 0))) := by
  obtain ⟨hzz, -, hnp, hnc, hnb, hlb, hrn, hsd, hrw, hrq, hch, hbt, hck⟩ := id hT
  refine e_entry om_X11_isPair (Nat.le_of_ble_eq_true rfl) (L := [some (.ref (G.2.2.2 + 0)), some (.int (iZ a)), some (.int (iZ b))]) rfl ?_
  refine e_aload_n (q := 1) (i := 0) dX11_isPair_0 rfl rfl rfl ?_
  refine e_iload_n (q := 2) (i := 1) dX11_isPair_1 rfl rfl rfl ?_
  refine e_Vip (q := 5) (vs := [_]) ok_X11_isParish ml_X11_136 dX11_isPair_2 rfl ⟨_, _, rfl⟩ (by first | assumption | rfl) rfl rfl (Nat.le_of_ble_eq_true rfl) (by decide) (c_X11_isParish hT (by assumption)) ?_
  refine e_if_eq (q := 8) (tgt := 25) dX11_isPair_5 rfl (by decide) (fun c5 => ?_) (fun c5 => ?_)
  · refine e_iconst (q := 26) dX11_isPair_25 rfl ?_
    exact r_z dX11_isPair_26 rfl (by first | exact Or.inl rfl | exact Or.inr rfl | omega) ⟨by split <;> omega, rfl⟩
  · refine e_aload_n (q := 9) (i := 0) dX11_isPair_8 rfl rfl rfl ?_
    refine e_iload_n (q := 10) (i := 2) dX11_isPair_9 rfl rfl rfl ?_
    refine e_Vip (q := 13) (vs := [_]) ok_X11_isParish ml_X11_136 dX11_isPair_10 rfl ⟨_, _, rfl⟩ (by first | assumption | rfl) rfl rfl (Nat.le_of_ble_eq_true rfl) (by decide) (c_X11_isParish hT (by assumption)) ?_
    refine e_if_eq (q := 16) (tgt := 25) dX11_isPair_13 rfl (by decide) (fun c13 => ?_) (fun c13 => ?_)
    · refine e_iconst (q := 26) dX11_isPair_25 rfl ?_
      exact r_z dX11_isPair_26 rfl (by first | exact Or.inl rfl | exact Or.inr rfl | omega) ⟨by split <;> omega, rfl⟩
    · refine e_iload_n (q := 17) (i := 1) dX11_isPair_16 rfl rfl rfl ?_
      refine e_iload_n (q := 18) (i := 2) dX11_isPair_17 rfl rfl rfl ?_
      refine e_icmp_eq (q := 21) (tgt := 25) dX11_isPair_18 rfl (by decide) (fun c18 => ?_) (fun c18 => ?_)
      · refine e_iconst (q := 26) dX11_isPair_25 rfl ?_
        exact r_z dX11_isPair_26 rfl (by first | exact Or.inl rfl | exact Or.inr rfl | omega) ⟨by split <;> omega, rfl⟩
      · refine e_iconst (q := 22) dX11_isPair_21 rfl ?_
        refine e_goto (tgt := 26) dX11_isPair_22 (by decide) ?_
        exact r_z dX11_isPair_26 rfl (by first | exact Or.inl rfl | exact Or.inr rfl | omega) ⟨by split <;> omega, rfl⟩

theorem c_X11_fault {G : Gx} {σ : Sg} {x : Int} (hx : R32 x) : Con G 1 mX11_fault [.ref (G.2.2.2 + 0), .int (iZ x)] σ (pI (pE σ (if x = 0 then σ.1 19 7 else if x = 1 then σ.1 19 8 else -1))) := by
  refine e_entry om_X11_fault (Nat.le_of_ble_eq_true rfl) (L := [some (.ref (G.2.2.2 + 0)), some (.int (iZ x))]) rfl ?_
  refine e_iload_n (q := 1) (i := 1) dX11_fault_0 rfl rfl rfl ?_
  refine e_if_ne (q := 4) (tgt := 15) dX11_fault_1 rfl (by decide) (fun c1 => ?_) (fun c1 => ?_)
  · refine e_iload_n (q := 16) (i := 1) dX11_fault_15 rfl rfl rfl ?_
    refine e_iconst (q := 17) dX11_fault_16 rfl ?_
    refine e_icmp_ne (q := 20) (tgt := 33) dX11_fault_17 rfl (by decide) (fun c17 => ?_) (fun c17 => ?_)
    · refine e_iconst (q := 34) dX11_fault_33 rfl ?_
      exact r_i dX11_fault_34 rfl ⟨by first | (rw [if_pos (by omega)]; done) | (rw [if_neg (by omega), if_pos (by omega)]; done) | (rw [if_neg (by omega), if_neg (by omega)]; done), rfl⟩
    · refine e_aload_n (q := 21) (i := 0) dX11_fault_20 rfl rfl rfl ?_
      refine e_getR (q := 24) dX11_fault_21 rfl fg_X11_27 (by first | assumption | rfl) rfl ?_
      refine e_getR (q := 27) dX11_fault_24 rfl fg_X11_117 (by first | assumption | rfl) rfl ?_
      refine e_getI (q := 30) (jz := 8) dX11_fault_27 rfl fg_X11_126 rfl (by first | assumption | rfl) rfl ?_
      refine e_goto (tgt := 34) dX11_fault_30 (by decide) ?_
      exact r_i dX11_fault_34 rfl ⟨by first | (rw [if_pos (by omega)]; done) | (rw [if_neg (by omega), if_pos (by omega)]; done) | (rw [if_neg (by omega), if_neg (by omega)]; done), rfl⟩
  · refine e_aload_n (q := 5) (i := 0) dX11_fault_4 rfl rfl rfl ?_
    refine e_getR (q := 8) dX11_fault_5 rfl fg_X11_27 (by first | assumption | rfl) rfl ?_
    refine e_getR (q := 11) dX11_fault_8 rfl fg_X11_117 (by first | assumption | rfl) rfl ?_
    refine e_getI (q := 14) (jz := 7) dX11_fault_11 rfl fg_X11_121 rfl (by first | assumption | rfl) rfl ?_
    exact r_i dX11_fault_14 rfl ⟨by first | (rw [if_pos (by omega)]; done) | (rw [if_neg (by omega), if_pos (by omega)]; done) | (rw [if_neg (by omega), if_neg (by omega)]; done), rfl⟩

theorem c_X11_named {G : Gx} {σ : Sg} {x l : Int} (hT : TI σ) (hx : R32 x) (hl : R32 l) : Con G 3 mX11_named [.ref (G.2.2.2 + 0), .int (iZ x), .int (iZ l)] σ (pI (pE σ (if x = 0 then fd (σ.1 5) l (σ.1 2 2) else if x = 1 then fd (σ.1 8) l (σ.1 2 3) else -1))) := by
  obtain ⟨hzz, -, hnp, hnc, hnb, hlb, hrn, hsd, hrw, hrq, hch, hbt, hck⟩ := id hT
  refine e_entry om_X11_named (Nat.le_of_ble_eq_true rfl) (L := [some (.ref (G.2.2.2 + 0)), some (.int (iZ x)), some (.int (iZ l))]) rfl ?_
  refine e_iload_n (q := 1) (i := 1) dX11_named_0 rfl rfl rfl ?_
  refine e_if_ne (q := 4) (tgt := 13) dX11_named_1 rfl (by decide) (fun c1 => ?_) (fun c1 => ?_)
  · refine e_iload_n (q := 14) (i := 1) dX11_named_13 rfl rfl rfl ?_
    refine e_iconst (q := 15) dX11_named_14 rfl ?_
    refine e_icmp_ne (q := 18) (tgt := 29) dX11_named_15 rfl (by decide) (fun c15 => ?_) (fun c15 => ?_)
    · refine e_iconst (q := 30) dX11_named_29 rfl ?_
      exact r_i dX11_named_30 rfl ⟨by first | (rw [if_pos (by omega)]; done) | (rw [if_neg (by omega), if_pos (by omega)]; done) | (rw [if_neg (by omega), if_neg (by omega)]; done), rfl⟩
    · refine e_aload_n (q := 19) (i := 0) dX11_named_18 rfl rfl rfl ?_
      refine e_getR (q := 22) dX11_named_19 rfl fg_X11_18 (by first | assumption | rfl) rfl ?_
      refine e_iload_n (q := 23) (i := 2) dX11_named_22 rfl rfl rfl ?_
      refine e_Vip (q := 26) (vs := [_]) ok_X9_childNamed ml_X11_133 dX11_named_23 rfl ⟨_, _, rfl⟩ (by first | assumption | rfl) rfl rfl (Nat.le_of_ble_eq_true rfl) (by decide) (c_X9_childNamed (Or.inl rfl) hnc.1 hnc.2 (fun i a b => (hch i a (by omega)).2.2.2.2) hl) ?_
      refine e_goto (tgt := 30) dX11_named_26 (by decide) ?_
      exact r_i dX11_named_30 rfl ⟨by first | (rw [if_pos (by omega)]; done) | (rw [if_neg (by omega), if_pos (by omega)]; done) | (rw [if_neg (by omega), if_neg (by omega)]; done), rfl⟩
  · refine e_aload_n (q := 5) (i := 0) dX11_named_4 rfl rfl rfl ?_
    refine e_getR (q := 8) dX11_named_5 rfl fg_X11_18 (by first | assumption | rfl) rfl ?_
    refine e_iload_n (q := 9) (i := 2) dX11_named_8 rfl rfl rfl ?_
    refine e_Vip (q := 12) (vs := [_]) ok_X9_parishNamed ml_X11_129 dX11_named_9 rfl ⟨_, _, rfl⟩ (by first | assumption | rfl) rfl rfl (Nat.le_of_ble_eq_true rfl) (by decide) (c_X9_parishNamed (Or.inl rfl) hnp.1 hnp.2 (fun i a b => (hrw i a (by omega)).2.2.2.2) hl) ?_
    exact r_i dX11_named_12 rfl ⟨by first | (rw [if_pos (by omega)]; done) | (rw [if_neg (by omega), if_pos (by omega)]; done) | (rw [if_neg (by omega), if_neg (by omega)]; done), rfl⟩

theorem c_X11_child {G : Gx} {σ : Sg} {c x : Int} (hT : TI σ) (hc : R32 c) (hx : R32 x) : Con G 2 mX11_child [.ref (G.2.2.2 + 0), .int (iZ c), .int (iZ x)] σ (pI (pE σ (if (0 ≤ c ∧ c < σ.1 2 3) then (if x = 0 then σ.1 42 c else if x = 1 then σ.1 7 c else if x = 2 then σ.1 43 c else -1) else -1))) := by
  obtain ⟨hzz, -, hnp, hnc, hnb, hlb, hrn, hsd, hrw, hrq, hch, hbt, hck⟩ := id hT
  refine e_entry om_X11_child (Nat.le_of_ble_eq_true rfl) (L := [some (.ref (G.2.2.2 + 0)), some (.int (iZ c)), some (.int (iZ x))]) rfl ?_
  refine e_aload_n (q := 1) (i := 0) dX11_child_0 rfl rfl rfl ?_
  refine e_iload_n (q := 2) (i := 1) dX11_child_1 rfl rfl rfl ?_
  refine e_Vip (q := 5) (vs := [_]) ok_X11_isChild ml_X11_167 dX11_child_2 rfl ⟨_, _, rfl⟩ (by first | assumption | rfl) rfl rfl (Nat.le_of_ble_eq_true rfl) (by decide) (c_X11_isChild hT (by assumption)) ?_
  refine e_if_ne (q := 8) (tgt := 10) dX11_child_5 rfl (by decide) (fun c5 => ?_) (fun c5 => ?_)
  · refine e_iload_n (q := 11) (i := 2) dX11_child_10 rfl rfl rfl ?_
    by_cases k11_0 : x = 0
    · refine e_tabIn (tgt := 36) dX11_child_11 hx (by omega) (by omega) (by rw [k11_0]; rfl) (by decide) ?_
      refine e_aload_n (q := 37) (i := 0) dX11_child_36 rfl rfl rfl ?_
      refine e_getR (q := 40) dX11_child_37 rfl fg_X11_36 (by first | assumption | rfl) rfl ?_
      refine e_getR (q := 43) dX11_child_40 rfl fg_X11_170 (by first | assumption | rfl) rfl ?_
      refine e_iload_n (q := 44) (i := 1) dX11_child_43 rfl rfl rfl ?_
      refine e_iald (q := 45) dX11_child_44 rfl (by first | assumption | rfl) ?_
      exact r_i dX11_child_45 rfl ⟨by rw [if_pos (show (0 ≤ c ∧ c < σ.1 2 3) by omega), if_pos k11_0], rfl⟩
    by_cases k11_1 : x = 1
    · refine e_tabIn (tgt := 46) dX11_child_11 hx (by omega) (by omega) (by rw [k11_1]; rfl) (by decide) ?_
      refine e_aload_n (q := 47) (i := 0) dX11_child_46 rfl rfl rfl ?_
      refine e_getR (q := 50) dX11_child_47 rfl fg_X11_18 (by first | assumption | rfl) rfl ?_
      refine e_getR (q := 53) dX11_child_50 rfl fg_X11_173 (by first | assumption | rfl) rfl ?_
      refine e_iload_n (q := 54) (i := 1) dX11_child_53 rfl rfl rfl ?_
      refine e_iald (q := 55) dX11_child_54 rfl (by first | assumption | rfl) ?_
      exact r_i dX11_child_55 rfl ⟨by rw [if_pos (show (0 ≤ c ∧ c < σ.1 2 3) by omega), if_neg k11_0, if_pos k11_1], rfl⟩
    by_cases k11_2 : x = 2
    · refine e_tabIn (tgt := 56) dX11_child_11 hx (by omega) (by omega) (by rw [k11_2]; rfl) (by decide) ?_
      refine e_aload_n (q := 57) (i := 0) dX11_child_56 rfl rfl rfl ?_
      refine e_getR (q := 60) dX11_child_57 rfl fg_X11_36 (by first | assumption | rfl) rfl ?_
      refine e_getR (q := 63) dX11_child_60 rfl fg_X11_176 (by first | assumption | rfl) rfl ?_
      refine e_iload_n (q := 64) (i := 1) dX11_child_63 rfl rfl rfl ?_
      refine e_iald (q := 65) dX11_child_64 rfl (by first | assumption | rfl) ?_
      exact r_i dX11_child_65 rfl ⟨by rw [if_pos (show (0 ≤ c ∧ c < σ.1 2 3) by omega), if_neg k11_0, if_neg k11_1, if_pos k11_2], rfl⟩
    refine e_tabOut (tgt := 66) dX11_child_11 hx (by omega) (by decide) ?_
    refine e_iconst (q := 67) dX11_child_66 rfl ?_
    exact r_i dX11_child_67 rfl ⟨by rw [if_pos (show (0 ≤ c ∧ c < σ.1 2 3) by omega), if_neg k11_0, if_neg k11_1, if_neg k11_2], rfl⟩
  · refine e_iconst (q := 9) dX11_child_8 rfl ?_
    exact r_i dX11_child_9 rfl ⟨by rw [if_neg (by omega)], rfl⟩

theorem c_X11_cake {G : Gx} {σ : Sg} {p x : Int} (hT : TI σ) (hp : R32 p) (hx : R32 x) : Con G 2 mX11_cake [.ref (G.2.2.2 + 0), .int (iZ p), .int (iZ x)] σ (pI (pE σ (if (0 ≤ p ∧ p < σ.1 2 2) ∧ (0 ≤ x ∧ x < 4) then σ.1 41 (4 * p + x) else -1))) := by
  obtain ⟨hzz, -, hnp, hnc, hnb, hlb, hrn, hsd, hrw, hrq, hch, hbt, hck⟩ := id hT
  refine e_entry om_X11_cake (Nat.le_of_ble_eq_true rfl) (L := [some (.ref (G.2.2.2 + 0)), some (.int (iZ p)), some (.int (iZ x))]) rfl ?_
  refine e_aload_n (q := 1) (i := 0) dX11_cake_0 rfl rfl rfl ?_
  refine e_iload_n (q := 2) (i := 1) dX11_cake_1 rfl rfl rfl ?_
  refine e_Vip (q := 5) (vs := [_]) ok_X11_isParish ml_X11_136 dX11_cake_2 rfl ⟨_, _, rfl⟩ (by first | assumption | rfl) rfl rfl (Nat.le_of_ble_eq_true rfl) (by decide) (c_X11_isParish hT (by assumption)) ?_
  refine e_if_eq (q := 8) (tgt := 31) dX11_cake_5 rfl (by decide) (fun c5 => ?_) (fun c5 => ?_)
  · refine e_iconst (q := 32) dX11_cake_31 rfl ?_
    exact r_i dX11_cake_32 rfl ⟨by first | (rw [if_pos (by omega)]; done) | (rw [if_neg (by omega)]; done), rfl⟩
  · refine e_iload_n (q := 9) (i := 2) dX11_cake_8 rfl rfl rfl ?_
    refine e_Sip (q := 12) (vs := [_]) ok_X11_isWay ml_X11_179 dX11_cake_9 rfl rfl rfl (Nat.le_of_ble_eq_true rfl) (by decide) (c_X11_isWay (by assumption)) ?_
    refine e_if_eq (q := 15) (tgt := 31) dX11_cake_12 rfl (by decide) (fun c12 => ?_) (fun c12 => ?_)
    · refine e_iconst (q := 32) dX11_cake_31 rfl ?_
      exact r_i dX11_cake_32 rfl ⟨by first | (rw [if_pos (by omega)]; done) | (rw [if_neg (by omega)]; done), rfl⟩
    · refine e_aload_n (q := 16) (i := 0) dX11_cake_15 rfl rfl rfl ?_
      refine e_getR (q := 19) dX11_cake_16 rfl fg_X11_36 (by first | assumption | rfl) rfl ?_
      refine e_getR (q := 22) dX11_cake_19 rfl fg_X11_182 (by first | assumption | rfl) rfl ?_
      refine e_iconst (q := 23) dX11_cake_22 rfl ?_
      refine e_iload_n (q := 24) (i := 1) dX11_cake_23 rfl rfl rfl ?_
      refine e_imul (q := 25) dX11_cake_24 rfl ?_
      refine e_iload_n (q := 26) (i := 2) dX11_cake_25 rfl rfl rfl ?_
      refine e_iadd (q := 27) dX11_cake_26 rfl ?_
      refine e_iald (q := 28) dX11_cake_27 rfl (by first | assumption | rfl) ?_
      refine e_goto (tgt := 32) dX11_cake_28 (by decide) ?_
      exact r_i dX11_cake_32 rfl ⟨by first | (rw [if_pos (by omega)]; done) | (rw [if_neg (by omega)]; done), rfl⟩

theorem c_X11_owners {G : Gx} {σ : Sg} {r c : Int} (hT : TI σ) (hI : LI σ 39) (hr : R32 r) (hc : R32 c) : Con G 4 mX11_owners [.ref (G.2.2.2 + 0), .int (iZ r), .int (iZ c)] σ (pI (pE σ (if (0 ≤ r ∧ r < σ.1 2 0 ∧ 0 ≤ c ∧ c < σ.1 2 0) then zb (fun p => gHold (σ.1 3) (σ.1 4) (σ.1 40) p r c) (σ.1 2 2) else -1))) := by
  obtain ⟨hzz, -, hnp, hnc, hnb, hlb, hrn, hsd, hrw, hrq, hch, hbt, hck⟩ := id hT
  have hL : isLand 39 := Or.inl rfl
  refine e_entry om_X11_owners (Nat.le_of_ble_eq_true rfl) (L := [some (.ref (G.2.2.2 + 0)), some (.int (iZ r)), some (.int (iZ c))]) rfl ?_
  refine e_aload_n (q := 1) (i := 0) dX11_owners_0 rfl rfl rfl ?_
  refine e_iload_n (q := 2) (i := 1) dX11_owners_1 rfl rfl rfl ?_
  refine e_iload_n (q := 3) (i := 2) dX11_owners_2 rfl rfl rfl ?_
  refine e_Vip (q := 6) (vs := [_, _]) ok_X11_isCell ml_X11_185 dX11_owners_3 rfl ⟨_, _, rfl⟩ (by first | assumption | rfl) rfl rfl (Nat.le_of_ble_eq_true rfl) (by decide) (c_X11_isCell hT (by assumption) (by assumption)) ?_
  refine e_if_eq (q := 9) (tgt := 21) dX11_owners_6 rfl (by decide) (fun c6 => ?_) (fun c6 => ?_)
  · refine e_iconst (q := 22) dX11_owners_21 rfl ?_
    exact r_i dX11_owners_22 rfl ⟨by first | (rw [if_pos (by omega)]; done) | (rw [if_neg (by omega)]; done), rfl⟩
  · refine e_aload_n (q := 10) (i := 0) dX11_owners_9 rfl rfl rfl ?_
    refine e_getR (q := 13) dX11_owners_10 rfl fg_X11_36 (by first | assumption | rfl) rfl ?_
    refine e_iload_n (q := 14) (i := 1) dX11_owners_13 rfl rfl rfl ?_
    refine e_iload_n (q := 15) (i := 2) dX11_owners_14 rfl rfl rfl ?_
    refine e_Vip (q := 18) (vs := [_, _]) ok_X2_holders ml_X11_189 dX11_owners_15 rfl ⟨_, _, rfl⟩ (by first | assumption | rfl) rfl rfl (Nat.le_of_ble_eq_true rfl) (by decide) (c39_holders hT hI hr hc) ?_
    refine e_goto (tgt := 22) dX11_owners_18 (by decide) ?_
    exact r_i dX11_owners_22 rfl ⟨by first | (rw [if_pos (by omega)]; done) | (rw [if_neg (by omega)]; done), rfl⟩

theorem c_X11_overlap {G : Gx} {σ : Sg} {a b : Int} (hT : TI σ) (hI : LI σ 39) (ha : R32 a) (hb : R32 b) : Con G 4 mX11_overlap [.ref (G.2.2.2 + 0), .int (iZ a), .int (iZ b)] σ (pI (pE σ (if ((0 ≤ a ∧ a < σ.1 2 2) ∧ (0 ≤ b ∧ b < σ.1 2 2) ∧ a ≠ b) then gOv (σ.1 3) (σ.1 4) (σ.1 40) a b else -1))) := by
  obtain ⟨hzz, -, hnp, hnc, hnb, hlb, hrn, hsd, hrw, hrq, hch, hbt, hck⟩ := id hT
  have hL : isLand 39 := Or.inl rfl
  refine e_entry om_X11_overlap (Nat.le_of_ble_eq_true rfl) (L := [some (.ref (G.2.2.2 + 0)), some (.int (iZ a)), some (.int (iZ b))]) rfl ?_
  refine e_aload_n (q := 1) (i := 0) dX11_overlap_0 rfl rfl rfl ?_
  refine e_iload_n (q := 2) (i := 1) dX11_overlap_1 rfl rfl rfl ?_
  refine e_iload_n (q := 3) (i := 2) dX11_overlap_2 rfl rfl rfl ?_
  refine e_Vip (q := 6) (vs := [_, _]) ok_X11_isPair ml_X11_193 dX11_overlap_3 rfl ⟨_, _, rfl⟩ (by first | assumption | rfl) rfl rfl (Nat.le_of_ble_eq_true rfl) (by decide) (c_X11_isPair hT (by assumption) (by assumption)) ?_
  refine e_if_eq (q := 9) (tgt := 21) dX11_overlap_6 rfl (by decide) (fun c6 => ?_) (fun c6 => ?_)
  · refine e_iconst (q := 22) dX11_overlap_21 rfl ?_
    exact r_i dX11_overlap_22 rfl ⟨by first | (rw [if_pos (by omega)]; done) | (rw [if_neg (by omega)]; done), rfl⟩
  · refine e_aload_n (q := 10) (i := 0) dX11_overlap_9 rfl rfl rfl ?_
    refine e_getR (q := 13) dX11_overlap_10 rfl fg_X11_36 (by first | assumption | rfl) rfl ?_
    refine e_iload_n (q := 14) (i := 1) dX11_overlap_13 rfl rfl rfl ?_
    refine e_iload_n (q := 15) (i := 2) dX11_overlap_14 rfl rfl rfl ?_
    refine e_Vip (q := 18) (vs := [_, _]) ok_X2_shared ml_X11_196 dX11_overlap_15 rfl ⟨_, _, rfl⟩ (by first | assumption | rfl) rfl rfl (Nat.le_of_ble_eq_true rfl) (by decide) (c39_shared hT hI (by omega) (by omega) (by omega) (by omega)) ?_
    refine e_goto (tgt := 22) dX11_overlap_18 (by decide) ?_
    exact r_i dX11_overlap_22 rfl ⟨by first | (rw [if_pos (by omega)]; done) | (rw [if_neg (by omega)]; done), rfl⟩

theorem c_X11_taken {G : Gx} {σ : Sg} (hT : TI σ) (hI : LI σ 39) : Con G 5 mX11_taken [.ref (G.2.2.2 + 0)] σ (pI (pE σ (gCells (σ.1 3) (σ.1 4) (σ.1 40) (σ.1 2 2) (σ.1 2 0) 1))) := by
  have hL : isLand 39 := Or.inl rfl
  refine e_entry om_X11_taken (Nat.le_of_ble_eq_true rfl) (L := [some (.ref (G.2.2.2 + 0))]) rfl ?_
  refine e_aload_n (q := 1) (i := 0) dX11_taken_0 rfl rfl rfl ?_
  refine e_getR (q := 4) dX11_taken_1 rfl fg_X11_36 (by first | assumption | rfl) rfl ?_
  refine e_iconst (q := 5) dX11_taken_4 rfl ?_
  refine e_Vip (q := 8) (vs := [_]) ok_X2_cellsOfAtLeast ml_X11_199 dX11_taken_5 rfl ⟨_, _, rfl⟩ (by first | assumption | rfl) rfl rfl (Nat.le_of_ble_eq_true rfl) (by decide) (c39_cellsOfAtLeast hT hI ⟨by decide, by decide⟩) ?_
  exact r_i dX11_taken_8 rfl ⟨rfl, rfl⟩

theorem c_X11_disputed {G : Gx} {σ : Sg} (hT : TI σ) (hI : LI σ 39) : Con G 5 mX11_disputed [.ref (G.2.2.2 + 0)] σ (pI (pE σ (gCells (σ.1 3) (σ.1 4) (σ.1 40) (σ.1 2 2) (σ.1 2 0) 2))) := by
  have hL : isLand 39 := Or.inl rfl
  refine e_entry om_X11_disputed (Nat.le_of_ble_eq_true rfl) (L := [some (.ref (G.2.2.2 + 0))]) rfl ?_
  refine e_aload_n (q := 1) (i := 0) dX11_disputed_0 rfl rfl rfl ?_
  refine e_getR (q := 4) dX11_disputed_1 rfl fg_X11_36 (by first | assumption | rfl) rfl ?_
  refine e_iconst (q := 5) dX11_disputed_4 rfl ?_
  refine e_Vip (q := 8) (vs := [_]) ok_X2_cellsOfAtLeast ml_X11_199 dX11_disputed_5 rfl ⟨_, _, rfl⟩ (by first | assumption | rfl) rfl rfl (Nat.le_of_ble_eq_true rfl) (by decide) (c39_cellsOfAtLeast hT hI ⟨by decide, by decide⟩) ?_
  exact r_i dX11_disputed_8 rfl ⟨rfl, rfl⟩

theorem c_X11_realms {G : Gx} {σ : Sg} (hT : TI σ) (hI : LI σ 39) : Con G 7 mX11_realms [.ref (G.2.2.2 + 0)] σ (pI (pE σ (gSets (σ.1 3) (σ.1 4) (σ.1 40) (σ.1 2 2)))) := by
  have hL : isLand 39 := Or.inl rfl
  refine e_entry om_X11_realms (Nat.le_of_ble_eq_true rfl) (L := [some (.ref (G.2.2.2 + 0))]) rfl ?_
  refine e_aload_n (q := 1) (i := 0) dX11_realms_0 rfl rfl rfl ?_
  refine e_getR (q := 4) dX11_realms_1 rfl fg_X11_36 (by first | assumption | rfl) rfl ?_
  refine e_Vip (q := 7) (vs := []) ok_X2_sets ml_X11_277 dX11_realms_4 rfl ⟨_, _, rfl⟩ (by first | assumption | rfl) rfl rfl (Nat.le_of_ble_eq_true rfl) (by decide) (c39_sets hT hI) ?_
  exact r_i dX11_realms_7 rfl ⟨rfl, rfl⟩

theorem c_X11_colours {G : Gx} {σ : Sg} (hT : TI σ) (hI : LI σ 39) : Con G 6 mX11_colours [.ref (G.2.2.2 + 0)] σ (pI (fun z σ' => (0 ≤ z ∧ z ≤ (σ.1 2 2) ∧ (z < (σ.1 2 2) → ∃ x, 0 ≤ x ∧ x < 2 ^ (2 * (σ.1 2 2)).toNat ∧ pOk (gTouch (σ.1 3) (σ.1 4) (σ.1 40)) x z (σ.1 2 2)) ∧ ∀ c, 0 ≤ c → c < z → ∀ x, 0 ≤ x → x < 2 ^ (2 * (σ.1 2 2)).toNat → ¬ pOk (gTouch (σ.1 3) (σ.1 4) (σ.1 40)) x c (σ.1 2 2)) ∧ σ' = σ)) := by
  have hL : isLand 39 := Or.inl rfl
  refine e_entry om_X11_colours (Nat.le_of_ble_eq_true rfl) (L := [some (.ref (G.2.2.2 + 0))]) rfl ?_
  refine e_aload_n (q := 1) (i := 0) dX11_colours_0 rfl rfl rfl ?_
  refine e_getR (q := 4) dX11_colours_1 rfl fg_X11_36 (by first | assumption | rfl) rfl ?_
  refine e_Vi (q := 7) (vs := []) ok_X2_fewestColours ml_X11_280 dX11_colours_4 rfl ⟨_, _, rfl⟩ (by first | assumption | rfl) rfl rfl (Nat.le_of_ble_eq_true rfl) (by decide) (c_X2_fewestColours hT hI hL) (fun z4 s4 h4 => ?_)
  exact r_i dX11_colours_7 rfl h4

def gSung (sh ar a b : Int) : Int := if a = 0 then (if b = 0 then -sh else sh) else (if b = 0 then -(ar / 10) else sh / 2)
def gRest (sh ar oa f s : Int) : Int := if gSung sh ar (1 - f) s ≤ gSung sh ar f s ∧ gSung sh oa (1 - s) f ≤ gSung sh oa s f then 1 else 0
theorem gSung_in {sh ar a b : Int} (h0 : 0 ≤ sh) (h1 : sh ≤ 100000) (h2 : 0 ≤ ar) (h3 : ar ≤ 100000) : -100000 ≤ gSung sh ar a b ∧ gSung sh ar a b ≤ 100000 := by
  unfold gSung
  split
  · split <;> omega
  · split <;> omega

theorem c_X11_sung {G : Gx} {σ : Sg} {sh ar a b : Int} (h0 : 0 ≤ sh) (h1 : sh ≤ 100000) (h2 : 0 ≤ ar) (h3 : ar ≤ 100000) (ha : R32 a) (hb : R32 b) : Con G 1 mX11_sung [.int (iZ sh), .int (iZ ar), .int (iZ a), .int (iZ b)] σ (pI (pE σ (gSung sh ar a b))) := by
  refine e_entry om_X11_sung (Nat.le_of_ble_eq_true rfl) (L := [some (.int (iZ sh)), some (.int (iZ ar)), some (.int (iZ a)), some (.int (iZ b))]) rfl ?_
  refine e_iload_n (q := 1) (i := 2) dX11_sung_0 rfl rfl rfl ?_
  refine e_if_ne (q := 4) (tgt := 15) dX11_sung_1 rfl (by decide) (fun c1 => ?_) (fun c1 => ?_)
  · refine e_iload_n (q := 16) (i := 3) dX11_sung_15 rfl rfl rfl ?_
    refine e_if_ne (q := 19) (tgt := 27) dX11_sung_16 rfl (by decide) (fun c16 => ?_) (fun c16 => ?_)
    · refine e_iload_n (q := 28) (i := 0) dX11_sung_27 rfl rfl rfl ?_
      refine e_iconst (q := 29) dX11_sung_28 rfl ?_
      refine e_idiv (q := 30) dX11_sung_29 rfl (by decide) (iZ_div (by omega) (by omega) (by omega) (by omega)) ?_
      exact r_i dX11_sung_30 rfl ⟨by unfold gSung; first | (rw [if_pos (by omega), if_pos (by omega)]; done) | (rw [if_pos (by omega), if_neg (by omega)]; done) | (rw [if_neg (by omega), if_pos (by omega)]; done) | (rw [if_neg (by omega), if_neg (by omega)]; done), rfl⟩
    · refine e_iload_n (q := 20) (i := 1) dX11_sung_19 rfl rfl rfl ?_
      refine e_bipush (q := 22) dX11_sung_20 rfl (by decide) ?_
      refine e_idiv (q := 23) dX11_sung_22 rfl (by decide) (iZ_div (by omega) (by omega) (by omega) (by omega)) ?_
      refine e_ineg (q := 24) dX11_sung_23 rfl ?_
      refine e_goto (tgt := 30) dX11_sung_24 (by decide) ?_
      exact r_i dX11_sung_30 rfl ⟨by unfold gSung; first | (rw [if_pos (by omega), if_pos (by omega)]; done) | (rw [if_pos (by omega), if_neg (by omega)]; done) | (rw [if_neg (by omega), if_pos (by omega)]; done) | (rw [if_neg (by omega), if_neg (by omega)]; done), rfl⟩
  · refine e_iload_n (q := 5) (i := 3) dX11_sung_4 rfl rfl rfl ?_
    refine e_if_ne (q := 8) (tgt := 13) dX11_sung_5 rfl (by decide) (fun c5 => ?_) (fun c5 => ?_)
    · refine e_iload_n (q := 14) (i := 0) dX11_sung_13 rfl rfl rfl ?_
      exact r_i dX11_sung_14 rfl ⟨by unfold gSung; first | (rw [if_pos (by omega), if_pos (by omega)]; done) | (rw [if_pos (by omega), if_neg (by omega)]; done) | (rw [if_neg (by omega), if_pos (by omega)]; done) | (rw [if_neg (by omega), if_neg (by omega)]; done), rfl⟩
    · refine e_iload_n (q := 9) (i := 0) dX11_sung_8 rfl rfl rfl ?_
      refine e_ineg (q := 10) dX11_sung_9 rfl ?_
      refine e_goto (tgt := 14) dX11_sung_10 (by decide) ?_
      exact r_i dX11_sung_14 rfl ⟨by unfold gSung; first | (rw [if_pos (by omega), if_pos (by omega)]; done) | (rw [if_pos (by omega), if_neg (by omega)]; done) | (rw [if_neg (by omega), if_pos (by omega)]; done) | (rw [if_neg (by omega), if_neg (by omega)]; done), rfl⟩

theorem gArea_in {σ : Sg} {L : Nat} {p : Int} (hT : TI σ) (hI : LI σ L) (h0 : 0 ≤ p) (h4 : p < 4) : 1 ≤ gArea (σ.1 3) (σ.1 4) (σ.1 (L + 1)) p ∧ gArea (σ.1 3) (σ.1 4) (σ.1 (L + 1)) p ≤ 40000 := by
  have a := LI_side hT hI h0 h4
  unfold gArea
  have h1 : 1 ≤ gBot (σ.1 3) (σ.1 (L + 1)) p - gTop (σ.1 3) (σ.1 (L + 1)) p + 1 := by omega
  have h2 : 1 ≤ gRgt (σ.1 4) (σ.1 (L + 1)) p - gLft (σ.1 4) (σ.1 (L + 1)) p + 1 := by omega
  have h3 := Int.mul_le_mul (show gBot (σ.1 3) (σ.1 (L + 1)) p - gTop (σ.1 3) (σ.1 (L + 1)) p + 1 ≤ 200 by omega) (show gRgt (σ.1 4) (σ.1 (L + 1)) p - gLft (σ.1 4) (σ.1 (L + 1)) p + 1 ≤ 200 by omega) (by omega) (by decide)
  have h5 := Int.mul_pos (show 0 < gBot (σ.1 3) (σ.1 (L + 1)) p - gTop (σ.1 3) (σ.1 (L + 1)) p + 1 by omega) (show 0 < gRgt (σ.1 4) (σ.1 (L + 1)) p - gLft (σ.1 4) (σ.1 (L + 1)) p + 1 by omega)
  omega

theorem c_X11_isRest {G : Gx} {σ : Sg} {p q f s : Int} (hT : TI σ) (hI : LI σ 39) (hp : 0 ≤ p) (hp4 : p < 4) (hq : 0 ≤ q) (hq4 : q < 4) (hf : f = 0 ∨ f = 1) (hs : s = 0 ∨ s = 1) : Con G 4 mX11_isRest [.ref (G.2.2.2 + 0), .int (iZ p), .int (iZ q), .int (iZ f), .int (iZ s)] σ (pI (pE σ (gRest (gOv (σ.1 3) (σ.1 4) (σ.1 40) p q) (gArea (σ.1 3) (σ.1 4) (σ.1 40) p) (gArea (σ.1 3) (σ.1 4) (σ.1 40) q) f s))) := by
  have hL : isLand 39 := Or.inl rfl
  have hov := gOv39 hT hI hp hp4 hq hq4
  have ha1 : 1 ≤ gArea (σ.1 3) (σ.1 4) (σ.1 40) p ∧ gArea (σ.1 3) (σ.1 4) (σ.1 40) p ≤ 40000 := gArea_in (L := 39) hT hI hp hp4
  have ha2 : 1 ≤ gArea (σ.1 3) (σ.1 4) (σ.1 40) q ∧ gArea (σ.1 3) (σ.1 4) (σ.1 40) q ≤ 40000 := gArea_in (L := 39) hT hI hq hq4
  have b0 := gSung_in (a := f) (b := s) hov.1 (show gOv (σ.1 3) (σ.1 4) (σ.1 40) p q ≤ 100000 by omega) (show 0 ≤ gArea (σ.1 3) (σ.1 4) (σ.1 40) p by omega) (by omega)
  have b1 := gSung_in (a := 1 - f) (b := s) hov.1 (show gOv (σ.1 3) (σ.1 4) (σ.1 40) p q ≤ 100000 by omega) (show 0 ≤ gArea (σ.1 3) (σ.1 4) (σ.1 40) p by omega) (by omega)
  have b2 := gSung_in (a := s) (b := f) hov.1 (show gOv (σ.1 3) (σ.1 4) (σ.1 40) p q ≤ 100000 by omega) (show 0 ≤ gArea (σ.1 3) (σ.1 4) (σ.1 40) q by omega) (by omega)
  have b3 := gSung_in (a := 1 - s) (b := f) hov.1 (show gOv (σ.1 3) (σ.1 4) (σ.1 40) p q ≤ 100000 by omega) (show 0 ≤ gArea (σ.1 3) (σ.1 4) (σ.1 40) q by omega) (by omega)
  refine e_entry om_X11_isRest (Nat.le_of_ble_eq_true rfl) (L := [some (.ref (G.2.2.2 + 0)), some (.int (iZ p)), some (.int (iZ q)), some (.int (iZ f)), some (.int (iZ s)), none, none, none]) rfl ?_
  refine e_aload_n (q := 1) (i := 0) dX11_isRest_0 rfl rfl rfl ?_
  refine e_getR (q := 4) dX11_isRest_1 rfl fg_X11_36 (by first | assumption | rfl) rfl ?_
  refine e_iload_n (q := 5) (i := 1) dX11_isRest_4 rfl rfl rfl ?_
  refine e_iload_n (q := 6) (i := 2) dX11_isRest_5 rfl rfl rfl ?_
  refine e_Vip (q := 9) (vs := [_, _]) ok_X2_shared ml_X11_196 dX11_isRest_6 rfl ⟨_, _, rfl⟩ (by first | assumption | rfl) rfl rfl (Nat.le_of_ble_eq_true rfl) (by decide) (c39_shared hT hI (by omega) (by omega) (by omega) (by omega)) ?_
  refine e_istore (q := 11) (L' := [_, _, _, _, _, _, _, _]) dX11_isRest_9 rfl (by decide) rfl rfl ?_
  refine e_aload_n (q := 12) (i := 0) dX11_isRest_11 rfl rfl rfl ?_
  refine e_getR (q := 15) dX11_isRest_12 rfl fg_X11_36 (by first | assumption | rfl) rfl ?_
  refine e_iload_n (q := 16) (i := 1) dX11_isRest_15 rfl rfl rfl ?_
  refine e_Vip (q := 19) (vs := [_]) ok_X2_area ml_X11_158 dX11_isRest_16 rfl ⟨_, _, rfl⟩ (by first | assumption | rfl) rfl rfl (Nat.le_of_ble_eq_true rfl) (by decide) (c39_area (by omega) (by omega)) ?_
  refine e_istore (q := 21) (L' := [_, _, _, _, _, _, _, _]) dX11_isRest_19 rfl (by decide) rfl rfl ?_
  refine e_aload_n (q := 22) (i := 0) dX11_isRest_21 rfl rfl rfl ?_
  refine e_getR (q := 25) dX11_isRest_22 rfl fg_X11_36 (by first | assumption | rfl) rfl ?_
  refine e_iload_n (q := 26) (i := 2) dX11_isRest_25 rfl rfl rfl ?_
  refine e_Vip (q := 29) (vs := [_]) ok_X2_area ml_X11_158 dX11_isRest_26 rfl ⟨_, _, rfl⟩ (by first | assumption | rfl) rfl rfl (Nat.le_of_ble_eq_true rfl) (by decide) (c39_area (by omega) (by omega)) ?_
  refine e_istore (q := 31) (L' := [_, _, _, _, _, _, _, _]) dX11_isRest_29 rfl (by decide) rfl rfl ?_
  refine e_iload (q := 33) dX11_isRest_31 rfl rfl ?_
  refine e_iload (q := 35) dX11_isRest_33 rfl rfl ?_
  refine e_iload_n (q := 36) (i := 3) dX11_isRest_35 rfl rfl rfl ?_
  refine e_iload (q := 38) dX11_isRest_36 rfl rfl ?_
  refine e_Sip (q := 41) (vs := [_, _, _, _]) ok_X11_sung ml_X11_293 dX11_isRest_38 rfl rfl rfl (Nat.le_of_ble_eq_true rfl) (by decide) (c_X11_sung hov.1 (by omega) (by omega) (by omega) ⟨by omega, by omega⟩ ⟨by omega, by omega⟩) ?_
  refine e_iload (q := 43) dX11_isRest_41 rfl rfl ?_
  refine e_iload (q := 45) dX11_isRest_43 rfl rfl ?_
  refine e_iconst (q := 46) dX11_isRest_45 rfl ?_
  refine e_iload_n (q := 47) (i := 3) dX11_isRest_46 rfl rfl rfl ?_
  refine e_isub (q := 48) dX11_isRest_47 rfl ?_
  refine e_iload (q := 50) dX11_isRest_48 rfl rfl ?_
  refine e_Sip (q := 53) (vs := [_, _, _, _]) ok_X11_sung ml_X11_293 dX11_isRest_50 rfl rfl rfl (Nat.le_of_ble_eq_true rfl) (by decide) (c_X11_sung hov.1 (by omega) (by omega) (by omega) ⟨by omega, by omega⟩ ⟨by omega, by omega⟩) ?_
  refine e_icmp_lt (q := 56) (tgt := 85) dX11_isRest_53 rfl (by decide) (fun c53 => ?_) (fun c53 => ?_) (hx := ⟨by omega, by omega⟩) (hy := ⟨by omega, by omega⟩)
  · refine e_iconst (q := 86) dX11_isRest_85 rfl ?_
    exact r_z dX11_isRest_86 rfl (by first | exact Or.inl rfl | exact Or.inr rfl | omega) ⟨by unfold gRest; first | (rw [if_pos ⟨by omega, by omega⟩]; done) | (rw [if_neg (by omega)]; done), rfl⟩
  · refine e_iload (q := 58) dX11_isRest_56 rfl rfl ?_
    refine e_iload (q := 60) dX11_isRest_58 rfl rfl ?_
    refine e_iload (q := 62) dX11_isRest_60 rfl rfl ?_
    refine e_iload_n (q := 63) (i := 3) dX11_isRest_62 rfl rfl rfl ?_
    refine e_Sip (q := 66) (vs := [_, _, _, _]) ok_X11_sung ml_X11_293 dX11_isRest_63 rfl rfl rfl (Nat.le_of_ble_eq_true rfl) (by decide) (c_X11_sung hov.1 (by omega) (by omega) (by omega) ⟨by omega, by omega⟩ ⟨by omega, by omega⟩) ?_
    refine e_iload (q := 68) dX11_isRest_66 rfl rfl ?_
    refine e_iload (q := 70) dX11_isRest_68 rfl rfl ?_
    refine e_iconst (q := 71) dX11_isRest_70 rfl ?_
    refine e_iload (q := 73) dX11_isRest_71 rfl rfl ?_
    refine e_isub (q := 74) dX11_isRest_73 rfl ?_
    refine e_iload_n (q := 75) (i := 3) dX11_isRest_74 rfl rfl rfl ?_
    refine e_Sip (q := 78) (vs := [_, _, _, _]) ok_X11_sung ml_X11_293 dX11_isRest_75 rfl rfl rfl (Nat.le_of_ble_eq_true rfl) (by decide) (c_X11_sung hov.1 (by omega) (by omega) (by omega) ⟨by omega, by omega⟩ ⟨by omega, by omega⟩) ?_
    refine e_icmp_lt (q := 81) (tgt := 85) dX11_isRest_78 rfl (by decide) (fun c78 => ?_) (fun c78 => ?_) (hx := ⟨by omega, by omega⟩) (hy := ⟨by omega, by omega⟩)
    · refine e_iconst (q := 86) dX11_isRest_85 rfl ?_
      exact r_z dX11_isRest_86 rfl (by first | exact Or.inl rfl | exact Or.inr rfl | omega) ⟨by unfold gRest; first | (rw [if_pos ⟨by omega, by omega⟩]; done) | (rw [if_neg (by omega)]; done), rfl⟩
    · refine e_iconst (q := 82) dX11_isRest_81 rfl ?_
      refine e_goto (tgt := 86) dX11_isRest_82 (by decide) ?_
      exact r_z dX11_isRest_86 rfl (by first | exact Or.inl rfl | exact Or.inr rfl | omega) ⟨by unfold gRest; first | (rw [if_pos ⟨by omega, by omega⟩]; done) | (rw [if_neg (by omega)]; done), rfl⟩

theorem c_X11_restBits {G : Gx} {σ : Sg} {p q : Int} (hT : TI σ) (hI : LI σ 39) (hp : 0 ≤ p) (hp4 : p < 4) (hq : 0 ≤ q) (hq4 : q < 4) : Con G 5 mX11_restBits [.ref (G.2.2.2 + 0), .int (iZ p), .int (iZ q)] σ (pI (pE σ (zb (fun i => gRest (gOv (σ.1 3) (σ.1 4) (σ.1 40) p q) (gArea (σ.1 3) (σ.1 4) (σ.1 40) p) (gArea (σ.1 3) (σ.1 4) (σ.1 40) q) (i / 2) (i % 2)) 4))) := by
  have lp : ∀ (n : Nat) (i s : Int), 0 ≤ i → i + n = 4 → s = zb (fun i => gRest (gOv (σ.1 3) (σ.1 4) (σ.1 40) p q) (gArea (σ.1 3) (σ.1 4) (σ.1 40) p) (gArea (σ.1 3) (σ.1 4) (σ.1 40) q) (i / 2) (i % 2)) i → J G 5 mX11_restBits (pI (pE σ (zb (fun i => gRest (gOv (σ.1 3) (σ.1 4) (σ.1 40) p q) (gArea (σ.1 3) (σ.1 4) (σ.1 40) p) (gArea (σ.1 3) (σ.1 4) (σ.1 40) q) (i / 2) (i % 2)) 4))) σ 5 [some (.ref (G.2.2.2 + 0)), some (.int (iZ p)), some (.int (iZ q)), some (.int (iZ s)), some (.int (iZ i))] [] := by
    intro n
    induction n with
    | zero =>
      intro i s h0 hn hs
      have hb := zb_lt (fun i => gRest (gOv (σ.1 3) (σ.1 4) (σ.1 40) p q) (gArea (σ.1 3) (σ.1 4) (σ.1 40) p) (gArea (σ.1 3) (σ.1 4) (σ.1 40) q) (i / 2) (i % 2)) (i := i)
      have hg : gRest (gOv (σ.1 3) (σ.1 4) (σ.1 40) p q) (gArea (σ.1 3) (σ.1 4) (σ.1 40) p) (gArea (σ.1 3) (σ.1 4) (σ.1 40) q) (i / 2) (i % 2) = 0 ∨ gRest (gOv (σ.1 3) (σ.1 4) (σ.1 40) p q) (gArea (σ.1 3) (σ.1 4) (σ.1 40) p) (gArea (σ.1 3) (σ.1 4) (σ.1 40) q) (i / 2) (i % 2) = 1 := by unfold gRest; split <;> simp
      refine e_iload (q := 7) dX11_restBits_5 rfl rfl ?_
      refine e_iconst (q := 8) dX11_restBits_7 rfl ?_
      refine e_icmp_ge (q := 11) (tgt := 41) dX11_restBits_8 rfl (by decide) (fun c8 => ?_) (fun c8 => absurd (by omega) c8)
      refine e_iload_n (q := 42) (i := 3) dX11_restBits_41 rfl rfl rfl ?_
      exact r_i dX11_restBits_42 rfl ⟨by rw [hs]; congr 1; omega, rfl⟩
    | succ n ih =>
      intro i s h0 hn hs
      have hb := zb_lt (fun i => gRest (gOv (σ.1 3) (σ.1 4) (σ.1 40) p q) (gArea (σ.1 3) (σ.1 4) (σ.1 40) p) (gArea (σ.1 3) (σ.1 4) (σ.1 40) q) (i / 2) (i % 2)) (i := i)
      have hg : gRest (gOv (σ.1 3) (σ.1 4) (σ.1 40) p q) (gArea (σ.1 3) (σ.1 4) (σ.1 40) p) (gArea (σ.1 3) (σ.1 4) (σ.1 40) q) (i / 2) (i % 2) = 0 ∨ gRest (gOv (σ.1 3) (σ.1 4) (σ.1 40) p q) (gArea (σ.1 3) (σ.1 4) (σ.1 40) p) (gArea (σ.1 3) (σ.1 4) (σ.1 40) q) (i / 2) (i % 2) = 1 := by unfold gRest; split <;> simp
      refine e_iload (q := 7) dX11_restBits_5 rfl rfl ?_
      refine e_iconst (q := 8) dX11_restBits_7 rfl ?_
      refine e_icmp_ge (q := 11) (tgt := 41) dX11_restBits_8 rfl (by decide) (fun c8 => absurd c8 (by omega)) (fun c8 => ?_)
      refine e_aload_n (q := 12) (i := 0) dX11_restBits_11 rfl rfl rfl ?_
      refine e_iload_n (q := 13) (i := 1) dX11_restBits_12 rfl rfl rfl ?_
      refine e_iload_n (q := 14) (i := 2) dX11_restBits_13 rfl rfl rfl ?_
      refine e_iload (q := 16) dX11_restBits_14 rfl rfl ?_
      refine e_iconst (q := 17) dX11_restBits_16 rfl ?_
      refine e_idiv (q := 18) dX11_restBits_17 rfl (by decide) (iZ_div (by omega) (by omega) (by omega) (by omega)) ?_
      refine e_iload (q := 20) dX11_restBits_18 rfl rfl ?_
      refine e_iconst (q := 21) dX11_restBits_20 rfl ?_
      refine e_irem (q := 22) dX11_restBits_21 rfl (by decide) (iZ_rem (by omega) (by omega) (by omega) (by omega)) ?_
      refine e_Vip (q := 25) (vs := [_, _, _, _]) ok_X11_isRest ml_X11_289 dX11_restBits_22 rfl ⟨_, _, rfl⟩ (by first | assumption | rfl) rfl rfl (Nat.le_of_ble_eq_true rfl) (by decide) (c_X11_isRest hT hI (by omega) (by omega) (by omega) (by omega) (by omega) (by omega)) ?_
      refine e_if_eq (q := 28) (tgt := 35) dX11_restBits_25 rfl (by decide) (fun c25 => ?_) (fun c25 => ?_)
      · refine e_iinc (q := 38) (L' := [_, _, _, _, _]) dX11_restBits_35 rfl rfl (by decide) rfl rfl ?_
        refine e_goto (tgt := 5) dX11_restBits_38 (by decide) ?_
        exact ih _ _ (by omega) (by omega) (by rw [hs, zb_succ _ h0]; first | rw [if_pos (by omega)] | (rw [if_neg (by omega)]; omega))
      · refine e_iload_n (q := 29) (i := 3) dX11_restBits_28 rfl rfl rfl ?_
        refine e_iconst (q := 30) dX11_restBits_29 rfl ?_
        refine e_iload (q := 32) dX11_restBits_30 rfl rfl ?_
        refine e_ishl (q := 33) dX11_restBits_32 rfl (iZ_shl1 (by omega) (by omega)) ?_
        refine e_ior (q := 34) dX11_restBits_33 rfl (iZ_orp (by omega) (by rw [hs]; exact hb.2) (by omega)) ?_
        refine e_istore_n (q := 35) (i := 3) (L' := [_, _, _, _, _]) dX11_restBits_34 rfl rfl (by decide) rfl rfl ?_
        refine e_iinc (q := 38) (L' := [_, _, _, _, _]) dX11_restBits_35 rfl rfl (by decide) rfl rfl ?_
        refine e_goto (tgt := 5) dX11_restBits_38 (by decide) ?_
        exact ih _ _ (by omega) (by omega) (by rw [hs, zb_succ _ h0]; first | rw [if_pos (by omega)] | (rw [if_neg (by omega)]; omega))
  refine e_entry om_X11_restBits (Nat.le_of_ble_eq_true rfl) (L := [some (.ref (G.2.2.2 + 0)), some (.int (iZ p)), some (.int (iZ q)), none, none]) rfl ?_
  refine e_iconst (q := 1) dX11_restBits_0 rfl ?_
  refine e_istore_n (q := 2) (i := 3) (L' := [_, _, _, _, _]) dX11_restBits_1 rfl rfl (by decide) rfl rfl ?_
  refine e_iconst (q := 3) dX11_restBits_2 rfl ?_
  refine e_istore (q := 5) (L' := [_, _, _, _, _]) dX11_restBits_3 rfl (by decide) rfl rfl ?_
  exact lp 4 0 0 (by decide) (by decide) rfl

theorem c_X11_rests {G : Gx} {σ : Sg} {a b : Int} (hT : TI σ) (hI : LI σ 39) (ha : R32 a) (hb : R32 b) : Con G 6 mX11_rests [.ref (G.2.2.2 + 0), .int (iZ a), .int (iZ b)] σ (pI (pE σ (if ((0 ≤ a ∧ a < σ.1 2 2) ∧ (0 ≤ b ∧ b < σ.1 2 2) ∧ a ≠ b) then (bcF (iZ (zb (fun i => gRest (gOv (σ.1 3) (σ.1 4) (σ.1 40) a b) (gArea (σ.1 3) (σ.1 4) (σ.1 40) a) (gArea (σ.1 3) (σ.1 4) (σ.1 40) b) (i / 2) (i % 2)) 4))).toInt else -1))) := by
  obtain ⟨hzz, -, hnp, hnc, hnb, hlb, hrn, hsd, hrw, hrq, hch, hbt, hck⟩ := id hT
  refine e_entry om_X11_rests (Nat.le_of_ble_eq_true rfl) (L := [some (.ref (G.2.2.2 + 0)), some (.int (iZ a)), some (.int (iZ b))]) rfl ?_
  refine e_aload_n (q := 1) (i := 0) dX11_rests_0 rfl rfl rfl ?_
  refine e_iload_n (q := 2) (i := 1) dX11_rests_1 rfl rfl rfl ?_
  refine e_iload_n (q := 3) (i := 2) dX11_rests_2 rfl rfl rfl ?_
  refine e_Vip (q := 6) (vs := [_, _]) ok_X11_isPair ml_X11_193 dX11_rests_3 rfl ⟨_, _, rfl⟩ (by first | assumption | rfl) rfl rfl (Nat.le_of_ble_eq_true rfl) (by decide) (c_X11_isPair hT (by assumption) (by assumption)) ?_
  refine e_if_eq (q := 9) (tgt := 21) dX11_rests_6 rfl (by decide) (fun c6 => ?_) (fun c6 => ?_)
  · refine e_iconst (q := 22) dX11_rests_21 rfl ?_
    exact r_i dX11_rests_22 rfl ⟨by first | (rw [if_pos (by omega)]; done) | (rw [if_neg (by omega)]; done), rfl⟩
  · refine e_aload_n (q := 10) (i := 0) dX11_rests_9 rfl rfl rfl ?_
    refine e_iload_n (q := 11) (i := 1) dX11_rests_10 rfl rfl rfl ?_
    refine e_iload_n (q := 12) (i := 2) dX11_rests_11 rfl rfl rfl ?_
    refine e_Vip (q := 15) (vs := [_, _]) ok_X11_restBits ml_X11_283 dX11_rests_12 rfl ⟨_, _, rfl⟩ (by first | assumption | rfl) rfl rfl (Nat.le_of_ble_eq_true rfl) (by decide) (c_X11_restBits hT hI (by omega) (by omega) (by omega) (by omega)) ?_
    refine e_Sip (q := 18) (vs := [_]) ok_J6_bitCount_0f7a4 ml_X11_286 dX11_rests_15 rfl rfl rfl (Nat.le_of_ble_eq_true rfl) (by decide) (c_bitCount) ?_
    refine e_goto (tgt := 22) dX11_rests_18 (by decide) ?_
    exact r_i dX11_rests_22 rfl ⟨by first | (rw [if_pos (by omega)]; done) | (rw [if_neg (by omega)]; done), rfl⟩

