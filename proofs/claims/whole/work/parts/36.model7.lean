theorem c_X12_thrown {G : Gx} {σ : Sg} : Con G 1 mX12_thrown [.ref (G.2.2.2 + 82)] σ (pI (pE σ (σ.1 82 0))) := by
  refine e_entry om_X12_thrown (Nat.le_of_ble_eq_true rfl) (L := [some (.ref (G.2.2.2 + 82))]) rfl ?_
  refine e_aload_n (q := 1) (i := 0) dX12_thrown_0 rfl rfl rfl ?_
  refine e_getI (q := 4) (jz := 0) dX12_thrown_1 rfl fg_X12_136 rfl (by first | assumption | rfl) rfl ?_
  exact r_i dX12_thrown_4 rfl ⟨rfl, rfl⟩

theorem c_X12_fault {G : Gx} {σ0 σ : Sg} (hσ : σ = sI σ0 82 0 0) {x : Int} (hx : R32 x) : Con G 1 mX12_fault [.ref (G.2.2.2 + 82), .int (iZ x)] σ0 (pI (pE σ (if x = 0 then σ.1 82 28 else if x = 1 then σ.1 82 29 else -1))) := by
  refine e_entry om_X12_fault (Nat.le_of_ble_eq_true rfl) (L := [some (.ref (G.2.2.2 + 82)), some (.int (iZ x))]) rfl ?_
  refine e_aload_n (q := 1) (i := 0) dX12_fault_0 rfl rfl rfl ?_
  refine e_iconst (q := 2) dX12_fault_1 rfl ?_
  refine e_putI (q := 5) (jz := 0) dX12_fault_2 rfl fp_X12_136 rfl (by first | assumption | rfl) rfl ?_
  rw [← hσ]
  refine e_iload_n (q := 6) (i := 1) dX12_fault_5 rfl rfl rfl ?_
  refine e_if_ne (q := 9) (tgt := 16) dX12_fault_6 rfl (by decide) (fun c6 => ?_) (fun c6 => ?_)
  · refine e_iload_n (q := 17) (i := 1) dX12_fault_16 rfl rfl rfl ?_
    refine e_iconst (q := 18) dX12_fault_17 rfl ?_
    refine e_icmp_ne (q := 21) (tgt := 28) dX12_fault_18 rfl (by decide) (fun c18 => ?_) (fun c18 => ?_)
    · refine e_iconst (q := 29) dX12_fault_28 rfl ?_
      exact r_i dX12_fault_29 rfl ⟨by first | (rw [if_pos (by omega)]; done) | (rw [if_neg (by omega), if_pos (by omega)]; done) | (rw [if_neg (by omega), if_neg (by omega)]; done), rfl⟩
    · refine e_aload_n (q := 22) (i := 0) dX12_fault_21 rfl rfl rfl ?_
      refine e_getI (q := 25) (jz := 29) dX12_fault_22 rfl fg_X12_61 rfl (by first | assumption | rfl) rfl ?_
      refine e_goto (tgt := 29) dX12_fault_25 (by decide) ?_
      exact r_i dX12_fault_29 rfl ⟨by first | (rw [if_pos (by omega)]; done) | (rw [if_neg (by omega), if_pos (by omega)]; done) | (rw [if_neg (by omega), if_neg (by omega)]; done), rfl⟩
  · refine e_aload_n (q := 10) (i := 0) dX12_fault_9 rfl rfl rfl ?_
    refine e_getI (q := 13) (jz := 28) dX12_fault_10 rfl fg_X12_282 rfl (by first | assumption | rfl) rfl ?_
    refine e_goto (tgt := 29) dX12_fault_13 (by decide) ?_
    exact r_i dX12_fault_29 rfl ⟨by first | (rw [if_pos (by omega)]; done) | (rw [if_neg (by omega), if_pos (by omega)]; done) | (rw [if_neg (by omega), if_neg (by omega)]; done), rfl⟩

theorem fz_0 (f : Int → Int) : (fun i => f (0 + i)) = f := by
  funext i
  rw [Int.zero_add]

theorem c_X12_named {G : Gx} {σ0 σ : Sg} {x l : Int} (hσ : σ = sI σ0 82 0 0) (hT : MT σ) (hx : R32 x) (hl : R32 l) : Con G 2 mX12_named [.ref (G.2.2.2 + 82), .int (iZ x), .int (iZ l)] σ0 (pI (pE σ (if x = 0 then fd (σ.1 85) l (σ.1 84 1) else if x = 1 then fd (σ.1 89) l (σ.1 84 2) else -1))) := by
  obtain ⟨hzz, hnp, hnc, hnb, hrn, hsd, hrw, hrq, hch, hbt, hck⟩ := id hT
  refine e_entry om_X12_named (Nat.le_of_ble_eq_true rfl) (L := [some (.ref (G.2.2.2 + 82)), some (.int (iZ x)), some (.int (iZ l))]) rfl ?_
  refine e_aload_n (q := 1) (i := 0) dX12_named_0 rfl rfl rfl ?_
  refine e_iconst (q := 2) dX12_named_1 rfl ?_
  refine e_putI (q := 5) (jz := 0) dX12_named_2 rfl fp_X12_136 rfl (by first | assumption | rfl) rfl ?_
  rw [← hσ]
  refine e_iload_n (q := 6) (i := 1) dX12_named_5 rfl rfl rfl ?_
  by_cases k6_0 : x = 0
  · refine e_look (tgt := 32) dX12_named_6 (by decide) hx (by rw [k6_0]; try rfl) (by decide) ?_
    refine e_aload_n (q := 33) (i := 0) dX12_named_32 rfl rfl rfl ?_
    refine e_getR (q := 36) dX12_named_33 rfl fg_X12_16 (by first | assumption | rfl) rfl ?_
    refine e_iconst (q := 37) dX12_named_36 rfl ?_
    refine e_aload_n (q := 38) (i := 0) dX12_named_37 rfl rfl rfl ?_
    refine e_getR (q := 41) dX12_named_38 rfl fg_X12_13 (by first | assumption | rfl) rfl ?_
    refine e_iconst (q := 42) dX12_named_41 rfl ?_
    refine e_iald (q := 43) dX12_named_42 rfl (by first | assumption | rfl) ?_
    refine e_iload_n (q := 44) (i := 2) dX12_named_43 rfl rfl rfl ?_
    refine e_Sip (q := 47) (vs := [_, _, _, _]) ok_X12_found ml_X12_202 dX12_named_44 rfl rfl rfl (Nat.le_of_ble_eq_true rfl) (by decide) (c_X12_found (k := 85) (mN := 8) rfl (by decide) (by decide) (by omega) (by omega) (fun i a b => by rw [Int.zero_add]; exact (hrw i a (by omega)).2.2.2.2) hl) ?_
    exact r_i dX12_named_47 rfl ⟨by rw [if_pos k6_0]; rw [fz_0], rfl⟩
  by_cases k6_1 : x = 1
  · refine e_look (tgt := 48) dX12_named_6 (by decide) hx (by rw [k6_1]; try rfl) (by decide) ?_
    refine e_aload_n (q := 49) (i := 0) dX12_named_48 rfl rfl rfl ?_
    refine e_getR (q := 52) dX12_named_49 rfl fg_X12_28 (by first | assumption | rfl) rfl ?_
    refine e_iconst (q := 53) dX12_named_52 rfl ?_
    refine e_aload_n (q := 54) (i := 0) dX12_named_53 rfl rfl rfl ?_
    refine e_getR (q := 57) dX12_named_54 rfl fg_X12_13 (by first | assumption | rfl) rfl ?_
    refine e_iconst (q := 58) dX12_named_57 rfl ?_
    refine e_iald (q := 59) dX12_named_58 rfl (by first | assumption | rfl) ?_
    refine e_iload_n (q := 60) (i := 2) dX12_named_59 rfl rfl rfl ?_
    refine e_Sip (q := 63) (vs := [_, _, _, _]) ok_X12_found ml_X12_202 dX12_named_60 rfl rfl rfl (Nat.le_of_ble_eq_true rfl) (by decide) (c_X12_found (k := 89) (mN := 12) rfl (by decide) (by decide) (by omega) (by omega) (fun i a b => by rw [Int.zero_add]; exact (hch i a (by omega)).2.2.2.2) hl) ?_
    exact r_i dX12_named_63 rfl ⟨by rw [if_neg k6_0, if_pos k6_1]; rw [fz_0], rfl⟩
  refine e_look (off := 58) (tgt := 64) dX12_named_6 (by decide) hx (by show Op.lookupswitch.offset [(0, 26), (1, 42)] (58) (x) = 58; rw [Op.lookupswitch.offset_cons, if_neg (by omega), Op.lookupswitch.offset_cons, if_neg (by omega)]; rfl) (by decide) ?_
  refine e_iconst (q := 65) dX12_named_64 rfl ?_
  exact r_i dX12_named_65 rfl ⟨by rw [if_neg k6_0, if_neg k6_1], rfl⟩

theorem c_X12_child {G : Gx} {σ0 σ : Sg} {c x : Int} (hσ : σ = sI σ0 82 0 0) (hT : MT σ) (hc : R32 c) (hx : R32 x) : Con G 2 mX12_child [.ref (G.2.2.2 + 82), .int (iZ c), .int (iZ x)] σ0 (pI (pE σ (if (0 ≤ c ∧ c < σ.1 84 2) then (if x = 0 then mL σ 0 c else if x = 1 then σ.1 91 c else if x = 2 then mD σ 0 c else -1) else -1))) := by
  obtain ⟨hzz, hnp, hnc, hnb, hrn, hsd, hrw, hrq, hch, hbt, hck⟩ := id hT
  refine e_entry om_X12_child (Nat.le_of_ble_eq_true rfl) (L := [some (.ref (G.2.2.2 + 82)), some (.int (iZ c)), some (.int (iZ x))]) rfl ?_
  refine e_aload_n (q := 1) (i := 0) dX12_child_0 rfl rfl rfl ?_
  refine e_iconst (q := 2) dX12_child_1 rfl ?_
  refine e_putI (q := 5) (jz := 0) dX12_child_2 rfl fp_X12_136 rfl (by first | assumption | rfl) rfl ?_
  rw [← hσ]
  refine e_aload_n (q := 6) (i := 0) dX12_child_5 rfl rfl rfl ?_
  refine e_iload_n (q := 7) (i := 1) dX12_child_6 rfl rfl rfl ?_
  refine e_Vip (q := 10) (vs := [_]) ok_X12_isChild ml_X12_402 dX12_child_7 rfl ⟨_, _, rfl⟩ (by first | assumption | rfl) rfl rfl (Nat.le_of_ble_eq_true rfl) (by decide) (c_X12_isChild hT (by assumption)) ?_
  refine e_if_ne (q := 13) (tgt := 15) dX12_child_10 rfl (by decide) (fun c10 => ?_) (fun c10 => ?_)
  · refine e_iload_n (q := 16) (i := 2) dX12_child_15 rfl rfl rfl ?_
    refine e_if_ne (q := 19) (tgt := 28) dX12_child_16 rfl (by decide) (fun c16 => ?_) (fun c16 => ?_)
    · refine e_iload_n (q := 29) (i := 2) dX12_child_28 rfl rfl rfl ?_
      refine e_iconst (q := 30) dX12_child_29 rfl ?_
      refine e_icmp_ne (q := 33) (tgt := 42) dX12_child_30 rfl (by decide) (fun c30 => ?_) (fun c30 => ?_)
      · refine e_iload_n (q := 43) (i := 2) dX12_child_42 rfl rfl rfl ?_
        refine e_iconst (q := 44) dX12_child_43 rfl ?_
        refine e_icmp_ne (q := 47) (tgt := 56) dX12_child_44 rfl (by decide) (fun c44 => ?_) (fun c44 => ?_)
        · refine e_iconst (q := 57) dX12_child_56 rfl ?_
          exact r_i dX12_child_57 rfl ⟨by rw [if_pos (show (0 ≤ c ∧ c < σ.1 84 2) by omega), if_neg c16, if_neg c30, if_neg c44], rfl⟩
        · refine e_aload_n (q := 48) (i := 0) dX12_child_47 rfl rfl rfl ?_
          refine e_getR (q := 51) dX12_child_48 rfl fg_X12_90 (by first | assumption | rfl) rfl ?_
          refine e_iload_n (q := 52) (i := 1) dX12_child_51 rfl rfl rfl ?_
          refine e_iald (q := 53) dX12_child_52 rfl (by first | assumption | rfl) ?_
          refine e_goto (tgt := 57) dX12_child_53 (by decide) ?_
          exact r_i dX12_child_57 rfl ⟨by rw [if_pos (show (0 ≤ c ∧ c < σ.1 84 2) by omega), if_neg c16, if_neg c30, if_pos c44, show σ.1 108 c = mD σ 0 c from by unfold mD; rw [Int.mul_zero, Int.zero_add]], rfl⟩
      · refine e_aload_n (q := 34) (i := 0) dX12_child_33 rfl rfl rfl ?_
        refine e_getR (q := 37) dX12_child_34 rfl fg_X12_34 (by first | assumption | rfl) rfl ?_
        refine e_iload_n (q := 38) (i := 1) dX12_child_37 rfl rfl rfl ?_
        refine e_iald (q := 39) dX12_child_38 rfl (by first | assumption | rfl) ?_
        refine e_goto (tgt := 57) dX12_child_39 (by decide) ?_
        exact r_i dX12_child_57 rfl ⟨by rw [if_pos (show (0 ≤ c ∧ c < σ.1 84 2) by omega), if_neg c16, if_pos c30], rfl⟩
    · refine e_aload_n (q := 20) (i := 0) dX12_child_19 rfl rfl rfl ?_
      refine e_getR (q := 23) dX12_child_20 rfl fg_X12_87 (by first | assumption | rfl) rfl ?_
      refine e_iload_n (q := 24) (i := 1) dX12_child_23 rfl rfl rfl ?_
      refine e_iald (q := 25) dX12_child_24 rfl (by first | assumption | rfl) ?_
      refine e_goto (tgt := 57) dX12_child_25 (by decide) ?_
      exact r_i dX12_child_57 rfl ⟨by rw [if_pos (show (0 ≤ c ∧ c < σ.1 84 2) by omega), if_pos c16, show σ.1 107 c = mL σ 0 c from by unfold mL; rw [Int.mul_zero, Int.zero_add]], rfl⟩
  · refine e_iconst (q := 14) dX12_child_13 rfl ?_
    exact r_i dX12_child_14 rfl ⟨by rw [if_neg (by omega)], rfl⟩

theorem c_X12_cake {G : Gx} {σ0 σ : Sg} {p x : Int} (hσ : σ = sI σ0 82 0 0) (hT : MT σ) (hp : R32 p) (hx : R32 x) : Con G 2 mX12_cake [.ref (G.2.2.2 + 82), .int (iZ p), .int (iZ x)] σ0 (pI (pE σ (if (0 ≤ p ∧ p < σ.1 84 1) ∧ (0 ≤ x ∧ x < 4) then mK σ 0 (4 * p + x) else -1))) := by
  obtain ⟨hzz, hnp, hnc, hnb, hrn, hsd, hrw, hrq, hch, hbt, hck⟩ := id hT
  refine e_entry om_X12_cake (Nat.le_of_ble_eq_true rfl) (L := [some (.ref (G.2.2.2 + 82)), some (.int (iZ p)), some (.int (iZ x))]) rfl ?_
  refine e_aload_n (q := 1) (i := 0) dX12_cake_0 rfl rfl rfl ?_
  refine e_iconst (q := 2) dX12_cake_1 rfl ?_
  refine e_putI (q := 5) (jz := 0) dX12_cake_2 rfl fp_X12_136 rfl (by first | assumption | rfl) rfl ?_
  rw [← hσ]
  refine e_aload_n (q := 6) (i := 0) dX12_cake_5 rfl rfl rfl ?_
  refine e_iload_n (q := 7) (i := 1) dX12_cake_6 rfl rfl rfl ?_
  refine e_Vip (q := 10) (vs := [_]) ok_X12_isParish ml_X12_396 dX12_cake_7 rfl ⟨_, _, rfl⟩ (by first | assumption | rfl) rfl rfl (Nat.le_of_ble_eq_true rfl) (by decide) (c_X12_isParish hT (by assumption)) ?_
  refine e_if_eq (q := 13) (tgt := 34) dX12_cake_10 rfl (by decide) (fun c10 => ?_) (fun c10 => ?_)
  · refine e_iconst (q := 35) dX12_cake_34 rfl ?_
    exact r_i dX12_cake_35 rfl ⟨by first | (rw [if_pos (by omega)]; rfl) | (rw [if_neg (by omega)]; done), rfl⟩
  · refine e_iload_n (q := 14) (i := 2) dX12_cake_13 rfl rfl rfl ?_
    refine e_Sip (q := 17) (vs := [_]) ok_X12_isWay ml_X12_405 dX12_cake_14 rfl rfl rfl (Nat.le_of_ble_eq_true rfl) (by decide) (c_X12_isWay (by assumption)) ?_
    refine e_if_eq (q := 20) (tgt := 34) dX12_cake_17 rfl (by decide) (fun c17 => ?_) (fun c17 => ?_)
    · refine e_iconst (q := 35) dX12_cake_34 rfl ?_
      exact r_i dX12_cake_35 rfl ⟨by first | (rw [if_pos (by omega)]; rfl) | (rw [if_neg (by omega)]; done), rfl⟩
    · refine e_aload_n (q := 21) (i := 0) dX12_cake_20 rfl rfl rfl ?_
      refine e_getR (q := 24) dX12_cake_21 rfl fg_X12_84 (by first | assumption | rfl) rfl ?_
      refine e_iconst (q := 25) dX12_cake_24 rfl ?_
      refine e_iload_n (q := 26) (i := 1) dX12_cake_25 rfl rfl rfl ?_
      refine e_iload_n (q := 27) (i := 2) dX12_cake_26 rfl rfl rfl ?_
      refine e_Sip (q := 30) (vs := [_, _, _]) ok_X12_slot ml_X12_322 dX12_cake_27 rfl rfl rfl (Nat.le_of_ble_eq_true rfl) (by decide) (c_X12_slot (t := 16 * 0 + (4 * p + x)) (by omega)) ?_
      refine e_iald (q := 31) dX12_cake_30 rfl (by first | assumption | rfl) ?_
      refine e_goto (tgt := 35) dX12_cake_31 (by decide) ?_
      exact r_i dX12_cake_35 rfl ⟨by first | (rw [if_pos (by omega)]; rfl) | (rw [if_neg (by omega)]; done), rfl⟩

theorem c_X12_owners {G : Gx} {σ0 σ : Sg} {r c : Int} (hσ : σ = sI σ0 82 0 0) (hT : MT σ) (hI : MI σ 0) (hr : R32 r) (hc : R32 c) : Con G 5 mX12_owners [.ref (G.2.2.2 + 82), .int (iZ r), .int (iZ c)] σ0 (pI (pE σ (if (0 ≤ r ∧ r < σ.1 84 0 ∧ 0 ≤ c ∧ c < σ.1 84 0) then zb (fun p => gHold (σ.1 86) (σ.1 87) (mF σ 0) p r c) (σ.1 84 1) else -1))) := by
  obtain ⟨hzz, hnp, hnc, hnb, hrn, hsd, hrw, hrq, hch, hbt, hck⟩ := id hT
  refine e_entry om_X12_owners (Nat.le_of_ble_eq_true rfl) (L := [some (.ref (G.2.2.2 + 82)), some (.int (iZ r)), some (.int (iZ c))]) rfl ?_
  refine e_aload_n (q := 1) (i := 0) dX12_owners_0 rfl rfl rfl ?_
  refine e_iconst (q := 2) dX12_owners_1 rfl ?_
  refine e_putI (q := 5) (jz := 0) dX12_owners_2 rfl fp_X12_136 rfl (by first | assumption | rfl) rfl ?_
  rw [← hσ]
  refine e_aload_n (q := 6) (i := 0) dX12_owners_5 rfl rfl rfl ?_
  refine e_iload_n (q := 7) (i := 1) dX12_owners_6 rfl rfl rfl ?_
  refine e_iload_n (q := 8) (i := 2) dX12_owners_7 rfl rfl rfl ?_
  refine e_Vip (q := 11) (vs := [_, _]) ok_X12_isCell ml_X12_412 dX12_owners_8 rfl ⟨_, _, rfl⟩ (by first | assumption | rfl) rfl rfl (Nat.le_of_ble_eq_true rfl) (by decide) (c_X12_isCell hT (by assumption) (by assumption)) ?_
  refine e_if_eq (q := 14) (tgt := 23) dX12_owners_11 rfl (by decide) (fun c11 => ?_) (fun c11 => ?_)
  · refine e_iconst (q := 24) dX12_owners_23 rfl ?_
    exact r_i dX12_owners_24 rfl ⟨by first | (rw [if_pos (by omega)]; done) | (rw [if_neg (by omega)]; done), rfl⟩
  · refine e_aload_n (q := 15) (i := 0) dX12_owners_14 rfl rfl rfl ?_
    refine e_iload_n (q := 16) (i := 1) dX12_owners_15 rfl rfl rfl ?_
    refine e_iload_n (q := 17) (i := 2) dX12_owners_16 rfl rfl rfl ?_
    refine e_Vip (q := 20) (vs := [_, _]) ok_X12_ownersOf ml_X12_415 dX12_owners_17 rfl ⟨_, _, rfl⟩ (by first | assumption | rfl) rfl rfl (Nat.le_of_ble_eq_true rfl) (by decide) (c_X12_ownersOf hT hI hr hc) ?_
    refine e_goto (tgt := 24) dX12_owners_20 (by decide) ?_
    exact r_i dX12_owners_24 rfl ⟨by first | (rw [if_pos (by omega)]; done) | (rw [if_neg (by omega)]; done), rfl⟩

theorem c_X12_overlap {G : Gx} {σ0 σ : Sg} {a b : Int} (hσ : σ = sI σ0 82 0 0) (hT : MT σ) (hI : MI σ 0) (ha : R32 a) (hb : R32 b) : Con G 5 mX12_overlap [.ref (G.2.2.2 + 82), .int (iZ a), .int (iZ b)] σ0 (pI (pE σ (if ((0 ≤ a ∧ a < σ.1 84 1) ∧ (0 ≤ b ∧ b < σ.1 84 1) ∧ a ≠ b) then gOv (σ.1 86) (σ.1 87) (mF σ 0) a b else -1))) := by
  obtain ⟨hzz, hnp, hnc, hnb, hrn, hsd, hrw, hrq, hch, hbt, hck⟩ := id hT
  refine e_entry om_X12_overlap (Nat.le_of_ble_eq_true rfl) (L := [some (.ref (G.2.2.2 + 82)), some (.int (iZ a)), some (.int (iZ b))]) rfl ?_
  refine e_aload_n (q := 1) (i := 0) dX12_overlap_0 rfl rfl rfl ?_
  refine e_iconst (q := 2) dX12_overlap_1 rfl ?_
  refine e_putI (q := 5) (jz := 0) dX12_overlap_2 rfl fp_X12_136 rfl (by first | assumption | rfl) rfl ?_
  rw [← hσ]
  refine e_aload_n (q := 6) (i := 0) dX12_overlap_5 rfl rfl rfl ?_
  refine e_iload_n (q := 7) (i := 1) dX12_overlap_6 rfl rfl rfl ?_
  refine e_iload_n (q := 8) (i := 2) dX12_overlap_7 rfl rfl rfl ?_
  refine e_Vip (q := 11) (vs := [_, _]) ok_X12_areTwo ml_X12_418 dX12_overlap_8 rfl ⟨_, _, rfl⟩ (by first | assumption | rfl) rfl rfl (Nat.le_of_ble_eq_true rfl) (by decide) (c_X12_areTwo hT (by assumption) (by assumption)) ?_
  refine e_if_eq (q := 14) (tgt := 24) dX12_overlap_11 rfl (by decide) (fun c11 => ?_) (fun c11 => ?_)
  · refine e_iconst (q := 25) dX12_overlap_24 rfl ?_
    exact r_i dX12_overlap_25 rfl ⟨by first | (rw [if_pos (by omega)]; done) | (rw [if_neg (by omega)]; done), rfl⟩
  · refine e_aload_n (q := 15) (i := 0) dX12_overlap_14 rfl rfl rfl ?_
    refine e_iconst (q := 16) dX12_overlap_15 rfl ?_
    refine e_iload_n (q := 17) (i := 1) dX12_overlap_16 rfl rfl rfl ?_
    refine e_iload_n (q := 18) (i := 2) dX12_overlap_17 rfl rfl rfl ?_
    refine e_Vip (q := 21) (vs := [_, _, _]) ok_X12_overlapOf ml_X12_342 dX12_overlap_18 rfl ⟨_, _, rfl⟩ (by first | assumption | rfl) rfl rfl (Nat.le_of_ble_eq_true rfl) (by decide) (c_X12_overlapOf hT hI (by decide) (by decide) (by omega) (by omega) (by omega) (by omega)) ?_
    refine e_goto (tgt := 25) dX12_overlap_21 (by decide) ?_
    exact r_i dX12_overlap_25 rfl ⟨by first | (rw [if_pos (by omega)]; done) | (rw [if_neg (by omega)]; done), rfl⟩

theorem c_X12_taken {G : Gx} {σ0 σ : Sg} (hσ : σ = sI σ0 82 0 0) (hT : MT σ) (hI : MI σ 0) : Con G 6 mX12_taken [.ref (G.2.2.2 + 82)] σ0 (pI (pE σ (mCells (σ.1 86) (σ.1 87) (mF σ 0) (σ.1 84 1) (σ.1 84 0) 1))) := by
  refine e_entry om_X12_taken (Nat.le_of_ble_eq_true rfl) (L := [some (.ref (G.2.2.2 + 82))]) rfl ?_
  refine e_aload_n (q := 1) (i := 0) dX12_taken_0 rfl rfl rfl ?_
  refine e_iconst (q := 2) dX12_taken_1 rfl ?_
  refine e_putI (q := 5) (jz := 0) dX12_taken_2 rfl fp_X12_136 rfl (by first | assumption | rfl) rfl ?_
  rw [← hσ]
  refine e_aload_n (q := 6) (i := 0) dX12_taken_5 rfl rfl rfl ?_
  refine e_iconst (q := 7) dX12_taken_6 rfl ?_
  refine e_Vip (q := 10) (vs := [_]) ok_X12_cellsOf ml_X12_424 dX12_taken_7 rfl ⟨_, _, rfl⟩ (by first | assumption | rfl) rfl rfl (Nat.le_of_ble_eq_true rfl) (by decide) (c_X12_cellsOf hT hI ⟨by decide, by decide⟩) ?_
  exact r_i dX12_taken_10 rfl ⟨rfl, rfl⟩

theorem c_X12_disputed {G : Gx} {σ0 σ : Sg} (hσ : σ = sI σ0 82 0 0) (hT : MT σ) (hI : MI σ 0) : Con G 6 mX12_disputed [.ref (G.2.2.2 + 82)] σ0 (pI (pE σ (mCells (σ.1 86) (σ.1 87) (mF σ 0) (σ.1 84 1) (σ.1 84 0) 2))) := by
  refine e_entry om_X12_disputed (Nat.le_of_ble_eq_true rfl) (L := [some (.ref (G.2.2.2 + 82))]) rfl ?_
  refine e_aload_n (q := 1) (i := 0) dX12_disputed_0 rfl rfl rfl ?_
  refine e_iconst (q := 2) dX12_disputed_1 rfl ?_
  refine e_putI (q := 5) (jz := 0) dX12_disputed_2 rfl fp_X12_136 rfl (by first | assumption | rfl) rfl ?_
  rw [← hσ]
  refine e_aload_n (q := 6) (i := 0) dX12_disputed_5 rfl rfl rfl ?_
  refine e_iconst (q := 7) dX12_disputed_6 rfl ?_
  refine e_Vip (q := 10) (vs := [_]) ok_X12_cellsOf ml_X12_424 dX12_disputed_7 rfl ⟨_, _, rfl⟩ (by first | assumption | rfl) rfl rfl (Nat.le_of_ble_eq_true rfl) (by decide) (c_X12_cellsOf hT hI ⟨by decide, by decide⟩) ?_
  exact r_i dX12_disputed_10 rfl ⟨rfl, rfl⟩

theorem c_X12_isWet0 {G : Gx} {σ : Sg} {s : Int} (hT : MT σ) (hx : σ.1 82 44 = 0) : Con G 1 mX12_isWet [.ref (G.2.2.2 + 82), .int (iZ s), .int (iZ 0)] σ (pI (pE σ (if 50 ≤ σ.1 84 4 then 1 else 0))) := by
  obtain ⟨hzz, hnp, hnc, hnb, hrn, hsd, hrw, hrq, hch, hbt, hck⟩ := id hT
  refine e_entry om_X12_isWet (Nat.le_of_ble_eq_true rfl) (L := [some (.ref (G.2.2.2 + 82)), some (.int (iZ s)), some (.int (iZ 0)), none]) rfl ?_
  refine e_aload_n (q := 1) (i := 0) dX12_isWet_0 rfl rfl rfl ?_
  refine e_getI (q := 4) (jz := 44) dX12_isWet_1 rfl fg_X12_370 rfl (by first | assumption | rfl) rfl ?_
  refine e_iconst (q := 5) dX12_isWet_4 rfl ?_
  refine e_icmp_ne (q := 8) (tgt := 10) dX12_isWet_5 rfl (by decide) (fun c5 => ?_) (fun c5 => by exfalso; omega) (hx := ⟨by omega, by omega⟩)
  refine e_aload_n (q := 11) (i := 0) dX12_isWet_10 rfl rfl rfl ?_
  refine e_getI (q := 14) (jz := 44) dX12_isWet_11 rfl fg_X12_370 rfl (by first | assumption | rfl) rfl ?_
  refine e_iconst (q := 15) dX12_isWet_14 rfl ?_
  refine e_icmp_ne (q := 18) (tgt := 20) dX12_isWet_15 rfl (by decide) (fun c15 => ?_) (fun c15 => by exfalso; omega) (hx := ⟨by omega, by omega⟩)
  refine e_aload_n (q := 21) (i := 0) dX12_isWet_20 rfl rfl rfl ?_
  refine e_getR (q := 24) dX12_isWet_21 rfl fg_X12_13 (by first | assumption | rfl) rfl ?_
  refine e_iconst (q := 25) dX12_isWet_24 rfl ?_
  refine e_iald (q := 26) dX12_isWet_25 rfl (by first | assumption | rfl) ?_
  refine e_istore_n (q := 27) (i := 3) (L' := [_, _, _, _]) dX12_isWet_26 rfl rfl (by decide) rfl rfl ?_
  refine e_iload_n (q := 28) (i := 2) dX12_isWet_27 rfl rfl rfl ?_
  refine e_if_eq (q := 31) (tgt := 41) dX12_isWet_28 rfl (by decide) (fun c28 => ?_) (fun c28 => by exfalso; omega)
  refine e_iload_n (q := 42) (i := 3) dX12_isWet_41 rfl rfl rfl ?_
  refine e_bipush (q := 44) dX12_isWet_42 rfl (by decide) ?_
  refine e_icmp_lt (q := 47) (tgt := 51) dX12_isWet_44 rfl (by decide) (fun c44 => ?_) (fun c44 => ?_)
  · refine e_iconst (q := 52) dX12_isWet_51 rfl ?_
    exact r_z dX12_isWet_52 rfl (by first | exact Or.inl rfl | exact Or.inr rfl | omega) ⟨by split <;> omega, rfl⟩
  · refine e_iconst (q := 48) dX12_isWet_47 rfl ?_
    refine e_goto (tgt := 52) dX12_isWet_48 (by decide) ?_
    exact r_z dX12_isWet_52 rfl (by first | exact Or.inl rfl | exact Or.inr rfl | omega) ⟨by split <;> omega, rfl⟩

set_option maxHeartbeats 8000000 in
theorem c_X12_law {G : Gx} {σ0 σ : Sg} {x a b w : Int} (hσ : σ = sI σ0 82 0 0) (hT : MT σ) (hW : MW σ) (hI : MI σ 0) (hx44 : σ.1 82 44 = 0) (hx : R32 x) (ha : R32 a) (hb : R32 b) (hw : R32 w) : Con G 9 mX12_law [.ref (G.2.2.2 + 82), .int (iZ x), .int (iZ a), .int (iZ b), .int (iZ w)] σ0 (pL (fun z σ' => z = (if (x = 0 ∧ (0 ≤ a ∧ a < σ.1 84 2) ∧ (0 ≤ b ∧ b < σ.1 84 1) ∧ (0 ≤ w ∧ w < 4)) then mLaw σ 0 (nmF (mL σ 0 a) (σ.1 91 a) (mD σ 0 a) (mK σ 0 (4 * b + w)) (if 50 ≤ σ.1 84 4 then 1 else 0) (mF σ 0 (4 * b + w)) (σ.1 102 0)) else if (x = 1 ∧ ((0 ≤ a ∧ a < σ.1 84 1) ∧ (0 ≤ b ∧ b < σ.1 84 1) ∧ a ≠ b)) then mLaw σ 1 (nmF 0 0 0 0 (if 50 ≤ σ.1 84 4 then 1 else 0) (gOv (σ.1 86) (σ.1 87) (mF σ 0) a b) (σ.1 102 0)) else if (x = 2 ∧ (0 ≤ a ∧ a < σ.1 84 2)) then mLaw σ 2 (nmF (mL σ 0 a) (σ.1 91 a) (mD σ 0 a) 0 (if 50 ≤ σ.1 84 4 then 1 else 0) 0 (σ.1 102 0)) else -9223372036854775808) ∧ Fm [100, 101] [34] σ σ')) := by
  obtain ⟨hzz, hnp, hnc, hnb, hrn, hsd, hrw, hrq, hch, hbt, hck⟩ := id hT
  have fin : ∀ (τ : Sg) (L5 : Option Value) (V : Int) (nm : Int → Int), 0 ≤ x → x ≤ 2 → σ.1 96 x < σ.1 97 x → τ.1 = σ.1 → Fr [100] σ τ → (∀ i, 0 ≤ i → i < 7 → τ.2 100 i = nm i) → (∀ i, 0 ≤ i → i < 7 → -1000000000000 ≤ nm i ∧ nm i ≤ 1000000000000) → mLaw σ x nm = (if (x = 0 ∧ (0 ≤ a ∧ a < σ.1 84 2) ∧ (0 ≤ b ∧ b < σ.1 84 1) ∧ (0 ≤ w ∧ w < 4)) then mLaw σ 0 (nmF (mL σ 0 a) (σ.1 91 a) (mD σ 0 a) (mK σ 0 (4 * b + w)) (if 50 ≤ σ.1 84 4 then 1 else 0) (mF σ 0 (4 * b + w)) (σ.1 102 0)) else if (x = 1 ∧ ((0 ≤ a ∧ a < σ.1 84 1) ∧ (0 ≤ b ∧ b < σ.1 84 1) ∧ a ≠ b)) then mLaw σ 1 (nmF 0 0 0 0 (if 50 ≤ σ.1 84 4 then 1 else 0) (gOv (σ.1 86) (σ.1 87) (mF σ 0) a b) (σ.1 102 0)) else if (x = 2 ∧ (0 ≤ a ∧ a < σ.1 84 2)) then mLaw σ 2 (nmF (mL σ 0 a) (σ.1 91 a) (mD σ 0 a) 0 (if 50 ≤ σ.1 84 4 then 1 else 0) 0 (σ.1 102 0)) else -9223372036854775808) → J G 9 mX12_law (pL (fun z σ' => z = (if (x = 0 ∧ (0 ≤ a ∧ a < σ.1 84 2) ∧ (0 ≤ b ∧ b < σ.1 84 1) ∧ (0 ≤ w ∧ w < 4)) then mLaw σ 0 (nmF (mL σ 0 a) (σ.1 91 a) (mD σ 0 a) (mK σ 0 (4 * b + w)) (if 50 ≤ σ.1 84 4 then 1 else 0) (mF σ 0 (4 * b + w)) (σ.1 102 0)) else if (x = 1 ∧ ((0 ≤ a ∧ a < σ.1 84 1) ∧ (0 ≤ b ∧ b < σ.1 84 1) ∧ a ≠ b)) then mLaw σ 1 (nmF 0 0 0 0 (if 50 ≤ σ.1 84 4 then 1 else 0) (gOv (σ.1 86) (σ.1 87) (mF σ 0) a b) (σ.1 102 0)) else if (x = 2 ∧ (0 ≤ a ∧ a < σ.1 84 2)) then mLaw σ 2 (nmF (mL σ 0 a) (σ.1 91 a) (mD σ 0 a) 0 (if 50 ≤ σ.1 84 4 then 1 else 0) 0 (σ.1 102 0)) else -9223372036854775808) ∧ Fm [100, 101] [34] σ σ')) τ 160 [some (.ref (G.2.2.2 + 82)), some (.int (iZ x)), some (.int (iZ a)), some (.int (iZ b)), some (.int (iZ w)), L5] [] := by
    intro τ L5 V nm hx0 hx2 hlt hE hFr hNm hlm hV
    have hFm : Fm [100, 101] [34] σ τ := ⟨hFr.mono (by decide), fun j _ => by rw [hE]⟩
    have hW1 := hW.fr hFm nc_96
    have e1 : mLaw τ x (τ.2 100) = mLaw σ x nm := by rw [mLaw.fr hFm nc_96]; exact mLaw_nm hNm x
    refine e_aload_n (q := 161) (i := 0) dX12_law_160 rfl rfl rfl ?_
    refine e_iload_n (q := 162) (i := 1) dX12_law_161 rfl rfl rfl ?_
    refine e_Vi (q := 165) (vs := [_]) ok_X12_goes ml_X12_352 dX12_law_162 rfl ⟨_, _, rfl⟩ (by first | assumption | rfl) rfl rfl (Nat.le_of_ble_eq_true rfl) (by decide) (c_X12_goes hW1 hx0 (by omega) (by rw [hE]; exact hlt) (fun i p q => by rw [hNm i p q]; exact hlm i p q)) (fun z162 s162 h162 => ?_)
    refine e_if_eq (q := 168) (tgt := 177) dX12_law_165 rfl (by decide) (fun c165 => ?_) (fun c165 => ?_) (hx := ⟨by omega, by omega⟩)
    · refine e_ldc2 (q := 180) (z := -9223372036854775808) dX12_law_177 rfl kw_X12_429 (by decide) ?_
      exact r_l dX12_law_180 rfl ⟨by rw [← hV, ← e1]; rcases h162.1 with q | q; omega; exact q.2.symm, hFm.tr (h162.2.mono (by decide) (by decide))⟩
    · refine e_aload_n (q := 169) (i := 0) dX12_law_168 rfl rfl rfl ?_
      refine e_getR (q := 172) dX12_law_169 rfl fg_X12_69 (by first | assumption | rfl) rfl ?_
      refine e_iconst (q := 173) dX12_law_172 rfl ?_
      refine e_lald (q := 174) dX12_law_173 rfl (by first | assumption | rfl) ?_
      have hz1 : s162.2 101 0 = mLaw τ x (τ.2 100) := by rcases h162.1 with q | q; exact q.2.1; omega
      rw [hz1]
      refine e_goto (tgt := 180) dX12_law_174 (by decide) ?_
      exact r_l dX12_law_180 rfl ⟨by rw [← hV, ← e1], hFm.tr (h162.2.mono (by decide) (by decide))⟩
  refine e_entry om_X12_law (Nat.le_of_ble_eq_true rfl) (L := [some (.ref (G.2.2.2 + 82)), some (.int (iZ x)), some (.int (iZ a)), some (.int (iZ b)), some (.int (iZ w)), none]) rfl ?_
  refine e_aload_n (q := 1) (i := 0) dX12_law_0 rfl rfl rfl ?_
  refine e_iconst (q := 2) dX12_law_1 rfl ?_
  refine e_putI (q := 5) (jz := 0) dX12_law_2 rfl fp_X12_136 rfl (by first | assumption | rfl) rfl ?_
  rw [← hσ]
  refine e_iload_n (q := 6) (i := 1) dX12_law_5 rfl rfl rfl ?_
  refine e_if_lt (q := 9) (tgt := 22) dX12_law_6 rfl (by decide) (fun c6 => ?_) (fun c6 => ?_)
  · have hno : (if (x = 0 ∧ (0 ≤ a ∧ a < σ.1 84 2) ∧ (0 ≤ b ∧ b < σ.1 84 1) ∧ (0 ≤ w ∧ w < 4)) then mLaw σ 0 (nmF (mL σ 0 a) (σ.1 91 a) (mD σ 0 a) (mK σ 0 (4 * b + w)) (if 50 ≤ σ.1 84 4 then 1 else 0) (mF σ 0 (4 * b + w)) (σ.1 102 0)) else if (x = 1 ∧ ((0 ≤ a ∧ a < σ.1 84 1) ∧ (0 ≤ b ∧ b < σ.1 84 1) ∧ a ≠ b)) then mLaw σ 1 (nmF 0 0 0 0 (if 50 ≤ σ.1 84 4 then 1 else 0) (gOv (σ.1 86) (σ.1 87) (mF σ 0) a b) (σ.1 102 0)) else if (x = 2 ∧ (0 ≤ a ∧ a < σ.1 84 2)) then mLaw σ 2 (nmF (mL σ 0 a) (σ.1 91 a) (mD σ 0 a) 0 (if 50 ≤ σ.1 84 4 then 1 else 0) 0 (σ.1 102 0)) else -9223372036854775808) = -9223372036854775808 := by
      by_cases h0 : (x = 0 ∧ (0 ≤ a ∧ a < σ.1 84 2) ∧ (0 ≤ b ∧ b < σ.1 84 1) ∧ (0 ≤ w ∧ w < 4))
      · rw [if_pos h0]; exact mLaw_no hW (by decide) (by decide) (by exfalso; omega) _
      rw [if_neg h0]
      by_cases h1 : (x = 1 ∧ ((0 ≤ a ∧ a < σ.1 84 1) ∧ (0 ≤ b ∧ b < σ.1 84 1) ∧ a ≠ b))
      · rw [if_pos h1]; exact mLaw_no hW (by decide) (by decide) (by exfalso; omega) _
      rw [if_neg h1]
      by_cases h2 : (x = 2 ∧ (0 ≤ a ∧ a < σ.1 84 2))
      · rw [if_pos h2]; exact mLaw_no hW (by decide) (by decide) (by exfalso; omega) _
      rw [if_neg h2]
    refine e_ldc2 (q := 25) (z := -9223372036854775808) dX12_law_22 rfl kw_X12_429 (by decide) ?_
    exact r_l dX12_law_25 rfl ⟨hno.symm, Fm.rf _ _ _⟩
  · refine e_iload_n (q := 10) (i := 1) dX12_law_9 rfl rfl rfl ?_
    refine e_iconst (q := 11) dX12_law_10 rfl ?_
    refine e_icmp_gt (q := 14) (tgt := 22) dX12_law_11 rfl (by decide) (fun c11 => ?_) (fun c11 => ?_)
    · have hno : (if (x = 0 ∧ (0 ≤ a ∧ a < σ.1 84 2) ∧ (0 ≤ b ∧ b < σ.1 84 1) ∧ (0 ≤ w ∧ w < 4)) then mLaw σ 0 (nmF (mL σ 0 a) (σ.1 91 a) (mD σ 0 a) (mK σ 0 (4 * b + w)) (if 50 ≤ σ.1 84 4 then 1 else 0) (mF σ 0 (4 * b + w)) (σ.1 102 0)) else if (x = 1 ∧ ((0 ≤ a ∧ a < σ.1 84 1) ∧ (0 ≤ b ∧ b < σ.1 84 1) ∧ a ≠ b)) then mLaw σ 1 (nmF 0 0 0 0 (if 50 ≤ σ.1 84 4 then 1 else 0) (gOv (σ.1 86) (σ.1 87) (mF σ 0) a b) (σ.1 102 0)) else if (x = 2 ∧ (0 ≤ a ∧ a < σ.1 84 2)) then mLaw σ 2 (nmF (mL σ 0 a) (σ.1 91 a) (mD σ 0 a) 0 (if 50 ≤ σ.1 84 4 then 1 else 0) 0 (σ.1 102 0)) else -9223372036854775808) = -9223372036854775808 := by
        by_cases h0 : (x = 0 ∧ (0 ≤ a ∧ a < σ.1 84 2) ∧ (0 ≤ b ∧ b < σ.1 84 1) ∧ (0 ≤ w ∧ w < 4))
        · rw [if_pos h0]; exact mLaw_no hW (by decide) (by decide) (by exfalso; omega) _
        rw [if_neg h0]
        by_cases h1 : (x = 1 ∧ ((0 ≤ a ∧ a < σ.1 84 1) ∧ (0 ≤ b ∧ b < σ.1 84 1) ∧ a ≠ b))
        · rw [if_pos h1]; exact mLaw_no hW (by decide) (by decide) (by exfalso; omega) _
        rw [if_neg h1]
        by_cases h2 : (x = 2 ∧ (0 ≤ a ∧ a < σ.1 84 2))
        · rw [if_pos h2]; exact mLaw_no hW (by decide) (by decide) (by exfalso; omega) _
        rw [if_neg h2]
      refine e_ldc2 (q := 25) (z := -9223372036854775808) dX12_law_22 rfl kw_X12_429 (by decide) ?_
      exact r_l dX12_law_25 rfl ⟨hno.symm, Fm.rf _ _ _⟩
    · refine e_aload_n (q := 15) (i := 0) dX12_law_14 rfl rfl rfl ?_
      refine e_iload_n (q := 16) (i := 1) dX12_law_15 rfl rfl rfl ?_
      refine e_Vip (q := 19) (vs := [_]) ok_X12_hasLaw ml_X12_349 dX12_law_16 rfl ⟨_, _, rfl⟩ (by first | assumption | rfl) rfl rfl (Nat.le_of_ble_eq_true rfl) (by decide) (c_X12_hasLaw hW (by omega) (by omega)) ?_
      refine e_if_ne (q := 22) (tgt := 26) dX12_law_19 rfl (by decide) (fun c19 => ?_) (fun c19 => ?_) (hx := ⟨by split <;> omega, by split <;> omega⟩)
      · have hlt : σ.1 96 x < σ.1 97 x := by
          by_cases q : σ.1 96 x < σ.1 97 x
          · exact q
          · rw [if_neg q] at c19; exact absurd rfl c19
        have hw01 : (if 50 ≤ σ.1 84 4 then (1 : Int) else 0) = 0 ∨ (if 50 ≤ σ.1 84 4 then (1 : Int) else 0) = 1 := by split <;> simp
        refine e_aload_n (q := 27) (i := 0) dX12_law_26 rfl rfl rfl ?_
        refine e_iconst (q := 28) dX12_law_27 rfl ?_
        refine e_iconst (q := 29) dX12_law_28 rfl ?_
        refine e_Vip (q := 32) (vs := [_, _]) ok_X12_isWet ml_X12_384 dX12_law_29 rfl ⟨_, _, rfl⟩ (by first | assumption | rfl) rfl rfl (Nat.le_of_ble_eq_true rfl) (by decide) (c_X12_isWet0 hT hx44) ?_
        refine e_istore (q := 34) (L' := [_, _, _, _, _, _]) dX12_law_32 rfl (by decide) rfl rfl ?_
        refine e_iload_n (q := 35) (i := 1) dX12_law_34 rfl rfl rfl ?_
        refine e_if_ne (q := 38) (tgt := 101) dX12_law_35 rfl (by decide) (fun c35 => ?_) (fun c35 => ?_)
        · refine e_iload_n (q := 102) (i := 1) dX12_law_101 rfl rfl rfl ?_
          refine e_iconst (q := 103) dX12_law_102 rfl ?_
          refine e_icmp_ne (q := 106) (tgt := 138) dX12_law_103 rfl (by decide) (fun c103 => ?_) (fun c103 => ?_)
          · refine e_aload_n (q := 139) (i := 0) dX12_law_138 rfl rfl rfl ?_
            refine e_iload_n (q := 140) (i := 2) dX12_law_139 rfl rfl rfl ?_
            refine e_Vip (q := 143) (vs := [_]) ok_X12_isChild ml_X12_402 dX12_law_140 rfl ⟨_, _, rfl⟩ (by first | assumption | rfl) rfl rfl (Nat.le_of_ble_eq_true rfl) (by decide) (c_X12_isChild hT (by assumption)) ?_
            refine e_if_ne (q := 146) (tgt := 150) dX12_law_143 rfl (by decide) (fun c143 => ?_) (fun c143 => ?_)
            · have hl6 := hI.2.1 a (by omega) (by omega)
              have hmd := hch a (by omega) (by omega)
              have hye := hI.2.2.2.1
              refine e_aload_n (q := 151) (i := 0) dX12_law_150 rfl rfl rfl ?_
              refine e_iconst (q := 152) dX12_law_151 rfl ?_
              refine e_iload_n (q := 153) (i := 2) dX12_law_152 rfl rfl rfl ?_
              refine e_iconst (q := 154) dX12_law_153 rfl ?_
              refine e_iload (q := 156) dX12_law_154 rfl rfl ?_
              refine e_iconst (q := 157) dX12_law_156 rfl ?_
              refine e_Vv (q := 160) (vs := [_, _, _, _, _]) ok_X12_calls ml_X12_360 dX12_law_157 rfl ⟨_, _, rfl⟩ (by first | assumption | rfl) rfl rfl (Nat.le_of_ble_eq_true rfl) (by decide) (c_X12_callsC hT hI (by decide) (by decide) (by omega) (by omega) ⟨by decide, by decide⟩ hw01 ⟨by decide, by decide⟩) (fun s157 h157 => ?_)
              exact fin _ _ 0 _ (by omega) (by omega) hlt h157.1 h157.2.1 h157.2.2 (nmF_lim ⟨⟨by omega, by omega⟩, ⟨by omega, by omega⟩, ⟨by omega, by omega⟩, ⟨by omega, by omega⟩, ⟨by omega, by omega⟩, ⟨by omega, by omega⟩, ⟨by omega, by omega⟩⟩) (by rw [if_neg (show ¬ (x = 0 ∧ (0 ≤ a ∧ a < σ.1 84 2) ∧ (0 ≤ b ∧ b < σ.1 84 1) ∧ (0 ≤ w ∧ w < 4)) by omega), if_neg (show ¬ (x = 1 ∧ ((0 ≤ a ∧ a < σ.1 84 1) ∧ (0 ≤ b ∧ b < σ.1 84 1) ∧ a ≠ b)) by omega), if_pos (show (x = 2 ∧ (0 ≤ a ∧ a < σ.1 84 2)) by omega), show x = 2 by omega])
            · refine e_ldc2 (q := 149) (z := -9223372036854775808) dX12_law_146 rfl kw_X12_429 (by decide) ?_
              exact r_l dX12_law_149 rfl ⟨by rw [if_neg (show ¬ (x = 0 ∧ (0 ≤ a ∧ a < σ.1 84 2) ∧ (0 ≤ b ∧ b < σ.1 84 1) ∧ (0 ≤ w ∧ w < 4)) by omega), if_neg (show ¬ (x = 1 ∧ ((0 ≤ a ∧ a < σ.1 84 1) ∧ (0 ≤ b ∧ b < σ.1 84 1) ∧ a ≠ b)) by omega), if_neg (show ¬ (x = 2 ∧ (0 ≤ a ∧ a < σ.1 84 2)) by omega)], Fm.rf _ _ _⟩
          · refine e_aload_n (q := 107) (i := 0) dX12_law_106 rfl rfl rfl ?_
            refine e_iload_n (q := 108) (i := 2) dX12_law_107 rfl rfl rfl ?_
            refine e_iload_n (q := 109) (i := 3) dX12_law_108 rfl rfl rfl ?_
            refine e_Vip (q := 112) (vs := [_, _]) ok_X12_areTwo ml_X12_418 dX12_law_109 rfl ⟨_, _, rfl⟩ (by first | assumption | rfl) rfl rfl (Nat.le_of_ble_eq_true rfl) (by decide) (c_X12_areTwo hT (by assumption) (by assumption)) ?_
            refine e_if_ne (q := 115) (tgt := 119) dX12_law_112 rfl (by decide) (fun c112 => ?_) (fun c112 => ?_)
            · refine e_aload_n (q := 120) (i := 0) dX12_law_119 rfl rfl rfl ?_
              refine e_iconst (q := 121) dX12_law_120 rfl ?_
              refine e_iconst (q := 122) dX12_law_121 rfl ?_
              refine e_iconst (q := 123) dX12_law_122 rfl ?_
              refine e_iload (q := 125) dX12_law_123 rfl rfl ?_
              refine e_aload_n (q := 126) (i := 0) dX12_law_125 rfl rfl rfl ?_
              refine e_iconst (q := 127) dX12_law_126 rfl ?_
              refine e_iload_n (q := 128) (i := 2) dX12_law_127 rfl rfl rfl ?_
              refine e_iload_n (q := 129) (i := 3) dX12_law_128 rfl rfl rfl ?_
              refine e_Vip (q := 132) (vs := [_, _, _]) ok_X12_overlapOf ml_X12_342 dX12_law_129 rfl ⟨_, _, rfl⟩ (by first | assumption | rfl) rfl rfl (Nat.le_of_ble_eq_true rfl) (by decide) (c_X12_overlapOf hT hI (by decide) (by decide) (by omega) (by omega) (by omega) (by omega)) ?_
              have hov := mOv_in (p := a) (q := b) hT hI (by decide) (by decide) (by omega) (by omega) (by omega) (by omega)
              have hye := hI.2.2.2.1
              refine e_Vv (q := 135) (vs := [_, _, _, _, _]) ok_X12_calls ml_X12_360 dX12_law_132 rfl ⟨_, _, rfl⟩ (by first | assumption | rfl) rfl rfl (Nat.le_of_ble_eq_true rfl) (by decide) (c_X12_callsN hT hI (by decide) (by decide) ⟨by decide, by decide⟩ hw01 ⟨by omega, by omega⟩) (fun s132 h132 => ?_)
              refine e_goto (tgt := 160) dX12_law_135 (by decide) ?_
              exact fin _ _ 0 _ (by omega) (by omega) hlt h132.1 h132.2.1 h132.2.2 (nmF_lim ⟨⟨by omega, by omega⟩, ⟨by omega, by omega⟩, ⟨by omega, by omega⟩, ⟨by omega, by omega⟩, ⟨by omega, by omega⟩, ⟨by omega, by omega⟩, ⟨by omega, by omega⟩⟩) (by rw [if_neg (show ¬ (x = 0 ∧ (0 ≤ a ∧ a < σ.1 84 2) ∧ (0 ≤ b ∧ b < σ.1 84 1) ∧ (0 ≤ w ∧ w < 4)) by omega), if_pos (show (x = 1 ∧ ((0 ≤ a ∧ a < σ.1 84 1) ∧ (0 ≤ b ∧ b < σ.1 84 1) ∧ a ≠ b)) by omega), c103])
            · refine e_ldc2 (q := 118) (z := -9223372036854775808) dX12_law_115 rfl kw_X12_429 (by decide) ?_
              exact r_l dX12_law_118 rfl ⟨by rw [if_neg (show ¬ (x = 0 ∧ (0 ≤ a ∧ a < σ.1 84 2) ∧ (0 ≤ b ∧ b < σ.1 84 1) ∧ (0 ≤ w ∧ w < 4)) by omega), if_neg (show ¬ (x = 1 ∧ ((0 ≤ a ∧ a < σ.1 84 1) ∧ (0 ≤ b ∧ b < σ.1 84 1) ∧ a ≠ b)) by omega), if_neg (show ¬ (x = 2 ∧ (0 ≤ a ∧ a < σ.1 84 2)) by omega)], Fm.rf _ _ _⟩
        · refine e_aload_n (q := 39) (i := 0) dX12_law_38 rfl rfl rfl ?_
          refine e_iload_n (q := 40) (i := 2) dX12_law_39 rfl rfl rfl ?_
          refine e_Vip (q := 43) (vs := [_]) ok_X12_isChild ml_X12_402 dX12_law_40 rfl ⟨_, _, rfl⟩ (by first | assumption | rfl) rfl rfl (Nat.le_of_ble_eq_true rfl) (by decide) (c_X12_isChild hT (by assumption)) ?_
          refine e_if_eq (q := 46) (tgt := 62) dX12_law_43 rfl (by decide) (fun c43 => ?_) (fun c43 => ?_)
          · refine e_ldc2 (q := 65) (z := -9223372036854775808) dX12_law_62 rfl kw_X12_429 (by decide) ?_
            exact r_l dX12_law_65 rfl ⟨by rw [if_neg (show ¬ (x = 0 ∧ (0 ≤ a ∧ a < σ.1 84 2) ∧ (0 ≤ b ∧ b < σ.1 84 1) ∧ (0 ≤ w ∧ w < 4)) by omega), if_neg (show ¬ (x = 1 ∧ ((0 ≤ a ∧ a < σ.1 84 1) ∧ (0 ≤ b ∧ b < σ.1 84 1) ∧ a ≠ b)) by omega), if_neg (show ¬ (x = 2 ∧ (0 ≤ a ∧ a < σ.1 84 2)) by omega)], Fm.rf _ _ _⟩
          · refine e_aload_n (q := 47) (i := 0) dX12_law_46 rfl rfl rfl ?_
            refine e_iload_n (q := 48) (i := 3) dX12_law_47 rfl rfl rfl ?_
            refine e_Vip (q := 51) (vs := [_]) ok_X12_isParish ml_X12_396 dX12_law_48 rfl ⟨_, _, rfl⟩ (by first | assumption | rfl) rfl rfl (Nat.le_of_ble_eq_true rfl) (by decide) (c_X12_isParish hT (by assumption)) ?_
            refine e_if_eq (q := 54) (tgt := 62) dX12_law_51 rfl (by decide) (fun c51 => ?_) (fun c51 => ?_)
            · refine e_ldc2 (q := 65) (z := -9223372036854775808) dX12_law_62 rfl kw_X12_429 (by decide) ?_
              exact r_l dX12_law_65 rfl ⟨by rw [if_neg (show ¬ (x = 0 ∧ (0 ≤ a ∧ a < σ.1 84 2) ∧ (0 ≤ b ∧ b < σ.1 84 1) ∧ (0 ≤ w ∧ w < 4)) by omega), if_neg (show ¬ (x = 1 ∧ ((0 ≤ a ∧ a < σ.1 84 1) ∧ (0 ≤ b ∧ b < σ.1 84 1) ∧ a ≠ b)) by omega), if_neg (show ¬ (x = 2 ∧ (0 ≤ a ∧ a < σ.1 84 2)) by omega)], Fm.rf _ _ _⟩
            · refine e_iload (q := 56) dX12_law_54 rfl rfl ?_
              refine e_Sip (q := 59) (vs := [_]) ok_X12_isWay ml_X12_405 dX12_law_56 rfl rfl rfl (Nat.le_of_ble_eq_true rfl) (by decide) (c_X12_isWay (by assumption)) ?_
              refine e_if_ne (q := 62) (tgt := 66) dX12_law_59 rfl (by decide) (fun c59 => ?_) (fun c59 => ?_)
              · have hf4 := hI.1 (4 * b + w) (by omega) (by omega)
                have e105 : σ.1 105 (16 * 0 + (4 * b + w)) = mF σ 0 (4 * b + w) := rfl
                have e106 : σ.1 106 (16 * 0 + (4 * b + w)) = mK σ 0 (4 * b + w) := rfl
                have hl6 := hI.2.1 a (by omega) (by omega)
                have hmd := hch a (by omega) (by omega)
                have hye := hI.2.2.2.1
                refine e_aload_n (q := 67) (i := 0) dX12_law_66 rfl rfl rfl ?_
                refine e_iconst (q := 68) dX12_law_67 rfl ?_
                refine e_iload_n (q := 69) (i := 2) dX12_law_68 rfl rfl rfl ?_
                refine e_aload_n (q := 70) (i := 0) dX12_law_69 rfl rfl rfl ?_
                refine e_getR (q := 73) dX12_law_70 rfl fg_X12_84 (by first | assumption | rfl) rfl ?_
                refine e_iconst (q := 74) dX12_law_73 rfl ?_
                refine e_iload_n (q := 75) (i := 3) dX12_law_74 rfl rfl rfl ?_
                refine e_iload (q := 77) dX12_law_75 rfl rfl ?_
                refine e_Sip (q := 80) (vs := [_, _, _]) ok_X12_slot ml_X12_322 dX12_law_77 rfl rfl rfl (Nat.le_of_ble_eq_true rfl) (by decide) (c_X12_slot (t := 16 * 0 + (4 * b + w)) (by omega)) ?_
                refine e_iald (q := 81) dX12_law_80 rfl (by first | assumption | rfl) ?_
                refine e_iload (q := 83) dX12_law_81 rfl rfl ?_
                refine e_aload_n (q := 84) (i := 0) dX12_law_83 rfl rfl rfl ?_
                refine e_getR (q := 87) dX12_law_84 rfl fg_X12_81 (by first | assumption | rfl) rfl ?_
                refine e_iconst (q := 88) dX12_law_87 rfl ?_
                refine e_iload_n (q := 89) (i := 3) dX12_law_88 rfl rfl rfl ?_
                refine e_iload (q := 91) dX12_law_89 rfl rfl ?_
                refine e_Sip (q := 94) (vs := [_, _, _]) ok_X12_slot ml_X12_322 dX12_law_91 rfl rfl rfl (Nat.le_of_ble_eq_true rfl) (by decide) (c_X12_slot (t := 16 * 0 + (4 * b + w)) (by omega)) ?_
                refine e_iald (q := 95) dX12_law_94 rfl (by first | assumption | rfl) ?_
                refine e_Vv (q := 98) (vs := [_, _, _, _, _]) ok_X12_calls ml_X12_360 dX12_law_95 rfl ⟨_, _, rfl⟩ (by first | assumption | rfl) rfl rfl (Nat.le_of_ble_eq_true rfl) (by decide) (c_X12_callsC hT hI (by decide) (by decide) (by omega) (by omega) ⟨by omega, by omega⟩ hw01 ⟨by omega, by omega⟩) (fun s95 h95 => ?_)
                refine e_goto (tgt := 160) dX12_law_98 (by decide) ?_
                exact fin _ _ 0 _ (by omega) (by omega) hlt h95.1 h95.2.1 h95.2.2 (nmF_lim ⟨⟨by omega, by omega⟩, ⟨by omega, by omega⟩, ⟨by omega, by omega⟩, ⟨by omega, by omega⟩, ⟨by omega, by omega⟩, ⟨by omega, by omega⟩, ⟨by omega, by omega⟩⟩) (by rw [if_pos (show (x = 0 ∧ (0 ≤ a ∧ a < σ.1 84 2) ∧ (0 ≤ b ∧ b < σ.1 84 1) ∧ (0 ≤ w ∧ w < 4)) by omega), c35]; rfl)
              · refine e_ldc2 (q := 65) (z := -9223372036854775808) dX12_law_62 rfl kw_X12_429 (by decide) ?_
                exact r_l dX12_law_65 rfl ⟨by rw [if_neg (show ¬ (x = 0 ∧ (0 ≤ a ∧ a < σ.1 84 2) ∧ (0 ≤ b ∧ b < σ.1 84 1) ∧ (0 ≤ w ∧ w < 4)) by omega), if_neg (show ¬ (x = 1 ∧ ((0 ≤ a ∧ a < σ.1 84 1) ∧ (0 ≤ b ∧ b < σ.1 84 1) ∧ a ≠ b)) by omega), if_neg (show ¬ (x = 2 ∧ (0 ≤ a ∧ a < σ.1 84 2)) by omega)], Fm.rf _ _ _⟩
      · have hnl : ¬ σ.1 96 x < σ.1 97 x := fun q => by rw [if_pos q] at c19; omega
        have hno : (if (x = 0 ∧ (0 ≤ a ∧ a < σ.1 84 2) ∧ (0 ≤ b ∧ b < σ.1 84 1) ∧ (0 ≤ w ∧ w < 4)) then mLaw σ 0 (nmF (mL σ 0 a) (σ.1 91 a) (mD σ 0 a) (mK σ 0 (4 * b + w)) (if 50 ≤ σ.1 84 4 then 1 else 0) (mF σ 0 (4 * b + w)) (σ.1 102 0)) else if (x = 1 ∧ ((0 ≤ a ∧ a < σ.1 84 1) ∧ (0 ≤ b ∧ b < σ.1 84 1) ∧ a ≠ b)) then mLaw σ 1 (nmF 0 0 0 0 (if 50 ≤ σ.1 84 4 then 1 else 0) (gOv (σ.1 86) (σ.1 87) (mF σ 0) a b) (σ.1 102 0)) else if (x = 2 ∧ (0 ≤ a ∧ a < σ.1 84 2)) then mLaw σ 2 (nmF (mL σ 0 a) (σ.1 91 a) (mD σ 0 a) 0 (if 50 ≤ σ.1 84 4 then 1 else 0) 0 (σ.1 102 0)) else -9223372036854775808) = -9223372036854775808 := by
          by_cases h0 : (x = 0 ∧ (0 ≤ a ∧ a < σ.1 84 2) ∧ (0 ≤ b ∧ b < σ.1 84 1) ∧ (0 ≤ w ∧ w < 4))
          · rw [if_pos h0]; exact mLaw_no hW (by decide) (by decide) (by rw [← h0.1]; exact hnl) _
          rw [if_neg h0]
          by_cases h1 : (x = 1 ∧ ((0 ≤ a ∧ a < σ.1 84 1) ∧ (0 ≤ b ∧ b < σ.1 84 1) ∧ a ≠ b))
          · rw [if_pos h1]; exact mLaw_no hW (by decide) (by decide) (by rw [← h1.1]; exact hnl) _
          rw [if_neg h1]
          by_cases h2 : (x = 2 ∧ (0 ≤ a ∧ a < σ.1 84 2))
          · rw [if_pos h2]; exact mLaw_no hW (by decide) (by decide) (by rw [← h2.1]; exact hnl) _
          rw [if_neg h2]
        refine e_ldc2 (q := 25) (z := -9223372036854775808) dX12_law_22 rfl kw_X12_429 (by decide) ?_
        exact r_l dX12_law_25 rfl ⟨hno.symm, Fm.rf _ _ _⟩

