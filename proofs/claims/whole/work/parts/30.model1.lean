/-! ===== the reference's cells: 82 itself, tape 83, number 84 (0 size 1 parishes 2 children 3 beatings 4 rain 5 seed 6 knots; from 7 on the draft's), 85 names, 86 rows, 87 columns, 88 cakes told, 89 names, 90 legs, 91 mood, 92 parish 93 child 94 way 95 year of beatings, 96 from 97 to 98 sort 99 value of knots, 100 names 101 worked, 102 year 103 drawn 104 quarrel 105 far 106 cake 107 legs 108 tired of 23 lands ===== -/
def mF (σ : Sg) (s : Int) : Int → Int := fun i => σ.1 105 (16 * s + i)
def mK (σ : Sg) (s : Int) : Int → Int := fun i => σ.1 106 (16 * s + i)
def mL (σ : Sg) (s : Int) : Int → Int := fun i => σ.1 107 (6 * s + i)
def mD (σ : Sg) (s : Int) : Int → Int := fun i => σ.1 108 (6 * s + i)
/-- what holds of the reference's text -/
def MT (σ : Sg) : Prop := (5 ≤ σ.1 84 0 ∧ σ.1 84 0 ≤ 40) ∧ (0 ≤ σ.1 84 1 ∧ σ.1 84 1 ≤ 4) ∧ (0 ≤ σ.1 84 2 ∧ σ.1 84 2 ≤ 6) ∧ (0 ≤ σ.1 84 3 ∧ σ.1 84 3 ≤ 12) ∧ (0 ≤ σ.1 84 4 ∧ σ.1 84 4 ≤ 100) ∧ (0 ≤ σ.1 84 5 ∧ σ.1 84 5 ≤ 99999)
  ∧ (∀ i, 0 ≤ i → i < 4 → 0 ≤ σ.1 86 i ∧ σ.1 86 i ≤ 39 ∧ 0 ≤ σ.1 87 i ∧ σ.1 87 i ≤ 39 ∧ R32 (σ.1 85 i)) ∧ (∀ i, 0 ≤ i → i < σ.1 84 1 → σ.1 86 i < σ.1 84 0 ∧ σ.1 87 i < σ.1 84 0)
  ∧ (∀ i, 0 ≤ i → i < 6 → 0 ≤ σ.1 90 i ∧ σ.1 90 i ≤ 30 ∧ 0 ≤ σ.1 91 i ∧ σ.1 91 i ≤ 9 ∧ R32 (σ.1 89 i))
  ∧ (∀ i, 0 ≤ i → i < 12 → 0 ≤ σ.1 92 i ∧ σ.1 92 i ≤ 3 ∧ 0 ≤ σ.1 93 i ∧ σ.1 93 i ≤ 5 ∧ 0 ≤ σ.1 94 i ∧ σ.1 94 i ≤ 3 ∧ 0 ≤ σ.1 95 i ∧ σ.1 95 i ≤ 99)
  ∧ (∀ i, 0 ≤ i → i < 16 → 0 ≤ σ.1 88 i ∧ σ.1 88 i ≤ 9)
/-- what holds of one of its lands -/
def MI (σ : Sg) (s : Int) : Prop := (∀ i, 0 ≤ i → i < 16 → 0 ≤ mF σ s i ∧ mF σ s i ≤ 39 ∧ 0 ≤ mK σ s i ∧ mK σ s i ≤ 9) ∧ (∀ i, 0 ≤ i → i < 6 → 0 ≤ mL σ s i ∧ mL σ s i ≤ 30 ∧ 0 ≤ mD σ s i ∧ mD σ s i ≤ 99)
  ∧ (0 ≤ σ.1 104 s ∧ σ.1 104 s ≤ 99999) ∧ (0 ≤ σ.1 102 s ∧ σ.1 102 s ≤ 100000) ∧ (0 ≤ σ.1 103 s ∧ σ.1 103 s ≤ 2147483647)
def mSide (σ : Sg) (s p w : Int) : Int := if w = 0 then gTop (σ.1 86) (mF σ s) p else if w = 1 then gBot (σ.1 86) (mF σ s) p else if w = 2 then gLft (σ.1 87) (mF σ s) p else gRgt (σ.1 87) (mF σ s) p
theorem mSide_in {σ : Sg} {s p : Int} (hT : MT σ) (hI : MI σ s) (h0 : 0 ≤ p) (h4 : p < 4) (w : Int) : -39 ≤ mSide σ s p w ∧ mSide σ s p w ≤ 78 := by
  obtain ⟨-, -, -, -, -, -, h3, -⟩ := hT
  have a := h3 p h0 h4
  have b0 := hI.1 (4 * p) (by omega) (by omega)
  have b1 := hI.1 (4 * p + 1) (by omega) (by omega)
  have b2 := hI.1 (4 * p + 2) (by omega) (by omega)
  have b3 := hI.1 (4 * p + 3) (by omega) (by omega)
  unfold mSide gTop gBot gLft gRgt
  split
  · omega
  split
  · omega
  split <;> omega
theorem iZ_or0 (x : Int) : iZ x ||| iZ 0 = iZ x := by
  have : iZ 0 = 0 := by decide
  rw [this, Int32.or_zero]

theorem c_X12_isParish {G : Gx} {σ : Sg} {p : Int} (hT : MT σ) (hp : R32 p) : Con G 1 mX12_isParish [.ref (G.2.2.2 + 82), .int (iZ p)] σ (pI (pE σ (if (0 ≤ p ∧ p < σ.1 84 1) then 1 else 0))) := by
  obtain ⟨hzz, hnp, hnc, hnb, hrn, hsd, hrw, hrq, hch, hbt, hck⟩ := id hT
  refine e_entry om_X12_isParish (Nat.le_of_ble_eq_true rfl) (L := [some (.ref (G.2.2.2 + 82)), some (.int (iZ p))]) rfl ?_
  refine e_iload_n (q := 1) (i := 1) dX12_isParish_0 rfl rfl rfl ?_
  refine e_if_lt (q := 4) (tgt := 18) dX12_isParish_1 rfl (by decide) (fun c1 => ?_) (fun c1 => ?_)
  · refine e_iconst (q := 19) dX12_isParish_18 rfl ?_
    exact r_z dX12_isParish_19 rfl (by first | exact Or.inl rfl | exact Or.inr rfl | omega) ⟨by split <;> omega, rfl⟩
  · refine e_iload_n (q := 5) (i := 1) dX12_isParish_4 rfl rfl rfl ?_
    refine e_aload_n (q := 6) (i := 0) dX12_isParish_5 rfl rfl rfl ?_
    refine e_getR (q := 9) dX12_isParish_6 rfl fg_X12_13 (by first | assumption | rfl) rfl ?_
    refine e_iconst (q := 10) dX12_isParish_9 rfl ?_
    refine e_iald (q := 11) dX12_isParish_10 rfl (by first | assumption | rfl) ?_
    refine e_icmp_ge (q := 14) (tgt := 18) dX12_isParish_11 rfl (by decide) (fun c11 => ?_) (fun c11 => ?_)
    · refine e_iconst (q := 19) dX12_isParish_18 rfl ?_
      exact r_z dX12_isParish_19 rfl (by first | exact Or.inl rfl | exact Or.inr rfl | omega) ⟨by split <;> omega, rfl⟩
    · refine e_iconst (q := 15) dX12_isParish_14 rfl ?_
      refine e_goto (tgt := 19) dX12_isParish_15 (by decide) ?_
      exact r_z dX12_isParish_19 rfl (by first | exact Or.inl rfl | exact Or.inr rfl | omega) ⟨by split <;> omega, rfl⟩

theorem c_X12_isChild {G : Gx} {σ : Sg} {p : Int} (hT : MT σ) (hp : R32 p) : Con G 1 mX12_isChild [.ref (G.2.2.2 + 82), .int (iZ p)] σ (pI (pE σ (if (0 ≤ p ∧ p < σ.1 84 2) then 1 else 0))) := by
  obtain ⟨hzz, hnp, hnc, hnb, hrn, hsd, hrw, hrq, hch, hbt, hck⟩ := id hT
  refine e_entry om_X12_isChild (Nat.le_of_ble_eq_true rfl) (L := [some (.ref (G.2.2.2 + 82)), some (.int (iZ p))]) rfl ?_
  refine e_iload_n (q := 1) (i := 1) dX12_isChild_0 rfl rfl rfl ?_
  refine e_if_lt (q := 4) (tgt := 18) dX12_isChild_1 rfl (by decide) (fun c1 => ?_) (fun c1 => ?_)
  · refine e_iconst (q := 19) dX12_isChild_18 rfl ?_
    exact r_z dX12_isChild_19 rfl (by first | exact Or.inl rfl | exact Or.inr rfl | omega) ⟨by split <;> omega, rfl⟩
  · refine e_iload_n (q := 5) (i := 1) dX12_isChild_4 rfl rfl rfl ?_
    refine e_aload_n (q := 6) (i := 0) dX12_isChild_5 rfl rfl rfl ?_
    refine e_getR (q := 9) dX12_isChild_6 rfl fg_X12_13 (by first | assumption | rfl) rfl ?_
    refine e_iconst (q := 10) dX12_isChild_9 rfl ?_
    refine e_iald (q := 11) dX12_isChild_10 rfl (by first | assumption | rfl) ?_
    refine e_icmp_ge (q := 14) (tgt := 18) dX12_isChild_11 rfl (by decide) (fun c11 => ?_) (fun c11 => ?_)
    · refine e_iconst (q := 19) dX12_isChild_18 rfl ?_
      exact r_z dX12_isChild_19 rfl (by first | exact Or.inl rfl | exact Or.inr rfl | omega) ⟨by split <;> omega, rfl⟩
    · refine e_iconst (q := 15) dX12_isChild_14 rfl ?_
      refine e_goto (tgt := 19) dX12_isChild_15 (by decide) ?_
      exact r_z dX12_isChild_19 rfl (by first | exact Or.inl rfl | exact Or.inr rfl | omega) ⟨by split <;> omega, rfl⟩

theorem c_X12_isWay {G : Gx} {σ : Sg} {p : Int} (hp : R32 p) : Con G 1 mX12_isWay [.int (iZ p)] σ (pI (pE σ (if (0 ≤ p ∧ p < 4) then 1 else 0))) := by
  refine e_entry om_X12_isWay (Nat.le_of_ble_eq_true rfl) (L := [some (.int (iZ p))]) rfl ?_
  refine e_iload_n (q := 1) (i := 0) dX12_isWay_0 rfl rfl rfl ?_
  refine e_if_lt (q := 4) (tgt := 13) dX12_isWay_1 rfl (by decide) (fun c1 => ?_) (fun c1 => ?_)
  · refine e_iconst (q := 14) dX12_isWay_13 rfl ?_
    exact r_z dX12_isWay_14 rfl (by first | exact Or.inl rfl | exact Or.inr rfl | omega) ⟨by split <;> omega, rfl⟩
  · refine e_iload_n (q := 5) (i := 0) dX12_isWay_4 rfl rfl rfl ?_
    refine e_iconst (q := 6) dX12_isWay_5 rfl ?_
    refine e_icmp_ge (q := 9) (tgt := 13) dX12_isWay_6 rfl (by decide) (fun c6 => ?_) (fun c6 => ?_)
    · refine e_iconst (q := 14) dX12_isWay_13 rfl ?_
      exact r_z dX12_isWay_14 rfl (by first | exact Or.inl rfl | exact Or.inr rfl | omega) ⟨by split <;> omega, rfl⟩
    · refine e_iconst (q := 10) dX12_isWay_9 rfl ?_
      refine e_goto (tgt := 14) dX12_isWay_10 (by decide) ?_
      exact r_z dX12_isWay_14 rfl (by first | exact Or.inl rfl | exact Or.inr rfl | omega) ⟨by split <;> omega, rfl⟩

theorem c_X12_isCell {G : Gx} {σ : Sg} {r c : Int} (hT : MT σ) (hr : R32 r) (hc : R32 c) : Con G 1 mX12_isCell [.ref (G.2.2.2 + 82), .int (iZ r), .int (iZ c)] σ (pI (pE σ (if (0 ≤ r ∧ r < σ.1 84 0 ∧ 0 ≤ c ∧ c < σ.1 84 0) then 1 else 0))) := by
  obtain ⟨hzz, hnp, hnc, hnb, hrn, hsd, hrw, hrq, hch, hbt, hck⟩ := id hT
  refine e_entry om_X12_isCell (Nat.le_of_ble_eq_true rfl) (L := [some (.ref (G.2.2.2 + 82)), some (.int (iZ r)), some (.int (iZ c))]) rfl ?_
  refine e_iload_n (q := 1) (i := 1) dX12_isCell_0 rfl rfl rfl ?_
  refine e_if_lt (q := 4) (tgt := 32) dX12_isCell_1 rfl (by decide) (fun c1 => ?_) (fun c1 => ?_)
  · refine e_iconst (q := 33) dX12_isCell_32 rfl ?_
    exact r_z dX12_isCell_33 rfl (by first | exact Or.inl rfl | exact Or.inr rfl | omega) ⟨by split <;> omega, rfl⟩
  · refine e_iload_n (q := 5) (i := 1) dX12_isCell_4 rfl rfl rfl ?_
    refine e_aload_n (q := 6) (i := 0) dX12_isCell_5 rfl rfl rfl ?_
    refine e_getR (q := 9) dX12_isCell_6 rfl fg_X12_13 (by first | assumption | rfl) rfl ?_
    refine e_iconst (q := 10) dX12_isCell_9 rfl ?_
    refine e_iald (q := 11) dX12_isCell_10 rfl (by first | assumption | rfl) ?_
    refine e_icmp_ge (q := 14) (tgt := 32) dX12_isCell_11 rfl (by decide) (fun c11 => ?_) (fun c11 => ?_)
    · refine e_iconst (q := 33) dX12_isCell_32 rfl ?_
      exact r_z dX12_isCell_33 rfl (by first | exact Or.inl rfl | exact Or.inr rfl | omega) ⟨by split <;> omega, rfl⟩
    · refine e_iload_n (q := 15) (i := 2) dX12_isCell_14 rfl rfl rfl ?_
      refine e_if_lt (q := 18) (tgt := 32) dX12_isCell_15 rfl (by decide) (fun c15 => ?_) (fun c15 => ?_)
      · refine e_iconst (q := 33) dX12_isCell_32 rfl ?_
        exact r_z dX12_isCell_33 rfl (by first | exact Or.inl rfl | exact Or.inr rfl | omega) ⟨by split <;> omega, rfl⟩
      · refine e_iload_n (q := 19) (i := 2) dX12_isCell_18 rfl rfl rfl ?_
        refine e_aload_n (q := 20) (i := 0) dX12_isCell_19 rfl rfl rfl ?_
        refine e_getR (q := 23) dX12_isCell_20 rfl fg_X12_13 (by first | assumption | rfl) rfl ?_
        refine e_iconst (q := 24) dX12_isCell_23 rfl ?_
        refine e_iald (q := 25) dX12_isCell_24 rfl (by first | assumption | rfl) ?_
        refine e_icmp_ge (q := 28) (tgt := 32) dX12_isCell_25 rfl (by decide) (fun c25 => ?_) (fun c25 => ?_)
        · refine e_iconst (q := 33) dX12_isCell_32 rfl ?_
          exact r_z dX12_isCell_33 rfl (by first | exact Or.inl rfl | exact Or.inr rfl | omega) ⟨by split <;> omega, rfl⟩
        · refine e_iconst (q := 29) dX12_isCell_28 rfl ?_
          refine e_goto (tgt := 33) dX12_isCell_29 (by decide) ?_
          exact r_z dX12_isCell_33 rfl (by first | exact Or.inl rfl | exact Or.inr rfl | omega) ⟨by split <;> omega, rfl⟩

theorem c_X12_areTwo {G : Gx} {σ : Sg} {a b : Int} (hT : MT σ) (ha : R32 a) (hb : R32 b) : Con G 2 mX12_areTwo [.ref (G.2.2.2 + 82), .int (iZ a), .int (iZ b)] σ (pI (pE σ (if ((0 ≤ a ∧ a < σ.1 84 1) ∧ (0 ≤ b ∧ b < σ.1 84 1) ∧ a ≠ b) then 1 else 0))) := by
  obtain ⟨hzz, hnp, hnc, hnb, hrn, hsd, hrw, hrq, hch, hbt, hck⟩ := id hT
  refine e_entry om_X12_areTwo (Nat.le_of_ble_eq_true rfl) (L := [some (.ref (G.2.2.2 + 82)), some (.int (iZ a)), some (.int (iZ b))]) rfl ?_
  refine e_aload_n (q := 1) (i := 0) dX12_areTwo_0 rfl rfl rfl ?_
  refine e_iload_n (q := 2) (i := 1) dX12_areTwo_1 rfl rfl rfl ?_
  refine e_Vip (q := 5) (vs := [_]) ok_X12_isParish ml_X12_396 dX12_areTwo_2 rfl ⟨_, _, rfl⟩ (by first | assumption | rfl) rfl rfl (Nat.le_of_ble_eq_true rfl) (by decide) (c_X12_isParish hT (by assumption)) ?_
  refine e_if_eq (q := 8) (tgt := 25) dX12_areTwo_5 rfl (by decide) (fun c5 => ?_) (fun c5 => ?_)
  · refine e_iconst (q := 26) dX12_areTwo_25 rfl ?_
    exact r_z dX12_areTwo_26 rfl (by first | exact Or.inl rfl | exact Or.inr rfl | omega) ⟨by split <;> omega, rfl⟩
  · refine e_aload_n (q := 9) (i := 0) dX12_areTwo_8 rfl rfl rfl ?_
    refine e_iload_n (q := 10) (i := 2) dX12_areTwo_9 rfl rfl rfl ?_
    refine e_Vip (q := 13) (vs := [_]) ok_X12_isParish ml_X12_396 dX12_areTwo_10 rfl ⟨_, _, rfl⟩ (by first | assumption | rfl) rfl rfl (Nat.le_of_ble_eq_true rfl) (by decide) (c_X12_isParish hT (by assumption)) ?_
    refine e_if_eq (q := 16) (tgt := 25) dX12_areTwo_13 rfl (by decide) (fun c13 => ?_) (fun c13 => ?_)
    · refine e_iconst (q := 26) dX12_areTwo_25 rfl ?_
      exact r_z dX12_areTwo_26 rfl (by first | exact Or.inl rfl | exact Or.inr rfl | omega) ⟨by split <;> omega, rfl⟩
    · refine e_iload_n (q := 17) (i := 1) dX12_areTwo_16 rfl rfl rfl ?_
      refine e_iload_n (q := 18) (i := 2) dX12_areTwo_17 rfl rfl rfl ?_
      refine e_icmp_eq (q := 21) (tgt := 25) dX12_areTwo_18 rfl (by decide) (fun c18 => ?_) (fun c18 => ?_)
      · refine e_iconst (q := 26) dX12_areTwo_25 rfl ?_
        exact r_z dX12_areTwo_26 rfl (by first | exact Or.inl rfl | exact Or.inr rfl | omega) ⟨by split <;> omega, rfl⟩
      · refine e_iconst (q := 22) dX12_areTwo_21 rfl ?_
        refine e_goto (tgt := 26) dX12_areTwo_22 (by decide) ?_
        exact r_z dX12_areTwo_26 rfl (by first | exact Or.inl rfl | exact Or.inr rfl | omega) ⟨by split <;> omega, rfl⟩

theorem c_X12_edge {G : Gx} {σ : Sg} {p w : Int} (hp : 0 ≤ p) (hp4 : p < 4) (hw0 : 0 ≤ w) (hw4 : w < 4) : Con G 1 mX12_edge [.ref (G.2.2.2 + 82), .int (iZ p), .int (iZ w)] σ (pI (pE σ (gEdge (σ.1 86) (σ.1 87) (σ.1 84 0) p w))) := by
  refine e_entry om_X12_edge (Nat.le_of_ble_eq_true rfl) (L := [some (.ref (G.2.2.2 + 82)), some (.int (iZ p)), some (.int (iZ w))]) rfl ?_
  refine e_iload_n (q := 1) (i := 2) dX12_edge_0 rfl rfl rfl ?_
  by_cases k1_0 : w = 0
  · refine e_tabIn (tgt := 28) dX12_edge_1 ⟨by omega, by omega⟩ (by omega) (by omega) (by rw [k1_0]; rfl) (by decide) ?_
    refine e_aload_n (q := 29) (i := 0) dX12_edge_28 rfl rfl rfl ?_
    refine e_getR (q := 32) dX12_edge_29 rfl fg_X12_19 (by first | assumption | rfl) rfl ?_
    refine e_iload_n (q := 33) (i := 1) dX12_edge_32 rfl rfl rfl ?_
    refine e_iald (q := 34) dX12_edge_33 rfl (by first | assumption | rfl) ?_
    exact r_i dX12_edge_34 rfl ⟨by unfold gEdge; rw [if_pos k1_0], rfl⟩
  by_cases k1_1 : w = 1
  · refine e_tabIn (tgt := 35) dX12_edge_1 ⟨by omega, by omega⟩ (by omega) (by omega) (by rw [k1_1]; rfl) (by decide) ?_
    refine e_aload_n (q := 36) (i := 0) dX12_edge_35 rfl rfl rfl ?_
    refine e_getR (q := 39) dX12_edge_36 rfl fg_X12_13 (by first | assumption | rfl) rfl ?_
    refine e_iconst (q := 40) dX12_edge_39 rfl ?_
    refine e_iald (q := 41) dX12_edge_40 rfl (by first | assumption | rfl) ?_
    refine e_iconst (q := 42) dX12_edge_41 rfl ?_
    refine e_isub (q := 43) dX12_edge_42 rfl ?_
    refine e_aload_n (q := 44) (i := 0) dX12_edge_43 rfl rfl rfl ?_
    refine e_getR (q := 47) dX12_edge_44 rfl fg_X12_22 (by first | assumption | rfl) rfl ?_
    refine e_iload_n (q := 48) (i := 1) dX12_edge_47 rfl rfl rfl ?_
    refine e_iald (q := 49) dX12_edge_48 rfl (by first | assumption | rfl) ?_
    refine e_isub (q := 50) dX12_edge_49 rfl ?_
    exact r_i dX12_edge_50 rfl ⟨by unfold gEdge; rw [if_neg k1_0, if_pos k1_1], rfl⟩
  by_cases k1_2 : w = 2
  · refine e_tabIn (tgt := 51) dX12_edge_1 ⟨by omega, by omega⟩ (by omega) (by omega) (by rw [k1_2]; rfl) (by decide) ?_
    refine e_aload_n (q := 52) (i := 0) dX12_edge_51 rfl rfl rfl ?_
    refine e_getR (q := 55) dX12_edge_52 rfl fg_X12_13 (by first | assumption | rfl) rfl ?_
    refine e_iconst (q := 56) dX12_edge_55 rfl ?_
    refine e_iald (q := 57) dX12_edge_56 rfl (by first | assumption | rfl) ?_
    refine e_iconst (q := 58) dX12_edge_57 rfl ?_
    refine e_isub (q := 59) dX12_edge_58 rfl ?_
    refine e_aload_n (q := 60) (i := 0) dX12_edge_59 rfl rfl rfl ?_
    refine e_getR (q := 63) dX12_edge_60 rfl fg_X12_19 (by first | assumption | rfl) rfl ?_
    refine e_iload_n (q := 64) (i := 1) dX12_edge_63 rfl rfl rfl ?_
    refine e_iald (q := 65) dX12_edge_64 rfl (by first | assumption | rfl) ?_
    refine e_isub (q := 66) dX12_edge_65 rfl ?_
    exact r_i dX12_edge_66 rfl ⟨by unfold gEdge; rw [if_neg k1_0, if_neg k1_1, if_pos k1_2], rfl⟩
  refine e_tabOut (tgt := 67) dX12_edge_1 ⟨by omega, by omega⟩ (by omega) (by decide) ?_
  refine e_aload_n (q := 68) (i := 0) dX12_edge_67 rfl rfl rfl ?_
  refine e_getR (q := 71) dX12_edge_68 rfl fg_X12_22 (by first | assumption | rfl) rfl ?_
  refine e_iload_n (q := 72) (i := 1) dX12_edge_71 rfl rfl rfl ?_
  refine e_iald (q := 73) dX12_edge_72 rfl (by first | assumption | rfl) ?_
  exact r_i dX12_edge_73 rfl ⟨by unfold gEdge; rw [if_neg k1_0, if_neg k1_1, if_neg k1_2], rfl⟩

theorem c_X12_slot {G : Gx} {σ : Sg} {s p w t : Int} (ht : t = 16 * s + (4 * p + w)) : Con G 1 mX12_slot [.int (iZ s), .int (iZ p), .int (iZ w)] σ (pI (pE σ t)) := by
  refine e_entry om_X12_slot (Nat.le_of_ble_eq_true rfl) (L := [some (.int (iZ s)), some (.int (iZ p)), some (.int (iZ w))]) rfl ?_
  refine e_bipush (q := 2) dX12_slot_0 rfl (by decide) ?_
  refine e_iload_n (q := 3) (i := 0) dX12_slot_2 rfl rfl rfl ?_
  refine e_imul (q := 4) dX12_slot_3 rfl ?_
  refine e_iconst (q := 5) dX12_slot_4 rfl ?_
  refine e_iload_n (q := 6) (i := 1) dX12_slot_5 rfl rfl rfl ?_
  refine e_imul (q := 7) dX12_slot_6 rfl ?_
  refine e_iadd (q := 8) dX12_slot_7 rfl ?_
  refine e_iload_n (q := 9) (i := 2) dX12_slot_8 rfl rfl rfl ?_
  refine e_iadd (q := 10) dX12_slot_9 rfl ?_
  exact r_i dX12_slot_10 rfl ⟨by omega, rfl⟩

theorem c_X12_side {G : Gx} {σ : Sg} {s p w : Int} (hs0 : 0 ≤ s) (hs1 : s < 23) (hp : 0 ≤ p) (hp4 : p < 4) (hw0 : 0 ≤ w) (hw4 : w < 4) : Con G 2 mX12_side [.ref (G.2.2.2 + 82), .int (iZ s), .int (iZ p), .int (iZ w)] σ (pI (pE σ (mSide σ s p w))) := by
  refine e_entry om_X12_side (Nat.le_of_ble_eq_true rfl) (L := [some (.ref (G.2.2.2 + 82)), some (.int (iZ s)), some (.int (iZ p)), some (.int (iZ w))]) rfl ?_
  refine e_iload_n (q := 1) (i := 3) dX12_side_0 rfl rfl rfl ?_
  by_cases k1_0 : w = 0
  · refine e_tabIn (tgt := 28) dX12_side_1 ⟨by omega, by omega⟩ (by omega) (by omega) (by rw [k1_0]; rfl) (by decide) ?_
    refine e_aload_n (q := 29) (i := 0) dX12_side_28 rfl rfl rfl ?_
    refine e_getR (q := 32) dX12_side_29 rfl fg_X12_19 (by first | assumption | rfl) rfl ?_
    refine e_iload_n (q := 33) (i := 2) dX12_side_32 rfl rfl rfl ?_
    refine e_iald (q := 34) dX12_side_33 rfl (by first | assumption | rfl) ?_
    refine e_aload_n (q := 35) (i := 0) dX12_side_34 rfl rfl rfl ?_
    refine e_getR (q := 38) dX12_side_35 rfl fg_X12_81 (by first | assumption | rfl) rfl ?_
    refine e_iload_n (q := 39) (i := 1) dX12_side_38 rfl rfl rfl ?_
    refine e_iload_n (q := 40) (i := 2) dX12_side_39 rfl rfl rfl ?_
    refine e_iconst (q := 41) dX12_side_40 rfl ?_
    refine e_Sip (q := 44) (vs := [_, _, _]) ok_X12_slot ml_X12_322 dX12_side_41 rfl rfl rfl (Nat.le_of_ble_eq_true rfl) (by decide) (c_X12_slot (t := 16 * s + (4 * p)) (by omega)) ?_
    refine e_iald (q := 45) dX12_side_44 rfl (by first | assumption | rfl) ?_
    refine e_isub (q := 46) dX12_side_45 rfl ?_
    exact r_i dX12_side_46 rfl ⟨by unfold mSide gTop mF; rw [if_pos k1_0], rfl⟩
  by_cases k1_1 : w = 1
  · refine e_tabIn (tgt := 47) dX12_side_1 ⟨by omega, by omega⟩ (by omega) (by omega) (by rw [k1_1]; rfl) (by decide) ?_
    refine e_aload_n (q := 48) (i := 0) dX12_side_47 rfl rfl rfl ?_
    refine e_getR (q := 51) dX12_side_48 rfl fg_X12_19 (by first | assumption | rfl) rfl ?_
    refine e_iload_n (q := 52) (i := 2) dX12_side_51 rfl rfl rfl ?_
    refine e_iald (q := 53) dX12_side_52 rfl (by first | assumption | rfl) ?_
    refine e_aload_n (q := 54) (i := 0) dX12_side_53 rfl rfl rfl ?_
    refine e_getR (q := 57) dX12_side_54 rfl fg_X12_81 (by first | assumption | rfl) rfl ?_
    refine e_iload_n (q := 58) (i := 1) dX12_side_57 rfl rfl rfl ?_
    refine e_iload_n (q := 59) (i := 2) dX12_side_58 rfl rfl rfl ?_
    refine e_iconst (q := 60) dX12_side_59 rfl ?_
    refine e_Sip (q := 63) (vs := [_, _, _]) ok_X12_slot ml_X12_322 dX12_side_60 rfl rfl rfl (Nat.le_of_ble_eq_true rfl) (by decide) (c_X12_slot (t := 16 * s + (4 * p + 2)) (by omega)) ?_
    refine e_iald (q := 64) dX12_side_63 rfl (by first | assumption | rfl) ?_
    refine e_iadd (q := 65) dX12_side_64 rfl ?_
    exact r_i dX12_side_65 rfl ⟨by unfold mSide gBot mF; rw [if_neg k1_0, if_pos k1_1], rfl⟩
  by_cases k1_2 : w = 2
  · refine e_tabIn (tgt := 66) dX12_side_1 ⟨by omega, by omega⟩ (by omega) (by omega) (by rw [k1_2]; rfl) (by decide) ?_
    refine e_aload_n (q := 67) (i := 0) dX12_side_66 rfl rfl rfl ?_
    refine e_getR (q := 70) dX12_side_67 rfl fg_X12_22 (by first | assumption | rfl) rfl ?_
    refine e_iload_n (q := 71) (i := 2) dX12_side_70 rfl rfl rfl ?_
    refine e_iald (q := 72) dX12_side_71 rfl (by first | assumption | rfl) ?_
    refine e_aload_n (q := 73) (i := 0) dX12_side_72 rfl rfl rfl ?_
    refine e_getR (q := 76) dX12_side_73 rfl fg_X12_81 (by first | assumption | rfl) rfl ?_
    refine e_iload_n (q := 77) (i := 1) dX12_side_76 rfl rfl rfl ?_
    refine e_iload_n (q := 78) (i := 2) dX12_side_77 rfl rfl rfl ?_
    refine e_iconst (q := 79) dX12_side_78 rfl ?_
    refine e_Sip (q := 82) (vs := [_, _, _]) ok_X12_slot ml_X12_322 dX12_side_79 rfl rfl rfl (Nat.le_of_ble_eq_true rfl) (by decide) (c_X12_slot (t := 16 * s + (4 * p + 3)) (by omega)) ?_
    refine e_iald (q := 83) dX12_side_82 rfl (by first | assumption | rfl) ?_
    refine e_isub (q := 84) dX12_side_83 rfl ?_
    exact r_i dX12_side_84 rfl ⟨by unfold mSide gLft mF; rw [if_neg k1_0, if_neg k1_1, if_pos k1_2], rfl⟩
  refine e_tabOut (tgt := 85) dX12_side_1 ⟨by omega, by omega⟩ (by omega) (by decide) ?_
  refine e_aload_n (q := 86) (i := 0) dX12_side_85 rfl rfl rfl ?_
  refine e_getR (q := 89) dX12_side_86 rfl fg_X12_22 (by first | assumption | rfl) rfl ?_
  refine e_iload_n (q := 90) (i := 2) dX12_side_89 rfl rfl rfl ?_
  refine e_iald (q := 91) dX12_side_90 rfl (by first | assumption | rfl) ?_
  refine e_aload_n (q := 92) (i := 0) dX12_side_91 rfl rfl rfl ?_
  refine e_getR (q := 95) dX12_side_92 rfl fg_X12_81 (by first | assumption | rfl) rfl ?_
  refine e_iload_n (q := 96) (i := 1) dX12_side_95 rfl rfl rfl ?_
  refine e_iload_n (q := 97) (i := 2) dX12_side_96 rfl rfl rfl ?_
  refine e_iconst (q := 98) dX12_side_97 rfl ?_
  refine e_Sip (q := 101) (vs := [_, _, _]) ok_X12_slot ml_X12_322 dX12_side_98 rfl rfl rfl (Nat.le_of_ble_eq_true rfl) (by decide) (c_X12_slot (t := 16 * s + (4 * p + 1)) (by omega)) ?_
  refine e_iald (q := 102) dX12_side_101 rfl (by first | assumption | rfl) ?_
  refine e_iadd (q := 103) dX12_side_102 rfl ?_
  exact r_i dX12_side_103 rfl ⟨by unfold mSide gRgt mF; rw [if_neg k1_0, if_neg k1_1, if_neg k1_2], rfl⟩

theorem c_X12_areaOf {G : Gx} {σ : Sg} {s p : Int} (hs0 : 0 ≤ s) (hs1 : s < 23) (hp : 0 ≤ p) (hp4 : p < 4)  : Con G 3 mX12_areaOf [.ref (G.2.2.2 + 82), .int (iZ s), .int (iZ p)] σ (pI (pE σ (gArea (σ.1 86) (σ.1 87) (mF σ s) p))) := by
  refine e_entry om_X12_areaOf (Nat.le_of_ble_eq_true rfl) (L := [some (.ref (G.2.2.2 + 82)), some (.int (iZ s)), some (.int (iZ p))]) rfl ?_
  refine e_aload_n (q := 1) (i := 0) dX12_areaOf_0 rfl rfl rfl ?_
  refine e_iload_n (q := 2) (i := 1) dX12_areaOf_1 rfl rfl rfl ?_
  refine e_iload_n (q := 3) (i := 2) dX12_areaOf_2 rfl rfl rfl ?_
  refine e_iconst (q := 4) dX12_areaOf_3 rfl ?_
  refine e_Vip (q := 7) (vs := [_, _, _]) ok_X12_side ml_X12_326 dX12_areaOf_4 rfl ⟨_, _, rfl⟩ (by first | assumption | rfl) rfl rfl (Nat.le_of_ble_eq_true rfl) (by decide) (c_X12_side (w := 1) hs0 hs1 (by omega) (by omega) (by decide) (by decide)) ?_
  refine e_aload_n (q := 8) (i := 0) dX12_areaOf_7 rfl rfl rfl ?_
  refine e_iload_n (q := 9) (i := 1) dX12_areaOf_8 rfl rfl rfl ?_
  refine e_iload_n (q := 10) (i := 2) dX12_areaOf_9 rfl rfl rfl ?_
  refine e_iconst (q := 11) dX12_areaOf_10 rfl ?_
  refine e_Vip (q := 14) (vs := [_, _, _]) ok_X12_side ml_X12_326 dX12_areaOf_11 rfl ⟨_, _, rfl⟩ (by first | assumption | rfl) rfl rfl (Nat.le_of_ble_eq_true rfl) (by decide) (c_X12_side (w := 0) hs0 hs1 (by omega) (by omega) (by decide) (by decide)) ?_
  refine e_isub (q := 15) dX12_areaOf_14 rfl ?_
  refine e_iconst (q := 16) dX12_areaOf_15 rfl ?_
  refine e_iadd (q := 17) dX12_areaOf_16 rfl ?_
  refine e_aload_n (q := 18) (i := 0) dX12_areaOf_17 rfl rfl rfl ?_
  refine e_iload_n (q := 19) (i := 1) dX12_areaOf_18 rfl rfl rfl ?_
  refine e_iload_n (q := 20) (i := 2) dX12_areaOf_19 rfl rfl rfl ?_
  refine e_iconst (q := 21) dX12_areaOf_20 rfl ?_
  refine e_Vip (q := 24) (vs := [_, _, _]) ok_X12_side ml_X12_326 dX12_areaOf_21 rfl ⟨_, _, rfl⟩ (by first | assumption | rfl) rfl rfl (Nat.le_of_ble_eq_true rfl) (by decide) (c_X12_side (w := 3) hs0 hs1 (by omega) (by omega) (by decide) (by decide)) ?_
  refine e_aload_n (q := 25) (i := 0) dX12_areaOf_24 rfl rfl rfl ?_
  refine e_iload_n (q := 26) (i := 1) dX12_areaOf_25 rfl rfl rfl ?_
  refine e_iload_n (q := 27) (i := 2) dX12_areaOf_26 rfl rfl rfl ?_
  refine e_iconst (q := 28) dX12_areaOf_27 rfl ?_
  refine e_Vip (q := 31) (vs := [_, _, _]) ok_X12_side ml_X12_326 dX12_areaOf_28 rfl ⟨_, _, rfl⟩ (by first | assumption | rfl) rfl rfl (Nat.le_of_ble_eq_true rfl) (by decide) (c_X12_side (w := 2) hs0 hs1 (by omega) (by omega) (by decide) (by decide)) ?_
  refine e_isub (q := 32) dX12_areaOf_31 rfl ?_
  refine e_iconst (q := 33) dX12_areaOf_32 rfl ?_
  refine e_iadd (q := 34) dX12_areaOf_33 rfl ?_
  refine e_imul (q := 35) dX12_areaOf_34 rfl ?_
  exact r_i dX12_areaOf_35 rfl ⟨rfl, rfl⟩

theorem c_X12_isOf {G : Gx} {σ : Sg} {s p r c : Int} (hT : MT σ) (hI : MI σ s) (hs0 : 0 ≤ s) (hs1 : s < 23) (hp : 0 ≤ p) (hp4 : p < 4) (hr : R32 r) (hc : R32 c) : Con G 3 mX12_isOf [.ref (G.2.2.2 + 82), .int (iZ s), .int (iZ p), .int (iZ r), .int (iZ c)] σ (pI (pE σ (gHold (σ.1 86) (σ.1 87) (mF σ s) p r c))) := by
  have ap_0 := mSide_in hT hI hp hp4 (0)
  have ap_1 := mSide_in hT hI hp hp4 (1)
  have ap_2 := mSide_in hT hI hp hp4 (2)
  have ap_3 := mSide_in hT hI hp hp4 (3)
  have ap_01 := mSide_in hT hI hp hp4 (0 + 1)
  have ap_21 := mSide_in hT hI hp hp4 (2 + 1)
  refine e_entry om_X12_isOf (Nat.le_of_ble_eq_true rfl) (L := [some (.ref (G.2.2.2 + 82)), some (.int (iZ s)), some (.int (iZ p)), some (.int (iZ r)), some (.int (iZ c))]) rfl ?_
  refine e_iload_n (q := 1) (i := 3) dX12_isOf_0 rfl rfl rfl ?_
  refine e_aload_n (q := 2) (i := 0) dX12_isOf_1 rfl rfl rfl ?_
  refine e_iload_n (q := 3) (i := 1) dX12_isOf_2 rfl rfl rfl ?_
  refine e_iload_n (q := 4) (i := 2) dX12_isOf_3 rfl rfl rfl ?_
  refine e_iconst (q := 5) dX12_isOf_4 rfl ?_
  refine e_Vip (q := 8) (vs := [_, _, _]) ok_X12_side ml_X12_326 dX12_isOf_5 rfl ⟨_, _, rfl⟩ (by first | assumption | rfl) rfl rfl (Nat.le_of_ble_eq_true rfl) (by decide) (c_X12_side (w := 0) hs0 hs1 (by omega) (by omega) (by decide) (by decide)) ?_
  refine e_icmp_lt (q := 11) (tgt := 50) dX12_isOf_8 rfl (by decide) (fun c8 => ?_) (fun c8 => ?_)
  · refine e_iconst (q := 51) dX12_isOf_50 rfl ?_
    exact r_z dX12_isOf_51 rfl (by first | exact Or.inl rfl | exact Or.inr rfl | omega) ⟨by unfold gHold; simp only [show gTop (σ.1 86) (mF σ s) p = mSide σ s p 0 from rfl, show gBot (σ.1 86) (mF σ s) p = mSide σ s p 1 from rfl, show gLft (σ.1 87) (mF σ s) p = mSide σ s p 2 from rfl, show gRgt (σ.1 87) (mF σ s) p = mSide σ s p 3 from rfl]; split <;> omega, rfl⟩
  · refine e_iload_n (q := 12) (i := 3) dX12_isOf_11 rfl rfl rfl ?_
    refine e_aload_n (q := 13) (i := 0) dX12_isOf_12 rfl rfl rfl ?_
    refine e_iload_n (q := 14) (i := 1) dX12_isOf_13 rfl rfl rfl ?_
    refine e_iload_n (q := 15) (i := 2) dX12_isOf_14 rfl rfl rfl ?_
    refine e_iconst (q := 16) dX12_isOf_15 rfl ?_
    refine e_Vip (q := 19) (vs := [_, _, _]) ok_X12_side ml_X12_326 dX12_isOf_16 rfl ⟨_, _, rfl⟩ (by first | assumption | rfl) rfl rfl (Nat.le_of_ble_eq_true rfl) (by decide) (c_X12_side (w := 1) hs0 hs1 (by omega) (by omega) (by decide) (by decide)) ?_
    refine e_icmp_gt (q := 22) (tgt := 50) dX12_isOf_19 rfl (by decide) (fun c19 => ?_) (fun c19 => ?_)
    · refine e_iconst (q := 51) dX12_isOf_50 rfl ?_
      exact r_z dX12_isOf_51 rfl (by first | exact Or.inl rfl | exact Or.inr rfl | omega) ⟨by unfold gHold; simp only [show gTop (σ.1 86) (mF σ s) p = mSide σ s p 0 from rfl, show gBot (σ.1 86) (mF σ s) p = mSide σ s p 1 from rfl, show gLft (σ.1 87) (mF σ s) p = mSide σ s p 2 from rfl, show gRgt (σ.1 87) (mF σ s) p = mSide σ s p 3 from rfl]; split <;> omega, rfl⟩
    · refine e_iload (q := 24) dX12_isOf_22 rfl rfl ?_
      refine e_aload_n (q := 25) (i := 0) dX12_isOf_24 rfl rfl rfl ?_
      refine e_iload_n (q := 26) (i := 1) dX12_isOf_25 rfl rfl rfl ?_
      refine e_iload_n (q := 27) (i := 2) dX12_isOf_26 rfl rfl rfl ?_
      refine e_iconst (q := 28) dX12_isOf_27 rfl ?_
      refine e_Vip (q := 31) (vs := [_, _, _]) ok_X12_side ml_X12_326 dX12_isOf_28 rfl ⟨_, _, rfl⟩ (by first | assumption | rfl) rfl rfl (Nat.le_of_ble_eq_true rfl) (by decide) (c_X12_side (w := 2) hs0 hs1 (by omega) (by omega) (by decide) (by decide)) ?_
      refine e_icmp_lt (q := 34) (tgt := 50) dX12_isOf_31 rfl (by decide) (fun c31 => ?_) (fun c31 => ?_)
      · refine e_iconst (q := 51) dX12_isOf_50 rfl ?_
        exact r_z dX12_isOf_51 rfl (by first | exact Or.inl rfl | exact Or.inr rfl | omega) ⟨by unfold gHold; simp only [show gTop (σ.1 86) (mF σ s) p = mSide σ s p 0 from rfl, show gBot (σ.1 86) (mF σ s) p = mSide σ s p 1 from rfl, show gLft (σ.1 87) (mF σ s) p = mSide σ s p 2 from rfl, show gRgt (σ.1 87) (mF σ s) p = mSide σ s p 3 from rfl]; split <;> omega, rfl⟩
      · refine e_iload (q := 36) dX12_isOf_34 rfl rfl ?_
        refine e_aload_n (q := 37) (i := 0) dX12_isOf_36 rfl rfl rfl ?_
        refine e_iload_n (q := 38) (i := 1) dX12_isOf_37 rfl rfl rfl ?_
        refine e_iload_n (q := 39) (i := 2) dX12_isOf_38 rfl rfl rfl ?_
        refine e_iconst (q := 40) dX12_isOf_39 rfl ?_
        refine e_Vip (q := 43) (vs := [_, _, _]) ok_X12_side ml_X12_326 dX12_isOf_40 rfl ⟨_, _, rfl⟩ (by first | assumption | rfl) rfl rfl (Nat.le_of_ble_eq_true rfl) (by decide) (c_X12_side (w := 3) hs0 hs1 (by omega) (by omega) (by decide) (by decide)) ?_
        refine e_icmp_gt (q := 46) (tgt := 50) dX12_isOf_43 rfl (by decide) (fun c43 => ?_) (fun c43 => ?_)
        · refine e_iconst (q := 51) dX12_isOf_50 rfl ?_
          exact r_z dX12_isOf_51 rfl (by first | exact Or.inl rfl | exact Or.inr rfl | omega) ⟨by unfold gHold; simp only [show gTop (σ.1 86) (mF σ s) p = mSide σ s p 0 from rfl, show gBot (σ.1 86) (mF σ s) p = mSide σ s p 1 from rfl, show gLft (σ.1 87) (mF σ s) p = mSide σ s p 2 from rfl, show gRgt (σ.1 87) (mF σ s) p = mSide σ s p 3 from rfl]; split <;> omega, rfl⟩
        · refine e_iconst (q := 47) dX12_isOf_46 rfl ?_
          refine e_goto (tgt := 51) dX12_isOf_47 (by decide) ?_
          exact r_z dX12_isOf_51 rfl (by first | exact Or.inl rfl | exact Or.inr rfl | omega) ⟨by unfold gHold; simp only [show gTop (σ.1 86) (mF σ s) p = mSide σ s p 0 from rfl, show gBot (σ.1 86) (mF σ s) p = mSide σ s p 1 from rfl, show gLft (σ.1 87) (mF σ s) p = mSide σ s p 2 from rfl, show gRgt (σ.1 87) (mF σ s) p = mSide σ s p 3 from rfl]; split <;> omega, rfl⟩

theorem c_X12_shared0 {G : Gx} {σ : Sg} {s p q : Int} (hT : MT σ) (hI : MI σ s) (hs0 : 0 ≤ s) (hs1 : s < 23) (hp : 0 ≤ p) (hp4 : p < 4) (hq : 0 ≤ q) (hq4 : q < 4)  : Con G 3 mX12_shared [.ref (G.2.2.2 + 82), .int (iZ s), .int (iZ p), .int (iZ q), .int (iZ 0)] σ (pI (pE σ (gCR (σ.1 86) (mF σ s) p q))) := by
  have ap_0 := mSide_in hT hI hp hp4 (0)
  have ap_1 := mSide_in hT hI hp hp4 (1)
  have ap_2 := mSide_in hT hI hp hp4 (2)
  have ap_3 := mSide_in hT hI hp hp4 (3)
  have ap_01 := mSide_in hT hI hp hp4 (0 + 1)
  have ap_21 := mSide_in hT hI hp hp4 (2 + 1)
  have aq_0 := mSide_in hT hI hq hq4 (0)
  have aq_1 := mSide_in hT hI hq hq4 (1)
  have aq_2 := mSide_in hT hI hq hq4 (2)
  have aq_3 := mSide_in hT hI hq hq4 (3)
  have aq_01 := mSide_in hT hI hq hq4 (0 + 1)
  have aq_21 := mSide_in hT hI hq hq4 (2 + 1)
  refine e_entry om_X12_shared (Nat.le_of_ble_eq_true rfl) (L := [some (.ref (G.2.2.2 + 82)), some (.int (iZ s)), some (.int (iZ p)), some (.int (iZ q)), some (.int (iZ 0))]) rfl ?_
  refine e_aload_n (q := 1) (i := 0) dX12_shared_0 rfl rfl rfl ?_
  refine e_iload_n (q := 2) (i := 1) dX12_shared_1 rfl rfl rfl ?_
  refine e_iload_n (q := 3) (i := 2) dX12_shared_2 rfl rfl rfl ?_
  refine e_iload (q := 5) dX12_shared_3 rfl rfl ?_
  refine e_iconst (q := 6) dX12_shared_5 rfl ?_
  refine e_iadd (q := 7) dX12_shared_6 rfl ?_
  refine e_Vip (q := 10) (vs := [_, _, _]) ok_X12_side ml_X12_326 dX12_shared_7 rfl ⟨_, _, rfl⟩ (by first | assumption | rfl) rfl rfl (Nat.le_of_ble_eq_true rfl) (by decide) (c_X12_side (w := 0 + 1) hs0 hs1 (by omega) (by omega) (by decide) (by decide)) ?_
  refine e_aload_n (q := 11) (i := 0) dX12_shared_10 rfl rfl rfl ?_
  refine e_iload_n (q := 12) (i := 1) dX12_shared_11 rfl rfl rfl ?_
  refine e_iload_n (q := 13) (i := 3) dX12_shared_12 rfl rfl rfl ?_
  refine e_iload (q := 15) dX12_shared_13 rfl rfl ?_
  refine e_iconst (q := 16) dX12_shared_15 rfl ?_
  refine e_iadd (q := 17) dX12_shared_16 rfl ?_
  refine e_Vip (q := 20) (vs := [_, _, _]) ok_X12_side ml_X12_326 dX12_shared_17 rfl ⟨_, _, rfl⟩ (by first | assumption | rfl) rfl rfl (Nat.le_of_ble_eq_true rfl) (by decide) (c_X12_side (w := 0 + 1) hs0 hs1 (by omega) (by omega) (by decide) (by decide)) ?_
  refine e_mmin (q := 23) dX12_shared_20 rfl ml_X12_329 mw_min_s mw_min_c mw_init (Nat.le_of_ble_eq_true rfl) (by decide) ?_
  refine e_aload_n (q := 24) (i := 0) dX12_shared_23 rfl rfl rfl ?_
  refine e_iload_n (q := 25) (i := 1) dX12_shared_24 rfl rfl rfl ?_
  refine e_iload_n (q := 26) (i := 2) dX12_shared_25 rfl rfl rfl ?_
  refine e_iload (q := 28) dX12_shared_26 rfl rfl ?_
  refine e_Vip (q := 31) (vs := [_, _, _]) ok_X12_side ml_X12_326 dX12_shared_28 rfl ⟨_, _, rfl⟩ (by first | assumption | rfl) rfl rfl (Nat.le_of_ble_eq_true rfl) (by decide) (c_X12_side (w := 0) hs0 hs1 (by omega) (by omega) (by decide) (by decide)) ?_
  refine e_aload_n (q := 32) (i := 0) dX12_shared_31 rfl rfl rfl ?_
  refine e_iload_n (q := 33) (i := 1) dX12_shared_32 rfl rfl rfl ?_
  refine e_iload_n (q := 34) (i := 3) dX12_shared_33 rfl rfl rfl ?_
  refine e_iload (q := 36) dX12_shared_34 rfl rfl ?_
  refine e_Vip (q := 39) (vs := [_, _, _]) ok_X12_side ml_X12_326 dX12_shared_36 rfl ⟨_, _, rfl⟩ (by first | assumption | rfl) rfl rfl (Nat.le_of_ble_eq_true rfl) (by decide) (c_X12_side (w := 0) hs0 hs1 (by omega) (by omega) (by decide) (by decide)) ?_
  refine e_mmax (q := 42) dX12_shared_39 rfl ml_X12_332 mw_max_s mw_max_c mw_init (Nat.le_of_ble_eq_true rfl) (by decide) ?_
  refine e_isub (q := 43) dX12_shared_42 rfl ?_
  refine e_iconst (q := 44) dX12_shared_43 rfl ?_
  refine e_iadd (q := 45) dX12_shared_44 rfl ?_
  exact r_i dX12_shared_45 rfl ⟨rfl, rfl⟩

theorem c_X12_shared2 {G : Gx} {σ : Sg} {s p q : Int} (hT : MT σ) (hI : MI σ s) (hs0 : 0 ≤ s) (hs1 : s < 23) (hp : 0 ≤ p) (hp4 : p < 4) (hq : 0 ≤ q) (hq4 : q < 4)  : Con G 3 mX12_shared [.ref (G.2.2.2 + 82), .int (iZ s), .int (iZ p), .int (iZ q), .int (iZ 2)] σ (pI (pE σ (gCC (σ.1 87) (mF σ s) p q))) := by
  have ap_0 := mSide_in hT hI hp hp4 (0)
  have ap_1 := mSide_in hT hI hp hp4 (1)
  have ap_2 := mSide_in hT hI hp hp4 (2)
  have ap_3 := mSide_in hT hI hp hp4 (3)
  have ap_01 := mSide_in hT hI hp hp4 (0 + 1)
  have ap_21 := mSide_in hT hI hp hp4 (2 + 1)
  have aq_0 := mSide_in hT hI hq hq4 (0)
  have aq_1 := mSide_in hT hI hq hq4 (1)
  have aq_2 := mSide_in hT hI hq hq4 (2)
  have aq_3 := mSide_in hT hI hq hq4 (3)
  have aq_01 := mSide_in hT hI hq hq4 (0 + 1)
  have aq_21 := mSide_in hT hI hq hq4 (2 + 1)
  refine e_entry om_X12_shared (Nat.le_of_ble_eq_true rfl) (L := [some (.ref (G.2.2.2 + 82)), some (.int (iZ s)), some (.int (iZ p)), some (.int (iZ q)), some (.int (iZ 2))]) rfl ?_
  refine e_aload_n (q := 1) (i := 0) dX12_shared_0 rfl rfl rfl ?_
  refine e_iload_n (q := 2) (i := 1) dX12_shared_1 rfl rfl rfl ?_
  refine e_iload_n (q := 3) (i := 2) dX12_shared_2 rfl rfl rfl ?_
  refine e_iload (q := 5) dX12_shared_3 rfl rfl ?_
  refine e_iconst (q := 6) dX12_shared_5 rfl ?_
  refine e_iadd (q := 7) dX12_shared_6 rfl ?_
  refine e_Vip (q := 10) (vs := [_, _, _]) ok_X12_side ml_X12_326 dX12_shared_7 rfl ⟨_, _, rfl⟩ (by first | assumption | rfl) rfl rfl (Nat.le_of_ble_eq_true rfl) (by decide) (c_X12_side (w := 2 + 1) hs0 hs1 (by omega) (by omega) (by decide) (by decide)) ?_
  refine e_aload_n (q := 11) (i := 0) dX12_shared_10 rfl rfl rfl ?_
  refine e_iload_n (q := 12) (i := 1) dX12_shared_11 rfl rfl rfl ?_
  refine e_iload_n (q := 13) (i := 3) dX12_shared_12 rfl rfl rfl ?_
  refine e_iload (q := 15) dX12_shared_13 rfl rfl ?_
  refine e_iconst (q := 16) dX12_shared_15 rfl ?_
  refine e_iadd (q := 17) dX12_shared_16 rfl ?_
  refine e_Vip (q := 20) (vs := [_, _, _]) ok_X12_side ml_X12_326 dX12_shared_17 rfl ⟨_, _, rfl⟩ (by first | assumption | rfl) rfl rfl (Nat.le_of_ble_eq_true rfl) (by decide) (c_X12_side (w := 2 + 1) hs0 hs1 (by omega) (by omega) (by decide) (by decide)) ?_
  refine e_mmin (q := 23) dX12_shared_20 rfl ml_X12_329 mw_min_s mw_min_c mw_init (Nat.le_of_ble_eq_true rfl) (by decide) ?_
  refine e_aload_n (q := 24) (i := 0) dX12_shared_23 rfl rfl rfl ?_
  refine e_iload_n (q := 25) (i := 1) dX12_shared_24 rfl rfl rfl ?_
  refine e_iload_n (q := 26) (i := 2) dX12_shared_25 rfl rfl rfl ?_
  refine e_iload (q := 28) dX12_shared_26 rfl rfl ?_
  refine e_Vip (q := 31) (vs := [_, _, _]) ok_X12_side ml_X12_326 dX12_shared_28 rfl ⟨_, _, rfl⟩ (by first | assumption | rfl) rfl rfl (Nat.le_of_ble_eq_true rfl) (by decide) (c_X12_side (w := 2) hs0 hs1 (by omega) (by omega) (by decide) (by decide)) ?_
  refine e_aload_n (q := 32) (i := 0) dX12_shared_31 rfl rfl rfl ?_
  refine e_iload_n (q := 33) (i := 1) dX12_shared_32 rfl rfl rfl ?_
  refine e_iload_n (q := 34) (i := 3) dX12_shared_33 rfl rfl rfl ?_
  refine e_iload (q := 36) dX12_shared_34 rfl rfl ?_
  refine e_Vip (q := 39) (vs := [_, _, _]) ok_X12_side ml_X12_326 dX12_shared_36 rfl ⟨_, _, rfl⟩ (by first | assumption | rfl) rfl rfl (Nat.le_of_ble_eq_true rfl) (by decide) (c_X12_side (w := 2) hs0 hs1 (by omega) (by omega) (by decide) (by decide)) ?_
  refine e_mmax (q := 42) dX12_shared_39 rfl ml_X12_332 mw_max_s mw_max_c mw_init (Nat.le_of_ble_eq_true rfl) (by decide) ?_
  refine e_isub (q := 43) dX12_shared_42 rfl ?_
  refine e_iconst (q := 44) dX12_shared_43 rfl ?_
  refine e_iadd (q := 45) dX12_shared_44 rfl ?_
  exact r_i dX12_shared_45 rfl ⟨rfl, rfl⟩

theorem mCR_in {σ : Sg} {s p q : Int} (hT : MT σ) (hI : MI σ s) (hs0 : 0 ≤ s) (hs1 : s < 23) (hp : 0 ≤ p) (hp4 : p < 4) (hq : 0 ≤ q) (hq4 : q < 4)  : (-200 ≤ gCR (σ.1 86) (mF σ s) p q ∧ gCR (σ.1 86) (mF σ s) p q ≤ 200) ∧ (-200 ≤ gCC (σ.1 87) (mF σ s) p q ∧ gCC (σ.1 87) (mF σ s) p q ≤ 200) := by
  have ap_0 := mSide_in hT hI hp hp4 (0)
  have ap_1 := mSide_in hT hI hp hp4 (1)
  have ap_2 := mSide_in hT hI hp hp4 (2)
  have ap_3 := mSide_in hT hI hp hp4 (3)
  have ap_01 := mSide_in hT hI hp hp4 (0 + 1)
  have ap_21 := mSide_in hT hI hp hp4 (2 + 1)
  have aq_0 := mSide_in hT hI hq hq4 (0)
  have aq_1 := mSide_in hT hI hq hq4 (1)
  have aq_2 := mSide_in hT hI hq hq4 (2)
  have aq_3 := mSide_in hT hI hq hq4 (3)
  have aq_01 := mSide_in hT hI hq hq4 (0 + 1)
  have aq_21 := mSide_in hT hI hq hq4 (2 + 1)
  unfold gCR gCC
  simp only [show ∀ p, gTop (σ.1 86) (mF σ s) p = mSide σ s p 0 from fun _ => rfl, show ∀ p, gBot (σ.1 86) (mF σ s) p = mSide σ s p 1 from fun _ => rfl, show ∀ p, gLft (σ.1 87) (mF σ s) p = mSide σ s p 2 from fun _ => rfl, show ∀ p, gRgt (σ.1 87) (mF σ s) p = mSide σ s p 3 from fun _ => rfl]
  omega
theorem mOv_in {σ : Sg} {s p q : Int} (hT : MT σ) (hI : MI σ s) (hs0 : 0 ≤ s) (hs1 : s < 23) (hp : 0 ≤ p) (hp4 : p < 4) (hq : 0 ≤ q) (hq4 : q < 4)  : 0 ≤ gOv (σ.1 86) (σ.1 87) (mF σ s) p q ∧ gOv (σ.1 86) (σ.1 87) (mF σ s) p q ≤ 40000 := by
  have a := mCR_in hT hI hs0 hs1 hp hp4 hq hq4
  unfold gOv
  have h1 := Int.mul_nonneg (show 0 ≤ max (gCR (σ.1 86) (mF σ s) p q) 0 by omega) (show 0 ≤ max (gCC (σ.1 87) (mF σ s) p q) 0 by omega)
  have h2 := Int.mul_le_mul (show max (gCR (σ.1 86) (mF σ s) p q) 0 ≤ 200 by omega) (show max (gCC (σ.1 87) (mF σ s) p q) 0 ≤ 200 by omega) (by omega) (by decide)
  omega

theorem c_X12_overlapOf {G : Gx} {σ : Sg} {s p q : Int} (hT : MT σ) (hI : MI σ s) (hs0 : 0 ≤ s) (hs1 : s < 23) (hp : 0 ≤ p) (hp4 : p < 4) (hq : 0 ≤ q) (hq4 : q < 4)  : Con G 4 mX12_overlapOf [.ref (G.2.2.2 + 82), .int (iZ s), .int (iZ p), .int (iZ q)] σ (pI (pE σ (gOv (σ.1 86) (σ.1 87) (mF σ s) p q))) := by
  have hm := mCR_in hT hI hs0 hs1 hp hp4 hq hq4
  refine e_entry om_X12_overlapOf (Nat.le_of_ble_eq_true rfl) (L := [some (.ref (G.2.2.2 + 82)), some (.int (iZ s)), some (.int (iZ p)), some (.int (iZ q))]) rfl ?_
  refine e_iconst (q := 1) dX12_overlapOf_0 rfl ?_
  refine e_aload_n (q := 2) (i := 0) dX12_overlapOf_1 rfl rfl rfl ?_
  refine e_iload_n (q := 3) (i := 1) dX12_overlapOf_2 rfl rfl rfl ?_
  refine e_iload_n (q := 4) (i := 2) dX12_overlapOf_3 rfl rfl rfl ?_
  refine e_iload_n (q := 5) (i := 3) dX12_overlapOf_4 rfl rfl rfl ?_
  refine e_iconst (q := 6) dX12_overlapOf_5 rfl ?_
  refine e_Vip (q := 9) (vs := [_, _, _, _]) ok_X12_shared ml_X12_335 dX12_overlapOf_6 rfl ⟨_, _, rfl⟩ (by first | assumption | rfl) rfl rfl (Nat.le_of_ble_eq_true rfl) (by decide) (c_X12_shared0 hT hI hs0 hs1 (by omega) (by omega) (by omega) (by omega)) ?_
  refine e_mmax (q := 12) dX12_overlapOf_9 rfl ml_X12_332 mw_max_s mw_max_c mw_init (Nat.le_of_ble_eq_true rfl) (by decide) ?_
  refine e_iconst (q := 13) dX12_overlapOf_12 rfl ?_
  refine e_aload_n (q := 14) (i := 0) dX12_overlapOf_13 rfl rfl rfl ?_
  refine e_iload_n (q := 15) (i := 1) dX12_overlapOf_14 rfl rfl rfl ?_
  refine e_iload_n (q := 16) (i := 2) dX12_overlapOf_15 rfl rfl rfl ?_
  refine e_iload_n (q := 17) (i := 3) dX12_overlapOf_16 rfl rfl rfl ?_
  refine e_iconst (q := 18) dX12_overlapOf_17 rfl ?_
  refine e_Vip (q := 21) (vs := [_, _, _, _]) ok_X12_shared ml_X12_335 dX12_overlapOf_18 rfl ⟨_, _, rfl⟩ (by first | assumption | rfl) rfl rfl (Nat.le_of_ble_eq_true rfl) (by decide) (c_X12_shared2 hT hI hs0 hs1 (by omega) (by omega) (by omega) (by omega)) ?_
  refine e_mmax (q := 24) dX12_overlapOf_21 rfl ml_X12_332 mw_max_s mw_max_c mw_init (Nat.le_of_ble_eq_true rfl) (by decide) ?_
  refine e_imul (q := 25) dX12_overlapOf_24 rfl ?_
  exact r_i dX12_overlapOf_25 rfl ⟨by unfold gOv; rw [Int.max_comm 0, Int.max_comm 0], rfl⟩

theorem c_X12_doTouch {G : Gx} {σ : Sg} {p q : Int} (hT : MT σ) (hI : MI σ 0) (hp : 0 ≤ p) (hp4 : p < 4) (hq : 0 ≤ q) (hq4 : q < 4)  : Con G 4 mX12_doTouch [.ref (G.2.2.2 + 82), .int (iZ p), .int (iZ q)] σ (pI (pE σ (gTouch (σ.1 86) (σ.1 87) (mF σ 0) p q))) := by
  have hs0 : (0 : Int) ≤ 0 := by decide
  have hs1 : (0 : Int) < 23 := by decide
  have hm := mCR_in hT hI hs0 hs1 hp hp4 hq hq4
  refine e_entry om_X12_doTouch (Nat.le_of_ble_eq_true rfl) (L := [some (.ref (G.2.2.2 + 82)), some (.int (iZ p)), some (.int (iZ q)), none, none]) rfl ?_
  refine e_aload_n (q := 1) (i := 0) dX12_doTouch_0 rfl rfl rfl ?_
  refine e_iconst (q := 2) dX12_doTouch_1 rfl ?_
  refine e_iload_n (q := 3) (i := 1) dX12_doTouch_2 rfl rfl rfl ?_
  refine e_iload_n (q := 4) (i := 2) dX12_doTouch_3 rfl rfl rfl ?_
  refine e_iconst (q := 5) dX12_doTouch_4 rfl ?_
  refine e_Vip (q := 8) (vs := [_, _, _, _]) ok_X12_shared ml_X12_335 dX12_doTouch_5 rfl ⟨_, _, rfl⟩ (by first | assumption | rfl) rfl rfl (Nat.le_of_ble_eq_true rfl) (by decide) (c_X12_shared0 hT hI hs0 hs1 (by omega) (by omega) (by omega) (by omega)) ?_
  refine e_istore_n (q := 9) (i := 3) (L' := [_, _, _, _, _]) dX12_doTouch_8 rfl rfl (by decide) rfl rfl ?_
  refine e_aload_n (q := 10) (i := 0) dX12_doTouch_9 rfl rfl rfl ?_
  refine e_iconst (q := 11) dX12_doTouch_10 rfl ?_
  refine e_iload_n (q := 12) (i := 1) dX12_doTouch_11 rfl rfl rfl ?_
  refine e_iload_n (q := 13) (i := 2) dX12_doTouch_12 rfl rfl rfl ?_
  refine e_iconst (q := 14) dX12_doTouch_13 rfl ?_
  refine e_Vip (q := 17) (vs := [_, _, _, _]) ok_X12_shared ml_X12_335 dX12_doTouch_14 rfl ⟨_, _, rfl⟩ (by first | assumption | rfl) rfl rfl (Nat.le_of_ble_eq_true rfl) (by decide) (c_X12_shared2 hT hI hs0 hs1 (by omega) (by omega) (by omega) (by omega)) ?_
  refine e_istore (q := 19) (L' := [_, _, _, _, _]) dX12_doTouch_17 rfl (by decide) rfl rfl ?_
  refine e_iload_n (q := 20) (i := 3) dX12_doTouch_19 rfl rfl rfl ?_
  refine e_if_le (q := 23) (tgt := 28) dX12_doTouch_20 rfl (by decide) (fun c20 => ?_) (fun c20 => ?_)
  · refine e_iload_n (q := 29) (i := 3) dX12_doTouch_28 rfl rfl rfl ?_
    refine e_if_lt (q := 32) (tgt := 41) dX12_doTouch_29 rfl (by decide) (fun c29 => ?_) (fun c29 => ?_)
    · refine e_iconst (q := 42) dX12_doTouch_41 rfl ?_
      exact r_z dX12_doTouch_42 rfl (by first | exact Or.inl rfl | exact Or.inr rfl | omega) ⟨by unfold gTouch; split <;> omega, rfl⟩
    · refine e_iload (q := 34) dX12_doTouch_32 rfl rfl ?_
      refine e_if_le (q := 37) (tgt := 41) dX12_doTouch_34 rfl (by decide) (fun c34 => ?_) (fun c34 => ?_)
      · refine e_iconst (q := 42) dX12_doTouch_41 rfl ?_
        exact r_z dX12_doTouch_42 rfl (by first | exact Or.inl rfl | exact Or.inr rfl | omega) ⟨by unfold gTouch; split <;> omega, rfl⟩
      · refine e_iconst (q := 38) dX12_doTouch_37 rfl ?_
        refine e_goto (tgt := 42) dX12_doTouch_38 (by decide) ?_
        exact r_z dX12_doTouch_42 rfl (by first | exact Or.inl rfl | exact Or.inr rfl | omega) ⟨by unfold gTouch; split <;> omega, rfl⟩
  · refine e_iload (q := 25) dX12_doTouch_23 rfl rfl ?_
    refine e_if_ge (q := 28) (tgt := 37) dX12_doTouch_25 rfl (by decide) (fun c25 => ?_) (fun c25 => ?_)
    · refine e_iconst (q := 38) dX12_doTouch_37 rfl ?_
      refine e_goto (tgt := 42) dX12_doTouch_38 (by decide) ?_
      exact r_z dX12_doTouch_42 rfl (by first | exact Or.inl rfl | exact Or.inr rfl | omega) ⟨by unfold gTouch; split <;> omega, rfl⟩
    · refine e_iload_n (q := 29) (i := 3) dX12_doTouch_28 rfl rfl rfl ?_
      refine e_if_lt (q := 32) (tgt := 41) dX12_doTouch_29 rfl (by decide) (fun c29 => ?_) (fun c29 => ?_)
      · refine e_iconst (q := 42) dX12_doTouch_41 rfl ?_
        exact r_z dX12_doTouch_42 rfl (by first | exact Or.inl rfl | exact Or.inr rfl | omega) ⟨by unfold gTouch; split <;> omega, rfl⟩
      · refine e_iload (q := 34) dX12_doTouch_32 rfl rfl ?_
        refine e_if_le (q := 37) (tgt := 41) dX12_doTouch_34 rfl (by decide) (fun c34 => ?_) (fun c34 => ?_)
        · refine e_iconst (q := 42) dX12_doTouch_41 rfl ?_
          exact r_z dX12_doTouch_42 rfl (by first | exact Or.inl rfl | exact Or.inr rfl | omega) ⟨by unfold gTouch; split <;> omega, rfl⟩
        · refine e_iconst (q := 38) dX12_doTouch_37 rfl ?_
          refine e_goto (tgt := 42) dX12_doTouch_38 (by decide) ?_
          exact r_z dX12_doTouch_42 rfl (by first | exact Or.inl rfl | exact Or.inr rfl | omega) ⟨by unfold gTouch; split <;> omega, rfl⟩

theorem c_X12_areas {G : Gx} {σ : Sg} {s : Int} (hT : MT σ) (hI : MI σ s) (hs0 : 0 ≤ s) (hs1 : s < 23)  : Con G 4 mX12_areas [.ref (G.2.2.2 + 82), .int (iZ s)] σ (pI (pE σ (zs (fun p => gArea (σ.1 86) (σ.1 87) (mF σ s) p) (σ.1 84 1)))) := by
  obtain ⟨hzz, hnp, hnc, hnb, hrn, hsd, hrw, hrq, hch, hbt, hck⟩ := id hT
  have lp : ∀ (n : Nat) (i t : Int), 0 ≤ i → i + n = (σ.1 84 1) → t = zs (fun p => gArea (σ.1 86) (σ.1 87) (mF σ s) p) i → J G 4 mX12_areas (pI (pE σ (zs (fun p => gArea (σ.1 86) (σ.1 87) (mF σ s) p) (σ.1 84 1)))) σ 4 [some (.ref (G.2.2.2 + 82)), some (.int (iZ s)), some (.int (iZ t)), some (.int (iZ i))] [] := by
    intro n
    induction n with
    | zero =>
      intro i t h0 hn ht
      refine e_iload_n (q := 5) (i := 3) dX12_areas_4 rfl rfl rfl ?_
      refine e_aload_n (q := 6) (i := 0) dX12_areas_5 rfl rfl rfl ?_
      refine e_getR (q := 9) dX12_areas_6 rfl fg_X12_13 (by first | assumption | rfl) rfl ?_
      refine e_iconst (q := 10) dX12_areas_9 rfl ?_
      refine e_iald (q := 11) dX12_areas_10 rfl (by first | assumption | rfl) ?_
      refine e_icmp_ge (q := 14) (tgt := 29) dX12_areas_11 rfl (by decide) (fun c11 => ?_) (fun c11 => absurd (by omega) c11)
      refine e_iload_n (q := 30) (i := 2) dX12_areas_29 rfl rfl rfl ?_
      exact r_i dX12_areas_30 rfl ⟨by rw [ht]; congr 1; omega, rfl⟩
    | succ n ih =>
      intro i t h0 hn ht
      refine e_iload_n (q := 5) (i := 3) dX12_areas_4 rfl rfl rfl ?_
      refine e_aload_n (q := 6) (i := 0) dX12_areas_5 rfl rfl rfl ?_
      refine e_getR (q := 9) dX12_areas_6 rfl fg_X12_13 (by first | assumption | rfl) rfl ?_
      refine e_iconst (q := 10) dX12_areas_9 rfl ?_
      refine e_iald (q := 11) dX12_areas_10 rfl (by first | assumption | rfl) ?_
      refine e_icmp_ge (q := 14) (tgt := 29) dX12_areas_11 rfl (by decide) (fun c11 => absurd c11 (by omega)) (fun c11 => ?_)
      refine e_iload_n (q := 15) (i := 2) dX12_areas_14 rfl rfl rfl ?_
      refine e_aload_n (q := 16) (i := 0) dX12_areas_15 rfl rfl rfl ?_
      refine e_iload_n (q := 17) (i := 1) dX12_areas_16 rfl rfl rfl ?_
      refine e_iload_n (q := 18) (i := 3) dX12_areas_17 rfl rfl rfl ?_
      refine e_Vip (q := 21) (vs := [_, _]) ok_X12_areaOf ml_X12_339 dX12_areas_18 rfl ⟨_, _, rfl⟩ (by first | assumption | rfl) rfl rfl (Nat.le_of_ble_eq_true rfl) (by decide) (c_X12_areaOf hs0 hs1 (by omega) (by omega)) ?_
      refine e_iadd (q := 22) dX12_areas_21 rfl ?_
      refine e_istore_n (q := 23) (i := 2) (L' := [_, _, _, _]) dX12_areas_22 rfl rfl (by decide) rfl rfl ?_
      refine e_iinc (q := 26) (L' := [_, _, _, _]) dX12_areas_23 rfl rfl (by decide) rfl rfl ?_
      refine e_goto (tgt := 4) dX12_areas_26 (by decide) ?_
      exact ih _ _ (by omega) (by omega) (by rw [ht, zs_succ _ h0])
  refine e_entry om_X12_areas (Nat.le_of_ble_eq_true rfl) (L := [some (.ref (G.2.2.2 + 82)), some (.int (iZ s)), none, none]) rfl ?_
  refine e_iconst (q := 1) dX12_areas_0 rfl ?_
  refine e_istore_n (q := 2) (i := 2) (L' := [_, _, _, _]) dX12_areas_1 rfl rfl (by decide) rfl rfl ?_
  refine e_iconst (q := 3) dX12_areas_2 rfl ?_
  refine e_istore_n (q := 4) (i := 3) (L' := [_, _, _, _]) dX12_areas_3 rfl rfl (by decide) rfl rfl ?_
  exact lp ((σ.1 84 1)).toNat 0 0 (by omega) (by omega) rfl

theorem c_X12_legsAll {G : Gx} {σ : Sg} {s : Int} (hT : MT σ) (hI : MI σ s) (hs0 : 0 ≤ s) (hs1 : s < 23)  : Con G 1 mX12_legsAll [.ref (G.2.2.2 + 82), .int (iZ s)] σ (pI (pE σ (zs (mL σ s) (σ.1 84 2)))) := by
  obtain ⟨hzz, hnp, hnc, hnb, hrn, hsd, hrw, hrq, hch, hbt, hck⟩ := id hT
  have lp : ∀ (n : Nat) (i t : Int), 0 ≤ i → i + n = (σ.1 84 2) → t = zs (mL σ s) i → J G 1 mX12_legsAll (pI (pE σ (zs (mL σ s) (σ.1 84 2)))) σ 4 [some (.ref (G.2.2.2 + 82)), some (.int (iZ s)), some (.int (iZ t)), some (.int (iZ i))] [] := by
    intro n
    induction n with
    | zero =>
      intro i t h0 hn ht
      refine e_iload_n (q := 5) (i := 3) dX12_legsAll_4 rfl rfl rfl ?_
      refine e_aload_n (q := 6) (i := 0) dX12_legsAll_5 rfl rfl rfl ?_
      refine e_getR (q := 9) dX12_legsAll_6 rfl fg_X12_13 (by first | assumption | rfl) rfl ?_
      refine e_iconst (q := 10) dX12_legsAll_9 rfl ?_
      refine e_iald (q := 11) dX12_legsAll_10 rfl (by first | assumption | rfl) ?_
      refine e_icmp_ge (q := 14) (tgt := 34) dX12_legsAll_11 rfl (by decide) (fun c11 => ?_) (fun c11 => absurd (by omega) c11)
      refine e_iload_n (q := 35) (i := 2) dX12_legsAll_34 rfl rfl rfl ?_
      exact r_i dX12_legsAll_35 rfl ⟨by rw [ht]; congr 1; omega, rfl⟩
    | succ n ih =>
      intro i t h0 hn ht
      refine e_iload_n (q := 5) (i := 3) dX12_legsAll_4 rfl rfl rfl ?_
      refine e_aload_n (q := 6) (i := 0) dX12_legsAll_5 rfl rfl rfl ?_
      refine e_getR (q := 9) dX12_legsAll_6 rfl fg_X12_13 (by first | assumption | rfl) rfl ?_
      refine e_iconst (q := 10) dX12_legsAll_9 rfl ?_
      refine e_iald (q := 11) dX12_legsAll_10 rfl (by first | assumption | rfl) ?_
      refine e_icmp_ge (q := 14) (tgt := 34) dX12_legsAll_11 rfl (by decide) (fun c11 => absurd c11 (by omega)) (fun c11 => ?_)
      refine e_iload_n (q := 15) (i := 2) dX12_legsAll_14 rfl rfl rfl ?_
      refine e_aload_n (q := 16) (i := 0) dX12_legsAll_15 rfl rfl rfl ?_
      refine e_getR (q := 19) dX12_legsAll_16 rfl fg_X12_87 (by first | assumption | rfl) rfl ?_
      refine e_bipush (q := 21) dX12_legsAll_19 rfl (by decide) ?_
      refine e_iload_n (q := 22) (i := 1) dX12_legsAll_21 rfl rfl rfl ?_
      refine e_imul (q := 23) dX12_legsAll_22 rfl ?_
      refine e_iload_n (q := 24) (i := 3) dX12_legsAll_23 rfl rfl rfl ?_
      refine e_iadd (q := 25) dX12_legsAll_24 rfl ?_
      refine e_iald (q := 26) dX12_legsAll_25 rfl (by first | assumption | rfl) ?_
      refine e_iadd (q := 27) dX12_legsAll_26 rfl ?_
      refine e_istore_n (q := 28) (i := 2) (L' := [_, _, _, _]) dX12_legsAll_27 rfl rfl (by decide) rfl rfl ?_
      refine e_iinc (q := 31) (L' := [_, _, _, _]) dX12_legsAll_28 rfl rfl (by decide) rfl rfl ?_
      refine e_goto (tgt := 4) dX12_legsAll_31 (by decide) ?_
      exact ih _ _ (by omega) (by omega) (by rw [ht, zs_succ _ h0]; rfl)
  refine e_entry om_X12_legsAll (Nat.le_of_ble_eq_true rfl) (L := [some (.ref (G.2.2.2 + 82)), some (.int (iZ s)), none, none]) rfl ?_
  refine e_iconst (q := 1) dX12_legsAll_0 rfl ?_
  refine e_istore_n (q := 2) (i := 2) (L' := [_, _, _, _]) dX12_legsAll_1 rfl rfl (by decide) rfl rfl ?_
  refine e_iconst (q := 3) dX12_legsAll_2 rfl ?_
  refine e_istore_n (q := 4) (i := 3) (L' := [_, _, _, _]) dX12_legsAll_3 rfl rfl (by decide) rfl rfl ?_
  exact lp ((σ.1 84 2)).toNat 0 0 (by omega) (by omega) rfl

theorem c_X12_ownersOf {G : Gx} {σ : Sg} {r c : Int} (hT : MT σ) (hI : MI σ 0) (hr : R32 r) (hc : R32 c) : Con G 4 mX12_ownersOf [.ref (G.2.2.2 + 82), .int (iZ r), .int (iZ c)] σ (pI (pE σ (zb (fun p => gHold (σ.1 86) (σ.1 87) (mF σ 0) p r c) (σ.1 84 1)))) := by
  obtain ⟨hzz, hnp, hnc, hnb, hrn, hsd, hrw, hrq, hch, hbt, hck⟩ := id hT
  have hs0 : (0 : Int) ≤ 0 := by decide
  have hs1 : (0 : Int) < 23 := by decide
  have lp : ∀ (n : Nat) (i t : Int), 0 ≤ i → i + n = (σ.1 84 1) → t = zb (fun p => gHold (σ.1 86) (σ.1 87) (mF σ 0) p r c) i → J G 4 mX12_ownersOf (pI (pE σ (zb (fun p => gHold (σ.1 86) (σ.1 87) (mF σ 0) p r c) (σ.1 84 1)))) σ 5 [some (.ref (G.2.2.2 + 82)), some (.int (iZ r)), some (.int (iZ c)), some (.int (iZ t)), some (.int (iZ i))] [] := by
    intro n
    induction n with
    | zero =>
      intro i t h0 hn ht
      have hf := (show gHold (σ.1 86) (σ.1 87) (mF σ 0) i r c = 0 ∨ gHold (σ.1 86) (σ.1 87) (mF σ 0) i r c = 1 by unfold gHold; split <;> simp)
      have hb := zb_lt (fun p => gHold (σ.1 86) (σ.1 87) (mF σ 0) p r c) (i := i)
      refine e_iload (q := 7) dX12_ownersOf_5 rfl rfl ?_
      refine e_aload_n (q := 8) (i := 0) dX12_ownersOf_7 rfl rfl rfl ?_
      refine e_getR (q := 11) dX12_ownersOf_8 rfl fg_X12_13 (by first | assumption | rfl) rfl ?_
      refine e_iconst (q := 12) dX12_ownersOf_11 rfl ?_
      refine e_iald (q := 13) dX12_ownersOf_12 rfl (by first | assumption | rfl) ?_
      refine e_icmp_ge (q := 16) (tgt := 45) dX12_ownersOf_13 rfl (by decide) (fun c13 => ?_) (fun c13 => absurd (by omega) c13)
      refine e_iload_n (q := 46) (i := 3) dX12_ownersOf_45 rfl rfl rfl ?_
      exact r_i dX12_ownersOf_46 rfl ⟨by rw [ht]; congr 1; omega, rfl⟩
    | succ n ih =>
      intro i t h0 hn ht
      have hf := (show gHold (σ.1 86) (σ.1 87) (mF σ 0) i r c = 0 ∨ gHold (σ.1 86) (σ.1 87) (mF σ 0) i r c = 1 by unfold gHold; split <;> simp)
      have hb := zb_lt (fun p => gHold (σ.1 86) (σ.1 87) (mF σ 0) p r c) (i := i)
      refine e_iload (q := 7) dX12_ownersOf_5 rfl rfl ?_
      refine e_aload_n (q := 8) (i := 0) dX12_ownersOf_7 rfl rfl rfl ?_
      refine e_getR (q := 11) dX12_ownersOf_8 rfl fg_X12_13 (by first | assumption | rfl) rfl ?_
      refine e_iconst (q := 12) dX12_ownersOf_11 rfl ?_
      refine e_iald (q := 13) dX12_ownersOf_12 rfl (by first | assumption | rfl) ?_
      refine e_icmp_ge (q := 16) (tgt := 45) dX12_ownersOf_13 rfl (by decide) (fun c13 => absurd c13 (by omega)) (fun c13 => ?_)
      refine e_iload_n (q := 17) (i := 3) dX12_ownersOf_16 rfl rfl rfl ?_
      refine e_aload_n (q := 18) (i := 0) dX12_ownersOf_17 rfl rfl rfl ?_
      refine e_iconst (q := 19) dX12_ownersOf_18 rfl ?_
      refine e_iload (q := 21) dX12_ownersOf_19 rfl rfl ?_
      refine e_iload_n (q := 22) (i := 1) dX12_ownersOf_21 rfl rfl rfl ?_
      refine e_iload_n (q := 23) (i := 2) dX12_ownersOf_22 rfl rfl rfl ?_
      refine e_Vip (q := 26) (vs := [_, _, _, _]) ok_X12_isOf ml_X12_408 dX12_ownersOf_23 rfl ⟨_, _, rfl⟩ (by first | assumption | rfl) rfl rfl (Nat.le_of_ble_eq_true rfl) (by decide) (c_X12_isOf hT hI hs0 hs1 (by omega) (by omega) hr hc) ?_
      refine e_if_eq (q := 29) (tgt := 36) dX12_ownersOf_26 rfl (by decide) (fun c26 => ?_) (fun c26 => ?_)
      · refine e_iconst (q := 37) dX12_ownersOf_36 rfl ?_
        refine e_ior (q := 38) dX12_ownersOf_37 rfl (iZ_or0 _) ?_
        refine e_istore_n (q := 39) (i := 3) (L' := [_, _, _, _, _]) dX12_ownersOf_38 rfl rfl (by decide) rfl rfl ?_
        refine e_iinc (q := 42) (L' := [_, _, _, _, _]) dX12_ownersOf_39 rfl rfl (by decide) rfl rfl ?_
        refine e_goto (tgt := 5) dX12_ownersOf_42 (by decide) ?_
        exact ih _ _ (by omega) (by omega) (by rw [ht, zb_succ _ h0]; first | rw [if_pos (by omega)] | (rw [if_neg (by omega)]; omega))
      · refine e_iconst (q := 30) dX12_ownersOf_29 rfl ?_
        refine e_iload (q := 32) dX12_ownersOf_30 rfl rfl ?_
        refine e_ishl (q := 33) dX12_ownersOf_32 rfl (iZ_shl1 (by omega) (by omega)) ?_
        refine e_goto (tgt := 37) dX12_ownersOf_33 (by decide) ?_
        refine e_ior (q := 38) dX12_ownersOf_37 rfl (iZ_orp (by omega) (by rw [ht]; exact hb.2) (by omega)) ?_
        refine e_istore_n (q := 39) (i := 3) (L' := [_, _, _, _, _]) dX12_ownersOf_38 rfl rfl (by decide) rfl rfl ?_
        refine e_iinc (q := 42) (L' := [_, _, _, _, _]) dX12_ownersOf_39 rfl rfl (by decide) rfl rfl ?_
        refine e_goto (tgt := 5) dX12_ownersOf_42 (by decide) ?_
        exact ih _ _ (by omega) (by omega) (by rw [ht, zb_succ _ h0]; first | rw [if_pos (by omega)] | (rw [if_neg (by omega)]; omega))
  refine e_entry om_X12_ownersOf (Nat.le_of_ble_eq_true rfl) (L := [some (.ref (G.2.2.2 + 82)), some (.int (iZ r)), some (.int (iZ c)), none, none]) rfl ?_
  refine e_iconst (q := 1) dX12_ownersOf_0 rfl ?_
  refine e_istore_n (q := 2) (i := 3) (L' := [_, _, _, _, _]) dX12_ownersOf_1 rfl rfl (by decide) rfl rfl ?_
  refine e_iconst (q := 3) dX12_ownersOf_2 rfl ?_
  refine e_istore (q := 5) (L' := [_, _, _, _, _]) dX12_ownersOf_3 rfl (by decide) rfl rfl ?_
  exact lp ((σ.1 84 1)).toNat 0 0 (by omega) (by omega) rfl

theorem c_X12_touchedBy {G : Gx} {σ : Sg} {p : Int} (hT : MT σ) (hI : MI σ 0) (hp : 0 ≤ p) (hp4 : p < 4)  : Con G 5 mX12_touchedBy [.ref (G.2.2.2 + 82), .int (iZ p)] σ (pI (pE σ (gTd (σ.1 86) (σ.1 87) (mF σ 0) (σ.1 84 1) p))) := by
  obtain ⟨hzz, hnp, hnc, hnb, hrn, hsd, hrw, hrq, hch, hbt, hck⟩ := id hT
  have lp : ∀ (n : Nat) (i t : Int), 0 ≤ i → i + n = (σ.1 84 1) → t = zb (fun q => if q ≠ p ∧ gTouch (σ.1 86) (σ.1 87) (mF σ 0) p q = 1 then 1 else 0) i → J G 5 mX12_touchedBy (pI (pE σ (gTd (σ.1 86) (σ.1 87) (mF σ 0) (σ.1 84 1) p))) σ 4 [some (.ref (G.2.2.2 + 82)), some (.int (iZ p)), some (.int (iZ t)), some (.int (iZ i))] [] := by
    intro n
    induction n with
    | zero =>
      intro i t h0 hn ht
      have hf := (show gTouch (σ.1 86) (σ.1 87) (mF σ 0) p i = 0 ∨ gTouch (σ.1 86) (σ.1 87) (mF σ 0) p i = 1 by unfold gTouch; split <;> simp)
      have hb := zb_lt (fun q => if q ≠ p ∧ gTouch (σ.1 86) (σ.1 87) (mF σ 0) p q = 1 then 1 else 0) (i := i)
      refine e_iload_n (q := 5) (i := 3) dX12_touchedBy_4 rfl rfl rfl ?_
      refine e_aload_n (q := 6) (i := 0) dX12_touchedBy_5 rfl rfl rfl ?_
      refine e_getR (q := 9) dX12_touchedBy_6 rfl fg_X12_13 (by first | assumption | rfl) rfl ?_
      refine e_iconst (q := 10) dX12_touchedBy_9 rfl ?_
      refine e_iald (q := 11) dX12_touchedBy_10 rfl (by first | assumption | rfl) ?_
      refine e_icmp_ge (q := 14) (tgt := 44) dX12_touchedBy_11 rfl (by decide) (fun c11 => ?_) (fun c11 => absurd (by omega) c11)
      refine e_iload_n (q := 45) (i := 2) dX12_touchedBy_44 rfl rfl rfl ?_
      exact r_i dX12_touchedBy_45 rfl ⟨by rw [ht]; unfold gTd; congr 1; omega, rfl⟩
    | succ n ih =>
      intro i t h0 hn ht
      have hf := (show gTouch (σ.1 86) (σ.1 87) (mF σ 0) p i = 0 ∨ gTouch (σ.1 86) (σ.1 87) (mF σ 0) p i = 1 by unfold gTouch; split <;> simp)
      have hb := zb_lt (fun q => if q ≠ p ∧ gTouch (σ.1 86) (σ.1 87) (mF σ 0) p q = 1 then 1 else 0) (i := i)
      refine e_iload_n (q := 5) (i := 3) dX12_touchedBy_4 rfl rfl rfl ?_
      refine e_aload_n (q := 6) (i := 0) dX12_touchedBy_5 rfl rfl rfl ?_
      refine e_getR (q := 9) dX12_touchedBy_6 rfl fg_X12_13 (by first | assumption | rfl) rfl ?_
      refine e_iconst (q := 10) dX12_touchedBy_9 rfl ?_
      refine e_iald (q := 11) dX12_touchedBy_10 rfl (by first | assumption | rfl) ?_
      refine e_icmp_ge (q := 14) (tgt := 44) dX12_touchedBy_11 rfl (by decide) (fun c11 => absurd c11 (by omega)) (fun c11 => ?_)
      refine e_iload_n (q := 15) (i := 2) dX12_touchedBy_14 rfl rfl rfl ?_
      refine e_iload_n (q := 16) (i := 3) dX12_touchedBy_15 rfl rfl rfl ?_
      refine e_iload_n (q := 17) (i := 1) dX12_touchedBy_16 rfl rfl rfl ?_
      refine e_icmp_eq (q := 20) (tgt := 35) dX12_touchedBy_17 rfl (by decide) (fun c17 => ?_) (fun c17 => ?_)
      · refine e_iconst (q := 36) dX12_touchedBy_35 rfl ?_
        refine e_ior (q := 37) dX12_touchedBy_36 rfl (iZ_or0 _) ?_
        refine e_istore_n (q := 38) (i := 2) (L' := [_, _, _, _]) dX12_touchedBy_37 rfl rfl (by decide) rfl rfl ?_
        refine e_iinc (q := 41) (L' := [_, _, _, _]) dX12_touchedBy_38 rfl rfl (by decide) rfl rfl ?_
        refine e_goto (tgt := 4) dX12_touchedBy_41 (by decide) ?_
        refine ih _ _ (by omega) (by omega) ?_
        rw [ht, zb_succ _ h0]
        first | (rw [if_pos (by rw [if_pos ⟨by omega, by omega⟩])]; done) | (rw [if_neg (by rw [if_neg (by omega)]; decide)]; omega)
      · refine e_aload_n (q := 21) (i := 0) dX12_touchedBy_20 rfl rfl rfl ?_
        refine e_iload_n (q := 22) (i := 1) dX12_touchedBy_21 rfl rfl rfl ?_
        refine e_iload_n (q := 23) (i := 3) dX12_touchedBy_22 rfl rfl rfl ?_
        refine e_Vip (q := 26) (vs := [_, _]) ok_X12_doTouch ml_X12_345 dX12_touchedBy_23 rfl ⟨_, _, rfl⟩ (by first | assumption | rfl) rfl rfl (Nat.le_of_ble_eq_true rfl) (by decide) (c_X12_doTouch hT hI hp hp4 (by omega) (by omega)) ?_
        refine e_if_eq (q := 29) (tgt := 35) dX12_touchedBy_26 rfl (by decide) (fun c26 => ?_) (fun c26 => ?_)
        · refine e_iconst (q := 36) dX12_touchedBy_35 rfl ?_
          refine e_ior (q := 37) dX12_touchedBy_36 rfl (iZ_or0 _) ?_
          refine e_istore_n (q := 38) (i := 2) (L' := [_, _, _, _]) dX12_touchedBy_37 rfl rfl (by decide) rfl rfl ?_
          refine e_iinc (q := 41) (L' := [_, _, _, _]) dX12_touchedBy_38 rfl rfl (by decide) rfl rfl ?_
          refine e_goto (tgt := 4) dX12_touchedBy_41 (by decide) ?_
          refine ih _ _ (by omega) (by omega) ?_
          rw [ht, zb_succ _ h0]
          first | (rw [if_pos (by rw [if_pos ⟨by omega, by omega⟩])]; done) | (rw [if_neg (by rw [if_neg (by omega)]; decide)]; omega)
        · refine e_iconst (q := 30) dX12_touchedBy_29 rfl ?_
          refine e_iload_n (q := 31) (i := 3) dX12_touchedBy_30 rfl rfl rfl ?_
          refine e_ishl (q := 32) dX12_touchedBy_31 rfl (iZ_shl1 (by omega) (by omega)) ?_
          refine e_goto (tgt := 36) dX12_touchedBy_32 (by decide) ?_
          refine e_ior (q := 37) dX12_touchedBy_36 rfl (iZ_orp (by omega) (by rw [ht]; exact hb.2) (by omega)) ?_
          refine e_istore_n (q := 38) (i := 2) (L' := [_, _, _, _]) dX12_touchedBy_37 rfl rfl (by decide) rfl rfl ?_
          refine e_iinc (q := 41) (L' := [_, _, _, _]) dX12_touchedBy_38 rfl rfl (by decide) rfl rfl ?_
          refine e_goto (tgt := 4) dX12_touchedBy_41 (by decide) ?_
          refine ih _ _ (by omega) (by omega) ?_
          rw [ht, zb_succ _ h0]
          first | (rw [if_pos (by rw [if_pos ⟨by omega, by omega⟩])]; done) | (rw [if_neg (by rw [if_neg (by omega)]; decide)]; omega)
  refine e_entry om_X12_touchedBy (Nat.le_of_ble_eq_true rfl) (L := [some (.ref (G.2.2.2 + 82)), some (.int (iZ p)), none, none]) rfl ?_
  refine e_iconst (q := 1) dX12_touchedBy_0 rfl ?_
  refine e_istore_n (q := 2) (i := 2) (L' := [_, _, _, _]) dX12_touchedBy_1 rfl rfl (by decide) rfl rfl ?_
  refine e_iconst (q := 3) dX12_touchedBy_2 rfl ?_
  refine e_istore_n (q := 4) (i := 3) (L' := [_, _, _, _]) dX12_touchedBy_3 rfl rfl (by decide) rfl rfl ?_
  exact lp ((σ.1 84 1)).toNat 0 0 (by omega) (by omega) rfl

theorem c_X12_overlaps {G : Gx} {σ : Sg} {s : Int} (hT : MT σ) (hI : MI σ s) (hs0 : 0 ≤ s) (hs1 : s < 23)  : Con G 5 mX12_overlaps [.ref (G.2.2.2 + 82), .int (iZ s)] σ (pI (pE σ (zs (fun p => zs (fun q => if p < q then gOv (σ.1 86) (σ.1 87) (mF σ s) p q else 0) (σ.1 84 1)) (σ.1 84 1)))) := by
  obtain ⟨hzz, hnp, hnc, hnb, hrn, hsd, hrw, hrq, hch, hbt, hck⟩ := id hT
  have lp : ∀ (n : Nat) (x : Option Value) (i t : Int), 0 ≤ i → i + n = (σ.1 84 1) → t = zs (fun p => zs (fun q => if p < q then gOv (σ.1 86) (σ.1 87) (mF σ s) p q else 0) (σ.1 84 1)) i → J G 5 mX12_overlaps (pI (pE σ (zs (fun p => zs (fun q => if p < q then gOv (σ.1 86) (σ.1 87) (mF σ s) p q else 0) (σ.1 84 1)) (σ.1 84 1)))) σ 4 [some (.ref (G.2.2.2 + 82)), some (.int (iZ s)), some (.int (iZ t)), some (.int (iZ i)), x] [] := by
    intro n
    induction n with
    | zero =>
      intro x i t h0 hn ht
      refine e_iload_n (q := 5) (i := 3) dX12_overlaps_4 rfl rfl rfl ?_
      refine e_aload_n (q := 6) (i := 0) dX12_overlaps_5 rfl rfl rfl ?_
      refine e_getR (q := 9) dX12_overlaps_6 rfl fg_X12_13 (by first | assumption | rfl) rfl ?_
      refine e_iconst (q := 10) dX12_overlaps_9 rfl ?_
      refine e_iald (q := 11) dX12_overlaps_10 rfl (by first | assumption | rfl) ?_
      refine e_icmp_ge (q := 14) (tgt := 53) dX12_overlaps_11 rfl (by decide) (fun c11 => ?_) (fun c11 => absurd (by omega) c11)
      refine e_iload_n (q := 54) (i := 2) dX12_overlaps_53 rfl rfl rfl ?_
      exact r_i dX12_overlaps_54 rfl ⟨by rw [ht]; congr 1; omega, rfl⟩
    | succ n ih =>
      intro x i t h0 hn ht
      refine e_iload_n (q := 5) (i := 3) dX12_overlaps_4 rfl rfl rfl ?_
      refine e_aload_n (q := 6) (i := 0) dX12_overlaps_5 rfl rfl rfl ?_
      refine e_getR (q := 9) dX12_overlaps_6 rfl fg_X12_13 (by first | assumption | rfl) rfl ?_
      refine e_iconst (q := 10) dX12_overlaps_9 rfl ?_
      refine e_iald (q := 11) dX12_overlaps_10 rfl (by first | assumption | rfl) ?_
      refine e_icmp_ge (q := 14) (tgt := 53) dX12_overlaps_11 rfl (by decide) (fun c11 => absurd c11 (by omega)) (fun c11 => ?_)
      refine e_iload_n (q := 15) (i := 3) dX12_overlaps_14 rfl rfl rfl ?_
      refine e_iconst (q := 16) dX12_overlaps_15 rfl ?_
      refine e_iadd (q := 17) dX12_overlaps_16 rfl ?_
      refine e_istore (q := 19) (L' := [_, _, _, _, _]) dX12_overlaps_17 rfl (by decide) rfl rfl ?_
      have z0 : ∀ m : Nat, (m : Int) ≤ i + 1 → zsum (fun q => if i < q then gOv (σ.1 86) (σ.1 87) (mF σ s) i q else 0) m = 0 := by
        intro m
        induction m with
        | zero => intro _; rfl
        | succ m im => intro hm; simp only [zsum]; rw [im (by omega), if_neg (by omega)]; rfl
      have lq : ∀ (k : Nat) (j v : Int), i + 1 ≤ j → j + k = (σ.1 84 1) → v = t + zs (fun q => if i < q then gOv (σ.1 86) (σ.1 87) (mF σ s) i q else 0) j → J G 5 mX12_overlaps (pI (pE σ (zs (fun p => zs (fun q => if p < q then gOv (σ.1 86) (σ.1 87) (mF σ s) p q else 0) (σ.1 84 1)) (σ.1 84 1)))) σ 19 [some (.ref (G.2.2.2 + 82)), some (.int (iZ s)), some (.int (iZ v)), some (.int (iZ i)), some (.int (iZ j))] [] := by
        intro k
        induction k with
        | zero =>
          intro j v h3 h4 h5
          refine e_iload (q := 21) dX12_overlaps_19 rfl rfl ?_
          refine e_aload_n (q := 22) (i := 0) dX12_overlaps_21 rfl rfl rfl ?_
          refine e_getR (q := 25) dX12_overlaps_22 rfl fg_X12_13 (by first | assumption | rfl) rfl ?_
          refine e_iconst (q := 26) dX12_overlaps_25 rfl ?_
          refine e_iald (q := 27) dX12_overlaps_26 rfl (by first | assumption | rfl) ?_
          refine e_icmp_ge (q := 30) (tgt := 47) dX12_overlaps_27 rfl (by decide) (fun c27 => ?_) (fun c27 => absurd (by omega) c27)
          refine e_iinc (q := 50) (L' := [_, _, _, _, _]) dX12_overlaps_47 rfl rfl (by decide) rfl rfl ?_
          refine e_goto (tgt := 4) dX12_overlaps_50 (by decide) ?_
          exact ih _ _ _ (by omega) (by omega) (by rw [h5, ht, zs_succ _ h0]; congr 2; omega)
        | succ k ih2 =>
          intro j v h3 h4 h5
          refine e_iload (q := 21) dX12_overlaps_19 rfl rfl ?_
          refine e_aload_n (q := 22) (i := 0) dX12_overlaps_21 rfl rfl rfl ?_
          refine e_getR (q := 25) dX12_overlaps_22 rfl fg_X12_13 (by first | assumption | rfl) rfl ?_
          refine e_iconst (q := 26) dX12_overlaps_25 rfl ?_
          refine e_iald (q := 27) dX12_overlaps_26 rfl (by first | assumption | rfl) ?_
          refine e_icmp_ge (q := 30) (tgt := 47) dX12_overlaps_27 rfl (by decide) (fun c27 => absurd c27 (by omega)) (fun c27 => ?_)
          refine e_iload_n (q := 31) (i := 2) dX12_overlaps_30 rfl rfl rfl ?_
          refine e_aload_n (q := 32) (i := 0) dX12_overlaps_31 rfl rfl rfl ?_
          refine e_iload_n (q := 33) (i := 1) dX12_overlaps_32 rfl rfl rfl ?_
          refine e_iload_n (q := 34) (i := 3) dX12_overlaps_33 rfl rfl rfl ?_
          refine e_iload (q := 36) dX12_overlaps_34 rfl rfl ?_
          refine e_Vip (q := 39) (vs := [_, _, _]) ok_X12_overlapOf ml_X12_342 dX12_overlaps_36 rfl ⟨_, _, rfl⟩ (by first | assumption | rfl) rfl rfl (Nat.le_of_ble_eq_true rfl) (by decide) (c_X12_overlapOf hT hI hs0 hs1 (by omega) (by omega) (by omega) (by omega)) ?_
          refine e_iadd (q := 40) dX12_overlaps_39 rfl ?_
          refine e_istore_n (q := 41) (i := 2) (L' := [_, _, _, _, _]) dX12_overlaps_40 rfl rfl (by decide) rfl rfl ?_
          refine e_iinc (q := 44) (L' := [_, _, _, _, _]) dX12_overlaps_41 rfl rfl (by decide) rfl rfl ?_
          refine e_goto (tgt := 19) dX12_overlaps_44 (by decide) ?_
          exact ih2 _ _ (by omega) (by omega) (by rw [h5, zs_succ _ (by omega), if_pos (by omega)]; omega)
      exact lq ((σ.1 84 1) - i - 1).toNat _ _ (by omega) (by omega) (by unfold zs; rw [z0 _ (by omega)]; omega)
  refine e_entry om_X12_overlaps (Nat.le_of_ble_eq_true rfl) (L := [some (.ref (G.2.2.2 + 82)), some (.int (iZ s)), none, none, none]) rfl ?_
  refine e_iconst (q := 1) dX12_overlaps_0 rfl ?_
  refine e_istore_n (q := 2) (i := 2) (L' := [_, _, _, _, _]) dX12_overlaps_1 rfl rfl (by decide) rfl rfl ?_
  refine e_iconst (q := 3) dX12_overlaps_2 rfl ?_
  refine e_istore_n (q := 4) (i := 3) (L' := [_, _, _, _, _]) dX12_overlaps_3 rfl rfl (by decide) rfl rfl ?_
  exact lp ((σ.1 84 1)).toNat _ 0 0 (by omega) (by omega) rfl

