/-- what a part of a line answers in the model -/
def MN2 (σ σ' : Sg) (z no : Int) (R : Pn) : Prop := match R with
  | .inl fp => z = no ∧ Fm [] [26, 27] σ σ' ∧ σ'.1 82 26 = fp.1 ∧ σ'.1 82 27 = fp.2 ∧ (1 ≤ fp.1 ∧ fp.1 ≤ 4)
  | .inr q => z = q.1 ∧ Fm [] [22, 23, 24, 25] σ σ' ∧ MK σ' q.2
theorem MN2_wr {σ : Sg} {t : Tk} {no k : Int} (h : σ.1 82 23 = t.2.1) (hk : 1 ≤ k ∧ k ≤ 4) : MN2 σ (wr σ k) no no (.inl (k, t.2.1)) := ⟨rfl, wr_F, wr_f, wr_p.trans h, hk⟩

set_option maxHeartbeats 4000000 in
theorem c_mnum0 {G : Gx} {σ : Sg} {t : Tk} {r : List Tk} {lo hi : Int} (hC : MK σ (t :: r)) (hf : σ.1 82 26 = 0) (hlo : 0 ≤ lo) (hlo1 : lo ≤ 99) (hhi0 : 0 ≤ hi) (hhi : hi ≤ 99999) : Con G 7 mX12_numeral [.ref (G.2.2.2 + 82), .int (iZ lo), .int (iZ hi)] σ (pI (fun z σ' => MN2 σ σ' z lo (pNum lo hi (t :: r)))) := by
  obtain ⟨m1, m2, m3, m4⟩ := hC.hd
  have hs := m2.s m3.1 m3.2
  have hv := m2.2.2.2.2.2.2
  have hk := m2.k m3.1 m3.2
  refine e_entry om_X12_numeral (Nat.le_of_ble_eq_true rfl) (L := [some (.ref (G.2.2.2 + 82)), some (.int (iZ lo)), some (.int (iZ hi)), none]) rfl ?_
  refine e_aload_n (q := 1) (i := 0) dX12_numeral_0 rfl rfl rfl ?_
  refine e_getI (q := 4) (jz := 26) dX12_numeral_1 rfl fg_X12_190 rfl (by first | assumption | rfl) rfl ?_
  rw [hf]
  refine e_if_eq (q := 7) (tgt := 9) dX12_numeral_4 rfl (by decide) (fun c4 => ?_) (fun c4 => by exfalso; omega)
  refine e_aload_n (q := 10) (i := 0) dX12_numeral_9 rfl rfl rfl ?_
  refine e_getI (q := 13) (jz := 24) dX12_numeral_10 rfl fg_X12_155 rfl (by first | assumption | rfl) rfl ?_
  refine e_iconst (q := 14) dX12_numeral_13 rfl ?_
  refine e_icmp_eq (q := 17) (tgt := 25) dX12_numeral_14 rfl (by decide) (fun c14 => ?_) (fun c14 => ?_) (hx := ⟨by omega, by omega⟩)
  · refine e_aload_n (q := 26) (i := 0) dX12_numeral_25 rfl rfl rfl ?_
    refine e_getI (q := 29) (jz := 25) dX12_numeral_26 rfl fg_X12_165 rfl (by first | assumption | rfl) rfl ?_
    refine e_iload_n (q := 30) (i := 1) dX12_numeral_29 rfl rfl rfl ?_
    have hv2 := m2.2.2.1 (hk.2.2.1.1 c14)
    refine e_icmp_lt (q := 33) (tgt := 41) dX12_numeral_30 rfl (by decide) (fun c30 => ?_) (fun c30 => ?_) (hx := hv) (hy := ⟨by omega, by omega⟩)
    · refine e_aload_n (q := 42) (i := 0) dX12_numeral_41 rfl rfl rfl ?_
      refine e_iconst (q := 43) dX12_numeral_42 rfl ?_
      refine e_Vv (q := 46) (vs := [_]) ok_X12_wrong ml_X12_199 dX12_numeral_43 rfl ⟨_, _, rfl⟩ (by first | assumption | rfl) rfl rfl (Nat.le_of_ble_eq_true rfl) (by decide) (c_mwrong0 hf) (fun s43 h43 => ?_)
      refine e_aload_n (q := 47) (i := 0) dX12_numeral_46 rfl rfl rfl ?_
      refine e_getI (q := 50) (jz := 26) dX12_numeral_47 rfl fg_X12_190 rfl (by first | assumption | rfl) rfl ?_
      subst h43
      rw [show (wr σ 2).1 82 26 = 2 from wr_f]
      refine e_if_eq (q := 53) (tgt := 55) dX12_numeral_50 rfl (by decide) (fun c50 => by exfalso; omega) (fun c50 => ?_)
      refine e_iload_n (q := 54) (i := 1) dX12_numeral_53 rfl rfl rfl ?_
      exact r_i dX12_numeral_54 rfl (by rw [show pNum lo hi (t :: r) = .inl (2, t.2.1) from (if_neg (fun q => q (hk.2.2.1.1 c14))).trans (if_pos (by omega))]; exact MN2_wr m1 (by decide))
    · refine e_aload_n (q := 34) (i := 0) dX12_numeral_33 rfl rfl rfl ?_
      refine e_getI (q := 37) (jz := 25) dX12_numeral_34 rfl fg_X12_165 rfl (by first | assumption | rfl) rfl ?_
      refine e_iload_n (q := 38) (i := 2) dX12_numeral_37 rfl rfl rfl ?_
      refine e_icmp_le (q := 41) (tgt := 46) dX12_numeral_38 rfl (by decide) (fun c38 => ?_) (fun c38 => ?_) (hx := hv) (hy := ⟨by omega, by omega⟩)
      · refine e_aload_n (q := 47) (i := 0) dX12_numeral_46 rfl rfl rfl ?_
        refine e_getI (q := 50) (jz := 26) dX12_numeral_47 rfl fg_X12_190 rfl (by first | assumption | rfl) rfl ?_
        rw [hf]
        refine e_if_eq (q := 53) (tgt := 55) dX12_numeral_50 rfl (by decide) (fun c50 => ?_) (fun c50 => by exfalso; omega)
        refine e_aload_n (q := 56) (i := 0) dX12_numeral_55 rfl rfl rfl ?_
        refine e_getI (q := 59) (jz := 25) dX12_numeral_56 rfl fg_X12_165 rfl (by first | assumption | rfl) rfl ?_
        refine e_istore_n (q := 60) (i := 3) (L' := [_, _, _, _]) dX12_numeral_59 rfl rfl (by decide) rfl rfl ?_
        refine e_aload_n (q := 61) (i := 0) dX12_numeral_60 rfl rfl rfl ?_
        refine e_Vv (q := 64) (vs := []) ok_X12_token ml_X12_196 dX12_numeral_61 rfl ⟨_, _, rfl⟩ (by first | assumption | rfl) rfl rfl (Nat.le_of_ble_eq_true rfl) (by decide) (c_mtok hC (by have := hk.2.2.1.1 c14; omega)) (fun s61 h61 => ?_)
        refine e_iload_n (q := 65) (i := 3) dX12_numeral_64 rfl rfl rfl ?_
        rw [show σ.1 82 25 = t.2.2 by omega]
        exact r_i dX12_numeral_65 rfl (by rw [show pNum lo hi (t :: r) = .inr (t.2.2, r) from (if_neg (fun q => q (hk.2.2.1.1 c14))).trans (if_neg (by omega))]; exact ⟨rfl, h61.1, h61.2⟩)
      · refine e_aload_n (q := 42) (i := 0) dX12_numeral_41 rfl rfl rfl ?_
        refine e_iconst (q := 43) dX12_numeral_42 rfl ?_
        refine e_Vv (q := 46) (vs := [_]) ok_X12_wrong ml_X12_199 dX12_numeral_43 rfl ⟨_, _, rfl⟩ (by first | assumption | rfl) rfl rfl (Nat.le_of_ble_eq_true rfl) (by decide) (c_mwrong0 hf) (fun s43 h43 => ?_)
        refine e_aload_n (q := 47) (i := 0) dX12_numeral_46 rfl rfl rfl ?_
        refine e_getI (q := 50) (jz := 26) dX12_numeral_47 rfl fg_X12_190 rfl (by first | assumption | rfl) rfl ?_
        subst h43
        rw [show (wr σ 2).1 82 26 = 2 from wr_f]
        refine e_if_eq (q := 53) (tgt := 55) dX12_numeral_50 rfl (by decide) (fun c50 => by exfalso; omega) (fun c50 => ?_)
        refine e_iload_n (q := 54) (i := 1) dX12_numeral_53 rfl rfl rfl ?_
        exact r_i dX12_numeral_54 rfl (by rw [show pNum lo hi (t :: r) = .inl (2, t.2.1) from (if_neg (fun q => q (hk.2.2.1.1 c14))).trans (if_pos (by omega))]; exact MN2_wr m1 (by decide))
  · refine e_aload_n (q := 18) (i := 0) dX12_numeral_17 rfl rfl rfl ?_
    refine e_iconst (q := 19) dX12_numeral_18 rfl ?_
    refine e_Vv (q := 22) (vs := [_]) ok_X12_wrong ml_X12_199 dX12_numeral_19 rfl ⟨_, _, rfl⟩ (by first | assumption | rfl) rfl rfl (Nat.le_of_ble_eq_true rfl) (by decide) (c_mwrong0 hf) (fun s19 h19 => ?_)
    subst h19
    refine e_goto (tgt := 46) dX12_numeral_22 (by decide) ?_
    refine e_aload_n (q := 47) (i := 0) dX12_numeral_46 rfl rfl rfl ?_
    refine e_getI (q := 50) (jz := 26) dX12_numeral_47 rfl fg_X12_190 rfl (by first | assumption | rfl) rfl ?_
    rw [show (wr σ 1).1 82 26 = 1 from wr_f]
    refine e_if_eq (q := 53) (tgt := 55) dX12_numeral_50 rfl (by decide) (fun c50 => by exfalso; omega) (fun c50 => ?_)
    refine e_iload_n (q := 54) (i := 1) dX12_numeral_53 rfl rfl rfl ?_
    exact r_i dX12_numeral_54 rfl (by rw [show pNum lo hi (t :: r) = .inl (1, t.2.1) from if_pos (fun q => c14 (hk.2.2.1.2 q))]; exact MN2_wr m1 (by decide))

theorem c_mnum1 {G : Gx} {σ : Sg} {lo hi : Int} (hf : R32 (σ.1 82 26)) (hx : σ.1 82 26 ≠ 0)  : Con G 2 mX12_numeral [.ref (G.2.2.2 + 82), .int (iZ lo), .int (iZ hi)] σ (pI (pE σ lo)) := by
  refine e_entry om_X12_numeral (Nat.le_of_ble_eq_true rfl) (L := [some (.ref (G.2.2.2 + 82)), some (.int (iZ lo)), some (.int (iZ hi)), none]) rfl ?_
  refine e_aload_n (q := 1) (i := 0) dX12_numeral_0 rfl rfl rfl ?_
  refine e_getI (q := 4) (jz := 26) dX12_numeral_1 rfl fg_X12_190 rfl (by first | assumption | rfl) rfl ?_
  refine e_if_eq (q := 7) (tgt := 9) dX12_numeral_4 rfl (by decide) (fun c4 => by exfalso; omega) (fun c4 => ?_) (hx := hf)
  refine e_iload_n (q := 8) (i := 1) dX12_numeral_7 rfl rfl rfl ?_
  exact r_i dX12_numeral_8 rfl ⟨rfl, rfl⟩

set_option maxHeartbeats 4000000 in
theorem c_mfresh0 {G : Gx} {σ : Sg} {k mN : Nat} {a m : Int} {t : Tk} {r : List Tk} (hkl : lay[k]? = some (.inl (0, mN))) (hmN : mN < 1000) (ha0 : 0 ≤ a) (hm0 : 0 ≤ m) (hm : a + m ≤ mN) (hR : ∀ i, 0 ≤ i → i < m → R32 (σ.1 k (a + i))) (hC : MK σ (t :: r)) (hf : σ.1 82 26 = 0) : Con G 7 mX12_fresh [.ref (G.2.2.2 + 82), .ref (G.2.2.2 + k), .int (iZ a), .int (iZ m)] σ (pI (fun z σ' => MN2 σ σ' z 0 (pNew (fun i => σ.1 k (a + i)) m (t :: r)))) := by
  obtain ⟨m1, m2, m3, m4⟩ := hC.hd
  have hs := m2.s m3.1 m3.2
  have hv := m2.2.2.2.2.2.2
  have hk := m2.k m3.1 m3.2
  refine e_entry om_X12_fresh (Nat.le_of_ble_eq_true rfl) (L := [some (.ref (G.2.2.2 + 82)), some (.ref (G.2.2.2 + k)), some (.int (iZ a)), some (.int (iZ m)), none]) rfl ?_
  refine e_aload_n (q := 1) (i := 0) dX12_fresh_0 rfl rfl rfl ?_
  refine e_getI (q := 4) (jz := 26) dX12_fresh_1 rfl fg_X12_190 rfl (by first | assumption | rfl) rfl ?_
  rw [hf]
  refine e_if_eq (q := 7) (tgt := 9) dX12_fresh_4 rfl (by decide) (fun c4 => ?_) (fun c4 => by exfalso; omega)
  refine e_aload_n (q := 10) (i := 0) dX12_fresh_9 rfl rfl rfl ?_
  refine e_getI (q := 13) (jz := 24) dX12_fresh_10 rfl fg_X12_155 rfl (by first | assumption | rfl) rfl ?_
  refine e_iconst (q := 14) dX12_fresh_13 rfl ?_
  refine e_icmp_eq (q := 17) (tgt := 25) dX12_fresh_14 rfl (by decide) (fun c14 => ?_) (fun c14 => ?_) (hx := ⟨by omega, by omega⟩)
  · refine e_aload_n (q := 26) (i := 1) dX12_fresh_25 rfl rfl rfl ?_
    refine e_iload_n (q := 27) (i := 2) dX12_fresh_26 rfl rfl rfl ?_
    refine e_iload_n (q := 28) (i := 3) dX12_fresh_27 rfl rfl rfl ?_
    refine e_aload_n (q := 29) (i := 0) dX12_fresh_28 rfl rfl rfl ?_
    refine e_getI (q := 32) (jz := 25) dX12_fresh_29 rfl fg_X12_165 rfl (by first | assumption | rfl) rfl ?_
    refine e_Sip (q := 35) (vs := [_, _, _, _]) ok_X12_found ml_X12_202 dX12_fresh_32 rfl rfl rfl (Nat.le_of_ble_eq_true rfl) (by decide) (c_X12_found hkl hmN ha0 hm0 hm hR hv) ?_
    have hv2 := m2.2.1 (hk.2.1.1 c14)
    have hfi := fd_in (fun i => σ.1 k (a + i)) (σ.1 82 25) (n := m) hm0
    refine e_iconst (q := 36) dX12_fresh_35 rfl ?_
    refine e_icmp_eq (q := 39) (tgt := 44) dX12_fresh_36 rfl (by decide) (fun c36 => ?_) (fun c36 => ?_) (hx := ⟨by omega, by omega⟩)
    · refine e_aload_n (q := 45) (i := 0) dX12_fresh_44 rfl rfl rfl ?_
      refine e_getI (q := 48) (jz := 26) dX12_fresh_45 rfl fg_X12_190 rfl (by first | assumption | rfl) rfl ?_
      rw [hf]
      refine e_if_eq (q := 51) (tgt := 53) dX12_fresh_48 rfl (by decide) (fun c48 => ?_) (fun c48 => by exfalso; omega)
      refine e_aload_n (q := 54) (i := 0) dX12_fresh_53 rfl rfl rfl ?_
      refine e_getI (q := 57) (jz := 25) dX12_fresh_54 rfl fg_X12_165 rfl (by first | assumption | rfl) rfl ?_
      refine e_istore (q := 59) (L' := [_, _, _, _, _]) dX12_fresh_57 rfl (by decide) rfl rfl ?_
      refine e_aload_n (q := 60) (i := 0) dX12_fresh_59 rfl rfl rfl ?_
      refine e_Vv (q := 63) (vs := []) ok_X12_token ml_X12_196 dX12_fresh_60 rfl ⟨_, _, rfl⟩ (by first | assumption | rfl) rfl rfl (Nat.le_of_ble_eq_true rfl) (by decide) (c_mtok hC (by have := hk.2.1.1 c14; omega)) (fun s60 h60 => ?_)
      refine e_iload (q := 65) dX12_fresh_63 rfl rfl ?_
      rw [hv2.2]
      exact r_i dX12_fresh_65 rfl (by rw [show pNew (fun i => σ.1 k (a + i)) m (t :: r) = .inr (t.2.2, r) from (if_neg (fun q => q (hk.2.1.1 c14))).trans (if_neg (by rw [← hv2.2]; exact fun q => q c36))]; exact ⟨rfl, h60.1, h60.2⟩)
    · refine e_aload_n (q := 40) (i := 0) dX12_fresh_39 rfl rfl rfl ?_
      refine e_iconst (q := 41) dX12_fresh_40 rfl ?_
      refine e_Vv (q := 44) (vs := [_]) ok_X12_wrong ml_X12_199 dX12_fresh_41 rfl ⟨_, _, rfl⟩ (by first | assumption | rfl) rfl rfl (Nat.le_of_ble_eq_true rfl) (by decide) (c_mwrong0 hf) (fun s41 h41 => ?_)
      refine e_aload_n (q := 45) (i := 0) dX12_fresh_44 rfl rfl rfl ?_
      refine e_getI (q := 48) (jz := 26) dX12_fresh_45 rfl fg_X12_190 rfl (by first | assumption | rfl) rfl ?_
      subst h41
      rw [show (wr σ 3).1 82 26 = 3 from wr_f]
      refine e_if_eq (q := 51) (tgt := 53) dX12_fresh_48 rfl (by decide) (fun c48 => by exfalso; omega) (fun c48 => ?_)
      refine e_iconst (q := 52) dX12_fresh_51 rfl ?_
      exact r_i dX12_fresh_52 rfl (by rw [show pNew (fun i => σ.1 k (a + i)) m (t :: r) = .inl (3, t.2.1) from (if_neg (fun q => q (hk.2.1.1 c14))).trans (if_pos (by rw [← hv2.2]; exact c36))]; exact MN2_wr m1 (by decide))
  · refine e_aload_n (q := 18) (i := 0) dX12_fresh_17 rfl rfl rfl ?_
    refine e_iconst (q := 19) dX12_fresh_18 rfl ?_
    refine e_Vv (q := 22) (vs := [_]) ok_X12_wrong ml_X12_199 dX12_fresh_19 rfl ⟨_, _, rfl⟩ (by first | assumption | rfl) rfl rfl (Nat.le_of_ble_eq_true rfl) (by decide) (c_mwrong0 hf) (fun s19 h19 => ?_)
    subst h19
    refine e_goto (tgt := 44) dX12_fresh_22 (by decide) ?_
    refine e_aload_n (q := 45) (i := 0) dX12_fresh_44 rfl rfl rfl ?_
    refine e_getI (q := 48) (jz := 26) dX12_fresh_45 rfl fg_X12_190 rfl (by first | assumption | rfl) rfl ?_
    rw [show (wr σ 1).1 82 26 = 1 from wr_f]
    refine e_if_eq (q := 51) (tgt := 53) dX12_fresh_48 rfl (by decide) (fun c48 => by exfalso; omega) (fun c48 => ?_)
    refine e_iconst (q := 52) dX12_fresh_51 rfl ?_
    exact r_i dX12_fresh_52 rfl (by rw [show pNew (fun i => σ.1 k (a + i)) m (t :: r) = .inl (1, t.2.1) from if_pos (fun q => c14 (hk.2.1.2 q))]; exact MN2_wr m1 (by decide))

theorem c_mfresh1 {G : Gx} {σ : Sg} {k : Nat} {a m : Int} (hf : R32 (σ.1 82 26)) (hx : σ.1 82 26 ≠ 0)  : Con G 2 mX12_fresh [.ref (G.2.2.2 + 82), .ref (G.2.2.2 + k), .int (iZ a), .int (iZ m)] σ (pI (pE σ 0)) := by
  refine e_entry om_X12_fresh (Nat.le_of_ble_eq_true rfl) (L := [some (.ref (G.2.2.2 + 82)), some (.ref (G.2.2.2 + k)), some (.int (iZ a)), some (.int (iZ m)), none]) rfl ?_
  refine e_aload_n (q := 1) (i := 0) dX12_fresh_0 rfl rfl rfl ?_
  refine e_getI (q := 4) (jz := 26) dX12_fresh_1 rfl fg_X12_190 rfl (by first | assumption | rfl) rfl ?_
  refine e_if_eq (q := 7) (tgt := 9) dX12_fresh_4 rfl (by decide) (fun c4 => by exfalso; omega) (fun c4 => ?_) (hx := hf)
  refine e_iconst (q := 8) dX12_fresh_7 rfl ?_
  exact r_i dX12_fresh_8 rfl ⟨rfl, rfl⟩

set_option maxHeartbeats 4000000 in
theorem c_mtold0 {G : Gx} {σ : Sg} {k mN : Nat} {a m : Int} {t : Tk} {r : List Tk} (hkl : lay[k]? = some (.inl (0, mN))) (hmN : mN < 1000) (ha0 : 0 ≤ a) (hm0 : 0 ≤ m) (hm : a + m ≤ mN) (hR : ∀ i, 0 ≤ i → i < m → R32 (σ.1 k (a + i))) (hC : MK σ (t :: r)) (hf : σ.1 82 26 = 0) : Con G 8 mX12_toldAhead [.ref (G.2.2.2 + 82), .ref (G.2.2.2 + k), .int (iZ a), .int (iZ m)] σ (pI (fun z σ' => MN2 σ σ' z 0 (pTold (fun i => σ.1 k (a + i)) m (t :: r)))) := by
  obtain ⟨m1, m2, m3, m4⟩ := hC.hd
  have hs := m2.s m3.1 m3.2
  have hv := m2.2.2.2.2.2.2
  have hk := m2.k m3.1 m3.2
  refine e_entry om_X12_toldAhead (Nat.le_of_ble_eq_true rfl) (L := [some (.ref (G.2.2.2 + 82)), some (.ref (G.2.2.2 + k)), some (.int (iZ a)), some (.int (iZ m)), none]) rfl ?_
  refine e_aload_n (q := 1) (i := 0) dX12_toldAhead_0 rfl rfl rfl ?_
  refine e_getI (q := 4) (jz := 26) dX12_toldAhead_1 rfl fg_X12_190 rfl (by first | assumption | rfl) rfl ?_
  rw [hf]
  refine e_if_eq (q := 7) (tgt := 9) dX12_toldAhead_4 rfl (by decide) (fun c4 => ?_) (fun c4 => by exfalso; omega)
  refine e_aload_n (q := 10) (i := 0) dX12_toldAhead_9 rfl rfl rfl ?_
  refine e_getI (q := 13) (jz := 24) dX12_toldAhead_10 rfl fg_X12_155 rfl (by first | assumption | rfl) rfl ?_
  refine e_iconst (q := 14) dX12_toldAhead_13 rfl ?_
  refine e_icmp_eq (q := 17) (tgt := 22) dX12_toldAhead_14 rfl (by decide) (fun c14 => ?_) (fun c14 => ?_) (hx := ⟨by omega, by omega⟩)
  · refine e_aload_n (q := 23) (i := 0) dX12_toldAhead_22 rfl rfl rfl ?_
    refine e_getI (q := 26) (jz := 26) dX12_toldAhead_23 rfl fg_X12_190 rfl (by first | assumption | rfl) rfl ?_
    rw [hf]
    refine e_if_ne (q := 29) (tgt := 42) dX12_toldAhead_26 rfl (by decide) (fun c26 => by exfalso; omega) (fun c26 => ?_)
    refine e_aload_n (q := 30) (i := 1) dX12_toldAhead_29 rfl rfl rfl ?_
    refine e_iload_n (q := 31) (i := 2) dX12_toldAhead_30 rfl rfl rfl ?_
    refine e_iload_n (q := 32) (i := 3) dX12_toldAhead_31 rfl rfl rfl ?_
    refine e_aload_n (q := 33) (i := 0) dX12_toldAhead_32 rfl rfl rfl ?_
    refine e_getI (q := 36) (jz := 25) dX12_toldAhead_33 rfl fg_X12_165 rfl (by first | assumption | rfl) rfl ?_
    refine e_Sip (q := 39) (vs := [_, _, _, _]) ok_X12_found ml_X12_202 dX12_toldAhead_36 rfl rfl rfl (Nat.le_of_ble_eq_true rfl) (by decide) (c_X12_found hkl hmN ha0 hm0 hm hR hv) ?_
    refine e_goto (tgt := 43) dX12_toldAhead_39 (by decide) ?_
    have hv2 := m2.2.1 (hk.2.1.1 c14)
    have hfi := fd_in (fun i => σ.1 k (a + i)) (σ.1 82 25) (n := m) hm0
    refine e_istore (q := 45) (L' := [_, _, _, _, _]) dX12_toldAhead_43 rfl (by decide) rfl rfl ?_
    refine e_aload_n (q := 46) (i := 0) dX12_toldAhead_45 rfl rfl rfl ?_
    refine e_getI (q := 49) (jz := 26) dX12_toldAhead_46 rfl fg_X12_190 rfl (by first | assumption | rfl) rfl ?_
    rw [hf]
    refine e_if_ne (q := 52) (tgt := 63) dX12_toldAhead_49 rfl (by decide) (fun c49 => by exfalso; omega) (fun c49 => ?_)
    refine e_iload (q := 54) dX12_toldAhead_52 rfl rfl ?_
    refine e_iconst (q := 55) dX12_toldAhead_54 rfl ?_
    refine e_icmp_ne (q := 58) (tgt := 63) dX12_toldAhead_55 rfl (by decide) (fun c55 => ?_) (fun c55 => ?_) (hx := ⟨by omega, by omega⟩)
    · refine e_aload_n (q := 64) (i := 0) dX12_toldAhead_63 rfl rfl rfl ?_
      refine e_Vv (q := 67) (vs := []) ok_X12_goOn ml_X12_206 dX12_toldAhead_64 rfl ⟨_, _, rfl⟩ (by first | assumption | rfl) rfl rfl (Nat.le_of_ble_eq_true rfl) (by decide) (c_mgoOn0 hC (by have := hk.2.1.1 c14; omega) hf) (fun s64 h64 => ?_)
      refine e_aload_n (q := 68) (i := 0) dX12_toldAhead_67 rfl rfl rfl ?_
      refine e_getI (q := 71) (jz := 26) dX12_toldAhead_68 rfl fg_X12_190 rfl (by first | assumption | rfl) rfl ?_
      rw [show s64.1 82 26 = 0 from (h64.1.2 26 (by decide)).trans hf]
      refine e_if_eq (q := 74) (tgt := 78) dX12_toldAhead_71 rfl (by decide) (fun c71 => ?_) (fun c71 => by exfalso; omega)
      refine e_iload (q := 80) dX12_toldAhead_78 rfl rfl ?_
      rw [hv2.2]
      exact r_i dX12_toldAhead_80 rfl (by rw [show pTold (fun i => σ.1 k (a + i)) m (t :: r) = .inr (fd (fun i => σ.1 k (a + i)) t.2.2 m, r) from (if_neg (fun q => q (hk.2.1.1 c14))).trans (if_neg (by rw [← hv2.2]; exact c55))]; exact ⟨rfl, h64.1, h64.2⟩)
    · refine e_aload_n (q := 59) (i := 0) dX12_toldAhead_58 rfl rfl rfl ?_
      refine e_iconst (q := 60) dX12_toldAhead_59 rfl ?_
      refine e_Vv (q := 63) (vs := [_]) ok_X12_wrong ml_X12_199 dX12_toldAhead_60 rfl ⟨_, _, rfl⟩ (by first | assumption | rfl) rfl rfl (Nat.le_of_ble_eq_true rfl) (by decide) (c_mwrong0 hf) (fun s60 h60 => ?_)
      refine e_aload_n (q := 64) (i := 0) dX12_toldAhead_63 rfl rfl rfl ?_
      subst h60
      refine e_Vv (q := 67) (vs := []) ok_X12_goOn ml_X12_206 dX12_toldAhead_64 rfl ⟨_, _, rfl⟩ (by first | assumption | rfl) rfl rfl (Nat.le_of_ble_eq_true rfl) (by decide) (c_mgoOn1 (σ := wr σ 4) (by rw [wr_f]; exact ⟨by decide, by decide⟩) (by rw [wr_f]; decide)) (fun s64 h64 => ?_)
      subst h64
      refine e_aload_n (q := 68) (i := 0) dX12_toldAhead_67 rfl rfl rfl ?_
      refine e_getI (q := 71) (jz := 26) dX12_toldAhead_68 rfl fg_X12_190 rfl (by first | assumption | rfl) rfl ?_
      rw [show (wr σ 4).1 82 26 = 4 from wr_f]
      refine e_if_eq (q := 74) (tgt := 78) dX12_toldAhead_71 rfl (by decide) (fun c71 => by exfalso; omega) (fun c71 => ?_)
      refine e_iconst (q := 75) dX12_toldAhead_74 rfl ?_
      refine e_goto (tgt := 80) dX12_toldAhead_75 (by decide) ?_
      exact r_i dX12_toldAhead_80 rfl (by rw [show pTold (fun i => σ.1 k (a + i)) m (t :: r) = .inl (4, t.2.1) from (if_neg (fun q => q (hk.2.1.1 c14))).trans (if_pos (by rw [← hv2.2]; omega))]; exact MN2_wr m1 (by decide))
  · refine e_aload_n (q := 18) (i := 0) dX12_toldAhead_17 rfl rfl rfl ?_
    refine e_iconst (q := 19) dX12_toldAhead_18 rfl ?_
    refine e_Vv (q := 22) (vs := [_]) ok_X12_wrong ml_X12_199 dX12_toldAhead_19 rfl ⟨_, _, rfl⟩ (by first | assumption | rfl) rfl rfl (Nat.le_of_ble_eq_true rfl) (by decide) (c_mwrong0 hf) (fun s19 h19 => ?_)
    refine e_aload_n (q := 23) (i := 0) dX12_toldAhead_22 rfl rfl rfl ?_
    refine e_getI (q := 26) (jz := 26) dX12_toldAhead_23 rfl fg_X12_190 rfl (by first | assumption | rfl) rfl ?_
    subst h19
    rw [show (wr σ 1).1 82 26 = 1 from wr_f]
    refine e_if_ne (q := 29) (tgt := 42) dX12_toldAhead_26 rfl (by decide) (fun c26 => ?_) (fun c26 => by exfalso; omega)
    refine e_iconst (q := 43) dX12_toldAhead_42 rfl ?_
    refine e_istore (q := 45) (L' := [_, _, _, _, _]) dX12_toldAhead_43 rfl (by decide) rfl rfl ?_
    refine e_aload_n (q := 46) (i := 0) dX12_toldAhead_45 rfl rfl rfl ?_
    refine e_getI (q := 49) (jz := 26) dX12_toldAhead_46 rfl fg_X12_190 rfl (by first | assumption | rfl) rfl ?_
    rw [show (wr σ 1).1 82 26 = 1 from wr_f]
    refine e_if_ne (q := 52) (tgt := 63) dX12_toldAhead_49 rfl (by decide) (fun c49 => ?_) (fun c49 => by exfalso; omega)
    refine e_aload_n (q := 64) (i := 0) dX12_toldAhead_63 rfl rfl rfl ?_
    refine e_Vv (q := 67) (vs := []) ok_X12_goOn ml_X12_206 dX12_toldAhead_64 rfl ⟨_, _, rfl⟩ (by first | assumption | rfl) rfl rfl (Nat.le_of_ble_eq_true rfl) (by decide) (c_mgoOn1 (σ := wr σ 1) (by rw [wr_f]; exact ⟨by decide, by decide⟩) (by rw [wr_f]; decide)) (fun s64 h64 => ?_)
    subst h64
    refine e_aload_n (q := 68) (i := 0) dX12_toldAhead_67 rfl rfl rfl ?_
    refine e_getI (q := 71) (jz := 26) dX12_toldAhead_68 rfl fg_X12_190 rfl (by first | assumption | rfl) rfl ?_
    rw [show (wr σ 1).1 82 26 = 1 from wr_f]
    refine e_if_eq (q := 74) (tgt := 78) dX12_toldAhead_71 rfl (by decide) (fun c71 => by exfalso; omega) (fun c71 => ?_)
    refine e_iconst (q := 75) dX12_toldAhead_74 rfl ?_
    refine e_goto (tgt := 80) dX12_toldAhead_75 (by decide) ?_
    exact r_i dX12_toldAhead_80 rfl (by rw [show pTold (fun i => σ.1 k (a + i)) m (t :: r) = .inl (1, t.2.1) from if_pos (fun q => c14 (hk.2.1.2 q))]; exact MN2_wr m1 (by decide))

theorem c_mtold1 {G : Gx} {σ : Sg} {k : Nat} {a m : Int} (hf : R32 (σ.1 82 26)) (hx : σ.1 82 26 ≠ 0)  : Con G 2 mX12_toldAhead [.ref (G.2.2.2 + 82), .ref (G.2.2.2 + k), .int (iZ a), .int (iZ m)] σ (pI (pE σ 0)) := by
  refine e_entry om_X12_toldAhead (Nat.le_of_ble_eq_true rfl) (L := [some (.ref (G.2.2.2 + 82)), some (.ref (G.2.2.2 + k)), some (.int (iZ a)), some (.int (iZ m)), none]) rfl ?_
  refine e_aload_n (q := 1) (i := 0) dX12_toldAhead_0 rfl rfl rfl ?_
  refine e_getI (q := 4) (jz := 26) dX12_toldAhead_1 rfl fg_X12_190 rfl (by first | assumption | rfl) rfl ?_
  refine e_if_eq (q := 7) (tgt := 9) dX12_toldAhead_4 rfl (by decide) (fun c4 => by exfalso; omega) (fun c4 => ?_) (hx := hf)
  refine e_iconst (q := 8) dX12_toldAhead_7 rfl ?_
  exact r_i dX12_toldAhead_8 rfl ⟨rfl, rfl⟩

