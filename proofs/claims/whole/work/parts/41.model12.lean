/-- the reference's realms -/
def lowb (x : Int) : Int := (iZ x &&& iZ (-x)).toInt
def offb (x r : Int) : Int := (iZ x &&& iZ (iZ r ^^^ iZ (-1)).toInt).toInt
def bsub (a b : Int) : Prop := zor a b = b
theorem bsub_zor {a b c : Int} (ha : 0 ≤ a ∧ a < 16) (hb : 0 ≤ b ∧ b < 16) (hc : 0 ≤ c ∧ c < 16) (h : bsub a b) : bsub a (zor b c) := by
  obtain ⟨a, rfl⟩ := Int.eq_ofNat_of_zero_le ha.1
  obtain ⟨b, rfl⟩ := Int.eq_ofNat_of_zero_le hb.1
  obtain ⟨c, rfl⟩ := Int.eq_ofNat_of_zero_le hc.1
  have : ∀ a : Nat, a < 16 → ∀ b : Nat, b < 16 → ∀ c : Nat, c < 16 → zor a b = b → zor a (zor b c) = zor b c := by decide +kernel
  exact this a (by omega) b (by omega) c (by omega) h
theorem bsub_rf {a : Int} (ha : 0 ≤ a ∧ a < 16) : bsub a a := by
  obtain ⟨a, rfl⟩ := Int.eq_ofNat_of_zero_le ha.1
  have : ∀ a : Nat, a < 16 → zor a a = a := by decide +kernel
  exact this a (by omega)
theorem hgIn_sub {T : Int → Int} (hT : ∀ k : Nat, k < 4 → 0 ≤ T k ∧ T k < 16) {a : Int} (ha : 0 ≤ a ∧ a < 16) : ∀ (k : Nat) (b : Int), k ≤ 4 → 0 ≤ b → b < 16 → bsub a b → bsub a (hgIn T k b)
  | 0, _, _, _, _, h => h
  | k + 1, b, hk, h0, h1, h => by
    have h2 := hgIn_16 hT k b (by omega) h0 h1
    have ht := hT k (by omega)
    have ih := hgIn_sub hT ha k b (by omega) h0 h1 h
    simp only [hgIn]
    split
    · exact ih
    · exact bsub_zor ha h2 ht ih
theorem hgOut_sub {T : Int → Int} {n : Nat} (hn : n ≤ 4) (hT : ∀ k : Nat, k < 4 → 0 ≤ T k ∧ T k < 16) {a : Int} (ha : 0 ≤ a ∧ a < 16) : ∀ (k : Nat) (b : Int), 0 ≤ b → b < 16 → bsub a b → bsub a (hgOut T n k b)
  | 0, _, _, _, h => h
  | k + 1, b, h0, h1, h => by
    have h2 := hgOut_16 hn hT k b h0 h1
    exact hgIn_sub hT ha n _ hn h2.1 h2.2 (hgOut_sub hn hT ha k b h0 h1 h)
theorem low_16 {x : Int} (h0 : 1 ≤ x) (h1 : x < 16) : 1 ≤ lowb x ∧ lowb x < 16 := by
  obtain ⟨x, rfl⟩ := Int.eq_ofNat_of_zero_le (show 0 ≤ x by omega)
  have : ∀ x : Nat, x < 16 → 1 ≤ (x : Int) → 1 ≤ lowb x ∧ lowb x < 16 := by decide +kernel
  exact this x (by omega) h0
theorem off_lt {x r : Int} (h0 : 1 ≤ x) (h1 : x < 16) (hr : 0 ≤ r ∧ r < 16) (h : bsub (lowb x) r) : 0 ≤ offb x r ∧ offb x r < x := by
  obtain ⟨x, rfl⟩ := Int.eq_ofNat_of_zero_le (show 0 ≤ x by omega)
  obtain ⟨r, rfl⟩ := Int.eq_ofNat_of_zero_le hr.1
  have : ∀ x : Nat, x < 16 → ∀ r : Nat, r < 16 → 1 ≤ (x : Int) → zor (lowb x) r = r → 0 ≤ offb x r ∧ offb x r < x := by decide +kernel
  exact this x (by omega) r (by omega) h0 h
def mRl (T : Int → Int) (n : Int) : Nat → Int → Int
  | 0, _ => 0
  | k + 1, x => if x = 0 then 0 else 1 + mRl T n k (offb x (hOut T n 4 (lowb x)))
def mCol (c x k : Int) : Int := x / c ^ k.toNat % c
def mOk (t : Int → Int → Int) (x c n : Int) : Prop := ∀ i j, 0 ≤ i → i < j → j < n → mCol c x i = mCol c x j → t i j ≠ 1
theorem pw_in {c : Int} (h1 : 1 ≤ c) (h3 : c ≤ 3) {k : Int} (h0 : 0 ≤ k) (h4 : k ≤ 4) : 1 ≤ c ^ k.toNat ∧ c ^ k.toNat ≤ 81 := by
  obtain ⟨k, rfl⟩ := Int.eq_ofNat_of_zero_le h0
  obtain ⟨c, rfl⟩ := Int.eq_ofNat_of_zero_le (show 0 ≤ c by omega)
  have : ∀ c : Nat, c < 4 → ∀ k : Nat, k < 5 → 1 ≤ (c : Int) → 1 ≤ (c : Int) ^ k ∧ (c : Int) ^ k ≤ 81 := by decide +kernel
  exact this c (by omega) k (by omega) h1
theorem col_next {c x k : Int} (h1 : 1 ≤ c) (h0 : 0 ≤ k) : x / c ^ k.toNat / c = x / c ^ (k + 1).toNat := by
  rw [show (k + 1).toNat = k.toNat + 1 by omega, Int.pow_succ, Int.ediv_ediv_of_nonneg (Int.le_of_lt (Int.pow_pos (by omega)))]

set_option maxHeartbeats 4000000 in
theorem c_X12_realms {G : Gx} {σ0 σ : Sg} (hσ : σ = sI σ0 82 0 0) (hT : MT σ) (hI : MI σ 0) : Con G 6 mX12_realms [.ref (G.2.2.2 + 82)] σ0 (pI (fun z σ' => z = mRl (gTd (σ.1 86) (σ.1 87) (mF σ 0) (σ.1 84 1)) (σ.1 84 1) 15 (2 ^ ((σ.1 84 1)).toNat - 1) ∧ σ' = σ)) := by
  obtain ⟨hzz, hnp, hnc, hnb, hrn, hsd, hrw, hrq, hch, hbt, hck⟩ := id hT
  have hT16 : ∀ k : Nat, k < 4 → 0 ≤ (gTd (σ.1 86) (σ.1 87) (mF σ 0) (σ.1 84 1)) k ∧ (gTd (σ.1 86) (σ.1 87) (mF σ 0) (σ.1 84 1)) k < 16 := fun k _ => gTd_16 hnp.2 k
  have lp : ∀ (n : Nat) (x v : Int) (x3 x4 x5 : Option Value), 0 ≤ x → x ≤ n → x < 16 → v + mRl (gTd (σ.1 86) (σ.1 87) (mF σ 0) (σ.1 84 1)) (σ.1 84 1) n x = mRl (gTd (σ.1 86) (σ.1 87) (mF σ 0) (σ.1 84 1)) (σ.1 84 1) 15 (2 ^ ((σ.1 84 1)).toNat - 1) → J G 6 mX12_realms (pI (fun z σ' => z = mRl (gTd (σ.1 86) (σ.1 87) (mF σ 0) (σ.1 84 1)) (σ.1 84 1) 15 (2 ^ ((σ.1 84 1)).toNat - 1) ∧ σ' = σ)) σ 18 [some (.ref (G.2.2.2 + 82)), some (.int (iZ x)), some (.int (iZ v)), x3, x4, x5] [] := by
    intro n
    induction n with
    | zero =>
      intro x v x3 x4 x5 hx0 hxn hx16 hR
      refine e_iload_n (q := 19) (i := 1) dX12_realms_18 rfl rfl rfl ?_
      refine e_if_eq (q := 22) (tgt := 93) dX12_realms_19 rfl (by decide) (fun c19 => ?_) (fun c19 => absurd (by omega) c19)
      refine e_iload_n (q := 94) (i := 2) dX12_realms_93 rfl rfl rfl ?_
      exact r_i dX12_realms_94 rfl ⟨by rw [← hR]; simp only [mRl]; omega, rfl⟩
    | succ n ih =>
      intro x v x3 x4 x5 hx0 hxn hx16 hR
      refine e_iload_n (q := 19) (i := 1) dX12_realms_18 rfl rfl rfl ?_
      refine e_if_eq (q := 22) (tgt := 93) dX12_realms_19 rfl (by decide) (fun c19 => ?_) (fun c19 => ?_)
      · refine e_iload_n (q := 94) (i := 2) dX12_realms_93 rfl rfl rfl ?_
        exact r_i dX12_realms_94 rfl ⟨by rw [← hR, c19]; simp only [mRl]; simp, rfl⟩
      · have hlw := low_16 (x := x) (by omega) hx16
        refine e_iload_n (q := 23) (i := 1) dX12_realms_22 rfl rfl rfl ?_
        refine e_iload_n (q := 24) (i := 1) dX12_realms_23 rfl rfl rfl ?_
        refine e_ineg (q := 25) dX12_realms_24 rfl ?_
        refine e_iand (q := 26) dX12_realms_25 rfl (iZ_of _).symm ?_
        refine e_istore_n (q := 27) (i := 3) (L' := [_, _, _, _, _, _]) dX12_realms_26 rfl rfl (by decide) rfl rfl ?_
        refine e_iconst (q := 28) dX12_realms_27 rfl ?_
        refine e_istore (q := 30) (L' := [_, _, _, _, _, _]) dX12_realms_28 rfl (by decide) rfl rfl ?_
        have lm : ∀ (k : Nat) (y : Option Value) (i s : Int), 0 ≤ i → i + k = 4 → s = hOut (gTd (σ.1 86) (σ.1 87) (mF σ 0) (σ.1 84 1)) (σ.1 84 1) i (lowb x) → J G 6 mX12_realms (pI (fun z σ' => z = mRl (gTd (σ.1 86) (σ.1 87) (mF σ 0) (σ.1 84 1)) (σ.1 84 1) 15 (2 ^ ((σ.1 84 1)).toNat - 1) ∧ σ' = σ)) σ 30 [some (.ref (G.2.2.2 + 82)), some (.int (iZ x)), some (.int (iZ v)), some (.int (iZ s)), some (.int (iZ i)), y] [] := by
          intro k
          induction k with
          | zero =>
            intro y i s h0 hn hs
            refine e_iload (q := 32) dX12_realms_30 rfl rfl ?_
            refine e_iconst (q := 33) dX12_realms_32 rfl ?_
            refine e_icmp_ge (q := 36) (tgt := 81) dX12_realms_33 rfl (by decide) (fun c33 => ?_) (fun c33 => absurd (by omega) c33)
            have ei : i = 4 := by omega
            subst ei
            have hsb : bsub (lowb x) s := by rw [hs]; exact hgOut_sub (by omega) hT16 ⟨by omega, hlw.2⟩ _ _ (by omega) hlw.2 (bsub_rf ⟨by omega, hlw.2⟩)
            have hs16 : 0 ≤ s ∧ s < 16 := by rw [hs]; exact hOut_16 (by omega) hT16 (by omega) (by omega)
            have hof := off_lt (by omega) hx16 hs16 hsb
            refine e_iload_n (q := 82) (i := 1) dX12_realms_81 rfl rfl rfl ?_
            refine e_iload_n (q := 83) (i := 3) dX12_realms_82 rfl rfl rfl ?_
            refine e_iconst (q := 84) dX12_realms_83 rfl ?_
            refine e_ixor (q := 85) dX12_realms_84 rfl (iZ_of _).symm ?_
            refine e_iand (q := 86) dX12_realms_85 rfl (iZ_of _).symm ?_
            refine e_istore_n (q := 87) (i := 1) (L' := [_, _, _, _, _, _]) dX12_realms_86 rfl rfl (by decide) rfl rfl ?_
            refine e_iinc (q := 90) (L' := [_, _, _, _, _, _]) dX12_realms_87 rfl rfl (by decide) rfl rfl ?_
            refine e_goto (tgt := 18) dX12_realms_90 (by decide) ?_
            refine ih _ _ _ _ _ (show 0 ≤ offb x s by omega) (show offb x s ≤ _ by omega) (show offb x s < 16 by omega) ?_
            have key : v + 1 + mRl (gTd (σ.1 86) (σ.1 87) (mF σ 0) (σ.1 84 1)) (σ.1 84 1) n (offb x s) = mRl (gTd (σ.1 86) (σ.1 87) (mF σ 0) (σ.1 84 1)) (σ.1 84 1) 15 (2 ^ ((σ.1 84 1)).toNat - 1) := by
              rw [← hR, hs]
              simp only [mRl]
              rw [if_neg (by omega)]
              omega
            exact key
          | succ k ih2 =>
            intro y i s h0 hn hs
            refine e_iload (q := 32) dX12_realms_30 rfl rfl ?_
            refine e_iconst (q := 33) dX12_realms_32 rfl ?_
            refine e_icmp_ge (q := 36) (tgt := 81) dX12_realms_33 rfl (by decide) (fun c33 => absurd c33 (by omega)) (fun c33 => ?_)
            refine e_iconst (q := 37) dX12_realms_36 rfl ?_
            refine e_istore (q := 39) (L' := [_, _, _, _, _, _]) dX12_realms_37 rfl (by decide) rfl rfl ?_
            have hs16 : 0 ≤ s ∧ s < 16 := by rw [hs]; exact hOut_16 (by omega) hT16 (by omega) (by omega)
            have lq : ∀ (l : Nat) (j t : Int), 0 ≤ j → j + l = (σ.1 84 1) → t = hIn (gTd (σ.1 86) (σ.1 87) (mF σ 0) (σ.1 84 1)) j s → J G 6 mX12_realms (pI (fun z σ' => z = mRl (gTd (σ.1 86) (σ.1 87) (mF σ 0) (σ.1 84 1)) (σ.1 84 1) 15 (2 ^ ((σ.1 84 1)).toNat - 1) ∧ σ' = σ)) σ 39 [some (.ref (G.2.2.2 + 82)), some (.int (iZ x)), some (.int (iZ v)), some (.int (iZ t)), some (.int (iZ i)), some (.int (iZ j))] [] := by
              intro l
              induction l with
              | zero =>
                intro j t h3 h4 h5
                have hb := hIn_16 hT16 (k := j) (b := s) (by omega) hs16.1 hs16.2
                rw [← h5] at hb
                refine e_iload (q := 41) dX12_realms_39 rfl rfl ?_
                refine e_aload_n (q := 42) (i := 0) dX12_realms_41 rfl rfl rfl ?_
                refine e_getR (q := 45) dX12_realms_42 rfl fg_X12_13 (by first | assumption | rfl) rfl ?_
                refine e_iconst (q := 46) dX12_realms_45 rfl ?_
                refine e_iald (q := 47) dX12_realms_46 rfl (by first | assumption | rfl) ?_
                refine e_icmp_ge (q := 50) (tgt := 75) dX12_realms_47 rfl (by decide) (fun c47 => ?_) (fun c47 => absurd (by omega) c47)
                refine e_iinc (q := 78) (L' := [_, _, _, _, _, _]) dX12_realms_75 rfl rfl (by decide) rfl rfl ?_
                refine e_goto (tgt := 30) dX12_realms_78 (by decide) ?_
                exact ih2 _ _ _ (by omega) (by omega) (by rw [h5, hOut_succ _ _ h0, ← hs]; congr 1; omega)
              | succ l ih3 =>
                intro j t h3 h4 h5
                have hb := hIn_16 hT16 (k := j) (b := s) (by omega) hs16.1 hs16.2
                rw [← h5] at hb
                refine e_iload (q := 41) dX12_realms_39 rfl rfl ?_
                refine e_aload_n (q := 42) (i := 0) dX12_realms_41 rfl rfl rfl ?_
                refine e_getR (q := 45) dX12_realms_42 rfl fg_X12_13 (by first | assumption | rfl) rfl ?_
                refine e_iconst (q := 46) dX12_realms_45 rfl ?_
                refine e_iald (q := 47) dX12_realms_46 rfl (by first | assumption | rfl) ?_
                refine e_icmp_ge (q := 50) (tgt := 75) dX12_realms_47 rfl (by decide) (fun c47 => absurd c47 (by omega)) (fun c47 => ?_)
                refine e_iload_n (q := 51) (i := 3) dX12_realms_50 rfl rfl rfl ?_
                refine e_iload (q := 53) dX12_realms_51 rfl rfl ?_
                refine e_ishr (q := 54) dX12_realms_53 rfl (iZ_shrk (by omega) (by omega) h3 (by omega)) ?_
                refine e_iconst (q := 55) dX12_realms_54 rfl ?_
                refine e_iand (q := 56) dX12_realms_55 rfl (iZ_and1 (Int.ediv_nonneg (by omega) (by have := p2_16 h3 (by omega); omega)) (by have := Int.ediv_le_self (2 ^ j.toNat) (show 0 ≤ t by omega); omega)) ?_
                refine e_iconst (q := 57) dX12_realms_56 rfl ?_
                refine e_icmp_ne (q := 60) (tgt := 69) dX12_realms_57 rfl (by decide) (fun c57 => ?_) (fun c57 => ?_) (hx := ⟨by omega, by omega⟩)
                · refine e_iinc (q := 72) (L' := [_, _, _, _, _, _]) dX12_realms_69 rfl rfl (by decide) rfl rfl ?_
                  refine e_goto (tgt := 39) dX12_realms_72 (by decide) ?_
                  refine ih3 _ _ (by omega) (by omega) ?_
                  rw [hIn_succ _ h3, ← h5]
                  first | (rw [if_pos (by omega)]; done) | (rw [if_neg (by omega)]; done) | (rw [if_neg (by omega)]; rfl)
                · refine e_iload_n (q := 61) (i := 3) dX12_realms_60 rfl rfl rfl ?_
                  refine e_aload_n (q := 62) (i := 0) dX12_realms_61 rfl rfl rfl ?_
                  refine e_iload (q := 64) dX12_realms_62 rfl rfl ?_
                  refine e_Vip (q := 67) (vs := [_]) ok_X12_touchedBy ml_X12_399 dX12_realms_64 rfl ⟨_, _, rfl⟩ (by first | assumption | rfl) rfl rfl (Nat.le_of_ble_eq_true rfl) (by decide) (c_X12_touchedBy hT hI (by omega) (by omega)) ?_
                  refine e_ior (q := 68) dX12_realms_67 rfl (zor_eq _ _) ?_
                  refine e_istore_n (q := 69) (i := 3) (L' := [_, _, _, _, _, _]) dX12_realms_68 rfl rfl (by decide) rfl rfl ?_
                  refine e_iinc (q := 72) (L' := [_, _, _, _, _, _]) dX12_realms_69 rfl rfl (by decide) rfl rfl ?_
                  refine e_goto (tgt := 39) dX12_realms_72 (by decide) ?_
                  refine ih3 _ _ (by omega) (by omega) ?_
                  rw [hIn_succ _ h3, ← h5]
                  first | (rw [if_pos (by omega)]; done) | (rw [if_neg (by omega)]; done) | (rw [if_neg (by omega)]; rfl)
            exact lq ((σ.1 84 1)).toNat _ _ (by omega) (by omega) rfl
        exact lm 4 _ 0 _ (by decide) (by decide) rfl
  refine e_entry om_X12_realms (Nat.le_of_ble_eq_true rfl) (L := [some (.ref (G.2.2.2 + 82)), none, none, none, none, none]) rfl ?_
  refine e_aload_n (q := 1) (i := 0) dX12_realms_0 rfl rfl rfl ?_
  refine e_iconst (q := 2) dX12_realms_1 rfl ?_
  refine e_putI (q := 5) (jz := 0) dX12_realms_2 rfl fp_X12_136 rfl (by first | assumption | rfl) rfl ?_
  rw [← hσ]
  refine e_iconst (q := 6) dX12_realms_5 rfl ?_
  refine e_aload_n (q := 7) (i := 0) dX12_realms_6 rfl rfl rfl ?_
  refine e_getR (q := 10) dX12_realms_7 rfl fg_X12_13 (by first | assumption | rfl) rfl ?_
  refine e_iconst (q := 11) dX12_realms_10 rfl ?_
  refine e_iald (q := 12) dX12_realms_11 rfl (by first | assumption | rfl) ?_
  refine e_ishl (q := 13) dX12_realms_12 rfl (iZ_shl1 (by omega) (by omega)) ?_
  refine e_iconst (q := 14) dX12_realms_13 rfl ?_
  refine e_isub (q := 15) dX12_realms_14 rfl ?_
  refine e_istore_n (q := 16) (i := 1) (L' := [_, _, _, _, _, _]) dX12_realms_15 rfl rfl (by decide) rfl rfl ?_
  refine e_iconst (q := 17) dX12_realms_16 rfl ?_
  refine e_istore_n (q := 18) (i := 2) (L' := [_, _, _, _, _, _]) dX12_realms_17 rfl rfl (by decide) rfl rfl ?_
  have hp4 : (1 : Int) ≤ 2 ^ ((σ.1 84 1)).toNat ∧ (2 : Int) ^ ((σ.1 84 1)).toNat ≤ 16 := by
    have hq : ∀ k : Nat, k < 5 → (1 : Int) ≤ 2 ^ k ∧ (2 : Int) ^ k ≤ 16 := by decide +kernel
    exact hq _ (by omega)
  exact lp 15 _ 0 _ _ _ (by omega) (by omega) (by omega) (by omega)

set_option maxHeartbeats 4000000 in
theorem c_X12_isColoured {G : Gx} {σ : Sg} {x c : Int} (hT : MT σ) (hI : MI σ 0) (hx0 : 0 ≤ x) (hx1 : x ≤ 81) (hc1 : 1 ≤ c) (hc3 : c ≤ 3) : Con G 5 mX12_isColoured [.ref (G.2.2.2 + 82), .int (iZ x), .int (iZ c)] σ (pI (fun z σ' => ((z = 1 ∧ mOk (gTouch (σ.1 86) (σ.1 87) (mF σ 0)) x c (σ.1 84 1)) ∨ (z = 0 ∧ ¬ mOk (gTouch (σ.1 86) (σ.1 87) (mF σ 0)) x c (σ.1 84 1))) ∧ Fr [111] σ σ')) := by
  obtain ⟨hzz, hnp, hnc, hnb, hrn, hsd, hrw, hrq, hch, hbt, hck⟩ := id hT
  have la : ∀ (n : Nat) (τ : Sg) (i z : Int) (x5 : Option Value), 0 ≤ i → i + n = (σ.1 84 1) → z = x / c ^ i.toNat → Fr [111] σ τ → (∀ j, 0 ≤ j → j < i → τ.1 111 j = mCol c x j) → J G 5 mX12_isColoured (pI (fun z σ' => ((z = 1 ∧ mOk (gTouch (σ.1 86) (σ.1 87) (mF σ 0)) x c (σ.1 84 1)) ∨ (z = 0 ∧ ¬ mOk (gTouch (σ.1 86) (σ.1 87) (mF σ 0)) x c (σ.1 84 1))) ∧ Fr [111] σ σ')) τ 5 [some (.ref (G.2.2.2 + 82)), some (.int (iZ x)), some (.int (iZ c)), some (.int (iZ z)), some (.int (iZ i)), x5] [] := by
    intro n
    induction n with
    | zero =>
      intro τ i z x5 h0 hn hz hF hC
      have e84 : τ.1 84 1 = (σ.1 84 1) := by rw [(hF 84 (by decide)).1]
      refine e_iload (q := 7) dX12_isColoured_5 rfl rfl ?_
      refine e_aload_n (q := 8) (i := 0) dX12_isColoured_7 rfl rfl rfl ?_
      refine e_getR (q := 11) dX12_isColoured_8 rfl fg_X12_13 (by first | assumption | rfl) rfl ?_
      refine e_iconst (q := 12) dX12_isColoured_11 rfl ?_
      refine e_iald (q := 13) dX12_isColoured_12 rfl (by first | assumption | rfl) ?_
      refine e_icmp_ge (q := 16) (tgt := 36) dX12_isColoured_13 rfl (by decide) (fun c13 => ?_) (fun c13 => absurd (by omega) c13)
      refine e_iconst (q := 37) dX12_isColoured_36 rfl ?_
      refine e_istore (q := 39) (L' := [_, _, _, _, _, _]) dX12_isColoured_37 rfl (by decide) rfl rfl ?_
      have hC : ∀ j, 0 ≤ j → j < (σ.1 84 1) → τ.1 111 j = mCol c x j := fun j a b => hC j a (by omega)
      have hTt : MT τ := hT.fr (C := [111]) (F := []) ⟨hF.mono (by decide), fun j _ => hF.e1 (by decide) j⟩ (by intro a h1 h2 h3; simp only [List.mem_cons, List.not_mem_nil, or_false] at h3; omega)
      have hIt : MI τ 0 := hI.fr (C := [111]) (F := []) ⟨hF.mono (by decide), fun j _ => hF.e1 (by decide) j⟩ (by intro a h1 h2 h3; simp only [List.mem_cons, List.not_mem_nil, or_false] at h3; omega)
      have lb : ∀ (n : Nat) (x5 : Option Value) (i : Int), 0 ≤ i → i + n = (σ.1 84 1) → (∀ a b, 0 ≤ a → a < i → a < b → b < (σ.1 84 1) → mCol c x a = mCol c x b → (gTouch (σ.1 86) (σ.1 87) (mF σ 0)) a b ≠ 1) → J G 5 mX12_isColoured (pI (fun z σ' => ((z = 1 ∧ mOk (gTouch (σ.1 86) (σ.1 87) (mF σ 0)) x c (σ.1 84 1)) ∨ (z = 0 ∧ ¬ mOk (gTouch (σ.1 86) (σ.1 87) (mF σ 0)) x c (σ.1 84 1))) ∧ Fr [111] σ σ')) τ 39 [some (.ref (G.2.2.2 + 82)), some (.int (iZ x)), some (.int (iZ c)), some (.int (iZ z)), some (.int (iZ i)), x5] [] := by
        intro n
        induction n with
        | zero =>
          intro x5 i h0 hn hs
          refine e_iload (q := 41) dX12_isColoured_39 rfl rfl ?_
          refine e_aload_n (q := 42) (i := 0) dX12_isColoured_41 rfl rfl rfl ?_
          refine e_getR (q := 45) dX12_isColoured_42 rfl fg_X12_13 (by first | assumption | rfl) rfl ?_
          refine e_iconst (q := 46) dX12_isColoured_45 rfl ?_
          refine e_iald (q := 47) dX12_isColoured_46 rfl (by first | assumption | rfl) ?_
          refine e_icmp_ge (q := 50) (tgt := 109) dX12_isColoured_47 rfl (by decide) (fun c47 => ?_) (fun c47 => absurd (by omega) c47)
          refine e_iconst (q := 110) dX12_isColoured_109 rfl ?_
          exact r_z dX12_isColoured_110 rfl (by first | exact Or.inl rfl | exact Or.inr rfl | omega) ⟨Or.inl ⟨rfl, fun a b a0 a1 a2 => hs a b a0 (by omega) a1 a2⟩, hF⟩
        | succ n ih =>
          intro x5 i h0 hn hs
          refine e_iload (q := 41) dX12_isColoured_39 rfl rfl ?_
          refine e_aload_n (q := 42) (i := 0) dX12_isColoured_41 rfl rfl rfl ?_
          refine e_getR (q := 45) dX12_isColoured_42 rfl fg_X12_13 (by first | assumption | rfl) rfl ?_
          refine e_iconst (q := 46) dX12_isColoured_45 rfl ?_
          refine e_iald (q := 47) dX12_isColoured_46 rfl (by first | assumption | rfl) ?_
          refine e_icmp_ge (q := 50) (tgt := 109) dX12_isColoured_47 rfl (by decide) (fun c47 => absurd c47 (by omega)) (fun c47 => ?_)
          refine e_iload (q := 52) dX12_isColoured_50 rfl rfl ?_
          refine e_iconst (q := 53) dX12_isColoured_52 rfl ?_
          refine e_iadd (q := 54) dX12_isColoured_53 rfl ?_
          refine e_istore (q := 56) (L' := [_, _, _, _, _, _]) dX12_isColoured_54 rfl (by decide) rfl rfl ?_
          have lq : ∀ (k : Nat) (j : Int), i < j → j + k = (σ.1 84 1) → (∀ b, i < b → b < j → mCol c x i = mCol c x b → (gTouch (σ.1 86) (σ.1 87) (mF σ 0)) i b ≠ 1) → J G 5 mX12_isColoured (pI (fun z σ' => ((z = 1 ∧ mOk (gTouch (σ.1 86) (σ.1 87) (mF σ 0)) x c (σ.1 84 1)) ∨ (z = 0 ∧ ¬ mOk (gTouch (σ.1 86) (σ.1 87) (mF σ 0)) x c (σ.1 84 1))) ∧ Fr [111] σ σ')) τ 56 [some (.ref (G.2.2.2 + 82)), some (.int (iZ x)), some (.int (iZ c)), some (.int (iZ z)), some (.int (iZ i)), some (.int (iZ j))] [] := by
            intro k
            induction k with
            | zero =>
              intro j h3 h4 h5
              refine e_iload (q := 58) dX12_isColoured_56 rfl rfl ?_
              refine e_aload_n (q := 59) (i := 0) dX12_isColoured_58 rfl rfl rfl ?_
              refine e_getR (q := 62) dX12_isColoured_59 rfl fg_X12_13 (by first | assumption | rfl) rfl ?_
              refine e_iconst (q := 63) dX12_isColoured_62 rfl ?_
              refine e_iald (q := 64) dX12_isColoured_63 rfl (by first | assumption | rfl) ?_
              refine e_icmp_ge (q := 67) (tgt := 103) dX12_isColoured_64 rfl (by decide) (fun c64 => ?_) (fun c64 => absurd (by omega) c64)
              refine e_iinc (q := 106) (L' := [_, _, _, _, _, _]) dX12_isColoured_103 rfl rfl (by decide) rfl rfl ?_
              refine e_goto (tgt := 39) dX12_isColoured_106 (by decide) ?_
              refine ih _ _ (by omega) (by omega) (fun a b a0 a1 a2 a3 => ?_)
              by_cases ea : a = i
              · subst ea
                exact h5 b a2 (by omega)
              · exact hs a b a0 (by omega) a2 a3
            | succ k ih2 =>
              intro j h3 h4 h5
              refine e_iload (q := 58) dX12_isColoured_56 rfl rfl ?_
              refine e_aload_n (q := 59) (i := 0) dX12_isColoured_58 rfl rfl rfl ?_
              refine e_getR (q := 62) dX12_isColoured_59 rfl fg_X12_13 (by first | assumption | rfl) rfl ?_
              refine e_iconst (q := 63) dX12_isColoured_62 rfl ?_
              refine e_iald (q := 64) dX12_isColoured_63 rfl (by first | assumption | rfl) ?_
              refine e_icmp_ge (q := 67) (tgt := 103) dX12_isColoured_64 rfl (by decide) (fun c64 => absurd c64 (by omega)) (fun c64 => ?_)
              refine e_aload_n (q := 68) (i := 0) dX12_isColoured_67 rfl rfl rfl ?_
              refine e_getR (q := 71) dX12_isColoured_68 rfl fg_X12_102 (by first | assumption | rfl) rfl ?_
              refine e_iload (q := 73) dX12_isColoured_71 rfl rfl ?_
              refine e_iald (q := 74) dX12_isColoured_73 rfl (by first | assumption | rfl) ?_
              refine e_aload_n (q := 75) (i := 0) dX12_isColoured_74 rfl rfl rfl ?_
              refine e_getR (q := 78) dX12_isColoured_75 rfl fg_X12_102 (by first | assumption | rfl) rfl ?_
              refine e_iload (q := 80) dX12_isColoured_78 rfl rfl ?_
              refine e_iald (q := 81) dX12_isColoured_80 rfl (by first | assumption | rfl) ?_
              have hmi : 0 ≤ mCol c x i ∧ mCol c x i ≤ 3 := ⟨Int.emod_nonneg _ (by omega), by have := Int.emod_lt_of_pos (x / c ^ i.toNat) (show 0 < c by omega); unfold mCol; omega⟩
              have hmj : 0 ≤ mCol c x j ∧ mCol c x j ≤ 3 := ⟨Int.emod_nonneg _ (by omega), by have := Int.emod_lt_of_pos (x / c ^ j.toNat) (show 0 < c by omega); unfold mCol; omega⟩
              rw [hC i (by omega) (by omega), hC j (by omega) (by omega)]
              refine e_icmp_ne (q := 84) (tgt := 97) dX12_isColoured_81 rfl (by decide) (fun c81 => ?_) (fun c81 => ?_)
              · refine e_iinc (q := 100) (L' := [_, _, _, _, _, _]) dX12_isColoured_97 rfl rfl (by decide) rfl rfl ?_
                refine e_goto (tgt := 56) dX12_isColoured_100 (by decide) ?_
                refine ih2 _ (by omega) (by omega) (fun b b0 b1 b2 => ?_)
                by_cases eb : b = j
                · subst eb
                  first | exact absurd b2 c81 | omega
                · exact h5 b b0 (by omega) b2
              · refine e_aload_n (q := 85) (i := 0) dX12_isColoured_84 rfl rfl rfl ?_
                refine e_iload (q := 87) dX12_isColoured_85 rfl rfl ?_
                refine e_iload (q := 89) dX12_isColoured_87 rfl rfl ?_
                refine e_Vip (q := 92) (vs := [_, _]) ok_X12_doTouch ml_X12_345 dX12_isColoured_89 rfl ⟨_, _, rfl⟩ (by first | assumption | rfl) rfl rfl (Nat.le_of_ble_eq_true rfl) (by decide) (c_X12_doTouch (σ := τ) hTt hIt (by omega) (by omega) (by omega) (by omega)) ?_
                have ht := (show (gTouch (σ.1 86) (σ.1 87) (mF σ 0)) i j = 0 ∨ (gTouch (σ.1 86) (σ.1 87) (mF σ 0)) i j = 1 by unfold gTouch; split <;> simp)
                rw [show (gTouch (τ.1 86) (τ.1 87) (mF τ 0) i j) = (gTouch (σ.1 86) (σ.1 87) (mF σ 0)) i j from by unfold mF; rw [(hF 86 (by decide)).1, (hF 87 (by decide)).1, (hF 105 (by decide)).1]]
                refine e_if_eq (q := 95) (tgt := 97) dX12_isColoured_92 rfl (by decide) (fun c92 => ?_) (fun c92 => ?_)
                · refine e_iinc (q := 100) (L' := [_, _, _, _, _, _]) dX12_isColoured_97 rfl rfl (by decide) rfl rfl ?_
                  refine e_goto (tgt := 56) dX12_isColoured_100 (by decide) ?_
                  refine ih2 _ (by omega) (by omega) (fun b b0 b1 b2 => ?_)
                  by_cases eb : b = j
                  · subst eb
                    first | exact absurd b2 c81 | omega
                  · exact h5 b b0 (by omega) b2
                · refine e_iconst (q := 96) dX12_isColoured_95 rfl ?_
                  exact r_z dX12_isColoured_96 rfl (by first | exact Or.inl rfl | exact Or.inr rfl | omega) ⟨Or.inr ⟨rfl, fun q => q i j h0 h3 (by omega) c81 (by omega)⟩, hF⟩
          exact lq ((σ.1 84 1) - (i + 1)).toNat _ (by omega) (by omega) (fun b b0 b1 => absurd b1 (by omega))
      exact lb ((σ.1 84 1)).toNat _ 0 (by decide) (by omega) (fun a b a0 a1 => absurd a1 (by omega))
    | succ n ih =>
      intro τ i z x5 h0 hn hz hF hC
      have e84 : τ.1 84 1 = (σ.1 84 1) := by rw [(hF 84 (by decide)).1]
      refine e_iload (q := 7) dX12_isColoured_5 rfl rfl ?_
      refine e_aload_n (q := 8) (i := 0) dX12_isColoured_7 rfl rfl rfl ?_
      refine e_getR (q := 11) dX12_isColoured_8 rfl fg_X12_13 (by first | assumption | rfl) rfl ?_
      refine e_iconst (q := 12) dX12_isColoured_11 rfl ?_
      refine e_iald (q := 13) dX12_isColoured_12 rfl (by first | assumption | rfl) ?_
      refine e_icmp_ge (q := 16) (tgt := 36) dX12_isColoured_13 rfl (by decide) (fun c13 => absurd c13 (by omega)) (fun c13 => ?_)
      have hp := pw_in hc1 hc3 h0 (show i ≤ 4 by omega)
      have hz0 := Int.ediv_nonneg hx0 (show 0 ≤ c ^ i.toNat by omega)
      have hz1 := Int.ediv_le_self (c ^ i.toNat) hx0
      refine e_aload_n (q := 17) (i := 0) dX12_isColoured_16 rfl rfl rfl ?_
      refine e_getR (q := 20) dX12_isColoured_17 rfl fg_X12_102 (by first | assumption | rfl) rfl ?_
      refine e_iload (q := 22) dX12_isColoured_20 rfl rfl ?_
      refine e_iload_n (q := 23) (i := 3) dX12_isColoured_22 rfl rfl rfl ?_
      refine e_iload_n (q := 24) (i := 2) dX12_isColoured_23 rfl rfl rfl ?_
      refine e_irem (q := 25) dX12_isColoured_24 rfl (iZ_ne0 ⟨by omega, by omega⟩ (by omega)) (iZ_rem (by omega) (by omega) (by omega) (by omega)) ?_
      refine e_iast (q := 26) dX12_isColoured_25 rfl (by first | assumption | rfl) ?_
      refine e_iload_n (q := 27) (i := 3) dX12_isColoured_26 rfl rfl rfl ?_
      refine e_iload_n (q := 28) (i := 2) dX12_isColoured_27 rfl rfl rfl ?_
      refine e_idiv (q := 29) dX12_isColoured_28 rfl (iZ_ne0 ⟨by omega, by omega⟩ (by omega)) (iZ_div (by omega) (by omega) (by omega) (by omega)) ?_
      refine e_istore_n (q := 30) (i := 3) (L' := [_, _, _, _, _, _]) dX12_isColoured_29 rfl rfl (by decide) rfl rfl ?_
      refine e_iinc (q := 33) (L' := [_, _, _, _, _, _]) dX12_isColoured_30 rfl rfl (by decide) rfl rfl ?_
      refine e_goto (tgt := 5) dX12_isColoured_33 (by decide) ?_
      refine ih _ _ _ _ (by omega) (by omega) (by rw [hz]; exact col_next hc1 h0) (hF.sI (by decide) _ _) (fun j a b => ?_)
      rw [sI_1]
      by_cases e : j = i
      · rw [if_pos ⟨rfl, e⟩, e, hz]
        rfl
      · rw [if_neg (fun q => e q.2)]
        exact hC j a (by omega)
  refine e_entry om_X12_isColoured (Nat.le_of_ble_eq_true rfl) (L := [some (.ref (G.2.2.2 + 82)), some (.int (iZ x)), some (.int (iZ c)), none, none, none]) rfl ?_
  refine e_iload_n (q := 1) (i := 1) dX12_isColoured_0 rfl rfl rfl ?_
  refine e_istore_n (q := 2) (i := 3) (L' := [_, _, _, _, _, _]) dX12_isColoured_1 rfl rfl (by decide) rfl rfl ?_
  refine e_iconst (q := 3) dX12_isColoured_2 rfl ?_
  refine e_istore (q := 5) (L' := [_, _, _, _, _, _]) dX12_isColoured_3 rfl (by decide) rfl rfl ?_
  exact la ((σ.1 84 1)).toNat σ 0 _ _ (by decide) (by omega) (by rw [show (0 : Int).toNat = 0 from rfl, Int.pow_zero, Int.ediv_one]) (Fr.rf _ _) (fun j a b => absurd b (by omega))

set_option maxHeartbeats 4000000 in
theorem c_X12_doColours {G : Gx} {σ : Sg} {c : Int} (hT : MT σ) (hI : MI σ 0) (hc1 : 1 ≤ c) (hc3 : c ≤ 3) : Con G 6 mX12_doColours [.ref (G.2.2.2 + 82), .int (iZ c)] σ (pI (fun z σ' => ((z = 1 ∧ ∃ x, 0 ≤ x ∧ x < c ^ ((σ.1 84 1)).toNat ∧ mOk (gTouch (σ.1 86) (σ.1 87) (mF σ 0)) x c (σ.1 84 1)) ∨ (z = 0 ∧ ¬ ∃ x, 0 ≤ x ∧ x < c ^ ((σ.1 84 1)).toNat ∧ mOk (gTouch (σ.1 86) (σ.1 87) (mF σ 0)) x c (σ.1 84 1))) ∧ Fr [111] σ σ')) := by
  obtain ⟨hzz, hnp, hnc, hnb, hrn, hsd, hrw, hrq, hch, hbt, hck⟩ := id hT
  have lb : ∀ (n : Nat) (τ : Sg) (x : Int), 0 ≤ x → x + n = c ^ ((σ.1 84 1)).toNat → Fr [111] σ τ → (∀ y, 0 ≤ y → y < x → ¬ mOk (gTouch (σ.1 86) (σ.1 87) (mF σ 0)) y c (σ.1 84 1)) → J G 6 mX12_doColours (pI (fun z σ' => ((z = 1 ∧ ∃ x, 0 ≤ x ∧ x < c ^ ((σ.1 84 1)).toNat ∧ mOk (gTouch (σ.1 86) (σ.1 87) (mF σ 0)) x c (σ.1 84 1)) ∨ (z = 0 ∧ ¬ ∃ x, 0 ≤ x ∧ x < c ^ ((σ.1 84 1)).toNat ∧ mOk (gTouch (σ.1 86) (σ.1 87) (mF σ 0)) x c (σ.1 84 1))) ∧ Fr [111] σ σ')) τ 26 [some (.ref (G.2.2.2 + 82)), some (.int (iZ c)), some (.int (iZ (c ^ ((σ.1 84 1)).toNat))), some (.int (iZ x))] [] := by
    intro n
    induction n with
    | zero =>
      intro τ x h0 hn hF hN
      have hpn := pw_in hc1 hc3 hnp.1 hnp.2
      refine e_iload_n (q := 27) (i := 3) dX12_doColours_26 rfl rfl rfl ?_
      refine e_iload_n (q := 28) (i := 2) dX12_doColours_27 rfl rfl rfl ?_
      refine e_icmp_ge (q := 31) (tgt := 48) dX12_doColours_28 rfl (by decide) (fun c28 => ?_) (fun c28 => absurd (by omega) c28)
      refine e_iconst (q := 49) dX12_doColours_48 rfl ?_
      exact r_z dX12_doColours_49 rfl (by first | exact Or.inl rfl | exact Or.inr rfl | omega) ⟨Or.inr ⟨rfl, fun q => by obtain ⟨y, a, b, e⟩ := q; exact hN y a (by omega) e⟩, hF⟩
    | succ n ih =>
      intro τ x h0 hn hF hN
      have hpn := pw_in hc1 hc3 hnp.1 hnp.2
      refine e_iload_n (q := 27) (i := 3) dX12_doColours_26 rfl rfl rfl ?_
      refine e_iload_n (q := 28) (i := 2) dX12_doColours_27 rfl rfl rfl ?_
      refine e_icmp_ge (q := 31) (tgt := 48) dX12_doColours_28 rfl (by decide) (fun c28 => absurd c28 (by omega)) (fun c28 => ?_)
      have hTt : MT τ := hT.fr (C := [111]) (F := []) ⟨hF.mono (by decide), fun j _ => hF.e1 (by decide) j⟩ (by intro a h1 h2 h3; simp only [List.mem_cons, List.not_mem_nil, or_false] at h3; omega)
      have hIt : MI τ 0 := hI.fr (C := [111]) (F := []) ⟨hF.mono (by decide), fun j _ => hF.e1 (by decide) j⟩ (by intro a h1 h2 h3; simp only [List.mem_cons, List.not_mem_nil, or_false] at h3; omega)
      refine e_aload_n (q := 32) (i := 0) dX12_doColours_31 rfl rfl rfl ?_
      refine e_iload_n (q := 33) (i := 3) dX12_doColours_32 rfl rfl rfl ?_
      refine e_iload_n (q := 34) (i := 1) dX12_doColours_33 rfl rfl rfl ?_
      refine e_Vi (q := 37) (vs := [_, _]) ok_X12_isColoured ml_X12_467 dX12_doColours_34 rfl ⟨_, _, rfl⟩ (by first | assumption | rfl) rfl rfl (Nat.le_of_ble_eq_true rfl) (by decide) (c_X12_isColoured (σ := τ) hTt hIt (by omega) (by omega) hc1 hc3) (fun z34 s34 h34 => ?_)
      obtain ⟨h34, hF2⟩ := h34
      rw [show mOk (gTouch (τ.1 86) (τ.1 87) (mF τ 0)) x c (τ.1 84 1) = mOk (gTouch (σ.1 86) (σ.1 87) (mF σ 0)) x c (σ.1 84 1) from by unfold mF; rw [(hF 86 (by decide)).1, (hF 87 (by decide)).1, (hF 105 (by decide)).1, (hF 84 (by decide)).1]] at h34
      refine e_if_eq (q := 40) (tgt := 42) dX12_doColours_37 rfl (by decide) (fun c37 => ?_) (fun c37 => ?_) (hx := ⟨by omega, by omega⟩)
      · refine e_iinc (q := 45) (L' := [_, _, _, _]) dX12_doColours_42 rfl rfl (by decide) rfl rfl ?_
        refine e_goto (tgt := 26) dX12_doColours_45 (by decide) ?_
        refine ih _ _ (by omega) (by omega) (hF.tr hF2) (fun y a b => ?_)
        by_cases e : y = x
        · subst e
          rcases h34 with q | q
          · omega
          · exact q.2
        · exact hN y a (by omega)
      · refine e_iconst (q := 41) dX12_doColours_40 rfl ?_
        exact r_z dX12_doColours_41 rfl (by first | exact Or.inl rfl | exact Or.inr rfl | omega) ⟨Or.inl ⟨rfl, x, h0, by omega, by rcases h34 with q | q; exact q.2; exact absurd q.1 c37⟩, hF.tr hF2⟩
  have la : ∀ (n : Nat) (i v : Int), 0 ≤ i → i + n = (σ.1 84 1) → v = c ^ i.toNat → J G 6 mX12_doColours (pI (fun z σ' => ((z = 1 ∧ ∃ x, 0 ≤ x ∧ x < c ^ ((σ.1 84 1)).toNat ∧ mOk (gTouch (σ.1 86) (σ.1 87) (mF σ 0)) x c (σ.1 84 1)) ∨ (z = 0 ∧ ¬ ∃ x, 0 ≤ x ∧ x < c ^ ((σ.1 84 1)).toNat ∧ mOk (gTouch (σ.1 86) (σ.1 87) (mF σ 0)) x c (σ.1 84 1))) ∧ Fr [111] σ σ')) σ 4 [some (.ref (G.2.2.2 + 82)), some (.int (iZ c)), some (.int (iZ v)), some (.int (iZ i))] [] := by
    intro n
    induction n with
    | zero =>
      intro i v h0 hn hv
      have hpn := pw_in hc1 hc3 hnp.1 hnp.2
      refine e_iload_n (q := 5) (i := 3) dX12_doColours_4 rfl rfl rfl ?_
      refine e_aload_n (q := 6) (i := 0) dX12_doColours_5 rfl rfl rfl ?_
      refine e_getR (q := 9) dX12_doColours_6 rfl fg_X12_13 (by first | assumption | rfl) rfl ?_
      refine e_iconst (q := 10) dX12_doColours_9 rfl ?_
      refine e_iald (q := 11) dX12_doColours_10 rfl (by first | assumption | rfl) ?_
      refine e_icmp_ge (q := 14) (tgt := 24) dX12_doColours_11 rfl (by decide) (fun c11 => ?_) (fun c11 => absurd (by omega) c11)
      refine e_iconst (q := 25) dX12_doColours_24 rfl ?_
      refine e_istore_n (q := 26) (i := 3) (L' := [_, _, _, _]) dX12_doColours_25 rfl rfl (by decide) rfl rfl ?_
      rw [hv, show i = (σ.1 84 1) by omega]
      exact lb (c ^ ((σ.1 84 1)).toNat).toNat σ 0 (by decide) (by omega) (Fr.rf _ _) (fun y a b => absurd b (by omega))
    | succ n ih =>
      intro i v h0 hn hv
      have hpn := pw_in hc1 hc3 hnp.1 hnp.2
      refine e_iload_n (q := 5) (i := 3) dX12_doColours_4 rfl rfl rfl ?_
      refine e_aload_n (q := 6) (i := 0) dX12_doColours_5 rfl rfl rfl ?_
      refine e_getR (q := 9) dX12_doColours_6 rfl fg_X12_13 (by first | assumption | rfl) rfl ?_
      refine e_iconst (q := 10) dX12_doColours_9 rfl ?_
      refine e_iald (q := 11) dX12_doColours_10 rfl (by first | assumption | rfl) ?_
      refine e_icmp_ge (q := 14) (tgt := 24) dX12_doColours_11 rfl (by decide) (fun c11 => absurd c11 (by omega)) (fun c11 => ?_)
      refine e_iload_n (q := 15) (i := 2) dX12_doColours_14 rfl rfl rfl ?_
      refine e_iload_n (q := 16) (i := 1) dX12_doColours_15 rfl rfl rfl ?_
      refine e_imul (q := 17) dX12_doColours_16 rfl ?_
      refine e_istore_n (q := 18) (i := 2) (L' := [_, _, _, _]) dX12_doColours_17 rfl rfl (by decide) rfl rfl ?_
      refine e_iinc (q := 21) (L' := [_, _, _, _]) dX12_doColours_18 rfl rfl (by decide) rfl rfl ?_
      refine e_goto (tgt := 4) dX12_doColours_21 (by decide) ?_
      exact ih _ _ (by omega) (by omega) (by rw [hv, show (i + 1).toNat = i.toNat + 1 by omega, Int.pow_succ])
  refine e_entry om_X12_doColours (Nat.le_of_ble_eq_true rfl) (L := [some (.ref (G.2.2.2 + 82)), some (.int (iZ c)), none, none]) rfl ?_
  refine e_iconst (q := 1) dX12_doColours_0 rfl ?_
  refine e_istore_n (q := 2) (i := 2) (L' := [_, _, _, _]) dX12_doColours_1 rfl rfl (by decide) rfl rfl ?_
  refine e_iconst (q := 3) dX12_doColours_2 rfl ?_
  refine e_istore_n (q := 4) (i := 3) (L' := [_, _, _, _]) dX12_doColours_3 rfl rfl (by decide) rfl rfl ?_
  exact la ((σ.1 84 1)).toNat 0 1 (by decide) (by omega) (by rw [show (0 : Int).toNat = 0 from rfl, Int.pow_zero])

set_option maxHeartbeats 4000000 in
theorem c_X12_colours {G : Gx} {σ0 σ : Sg} (hσ : σ = sI σ0 82 0 0) (hT : MT σ) (hI : MI σ 0) : Con G 7 mX12_colours [.ref (G.2.2.2 + 82)] σ0 (pI (fun z σ' => (((σ.1 84 1) = 0 ∧ z = 0) ∨ ((σ.1 84 1) ≠ 0 ∧ 1 ≤ z ∧ z ≤ 4 ∧ (z < 4 → (∃ x, 0 ≤ x ∧ x < z ^ ((σ.1 84 1)).toNat ∧ mOk (gTouch (σ.1 86) (σ.1 87) (mF σ 0)) x z (σ.1 84 1))) ∧ ∀ c, 1 ≤ c → c < z → ¬ (∃ x, 0 ≤ x ∧ x < c ^ ((σ.1 84 1)).toNat ∧ mOk (gTouch (σ.1 86) (σ.1 87) (mF σ 0)) x c (σ.1 84 1)))) ∧ Fr [111] σ σ')) := by
  obtain ⟨hzz, hnp, hnc, hnb, hrn, hsd, hrw, hrq, hch, hbt, hck⟩ := id hT
  refine e_entry om_X12_colours (Nat.le_of_ble_eq_true rfl) (L := [some (.ref (G.2.2.2 + 82)), none]) rfl ?_
  refine e_aload_n (q := 1) (i := 0) dX12_colours_0 rfl rfl rfl ?_
  refine e_iconst (q := 2) dX12_colours_1 rfl ?_
  refine e_putI (q := 5) (jz := 0) dX12_colours_2 rfl fp_X12_136 rfl (by first | assumption | rfl) rfl ?_
  rw [← hσ]
  refine e_aload_n (q := 6) (i := 0) dX12_colours_5 rfl rfl rfl ?_
  refine e_getR (q := 9) dX12_colours_6 rfl fg_X12_13 (by first | assumption | rfl) rfl ?_
  refine e_iconst (q := 10) dX12_colours_9 rfl ?_
  refine e_iald (q := 11) dX12_colours_10 rfl (by first | assumption | rfl) ?_
  refine e_if_ne (q := 14) (tgt := 16) dX12_colours_11 rfl (by decide) (fun c11 => ?_) (fun c11 => ?_)
  · refine e_iconst (q := 17) dX12_colours_16 rfl ?_
    refine e_istore_n (q := 18) (i := 1) (L' := [_, _]) dX12_colours_17 rfl rfl (by decide) rfl rfl ?_
    have hn0 : (σ.1 84 1) ≠ 0 := c11
    have lp : ∀ (n : Nat) (τ : Sg) (i : Int), 1 ≤ i → i + n = 4 → Fr [111] σ τ → (∀ c, 1 ≤ c → c < i → ¬ (∃ x, 0 ≤ x ∧ x < c ^ ((σ.1 84 1)).toNat ∧ mOk (gTouch (σ.1 86) (σ.1 87) (mF σ 0)) x c (σ.1 84 1))) → J G 7 mX12_colours (pI (fun z σ' => (((σ.1 84 1) = 0 ∧ z = 0) ∨ ((σ.1 84 1) ≠ 0 ∧ 1 ≤ z ∧ z ≤ 4 ∧ (z < 4 → (∃ x, 0 ≤ x ∧ x < z ^ ((σ.1 84 1)).toNat ∧ mOk (gTouch (σ.1 86) (σ.1 87) (mF σ 0)) x z (σ.1 84 1))) ∧ ∀ c, 1 ≤ c → c < z → ¬ (∃ x, 0 ≤ x ∧ x < c ^ ((σ.1 84 1)).toNat ∧ mOk (gTouch (σ.1 86) (σ.1 87) (mF σ 0)) x c (σ.1 84 1)))) ∧ Fr [111] σ σ')) τ 18 [some (.ref (G.2.2.2 + 82)), some (.int (iZ i))] [] := by
      intro n
      induction n with
      | zero =>
        intro τ i h0 hn hF hN
        refine e_iload_n (q := 19) (i := 1) dX12_colours_18 rfl rfl rfl ?_
        refine e_iconst (q := 20) dX12_colours_19 rfl ?_
        refine e_icmp_ge (q := 23) (tgt := 39) dX12_colours_20 rfl (by decide) (fun c20 => ?_) (fun c20 => absurd (by omega) c20)
        refine e_iconst (q := 40) dX12_colours_39 rfl ?_
        exact r_i dX12_colours_40 rfl ⟨Or.inr ⟨hn0, by decide, by decide, fun q => absurd q (by decide), fun c a b => hN c a (by omega)⟩, hF⟩
      | succ n ih =>
        intro τ i h0 hn hF hN
        refine e_iload_n (q := 19) (i := 1) dX12_colours_18 rfl rfl rfl ?_
        refine e_iconst (q := 20) dX12_colours_19 rfl ?_
        refine e_icmp_ge (q := 23) (tgt := 39) dX12_colours_20 rfl (by decide) (fun c20 => absurd c20 (by omega)) (fun c20 => ?_)
        have hTt : MT τ := hT.fr (C := [111]) (F := []) ⟨hF.mono (by decide), fun j _ => hF.e1 (by decide) j⟩ (by intro a h1 h2 h3; simp only [List.mem_cons, List.not_mem_nil, or_false] at h3; omega)
        have hIt : MI τ 0 := hI.fr (C := [111]) (F := []) ⟨hF.mono (by decide), fun j _ => hF.e1 (by decide) j⟩ (by intro a h1 h2 h3; simp only [List.mem_cons, List.not_mem_nil, or_false] at h3; omega)
        refine e_aload_n (q := 24) (i := 0) dX12_colours_23 rfl rfl rfl ?_
        refine e_iload_n (q := 25) (i := 1) dX12_colours_24 rfl rfl rfl ?_
        refine e_Vi (q := 28) (vs := [_]) ok_X12_doColours ml_X12_470 dX12_colours_25 rfl ⟨_, _, rfl⟩ (by first | assumption | rfl) rfl rfl (Nat.le_of_ble_eq_true rfl) (by decide) (c_X12_doColours (σ := τ) hTt hIt (by omega) (by omega)) (fun z25 s25 h25 => ?_)
        obtain ⟨h25, hF2⟩ := h25
        rw [show (∃ x, 0 ≤ x ∧ x < i ^ (τ.1 84 1).toNat ∧ mOk (gTouch (τ.1 86) (τ.1 87) (mF τ 0)) x i (τ.1 84 1)) = (∃ x, 0 ≤ x ∧ x < i ^ ((σ.1 84 1)).toNat ∧ mOk (gTouch (σ.1 86) (σ.1 87) (mF σ 0)) x i (σ.1 84 1)) from by unfold mF; rw [(hF 86 (by decide)).1, (hF 87 (by decide)).1, (hF 105 (by decide)).1, (hF 84 (by decide)).1]] at h25
        refine e_if_eq (q := 31) (tgt := 33) dX12_colours_28 rfl (by decide) (fun c28 => ?_) (fun c28 => ?_) (hx := ⟨by omega, by omega⟩)
        · refine e_iinc (q := 36) (L' := [_, _]) dX12_colours_33 rfl rfl (by decide) rfl rfl ?_
          refine e_goto (tgt := 18) dX12_colours_36 (by decide) ?_
          refine ih _ _ (by omega) (by omega) (hF.tr hF2) (fun c a b => ?_)
          by_cases e : c = i
          · subst e
            rcases h25 with q | q
            · omega
            · exact q.2
          · exact hN c a (by omega)
        · refine e_iload_n (q := 32) (i := 1) dX12_colours_31 rfl rfl rfl ?_
          exact r_i dX12_colours_32 rfl ⟨Or.inr ⟨hn0, h0, by omega, fun _ => by rcases h25 with q | q; exact q.2; exact absurd q.1 c28, hN⟩, hF.tr hF2⟩
    exact lp 3 σ 1 (by decide) (by decide) (Fr.rf _ _) (fun c a b => absurd b (by omega))
  · refine e_iconst (q := 15) dX12_colours_14 rfl ?_
    exact r_i dX12_colours_15 rfl ⟨Or.inl ⟨c11, rfl⟩, Fr.rf _ _⟩

theorem gcd_step {x y : Int} (hx : 0 ≤ x) (hy : 0 < y) : Int.gcd y (x % y) = Int.gcd x y := by
  obtain ⟨a, rfl⟩ := Int.eq_ofNat_of_zero_le hx
  obtain ⟨b, rfl⟩ := Int.eq_ofNat_of_zero_le (Int.le_of_lt hy)
  have e : ((a : Int) % (b : Int)) = ((a % b : Nat) : Int) := rfl
  rw [e]
  show Nat.gcd b (a % b) = Nat.gcd a b
  rw [Nat.gcd_comm b (a % b), ← Nat.gcd_rec, Nat.gcd_comm]

set_option maxHeartbeats 4000000 in
theorem c_X12_common {G : Gx} {σ : Sg} {a b : Int} (ha0 : 0 ≤ a) (ha1 : a ≤ 1000000000000) (hb0 : 0 ≤ b) (hb1 : b ≤ 1000000000000) : Con G 1 mX12_common [.long (lZ a), .long (lZ b)] σ (pL (pE σ (Int.gcd a b : Int))) := by
  have lp : ∀ (n : Nat) (x y : Int) (x8 x9 : Option Value), 0 ≤ x → 0 ≤ y → x ≤ 1000000000000 → y ≤ 1000000000000 → y ≤ n → Int.gcd x y = Int.gcd a b → J G 1 mX12_common (pL (pE σ (Int.gcd a b : Int))) σ 6 [some (.long (lZ a)), none, some (.long (lZ b)), none, some (.long (lZ x)), none, some (.long (lZ y)), none, x8, x9] [] := by
    intro n
    induction n with
    | zero =>
      intro x y x8 x9 hx hy hx1 hy1 hn hg
      refine e_lload (q := 8) dX12_common_6 rfl rfl ?_
      refine e_lconst (q := 9) (z := 0) dX12_common_8 rfl (by decide) ?_
      refine e_lcmp (q := 10) dX12_common_9 rfl (by first | assumption | exact ⟨by omega, by omega⟩) (by first | assumption | exact ⟨by omega, by omega⟩) ?_
      have ey : y = 0 := by omega
      subst ey
      refine e_if_eq (q := 13) (tgt := 31) dX12_common_10 rfl (by decide) (fun c10 => ?_) (fun c10 => by exfalso; rw [if_neg (by omega), if_pos rfl] at c10; exact c10 rfl) (hx := ⟨by split <;> (try split) <;> omega, by split <;> (try split) <;> omega⟩)
      refine e_lload (q := 33) dX12_common_31 rfl rfl ?_
      exact r_l dX12_common_33 rfl ⟨by rw [← hg, Int.gcd_zero_right]; omega, rfl⟩
    | succ n ih =>
      intro x y x8 x9 hx hy hx1 hy1 hn hg
      refine e_lload (q := 8) dX12_common_6 rfl rfl ?_
      refine e_lconst (q := 9) (z := 0) dX12_common_8 rfl (by decide) ?_
      refine e_lcmp (q := 10) dX12_common_9 rfl (by first | assumption | exact ⟨by omega, by omega⟩) (by first | assumption | exact ⟨by omega, by omega⟩) ?_
      refine e_if_eq (q := 13) (tgt := 31) dX12_common_10 rfl (by decide) (fun c10 => ?_) (fun c10 => ?_) (hx := ⟨by split <;> (try split) <;> omega, by split <;> (try split) <;> omega⟩)
      · refine e_lload (q := 33) dX12_common_31 rfl rfl ?_
        have ey : y = 0 := by
          split at c10
          · omega
          split at c10 <;> omega
        subst ey
        exact r_l dX12_common_33 rfl ⟨by rw [← hg, Int.gcd_zero_right]; omega, rfl⟩
      · have ey : 0 < y := by
          by_cases q : y = 0
          · rw [q] at c10; exact absurd rfl c10
          · omega
        refine e_lload (q := 15) dX12_common_13 rfl rfl ?_
        refine e_lload (q := 17) dX12_common_15 rfl rfl ?_
        refine e_lrem (q := 18) dX12_common_17 rfl (lZ_ne0 ⟨by omega, by omega⟩ (by omega)) (lZ_rem (by omega) (by omega) (by omega) (by omega)) ?_
        refine e_lstore (q := 20) (L' := [_, _, _, _, _, _, _, _, _, _]) dX12_common_18 rfl (by decide) rfl rfl ?_
        refine e_lload (q := 22) dX12_common_20 rfl rfl ?_
        refine e_lstore (q := 24) (L' := [_, _, _, _, _, _, _, _, _, _]) dX12_common_22 rfl (by decide) rfl rfl ?_
        refine e_lload (q := 26) dX12_common_24 rfl rfl ?_
        refine e_lstore (q := 28) (L' := [_, _, _, _, _, _, _, _, _, _]) dX12_common_26 rfl (by decide) rfl rfl ?_
        refine e_goto (tgt := 6) dX12_common_28 (by decide) ?_
        have hm0 := Int.emod_nonneg x (show y ≠ 0 by omega)
        have hm1 := Int.emod_lt_of_pos x ey
        exact ih _ _ _ _ hy hm0 hy1 (by omega) (by omega) (by rw [← hg]; exact gcd_step hx ey)
  refine e_entry om_X12_common (Nat.le_of_ble_eq_true rfl) (L := [some (.long (lZ a)), none, some (.long (lZ b)), none, none, none, none, none, none, none]) rfl ?_
  refine e_lload_n (q := 1) (i := 0) dX12_common_0 rfl rfl rfl ?_
  refine e_lstore (q := 3) (L' := [_, _, _, _, _, _, _, _, _, _]) dX12_common_1 rfl (by decide) rfl rfl ?_
  refine e_lload_n (q := 4) (i := 2) dX12_common_3 rfl rfl rfl ?_
  refine e_lstore (q := 6) (L' := [_, _, _, _, _, _, _, _, _, _]) dX12_common_4 rfl (by decide) rfl rfl ?_
  exact lp b.toNat a b _ _ (by omega) (by omega) (by omega) (by omega) (by omega) rfl

theorem pw100 {a : Int} (h0 : 0 ≤ a) (h1 : a ≤ 100) {k : Int} (k1 : k ≤ 6) : 0 ≤ a ^ k.toNat ∧ a ^ k.toNat ≤ 1000000000000 := by
  obtain ⟨a, rfl⟩ := Int.eq_ofNat_of_zero_le h0
  have h2 : a ^ k.toNat ≤ 100 ^ k.toNat := Nat.pow_le_pow_left (by omega) _
  have h3 : ∀ j : Nat, j < 7 → 100 ^ j ≤ 1000000000000 := by decide +kernel
  have h4 := h3 k.toNat (by omega)
  have e : ((a : Int) ^ k.toNat) = ((a ^ k.toNat : Nat) : Int) := by simp
  rw [e]
  exact ⟨by omega, by omega⟩

set_option maxHeartbeats 4000000 in
theorem c_X12_dry {G : Gx} {σ0 σ : Sg} {m x : Int} (hσ : σ = sI σ0 82 0 0) (hT : MT σ) (hm : R32 m) (hx : R32 x) : Con G 2 mX12_dry [.ref (G.2.2.2 + 82), .int (iZ m), .int (iZ x)] σ0 (pL (fun z σ' => z = (if (0 ≤ m ∧ m ≤ 6 ∧ 0 ≤ x ∧ x ≤ 1) then (if x = 0 then (100 - σ.1 84 4) ^ m.toNat else (100 : Int) ^ m.toNat) / (Int.gcd ((100 - σ.1 84 4) ^ m.toNat) ((100 : Int) ^ m.toNat) : Int) else -1) ∧ σ' = σ)) := by
  obtain ⟨hzz, hnp, hnc, hnb, hrn, hsd, hrw, hrq, hch, hbt, hck⟩ := id hT
  refine e_entry om_X12_dry (Nat.le_of_ble_eq_true rfl) (L := [some (.ref (G.2.2.2 + 82)), some (.int (iZ m)), some (.int (iZ x)), none, none, none, none, none, none]) rfl ?_
  refine e_aload_n (q := 1) (i := 0) dX12_dry_0 rfl rfl rfl ?_
  refine e_iconst (q := 2) dX12_dry_1 rfl ?_
  refine e_putI (q := 5) (jz := 0) dX12_dry_2 rfl fp_X12_136 rfl (by first | assumption | rfl) rfl ?_
  rw [← hσ]
  refine e_iload_n (q := 6) (i := 1) dX12_dry_5 rfl rfl rfl ?_
  refine e_if_lt (q := 9) (tgt := 24) dX12_dry_6 rfl (by decide) (fun c6 => ?_) (fun c6 => ?_)
  · refine e_ldc2 (q := 27) (z := -1) dX12_dry_24 rfl kw_X12_483 (by decide) ?_
    exact r_l dX12_dry_27 rfl ⟨by rw [if_neg (by omega)], rfl⟩
  · refine e_iload_n (q := 10) (i := 1) dX12_dry_9 rfl rfl rfl ?_
    refine e_bipush (q := 12) dX12_dry_10 rfl (by decide) ?_
    refine e_icmp_gt (q := 15) (tgt := 24) dX12_dry_12 rfl (by decide) (fun c12 => ?_) (fun c12 => ?_)
    · refine e_ldc2 (q := 27) (z := -1) dX12_dry_24 rfl kw_X12_483 (by decide) ?_
      exact r_l dX12_dry_27 rfl ⟨by rw [if_neg (by omega)], rfl⟩
    · refine e_iload_n (q := 16) (i := 2) dX12_dry_15 rfl rfl rfl ?_
      refine e_if_lt (q := 19) (tgt := 24) dX12_dry_16 rfl (by decide) (fun c16 => ?_) (fun c16 => ?_)
      · refine e_ldc2 (q := 27) (z := -1) dX12_dry_24 rfl kw_X12_483 (by decide) ?_
        exact r_l dX12_dry_27 rfl ⟨by rw [if_neg (by omega)], rfl⟩
      · refine e_iload_n (q := 20) (i := 2) dX12_dry_19 rfl rfl rfl ?_
        refine e_iconst (q := 21) dX12_dry_20 rfl ?_
        refine e_icmp_le (q := 24) (tgt := 28) dX12_dry_21 rfl (by decide) (fun c21 => ?_) (fun c21 => ?_)
        · refine e_lconst (q := 29) (z := 1) dX12_dry_28 rfl (by decide) ?_
          refine e_lstore_n (q := 30) (i := 3) (L' := [_, _, _, _, _, _, _, _, _]) dX12_dry_29 rfl rfl (by decide) rfl rfl ?_
          refine e_lconst (q := 31) (z := 1) dX12_dry_30 rfl (by decide) ?_
          refine e_lstore (q := 33) (L' := [_, _, _, _, _, _, _, _, _]) dX12_dry_31 rfl (by decide) rfl rfl ?_
          refine e_iconst (q := 34) dX12_dry_33 rfl ?_
          refine e_istore (q := 36) (L' := [_, _, _, _, _, _, _, _, _]) dX12_dry_34 rfl (by decide) rfl rfl ?_
          have hK : (0 ≤ m ∧ m ≤ 6 ∧ 0 ≤ x ∧ x ≤ 1) := by omega
          have lp : ∀ (n : Nat) (i u v : Int) (x8 : Option Value), 0 ≤ i → i + n = m → u = (100 - σ.1 84 4) ^ i.toNat → v = 100 ^ i.toNat → J G 2 mX12_dry (pL (fun z σ' => z = (if (0 ≤ m ∧ m ≤ 6 ∧ 0 ≤ x ∧ x ≤ 1) then (if x = 0 then (100 - σ.1 84 4) ^ m.toNat else (100 : Int) ^ m.toNat) / (Int.gcd ((100 - σ.1 84 4) ^ m.toNat) ((100 : Int) ^ m.toNat) : Int) else -1) ∧ σ' = σ)) σ 36 [some (.ref (G.2.2.2 + 82)), some (.int (iZ m)), some (.int (iZ x)), some (.long (lZ u)), none, some (.long (lZ v)), none, some (.int (iZ i)), x8] [] := by
            intro n
            induction n with
            | zero =>
              intro i u v x8 h0 hn hu hv
              refine e_iload (q := 38) dX12_dry_36 rfl rfl ?_
              refine e_iload_n (q := 39) (i := 1) dX12_dry_38 rfl rfl rfl ?_
              refine e_icmp_ge (q := 42) (tgt := 70) dX12_dry_39 rfl (by decide) (fun c39 => ?_) (fun c39 => absurd (by omega) c39)
              have ei : i = m := by omega
              subst ei
              have hpA := pw100 (a := (100 - σ.1 84 4)) (k := i) (by omega) (by omega) (by omega)
              have hpB := pw100 (a := 100) (k := i) (by decide) (by decide) (by omega)
              rw [← hu] at hpA
              rw [← hv] at hpB
              have hvp : 0 < v := by rw [hv]; exact Int.pow_pos (by decide)
              have hgp : 1 ≤ (Int.gcd u v : Int) := by
                have : Int.gcd u v ≠ 0 := by
                  intro q
                  have := (Int.gcd_eq_zero_iff.mp q).2
                  rw [hv] at this
                  exact absurd this (Int.ne_of_gt (Int.pow_pos (by decide)))
                omega
              have hgl : (Int.gcd u v : Int) ≤ 1000000000000 := by
                have := Int.gcd_le_right (b := v) u (by omega)
                omega
              refine e_lload_n (q := 71) (i := 3) dX12_dry_70 rfl rfl rfl ?_
              refine e_lload (q := 73) dX12_dry_71 rfl rfl ?_
              refine e_Slp (q := 76) (vs := [_, _]) ok_X12_common ml_X12_487 dX12_dry_73 rfl rfl rfl (Nat.le_of_ble_eq_true rfl) (by decide) (c_X12_common (by omega) (by omega) (by omega) (by omega)) ?_
              refine e_lstore (q := 78) (L' := [_, _, _, _, _, _, _, _, _]) dX12_dry_76 rfl (by decide) rfl rfl ?_
              refine e_iload_n (q := 79) (i := 2) dX12_dry_78 rfl rfl rfl ?_
              refine e_if_ne (q := 82) (tgt := 89) dX12_dry_79 rfl (by decide) (fun c79 => ?_) (fun c79 => ?_)
              · refine e_lload (q := 91) dX12_dry_89 rfl rfl ?_
                refine e_lload (q := 93) dX12_dry_91 rfl rfl ?_
                refine e_ldiv (q := 94) dX12_dry_93 rfl (lZ_ne0 ⟨by omega, by omega⟩ (by omega)) (lZ_div (by omega) (by omega) (by omega) (by omega)) ?_
                exact r_l dX12_dry_94 rfl ⟨by rw [if_pos hK, if_neg c79, hu, hv], rfl⟩
              · refine e_lload_n (q := 83) (i := 3) dX12_dry_82 rfl rfl rfl ?_
                refine e_lload (q := 85) dX12_dry_83 rfl rfl ?_
                refine e_ldiv (q := 86) dX12_dry_85 rfl (lZ_ne0 ⟨by omega, by omega⟩ (by omega)) (lZ_div (by omega) (by omega) (by omega) (by omega)) ?_
                refine e_goto (tgt := 94) dX12_dry_86 (by decide) ?_
                exact r_l dX12_dry_94 rfl ⟨by rw [if_pos hK, if_pos c79, hu, hv], rfl⟩
            | succ n ih =>
              intro i u v x8 h0 hn hu hv
              refine e_iload (q := 38) dX12_dry_36 rfl rfl ?_
              refine e_iload_n (q := 39) (i := 1) dX12_dry_38 rfl rfl rfl ?_
              refine e_icmp_ge (q := 42) (tgt := 70) dX12_dry_39 rfl (by decide) (fun c39 => absurd c39 (by omega)) (fun c39 => ?_)
              refine e_lload_n (q := 43) (i := 3) dX12_dry_42 rfl rfl rfl ?_
              refine e_ldc2 (q := 46) (z := 100) dX12_dry_43 rfl kw_X12_485 (by decide) ?_
              refine e_aload_n (q := 47) (i := 0) dX12_dry_46 rfl rfl rfl ?_
              refine e_getR (q := 50) dX12_dry_47 rfl fg_X12_13 (by first | assumption | rfl) rfl ?_
              refine e_iconst (q := 51) dX12_dry_50 rfl ?_
              refine e_iald (q := 52) dX12_dry_51 rfl (by first | assumption | rfl) ?_
              refine e_i2l (q := 53) dX12_dry_52 rfl (by first | assumption | exact ⟨by omega, by omega⟩) ?_
              refine e_lsub (q := 54) dX12_dry_53 rfl ?_
              refine e_lmul (q := 55) dX12_dry_54 rfl ?_
              refine e_lstore_n (q := 56) (i := 3) (L' := [_, _, _, _, _, _, _, _, _]) dX12_dry_55 rfl rfl (by decide) rfl rfl ?_
              refine e_lload (q := 58) dX12_dry_56 rfl rfl ?_
              refine e_ldc2 (q := 61) (z := 100) dX12_dry_58 rfl kw_X12_485 (by decide) ?_
              refine e_lmul (q := 62) dX12_dry_61 rfl ?_
              refine e_lstore (q := 64) (L' := [_, _, _, _, _, _, _, _, _]) dX12_dry_62 rfl (by decide) rfl rfl ?_
              refine e_iinc (q := 67) (L' := [_, _, _, _, _, _, _, _, _]) dX12_dry_64 rfl rfl (by decide) rfl rfl ?_
              refine e_goto (tgt := 36) dX12_dry_67 (by decide) ?_
              exact ih _ _ _ _ (by omega) (by omega) (by rw [hu, show (i + 1).toNat = i.toNat + 1 by omega, Int.pow_succ]) (by rw [hv, show (i + 1).toNat = i.toNat + 1 by omega, Int.pow_succ])
          exact lp m.toNat 0 1 1 _ (by decide) (by omega) (by rw [show (0 : Int).toNat = 0 from rfl, Int.pow_zero]) (by rw [show (0 : Int).toNat = 0 from rfl, Int.pow_zero])
        · refine e_ldc2 (q := 27) (z := -1) dX12_dry_24 rfl kw_X12_483 (by decide) ?_
          exact r_l dX12_dry_27 rfl ⟨by rw [if_neg (by omega)], rfl⟩

