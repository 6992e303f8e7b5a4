/-- bytes of an int, the highest first -/
theorem iZ_and255 (b : Int) : iZ b &&& iZ 255 = iZ (b % 256) := by
  apply iZ_ext
  have h0 : 0 ≤ b % 256 := Int.emod_nonneg _ (by decide)
  have h1 : b % 256 < 256 := Int.emod_lt_of_pos _ (by decide)
  rw [Int32.toBitVec_and, BitVec.toNat_and, iZ_bv h0 (by omega), iZ_bv (x := 255) (by decide) (by decide)]
  have e : (iZ b).toBitVec.toNat = (b % 4294967296).toNat := by
    show (Int32.ofInt b).toBitVec.toNat = _
    rw [Int32.toBitVec_ofInt, BitVec.toNat_ofInt]
    rfl
  rw [e, show ((255 : Int).toNat) = 2 ^ 8 - 1 from rfl, Nat.and_two_pow_sub_one_eq_mod]
  omega
theorem iZ_shrz {b : Int} {i : Int} (hb : R32 b) (hi : 0 ≤ i) (hk : i ≤ 30) : iZ b >>> (iZ i &&& 31) = iZ (b / 2 ^ i.toNat) := by
  obtain ⟨k, rfl⟩ := Int.eq_ofNat_of_zero_le hi
  have hs : ∀ k : Nat, k < 31 → ((iZ k &&& 31).toBitVec.smod 32).toNat = k := by decide +kernel
  have h := pk_shr (iZ b) (iZ k &&& 31) k (hs k (by omega))
  rw [iZ_toInt hb] at h
  rw [← iZ_of (iZ b >>> (iZ k &&& 31)), h, Int.shiftRight_eq_div_pow]
  congr 2
theorem iZ_b8 (a : Int) : (iZ a).toInt8.toInt32 = iZ (a.bmod 256) := by
  have e : (iZ a).toInt8 = Int8.ofInt a := Int32.toInt8_ofInt
  rw [e, ← iZ_of (Int8.ofInt a).toInt32, Int8.toInt_toInt32, Int8.toInt_ofInt]
theorem nar_b8 (a : Int) : vp_nar .byte (iZ a) = iZ (a.bmod 256) := iZ_b8 a
def byF (x k : Int) : Int := x / 2 ^ (24 - 8 * k).toNat
def fdV (a b c d e k : Int) : Int := byF (if k < 4 then a else if k < 8 then b else if k < 12 then c else if k < 16 then d else e) (k % 4)

set_option maxHeartbeats 4000000 in
theorem c_X11_putBytes {G : Gx} {σ : Sg} {x : Int} (hx : R32 x) (h0t : 0 ≤ (σ.1 0 1)) (h1t : (σ.1 0 1) ≤ 696) : Con G 1 mX11_putBytes [.ref (G.2.2.2 + 0), .int (iZ x)] σ (pV (fun σ' => Fr [0, 1] σ σ' ∧ (∀ j, j ≠ 1 → σ'.1 0 j = σ.1 0 j) ∧ σ'.1 0 1 = (σ.1 0 1) + 4 ∧ ∀ i, σ'.1 1 i = if (σ.1 0 1) ≤ i ∧ i < (σ.1 0 1) + 4 then (byF x (i - (σ.1 0 1))).bmod 256 else σ.1 1 i)) := by
  have lp : ∀ (n : Nat) (τ : Sg) (k : Int), 0 ≤ k → k + n = 4 → Fr [0, 1] σ τ → (∀ j, j ≠ 1 → τ.1 0 j = σ.1 0 j) → τ.1 0 1 = (σ.1 0 1) + k → (∀ i, τ.1 1 i = if (σ.1 0 1) ≤ i ∧ i < (σ.1 0 1) + k then (byF x (i - (σ.1 0 1))).bmod 256 else σ.1 1 i) → J G 1 mX11_putBytes (pV (fun σ' => Fr [0, 1] σ σ' ∧ (∀ j, j ≠ 1 → σ'.1 0 j = σ.1 0 j) ∧ σ'.1 0 1 = (σ.1 0 1) + 4 ∧ ∀ i, σ'.1 1 i = if (σ.1 0 1) ≤ i ∧ i < (σ.1 0 1) + 4 then (byF x (i - (σ.1 0 1))).bmod 256 else σ.1 1 i)) τ 3 [some (.ref (G.2.2.2 + 0)), some (.int (iZ x)), some (.int (iZ (24 - 8 * k)))] [] := by
    intro n
    induction n with
    | zero =>
      intro τ k h0 hn hF hj ht hb
      refine e_iload_n (q := 4) (i := 2) dX11_putBytes_3 rfl rfl rfl ?_
      refine e_if_lt (q := 7) (tgt := 46) dX11_putBytes_4 rfl (by decide) (fun c4 => ?_) (fun c4 => absurd (by omega) c4)
      exact r_v dX11_putBytes_46 rfl ⟨hF, hj, by omega, fun i => by rw [hb i]; congr 2; rw [show k = 4 by omega]⟩
    | succ n ih =>
      intro τ k h0 hn hF hj ht hb
      refine e_iload_n (q := 4) (i := 2) dX11_putBytes_3 rfl rfl rfl ?_
      refine e_if_lt (q := 7) (tgt := 46) dX11_putBytes_4 rfl (by decide) (fun c4 => absurd c4 (by omega)) (fun c4 => ?_)
      refine e_aload_n (q := 8) (i := 0) dX11_putBytes_7 rfl rfl rfl ?_
      refine e_getI (q := 11) (jz := 1) dX11_putBytes_8 rfl fg_X11_85 rfl (by first | assumption | rfl) rfl ?_
      refine e_sipush (q := 14) dX11_putBytes_11 rfl (by decide) ?_
      refine e_icmp_ge (q := 17) (tgt := 46) dX11_putBytes_14 rfl (by decide) (fun c14 => absurd c14 (by omega)) (fun c14 => ?_)
      refine e_aload_n (q := 18) (i := 0) dX11_putBytes_17 rfl rfl rfl ?_
      refine e_getR (q := 21) dX11_putBytes_18 rfl fg_X11_11 (by first | assumption | rfl) rfl ?_
      refine e_aload_n (q := 22) (i := 0) dX11_putBytes_21 rfl rfl rfl ?_
      refine e_getI (q := 25) (jz := 1) dX11_putBytes_22 rfl fg_X11_85 rfl (by first | assumption | rfl) rfl ?_
      refine e_iload_n (q := 26) (i := 1) dX11_putBytes_25 rfl rfl rfl ?_
      refine e_iload_n (q := 27) (i := 2) dX11_putBytes_26 rfl rfl rfl ?_
      refine e_ishr (q := 28) dX11_putBytes_27 rfl (iZ_shrz hx (by omega) (by omega)) ?_
      refine e_i2b (q := 29) dX11_putBytes_28 rfl (iZ_b8 _) ?_
      refine e_bast (q := 30) dX11_putBytes_29 rfl (by first | assumption | rfl) ((nar_b8 _).trans (by rw [Int.bmod_bmod])) ?_
      refine e_aload_n (q := 31) (i := 0) dX11_putBytes_30 rfl rfl rfl ?_
      refine e_dup (q := 32) dX11_putBytes_31 rfl rfl ?_
      refine e_getI (q := 35) (jz := 1) dX11_putBytes_32 rfl fg_X11_85 rfl (by first | assumption | rfl) rfl ?_
      refine e_iconst (q := 36) dX11_putBytes_35 rfl ?_
      refine e_iadd (q := 37) dX11_putBytes_36 rfl ?_
      refine e_putI (q := 40) (jz := 1) dX11_putBytes_37 rfl fp_X11_85 rfl (by first | assumption | rfl) rfl ?_
      refine e_iinc (q := 43) (L' := [_, _, _]) dX11_putBytes_40 rfl rfl (by decide) rfl rfl ?_
      refine e_goto (tgt := 3) dX11_putBytes_43 (by decide) ?_
      have e1 : (sI τ 1 (τ.1 0 1) ((x / 2 ^ (24 - 8 * k).toNat).bmod 256)).1 0 1 = (σ.1 0 1) + k := by rw [sI_ne _ (by decide)]; exact ht
      rw [show 24 - 8 * k + (-8) = 24 - 8 * (k + 1) by omega]
      refine ih _ _ (by omega) (by omega) ((hF.sI (by decide) _ _).sI (by decide) _ _) (fun j q => ?_) ?_ (fun i => ?_)
      · rw [sI_1, if_neg (fun w => q w.2), sI_ne _ (by decide)]; exact hj j q
      · rw [sI_1, if_pos ⟨rfl, rfl⟩]; omega
      · rw [sI_ne _ (by decide), sI_1, hb i, ht]
        by_cases e : i = (σ.1 0 1) + k
        · rw [if_pos ⟨rfl, e⟩, if_pos (by omega), e, show (σ.1 0 1) + k - (σ.1 0 1) = k by omega]; rfl
        · rw [if_neg (fun w => e w.2)]
          by_cases q : (σ.1 0 1) ≤ i ∧ i < (σ.1 0 1) + k
          · rw [if_pos q, if_pos ⟨q.1, by omega⟩]
          · rw [if_neg q, if_neg (by omega)]
  refine e_entry om_X11_putBytes (Nat.le_of_ble_eq_true rfl) (L := [some (.ref (G.2.2.2 + 0)), some (.int (iZ x)), none]) rfl ?_
  refine e_bipush (q := 2) dX11_putBytes_0 rfl (by decide) ?_
  refine e_istore_n (q := 3) (i := 2) (L' := [_, _, _]) dX11_putBytes_2 rfl rfl (by decide) rfl rfl ?_
  exact lp 4 σ 0 (by decide) (by decide) (Fr.rf _ _) (fun _ _ => rfl) (by omega) (fun i => by rw [if_neg (by omega)])

set_option maxHeartbeats 8000000 in
theorem c_X11_feed {G : Gx} {σ : Sg} {a b c d e : Int} (h0t : 0 ≤ (σ.1 0 1)) (h1t : (σ.1 0 1) ≤ 700) (ha : R32 a) (hb : R32 b) (hc : R32 c) (hd : R32 d) (he : R32 e) : Con G 2 mX11_feed [.ref (G.2.2.2 + 0), .int (iZ a), .int (iZ b), .int (iZ c), .int (iZ d), .int (iZ e)] σ (pI (fun z σ' => (¬ (σ.1 0 1) ≤ 680 ∧ z = -1 ∧ σ' = σ) ∨ ((σ.1 0 1) ≤ 680 ∧ z = (σ.1 0 1) + 20 ∧ Fr [0, 1] σ σ' ∧ (∀ j, j ≠ 1 → σ'.1 0 j = σ.1 0 j) ∧ σ'.1 0 1 = (σ.1 0 1) + 20 ∧ ∀ i, σ'.1 1 i = if (σ.1 0 1) ≤ i ∧ i < (σ.1 0 1) + 20 then (fdV a b c d e (i - (σ.1 0 1))).bmod 256 else σ.1 1 i))) := by
  refine e_entry om_X11_feed (Nat.le_of_ble_eq_true rfl) (L := [some (.ref (G.2.2.2 + 0)), some (.int (iZ a)), some (.int (iZ b)), some (.int (iZ c)), some (.int (iZ d)), some (.int (iZ e))]) rfl ?_
  refine e_aload_n (q := 1) (i := 0) dX11_feed_0 rfl rfl rfl ?_
  refine e_getI (q := 4) (jz := 1) dX11_feed_1 rfl fg_X11_85 rfl (by first | assumption | rfl) rfl ?_
  refine e_bipush (q := 6) dX11_feed_4 rfl (by decide) ?_
  refine e_iadd (q := 7) dX11_feed_6 rfl ?_
  refine e_sipush (q := 10) dX11_feed_7 rfl (by decide) ?_
  refine e_icmp_le (q := 13) (tgt := 15) dX11_feed_10 rfl (by decide) (fun c10 => ?_) (fun c10 => ?_)
  · refine e_aload_n (q := 16) (i := 0) dX11_feed_15 rfl rfl rfl ?_
    refine e_iload_n (q := 17) (i := 1) dX11_feed_16 rfl rfl rfl ?_
    refine e_Vv (q := 20) (vs := [_]) ok_X11_putBytes ml_X11_89 dX11_feed_17 rfl ⟨_, _, rfl⟩ (by first | assumption | rfl) rfl rfl (Nat.le_of_ble_eq_true rfl) (by decide) (c_X11_putBytes (x := a) (by assumption) (by omega) (by omega)) (fun s1 q1 => ?_)
    obtain ⟨f1, j1, t1, b1⟩ := q1
    refine e_aload_n (q := 21) (i := 0) dX11_feed_20 rfl rfl rfl ?_
    refine e_iload_n (q := 22) (i := 2) dX11_feed_21 rfl rfl rfl ?_
    refine e_Vv (q := 25) (vs := [_]) ok_X11_putBytes ml_X11_89 dX11_feed_22 rfl ⟨_, _, rfl⟩ (by first | assumption | rfl) rfl rfl (Nat.le_of_ble_eq_true rfl) (by decide) (c_X11_putBytes (x := b) (by assumption) (by omega) (by omega)) (fun s2 q2 => ?_)
    obtain ⟨f2, j2, t2, b2⟩ := q2
    refine e_aload_n (q := 26) (i := 0) dX11_feed_25 rfl rfl rfl ?_
    refine e_iload_n (q := 27) (i := 3) dX11_feed_26 rfl rfl rfl ?_
    refine e_Vv (q := 30) (vs := [_]) ok_X11_putBytes ml_X11_89 dX11_feed_27 rfl ⟨_, _, rfl⟩ (by first | assumption | rfl) rfl rfl (Nat.le_of_ble_eq_true rfl) (by decide) (c_X11_putBytes (x := c) (by assumption) (by omega) (by omega)) (fun s3 q3 => ?_)
    obtain ⟨f3, j3, t3, b3⟩ := q3
    refine e_aload_n (q := 31) (i := 0) dX11_feed_30 rfl rfl rfl ?_
    refine e_iload (q := 33) dX11_feed_31 rfl rfl ?_
    refine e_Vv (q := 36) (vs := [_]) ok_X11_putBytes ml_X11_89 dX11_feed_33 rfl ⟨_, _, rfl⟩ (by first | assumption | rfl) rfl rfl (Nat.le_of_ble_eq_true rfl) (by decide) (c_X11_putBytes (x := d) (by assumption) (by omega) (by omega)) (fun s4 q4 => ?_)
    obtain ⟨f4, j4, t4, b4⟩ := q4
    refine e_aload_n (q := 37) (i := 0) dX11_feed_36 rfl rfl rfl ?_
    refine e_iload (q := 39) dX11_feed_37 rfl rfl ?_
    refine e_Vv (q := 42) (vs := [_]) ok_X11_putBytes ml_X11_89 dX11_feed_39 rfl ⟨_, _, rfl⟩ (by first | assumption | rfl) rfl rfl (Nat.le_of_ble_eq_true rfl) (by decide) (c_X11_putBytes (x := e) (by assumption) (by omega) (by omega)) (fun s5 q5 => ?_)
    obtain ⟨f5, j5, t5, b5⟩ := q5
    refine e_aload_n (q := 43) (i := 0) dX11_feed_42 rfl rfl rfl ?_
    refine e_getI (q := 46) (jz := 1) dX11_feed_43 rfl fg_X11_85 rfl (by first | assumption | rfl) rfl ?_
    exact r_i dX11_feed_46 rfl (Or.inr ⟨by omega, by omega, (((f1.tr f2).tr f3).tr f4).tr f5, fun j q => by rw [j5 j q, j4 j q, j3 j q, j2 j q, j1 j q], by omega, fun i => by
    rw [b5 i, b4 i, b3 i, b2 i, b1 i]
    by_cases g0 : i < (σ.1 0 1) ∨ (σ.1 0 1) + 20 ≤ i
    · rw [if_neg (by omega), if_neg (by omega), if_neg (by omega), if_neg (by omega), if_neg (by omega), if_neg (by omega)]
    rw [if_pos (show (σ.1 0 1) ≤ i ∧ i < (σ.1 0 1) + 20 by omega)]
    unfold fdV
    by_cases g5 : (σ.1 0 1) + 16 ≤ i
    · rw [if_pos (by omega), if_neg (by omega), if_neg (by omega), if_neg (by omega), if_neg (by omega), show i - s4.1 0 1 = (i - (σ.1 0 1)) % 4 by omega]
    rw [if_neg (by omega)]
    by_cases g4 : (σ.1 0 1) + 12 ≤ i
    · rw [if_pos (by omega), if_neg (by omega), if_neg (by omega), if_neg (by omega), if_pos (by omega), show i - s3.1 0 1 = (i - (σ.1 0 1)) % 4 by omega]
    rw [if_neg (by omega)]
    by_cases g3 : (σ.1 0 1) + 8 ≤ i
    · rw [if_pos (by omega), if_neg (by omega), if_neg (by omega), if_pos (by omega), show i - s2.1 0 1 = (i - (σ.1 0 1)) % 4 by omega]
    rw [if_neg (by omega)]
    by_cases g2 : (σ.1 0 1) + 4 ≤ i
    · rw [if_pos (by omega), if_neg (by omega), if_pos (by omega), show i - s1.1 0 1 = (i - (σ.1 0 1)) % 4 by omega]
    rw [if_neg (by omega)]
    rw [if_pos (by omega), if_pos (by omega), show (i - (σ.1 0 1)) % 4 = i - (σ.1 0 1) by omega]⟩)
  · refine e_iconst (q := 14) dX11_feed_13 rfl ?_
    exact r_i dX11_feed_14 rfl (Or.inl ⟨by omega, rfl, rfl⟩)

set_option maxHeartbeats 8000000 in
theorem c_X12_feed {G : Gx} {σ0 σ : Sg} (hσ : σ = sI σ0 82 0 0) {a b c d e : Int} (h0t : 0 ≤ (σ.1 82 2)) (h1t : (σ.1 82 2) ≤ 700) (ha : R32 a) (hb : R32 b) (hc : R32 c) (hd : R32 d) (he : R32 e) : Con G 1 mX12_feed [.ref (G.2.2.2 + 82), .int (iZ a), .int (iZ b), .int (iZ c), .int (iZ d), .int (iZ e)] σ0 (pI (fun z σ' => (¬ (σ.1 82 2) ≤ 680 ∧ z = -1 ∧ σ' = σ) ∨ ((σ.1 82 2) ≤ 680 ∧ z = (σ.1 82 2) + 20 ∧ Fm [83] [2] σ σ' ∧ σ'.1 82 2 = (σ.1 82 2) + 20 ∧ ∀ i, σ'.1 83 i = if (σ.1 82 2) ≤ i ∧ i < (σ.1 82 2) + 20 then fdV a b c d e (i - (σ.1 82 2)) % 256 else σ.1 83 i))) := by
  refine e_entry om_X12_feed (Nat.le_of_ble_eq_true rfl) (L := [some (.ref (G.2.2.2 + 82)), some (.int (iZ a)), some (.int (iZ b)), some (.int (iZ c)), some (.int (iZ d)), some (.int (iZ e)), none, none]) rfl ?_
  refine e_aload_n (q := 1) (i := 0) dX12_feed_0 rfl rfl rfl ?_
  refine e_iconst (q := 2) dX12_feed_1 rfl ?_
  refine e_putI (q := 5) (jz := 0) dX12_feed_2 rfl fp_X12_136 rfl (by first | assumption | rfl) rfl ?_
  rw [← hσ]
  refine e_aload_n (q := 6) (i := 0) dX12_feed_5 rfl rfl rfl ?_
  refine e_getI (q := 9) (jz := 2) dX12_feed_6 rfl fg_X12_139 rfl (by first | assumption | rfl) rfl ?_
  refine e_sipush (q := 12) dX12_feed_9 rfl (by decide) ?_
  refine e_icmp_le (q := 15) (tgt := 17) dX12_feed_12 rfl (by decide) (fun c12 => ?_) (fun c12 => ?_)
  · refine e_iconst (q := 18) dX12_feed_17 rfl ?_
    refine e_istore (q := 20) (L' := [_, _, _, _, _, _, _, _]) dX12_feed_18 rfl (by decide) rfl rfl ?_
    have lp : ∀ (n : Nat) (τ : Sg) (k : Int) (x7 : Option Value), 0 ≤ k → k + n = 20 → Fm [83] [2] σ τ → τ.1 82 2 = (σ.1 82 2) → (∀ i, τ.1 83 i = if (σ.1 82 2) ≤ i ∧ i < (σ.1 82 2) + k then fdV a b c d e (i - (σ.1 82 2)) % 256 else σ.1 83 i) → J G 1 mX12_feed (pI (fun z σ' => (¬ (σ.1 82 2) ≤ 680 ∧ z = -1 ∧ σ' = σ) ∨ ((σ.1 82 2) ≤ 680 ∧ z = (σ.1 82 2) + 20 ∧ Fm [83] [2] σ σ' ∧ σ'.1 82 2 = (σ.1 82 2) + 20 ∧ ∀ i, σ'.1 83 i = if (σ.1 82 2) ≤ i ∧ i < (σ.1 82 2) + 20 then fdV a b c d e (i - (σ.1 82 2)) % 256 else σ.1 83 i))) τ 20 [some (.ref (G.2.2.2 + 82)), some (.int (iZ a)), some (.int (iZ b)), some (.int (iZ c)), some (.int (iZ d)), some (.int (iZ e)), some (.int (iZ k)), x7] [] := by
      intro n
      induction n with
      | zero =>
        intro τ k x7 h0 hn hF ht hb
        refine e_iload (q := 22) dX12_feed_20 rfl rfl ?_
        refine e_bipush (q := 24) dX12_feed_22 rfl (by decide) ?_
        refine e_icmp_ge (q := 27) (tgt := 110) dX12_feed_24 rfl (by decide) (fun c24 => ?_) (fun c24 => absurd (by omega) c24)
        refine e_aload_n (q := 111) (i := 0) dX12_feed_110 rfl rfl rfl ?_
        refine e_dup (q := 112) dX12_feed_111 rfl rfl ?_
        refine e_getI (q := 115) (jz := 2) dX12_feed_112 rfl fg_X12_139 rfl (by first | assumption | rfl) rfl ?_
        refine e_bipush (q := 117) dX12_feed_115 rfl (by decide) ?_
        refine e_iadd (q := 118) dX12_feed_117 rfl ?_
        refine e_putI (q := 121) (jz := 2) dX12_feed_118 rfl fp_X12_139 rfl (by first | assumption | rfl) rfl ?_
        rw [ht]
        refine e_aload_n (q := 122) (i := 0) dX12_feed_121 rfl rfl rfl ?_
        refine e_getI (q := 125) (jz := 2) dX12_feed_122 rfl fg_X12_139 rfl (by first | assumption | rfl) rfl ?_
        exact r_i dX12_feed_125 rfl (Or.inr ⟨by omega, by rw [sI_1, if_pos ⟨rfl, rfl⟩], hF.s82 (by decide) _, by rw [sI_1, if_pos ⟨rfl, rfl⟩], fun i => by
        rw [sI_ne _ (by decide), hb i, show k = 20 by omega]⟩)
      | succ n ih =>
        intro τ k x7 h0 hn hF ht hb
        refine e_iload (q := 22) dX12_feed_20 rfl rfl ?_
        refine e_bipush (q := 24) dX12_feed_22 rfl (by decide) ?_
        refine e_icmp_ge (q := 27) (tgt := 110) dX12_feed_24 rfl (by decide) (fun c24 => absurd c24 (by omega)) (fun c24 => ?_)
        refine e_iload (q := 29) dX12_feed_27 rfl rfl ?_
        refine e_iconst (q := 30) dX12_feed_29 rfl ?_
        refine e_icmp_ge (q := 33) (tgt := 37) dX12_feed_30 rfl (by decide) (fun c30 => ?_) (fun c30 => ?_)
        · refine e_iload (q := 39) dX12_feed_37 rfl rfl ?_
          refine e_bipush (q := 41) dX12_feed_39 rfl (by decide) ?_
          refine e_icmp_ge (q := 44) (tgt := 48) dX12_feed_41 rfl (by decide) (fun c41 => ?_) (fun c41 => ?_)
          · refine e_iload (q := 50) dX12_feed_48 rfl rfl ?_
            refine e_bipush (q := 52) dX12_feed_50 rfl (by decide) ?_
            refine e_icmp_ge (q := 55) (tgt := 59) dX12_feed_52 rfl (by decide) (fun c52 => ?_) (fun c52 => ?_)
            · refine e_iload (q := 61) dX12_feed_59 rfl rfl ?_
              refine e_bipush (q := 63) dX12_feed_61 rfl (by decide) ?_
              refine e_icmp_ge (q := 66) (tgt := 71) dX12_feed_63 rfl (by decide) (fun c63 => ?_) (fun c63 => ?_)
              · refine e_iload (q := 73) dX12_feed_71 rfl rfl ?_
                refine e_istore (q := 75) (L' := [_, _, _, _, _, _, _, _]) dX12_feed_73 rfl (by decide) rfl rfl ?_
                refine e_aload_n (q := 76) (i := 0) dX12_feed_75 rfl rfl rfl ?_
                refine e_getR (q := 79) dX12_feed_76 rfl fg_X12_7 (by first | assumption | rfl) rfl ?_
                refine e_aload_n (q := 80) (i := 0) dX12_feed_79 rfl rfl rfl ?_
                refine e_getI (q := 83) (jz := 2) dX12_feed_80 rfl fg_X12_139 rfl (by first | assumption | rfl) rfl ?_
                refine e_iload (q := 85) dX12_feed_83 rfl rfl ?_
                refine e_iadd (q := 86) dX12_feed_85 rfl ?_
                refine e_iload (q := 88) dX12_feed_86 rfl rfl ?_
                refine e_bipush (q := 90) dX12_feed_88 rfl (by decide) ?_
                refine e_bipush (q := 92) dX12_feed_90 rfl (by decide) ?_
                refine e_iload (q := 94) dX12_feed_92 rfl rfl ?_
                refine e_iconst (q := 95) dX12_feed_94 rfl ?_
                refine e_irem (q := 96) dX12_feed_95 rfl (by decide) (iZ_rem (by omega) (by omega) (by omega) (by omega)) ?_
                refine e_imul (q := 97) dX12_feed_96 rfl ?_
                refine e_isub (q := 98) dX12_feed_97 rfl ?_
                refine e_ishr (q := 99) dX12_feed_98 rfl (iZ_shrz (by assumption) (by omega) (by omega)) ?_
                refine e_sipush (q := 102) dX12_feed_99 rfl (by decide) ?_
                refine e_iand (q := 103) dX12_feed_102 rfl (iZ_and255 _) ?_
                refine e_iast (q := 104) dX12_feed_103 rfl (by first | assumption | rfl) ?_
                refine e_iinc (q := 107) (L' := [_, _, _, _, _, _, _, _]) dX12_feed_104 rfl rfl (by decide) rfl rfl ?_
                refine e_goto (tgt := 20) dX12_feed_107 (by decide) ?_
                have hv : e = (if k < 4 then a else if k < 8 then b else if k < 12 then c else if k < 16 then d else e) := by rw [if_neg (by omega), if_neg (by omega), if_neg (by omega), if_neg (by omega)]
                refine ih _ _ _ (by omega) (by omega) (hF.si (by decide) (by decide) _ _) (by rw [sI_ne _ (by decide)]; exact ht) (fun i => ?_)
                rw [sI_1, hb i, ht]
                by_cases q : i = (σ.1 82 2) + k
                · rw [if_pos ⟨rfl, q⟩, if_pos (by omega), q, show (σ.1 82 2) + k - (σ.1 82 2) = k by omega]
                  unfold fdV byF
                  rw [← hv]
                · rw [if_neg (fun w => q w.2)]
                  by_cases r : (σ.1 82 2) ≤ i ∧ i < (σ.1 82 2) + k
                  · rw [if_pos r, if_pos ⟨r.1, by omega⟩]
                  · rw [if_neg r, if_neg (by omega)]
              · refine e_iload (q := 68) dX12_feed_66 rfl rfl ?_
                refine e_goto (tgt := 73) dX12_feed_68 (by decide) ?_
                refine e_istore (q := 75) (L' := [_, _, _, _, _, _, _, _]) dX12_feed_73 rfl (by decide) rfl rfl ?_
                refine e_aload_n (q := 76) (i := 0) dX12_feed_75 rfl rfl rfl ?_
                refine e_getR (q := 79) dX12_feed_76 rfl fg_X12_7 (by first | assumption | rfl) rfl ?_
                refine e_aload_n (q := 80) (i := 0) dX12_feed_79 rfl rfl rfl ?_
                refine e_getI (q := 83) (jz := 2) dX12_feed_80 rfl fg_X12_139 rfl (by first | assumption | rfl) rfl ?_
                refine e_iload (q := 85) dX12_feed_83 rfl rfl ?_
                refine e_iadd (q := 86) dX12_feed_85 rfl ?_
                refine e_iload (q := 88) dX12_feed_86 rfl rfl ?_
                refine e_bipush (q := 90) dX12_feed_88 rfl (by decide) ?_
                refine e_bipush (q := 92) dX12_feed_90 rfl (by decide) ?_
                refine e_iload (q := 94) dX12_feed_92 rfl rfl ?_
                refine e_iconst (q := 95) dX12_feed_94 rfl ?_
                refine e_irem (q := 96) dX12_feed_95 rfl (by decide) (iZ_rem (by omega) (by omega) (by omega) (by omega)) ?_
                refine e_imul (q := 97) dX12_feed_96 rfl ?_
                refine e_isub (q := 98) dX12_feed_97 rfl ?_
                refine e_ishr (q := 99) dX12_feed_98 rfl (iZ_shrz (by assumption) (by omega) (by omega)) ?_
                refine e_sipush (q := 102) dX12_feed_99 rfl (by decide) ?_
                refine e_iand (q := 103) dX12_feed_102 rfl (iZ_and255 _) ?_
                refine e_iast (q := 104) dX12_feed_103 rfl (by first | assumption | rfl) ?_
                refine e_iinc (q := 107) (L' := [_, _, _, _, _, _, _, _]) dX12_feed_104 rfl rfl (by decide) rfl rfl ?_
                refine e_goto (tgt := 20) dX12_feed_107 (by decide) ?_
                have hv : d = (if k < 4 then a else if k < 8 then b else if k < 12 then c else if k < 16 then d else e) := by rw [if_neg (by omega), if_neg (by omega), if_neg (by omega), if_pos (by omega)]
                refine ih _ _ _ (by omega) (by omega) (hF.si (by decide) (by decide) _ _) (by rw [sI_ne _ (by decide)]; exact ht) (fun i => ?_)
                rw [sI_1, hb i, ht]
                by_cases q : i = (σ.1 82 2) + k
                · rw [if_pos ⟨rfl, q⟩, if_pos (by omega), q, show (σ.1 82 2) + k - (σ.1 82 2) = k by omega]
                  unfold fdV byF
                  rw [← hv]
                · rw [if_neg (fun w => q w.2)]
                  by_cases r : (σ.1 82 2) ≤ i ∧ i < (σ.1 82 2) + k
                  · rw [if_pos r, if_pos ⟨r.1, by omega⟩]
                  · rw [if_neg r, if_neg (by omega)]
            · refine e_iload_n (q := 56) (i := 3) dX12_feed_55 rfl rfl rfl ?_
              refine e_goto (tgt := 73) dX12_feed_56 (by decide) ?_
              refine e_istore (q := 75) (L' := [_, _, _, _, _, _, _, _]) dX12_feed_73 rfl (by decide) rfl rfl ?_
              refine e_aload_n (q := 76) (i := 0) dX12_feed_75 rfl rfl rfl ?_
              refine e_getR (q := 79) dX12_feed_76 rfl fg_X12_7 (by first | assumption | rfl) rfl ?_
              refine e_aload_n (q := 80) (i := 0) dX12_feed_79 rfl rfl rfl ?_
              refine e_getI (q := 83) (jz := 2) dX12_feed_80 rfl fg_X12_139 rfl (by first | assumption | rfl) rfl ?_
              refine e_iload (q := 85) dX12_feed_83 rfl rfl ?_
              refine e_iadd (q := 86) dX12_feed_85 rfl ?_
              refine e_iload (q := 88) dX12_feed_86 rfl rfl ?_
              refine e_bipush (q := 90) dX12_feed_88 rfl (by decide) ?_
              refine e_bipush (q := 92) dX12_feed_90 rfl (by decide) ?_
              refine e_iload (q := 94) dX12_feed_92 rfl rfl ?_
              refine e_iconst (q := 95) dX12_feed_94 rfl ?_
              refine e_irem (q := 96) dX12_feed_95 rfl (by decide) (iZ_rem (by omega) (by omega) (by omega) (by omega)) ?_
              refine e_imul (q := 97) dX12_feed_96 rfl ?_
              refine e_isub (q := 98) dX12_feed_97 rfl ?_
              refine e_ishr (q := 99) dX12_feed_98 rfl (iZ_shrz (by assumption) (by omega) (by omega)) ?_
              refine e_sipush (q := 102) dX12_feed_99 rfl (by decide) ?_
              refine e_iand (q := 103) dX12_feed_102 rfl (iZ_and255 _) ?_
              refine e_iast (q := 104) dX12_feed_103 rfl (by first | assumption | rfl) ?_
              refine e_iinc (q := 107) (L' := [_, _, _, _, _, _, _, _]) dX12_feed_104 rfl rfl (by decide) rfl rfl ?_
              refine e_goto (tgt := 20) dX12_feed_107 (by decide) ?_
              have hv : c = (if k < 4 then a else if k < 8 then b else if k < 12 then c else if k < 16 then d else e) := by rw [if_neg (by omega), if_neg (by omega), if_pos (by omega)]
              refine ih _ _ _ (by omega) (by omega) (hF.si (by decide) (by decide) _ _) (by rw [sI_ne _ (by decide)]; exact ht) (fun i => ?_)
              rw [sI_1, hb i, ht]
              by_cases q : i = (σ.1 82 2) + k
              · rw [if_pos ⟨rfl, q⟩, if_pos (by omega), q, show (σ.1 82 2) + k - (σ.1 82 2) = k by omega]
                unfold fdV byF
                rw [← hv]
              · rw [if_neg (fun w => q w.2)]
                by_cases r : (σ.1 82 2) ≤ i ∧ i < (σ.1 82 2) + k
                · rw [if_pos r, if_pos ⟨r.1, by omega⟩]
                · rw [if_neg r, if_neg (by omega)]
          · refine e_iload_n (q := 45) (i := 2) dX12_feed_44 rfl rfl rfl ?_
            refine e_goto (tgt := 73) dX12_feed_45 (by decide) ?_
            refine e_istore (q := 75) (L' := [_, _, _, _, _, _, _, _]) dX12_feed_73 rfl (by decide) rfl rfl ?_
            refine e_aload_n (q := 76) (i := 0) dX12_feed_75 rfl rfl rfl ?_
            refine e_getR (q := 79) dX12_feed_76 rfl fg_X12_7 (by first | assumption | rfl) rfl ?_
            refine e_aload_n (q := 80) (i := 0) dX12_feed_79 rfl rfl rfl ?_
            refine e_getI (q := 83) (jz := 2) dX12_feed_80 rfl fg_X12_139 rfl (by first | assumption | rfl) rfl ?_
            refine e_iload (q := 85) dX12_feed_83 rfl rfl ?_
            refine e_iadd (q := 86) dX12_feed_85 rfl ?_
            refine e_iload (q := 88) dX12_feed_86 rfl rfl ?_
            refine e_bipush (q := 90) dX12_feed_88 rfl (by decide) ?_
            refine e_bipush (q := 92) dX12_feed_90 rfl (by decide) ?_
            refine e_iload (q := 94) dX12_feed_92 rfl rfl ?_
            refine e_iconst (q := 95) dX12_feed_94 rfl ?_
            refine e_irem (q := 96) dX12_feed_95 rfl (by decide) (iZ_rem (by omega) (by omega) (by omega) (by omega)) ?_
            refine e_imul (q := 97) dX12_feed_96 rfl ?_
            refine e_isub (q := 98) dX12_feed_97 rfl ?_
            refine e_ishr (q := 99) dX12_feed_98 rfl (iZ_shrz (by assumption) (by omega) (by omega)) ?_
            refine e_sipush (q := 102) dX12_feed_99 rfl (by decide) ?_
            refine e_iand (q := 103) dX12_feed_102 rfl (iZ_and255 _) ?_
            refine e_iast (q := 104) dX12_feed_103 rfl (by first | assumption | rfl) ?_
            refine e_iinc (q := 107) (L' := [_, _, _, _, _, _, _, _]) dX12_feed_104 rfl rfl (by decide) rfl rfl ?_
            refine e_goto (tgt := 20) dX12_feed_107 (by decide) ?_
            have hv : b = (if k < 4 then a else if k < 8 then b else if k < 12 then c else if k < 16 then d else e) := by rw [if_neg (by omega), if_pos (by omega)]
            refine ih _ _ _ (by omega) (by omega) (hF.si (by decide) (by decide) _ _) (by rw [sI_ne _ (by decide)]; exact ht) (fun i => ?_)
            rw [sI_1, hb i, ht]
            by_cases q : i = (σ.1 82 2) + k
            · rw [if_pos ⟨rfl, q⟩, if_pos (by omega), q, show (σ.1 82 2) + k - (σ.1 82 2) = k by omega]
              unfold fdV byF
              rw [← hv]
            · rw [if_neg (fun w => q w.2)]
              by_cases r : (σ.1 82 2) ≤ i ∧ i < (σ.1 82 2) + k
              · rw [if_pos r, if_pos ⟨r.1, by omega⟩]
              · rw [if_neg r, if_neg (by omega)]
        · refine e_iload_n (q := 34) (i := 1) dX12_feed_33 rfl rfl rfl ?_
          refine e_goto (tgt := 73) dX12_feed_34 (by decide) ?_
          refine e_istore (q := 75) (L' := [_, _, _, _, _, _, _, _]) dX12_feed_73 rfl (by decide) rfl rfl ?_
          refine e_aload_n (q := 76) (i := 0) dX12_feed_75 rfl rfl rfl ?_
          refine e_getR (q := 79) dX12_feed_76 rfl fg_X12_7 (by first | assumption | rfl) rfl ?_
          refine e_aload_n (q := 80) (i := 0) dX12_feed_79 rfl rfl rfl ?_
          refine e_getI (q := 83) (jz := 2) dX12_feed_80 rfl fg_X12_139 rfl (by first | assumption | rfl) rfl ?_
          refine e_iload (q := 85) dX12_feed_83 rfl rfl ?_
          refine e_iadd (q := 86) dX12_feed_85 rfl ?_
          refine e_iload (q := 88) dX12_feed_86 rfl rfl ?_
          refine e_bipush (q := 90) dX12_feed_88 rfl (by decide) ?_
          refine e_bipush (q := 92) dX12_feed_90 rfl (by decide) ?_
          refine e_iload (q := 94) dX12_feed_92 rfl rfl ?_
          refine e_iconst (q := 95) dX12_feed_94 rfl ?_
          refine e_irem (q := 96) dX12_feed_95 rfl (by decide) (iZ_rem (by omega) (by omega) (by omega) (by omega)) ?_
          refine e_imul (q := 97) dX12_feed_96 rfl ?_
          refine e_isub (q := 98) dX12_feed_97 rfl ?_
          refine e_ishr (q := 99) dX12_feed_98 rfl (iZ_shrz (by assumption) (by omega) (by omega)) ?_
          refine e_sipush (q := 102) dX12_feed_99 rfl (by decide) ?_
          refine e_iand (q := 103) dX12_feed_102 rfl (iZ_and255 _) ?_
          refine e_iast (q := 104) dX12_feed_103 rfl (by first | assumption | rfl) ?_
          refine e_iinc (q := 107) (L' := [_, _, _, _, _, _, _, _]) dX12_feed_104 rfl rfl (by decide) rfl rfl ?_
          refine e_goto (tgt := 20) dX12_feed_107 (by decide) ?_
          have hv : a = (if k < 4 then a else if k < 8 then b else if k < 12 then c else if k < 16 then d else e) := by rw [if_pos (by omega)]
          refine ih _ _ _ (by omega) (by omega) (hF.si (by decide) (by decide) _ _) (by rw [sI_ne _ (by decide)]; exact ht) (fun i => ?_)
          rw [sI_1, hb i, ht]
          by_cases q : i = (σ.1 82 2) + k
          · rw [if_pos ⟨rfl, q⟩, if_pos (by omega), q, show (σ.1 82 2) + k - (σ.1 82 2) = k by omega]
            unfold fdV byF
            rw [← hv]
          · rw [if_neg (fun w => q w.2)]
            by_cases r : (σ.1 82 2) ≤ i ∧ i < (σ.1 82 2) + k
            · rw [if_pos r, if_pos ⟨r.1, by omega⟩]
            · rw [if_neg r, if_neg (by omega)]
    exact lp 20 σ 0 _ (by decide) (by decide) (Fm.rf _ _ _) rfl (fun i => by rw [if_neg (by omega)])
  · refine e_iconst (q := 16) dX12_feed_15 rfl ?_
    exact r_i dX12_feed_16 rfl (Or.inl ⟨by omega, rfl, rfl⟩)

