/-- the lines of a cut, tried one by one -/
def ctV (a b k : Int) : Int := max (2 * min (k - 1) (a / 2) - a) (-(2 * min (k - 1) (a / 2) - a)) * b
theorem ct_nn {a b k : Int} (hb : 0 ≤ b) : 0 ≤ ctV a b k := Int.mul_nonneg (by omega) hb
theorem ct_v {a b k : Int} (ha : a ≤ 200) (ha0 : 1 ≤ a) (hb0 : 0 ≤ b) (hb : b ≤ 200) (hk0 : 1 ≤ k) (hk : k ≤ 200) : ctV a b k ≤ 80000 := by
  unfold ctV
  have h2 := Int.mul_le_mul (show max (2 * min (k - 1) (a / 2) - a) (-(2 * min (k - 1) (a / 2) - a)) ≤ 400 by omega) hb hb0 (by decide)
  omega
theorem ct_up {a b k : Int} (hb : 1 ≤ b) (h0 : 2 ≤ k) (hk : k ≤ a / 2) : max (2 * k - a) (-(2 * k - a)) * b = ctV a b (k + 1) ∧ ctV a b (k + 1) < ctV a b k := by
  unfold ctV
  rw [show min (k + 1 - 1) (a / 2) = k by omega, show min (k - 1) (a / 2) = k - 1 by omega]
  refine ⟨rfl, Int.mul_lt_mul_of_pos_right (by omega) (by omega)⟩
theorem ct_eq {a b k : Int} (hk : a / 2 < k) : ctV a b (k + 1) = ctV a b k := by
  unfold ctV
  rw [show min (k + 1 - 1) (a / 2) = a / 2 by omega, show min (k - 1) (a / 2) = a / 2 by omega]
theorem ct_ge {a b k : Int} (hb : 0 ≤ b) (hk : a / 2 < k) : ctV a b k ≤ max (2 * k - a) (-(2 * k - a)) * b := by
  unfold ctV
  rw [show min (k - 1) (a / 2) = a / 2 by omega]
  exact Int.mul_le_mul_of_nonneg_right (by omega) hb
theorem ct_fin {a b : Int} (h : 2 ≤ a) : ctV a b a = a % 2 * b := by
  unfold ctV
  rw [show min (a - 1) (a / 2) = a / 2 by omega]
  congr 1
  omega
theorem ct_le {a b k : Int} (ha : a ≤ 200) (ha0 : 1 ≤ a) (hb0 : 0 ≤ b) (hb : b ≤ 200) (hk0 : 1 ≤ k) (hk : k ≤ 200) : 0 ≤ max (2 * k - a) (-(2 * k - a)) * b ∧ max (2 * k - a) (-(2 * k - a)) * b ≤ 80000 := by
  have h1 := Int.mul_nonneg (show 0 ≤ max (2 * k - a) (-(2 * k - a)) by omega) hb0
  have h2 := Int.mul_le_mul (show max (2 * k - a) (-(2 * k - a)) ≤ 400 by omega) hb hb0 (by decide)
  omega

set_option maxHeartbeats 4000000 in
theorem c_X12_cuts {G : Gx} {σ : Sg} {wy a b : Int} (hwy : wy = 0 ∨ wy = 1) (ha1 : 1 ≤ a) (ha200 : a ≤ 200) (hb1 : 1 ≤ b) (hb200 : b ≤ 200) (h49 : -1 ≤ σ.1 82 49 ∧ σ.1 82 49 ≤ 1) (h51 : R32 (σ.1 82 51)) : Con G 2 mX12_cuts [.ref (G.2.2.2 + 82), .int (iZ wy), .int (iZ a), .int (iZ b)] σ (pV (fun σ' => Fm [] [49, 50, 51] σ σ' ∧ ((2 ≤ a ∧ (σ.1 82 49 = -1 ∨ a % 2 * b < σ.1 82 51) ∧ σ'.1 82 49 = wy ∧ σ'.1 82 50 = a / 2 ∧ σ'.1 82 51 = a % 2 * b) ∨ (¬ (2 ≤ a ∧ (σ.1 82 49 = -1 ∨ a % 2 * b < σ.1 82 51)) ∧ σ'.1 82 49 = σ.1 82 49 ∧ σ'.1 82 50 = σ.1 82 50 ∧ σ'.1 82 51 = σ.1 82 51)))) := by
  have lp : ∀ (n : Nat) (τ : Sg) (x5 : Option Value) (k : Int), 1 ≤ k → k + n = max a 1 → Fm [] [49, 50, 51] σ τ → (((2 ≤ k ∧ (σ.1 82 49 = -1 ∨ ctV a b k < σ.1 82 51)) ∧ τ.1 82 49 = wy ∧ τ.1 82 50 = min (k - 1) (a / 2) ∧ τ.1 82 51 = ctV a b k) ∨ (¬ (2 ≤ k ∧ (σ.1 82 49 = -1 ∨ ctV a b k < σ.1 82 51)) ∧ τ.1 82 49 = σ.1 82 49 ∧ τ.1 82 50 = σ.1 82 50 ∧ τ.1 82 51 = σ.1 82 51)) → J G 2 mX12_cuts (pV (fun σ' => Fm [] [49, 50, 51] σ σ' ∧ ((2 ≤ a ∧ (σ.1 82 49 = -1 ∨ a % 2 * b < σ.1 82 51) ∧ σ'.1 82 49 = wy ∧ σ'.1 82 50 = a / 2 ∧ σ'.1 82 51 = a % 2 * b) ∨ (¬ (2 ≤ a ∧ (σ.1 82 49 = -1 ∨ a % 2 * b < σ.1 82 51)) ∧ σ'.1 82 49 = σ.1 82 49 ∧ σ'.1 82 50 = σ.1 82 50 ∧ σ'.1 82 51 = σ.1 82 51)))) τ 3 [some (.ref (G.2.2.2 + 82)), some (.int (iZ wy)), some (.int (iZ a)), some (.int (iZ b)), some (.int (iZ k)), x5] [] := by
    intro n
    induction n with
    | zero =>
      intro τ x5 k h0 hn hF hS
      refine e_iload (q := 5) dX12_cuts_3 rfl rfl ?_
      refine e_iload_n (q := 6) (i := 2) dX12_cuts_5 rfl rfl rfl ?_
      refine e_icmp_ge (q := 9) (tgt := 65) dX12_cuts_6 rfl (by decide) (fun c6 => ?_) (fun c6 => absurd (by omega) c6)
      have ek : (2 ≤ a → k = a) := fun h => by omega
      have hfin := fun h : 2 ≤ a => ct_fin (a := a) (b := b) h
      exact r_v dX12_cuts_65 rfl ⟨hF, by
    by_cases h2 : 2 ≤ a
    · have e1 := ek h2
      have e2 := hfin h2
      subst e1
      rw [e2] at hS
      omega
    · omega⟩
    | succ n ih =>
      intro τ x5 k h0 hn hF hS
      refine e_iload (q := 5) dX12_cuts_3 rfl rfl ?_
      refine e_iload_n (q := 6) (i := 2) dX12_cuts_5 rfl rfl rfl ?_
      refine e_icmp_ge (q := 9) (tgt := 65) dX12_cuts_6 rfl (by decide) (fun c6 => absurd c6 (by omega)) (fun c6 => ?_)
      refine e_iconst (q := 10) dX12_cuts_9 rfl ?_
      refine e_iload (q := 12) dX12_cuts_10 rfl rfl ?_
      refine e_imul (q := 13) dX12_cuts_12 rfl ?_
      refine e_iload_n (q := 14) (i := 2) dX12_cuts_13 rfl rfl rfl ?_
      refine e_isub (q := 15) dX12_cuts_14 rfl ?_
      have hcv := ct_v (k := k) ha200 ha1 (show 0 ≤ b by omega) hb200 (by omega) (by omega)
      have hcl := ct_le (k := k) ha200 ha1 (show 0 ≤ b by omega) hb200 (by omega) (by omega)
      have hcn := ct_nn (a := a) (k := k) (show 0 ≤ b by omega)
      have hcn1 := ct_nn (a := a) (k := k + 1) (show 0 ≤ b by omega)
      refine e_mabs (q := 18) dX12_cuts_15 rfl ml_X12_453 mw_abs_s mw_abs_c mw_init (Nat.le_of_ble_eq_true rfl) (by decide) ?_
      refine e_iload_n (q := 19) (i := 3) dX12_cuts_18 rfl rfl rfl ?_
      refine e_imul (q := 20) dX12_cuts_19 rfl ?_
      refine e_istore (q := 22) (L' := [_, _, _, _, _, _]) dX12_cuts_20 rfl (by decide) rfl rfl ?_
      refine e_aload_n (q := 23) (i := 0) dX12_cuts_22 rfl rfl rfl ?_
      refine e_getI (q := 26) (jz := 49) dX12_cuts_23 rfl fg_X12_455 rfl (by first | assumption | rfl) rfl ?_
      refine e_iconst (q := 27) dX12_cuts_26 rfl ?_
      refine e_icmp_eq (q := 30) (tgt := 42) dX12_cuts_27 rfl (by decide) (fun c27 => ?_) (fun c27 => ?_) (hx := ⟨by omega, by omega⟩)
      · refine e_aload_n (q := 43) (i := 0) dX12_cuts_42 rfl rfl rfl ?_
        refine e_iload_n (q := 44) (i := 1) dX12_cuts_43 rfl rfl rfl ?_
        refine e_putI (q := 47) (jz := 49) dX12_cuts_44 rfl fp_X12_455 rfl (by first | assumption | rfl) rfl ?_
        refine e_aload_n (q := 48) (i := 0) dX12_cuts_47 rfl rfl rfl ?_
        refine e_iload (q := 50) dX12_cuts_48 rfl rfl ?_
        refine e_putI (q := 53) (jz := 50) dX12_cuts_50 rfl fp_X12_461 rfl (by first | assumption | rfl) rfl ?_
        refine e_aload_n (q := 54) (i := 0) dX12_cuts_53 rfl rfl rfl ?_
        refine e_iload (q := 56) dX12_cuts_54 rfl rfl ?_
        refine e_putI (q := 59) (jz := 51) dX12_cuts_56 rfl fp_X12_458 rfl (by first | assumption | rfl) rfl ?_
        refine e_iinc (q := 62) (L' := [_, _, _, _, _, _]) dX12_cuts_59 rfl rfl (by decide) rfl rfl ?_
        refine e_goto (tgt := 3) dX12_cuts_62 (by decide) ?_
        refine ih _ _ _ (by omega) (by omega) (((hF.s82 (by decide) _).s82 (by decide) _).s82 (by decide) _) ?_
        have e49 : (sI (sI (sI τ 82 49 wy) 82 50 k) 82 51 (max (2 * k - a) (-(2 * k - a)) * b)).1 82 49 = wy := by rw [sI_1, if_neg (by decide), sI_1, if_neg (by decide), sI_1, if_pos ⟨rfl, rfl⟩]
        have e50 : (sI (sI (sI τ 82 49 wy) 82 50 k) 82 51 (max (2 * k - a) (-(2 * k - a)) * b)).1 82 50 = k := by rw [sI_1, if_neg (by decide), sI_1, if_pos ⟨rfl, rfl⟩]
        have e51 : (sI (sI (sI τ 82 49 wy) 82 50 k) 82 51 (max (2 * k - a) (-(2 * k - a)) * b)).1 82 51 = max (2 * k - a) (-(2 * k - a)) * b := by rw [sI_1, if_pos ⟨rfl, rfl⟩]
        rw [e49, e50, e51]
        by_cases hk1 : k = 1
        · subst hk1
          have h12 : ctV a b (1 + 1) = max (2 * 1 - a) (-(2 * 1 - a)) * b := by unfold ctV; rw [show min ((1 : Int) + 1 - 1) (a / 2) = 1 by omega]
          omega
        by_cases hk2 : k ≤ a / 2
        · have hu := ct_up (a := a) (b := b) (k := k) hb1 (by omega) hk2
          omega
        · have he := ct_eq (a := a) (b := b) (k := k) (by omega)
          have hg := ct_ge (a := a) (b := b) (k := k) (by omega) (by omega)
          omega
      · refine e_iload (q := 32) dX12_cuts_30 rfl rfl ?_
        refine e_aload_n (q := 33) (i := 0) dX12_cuts_32 rfl rfl rfl ?_
        refine e_getI (q := 36) (jz := 51) dX12_cuts_33 rfl fg_X12_458 rfl (by first | assumption | rfl) rfl ?_
        refine e_icmp_lt (q := 39) (tgt := 42) dX12_cuts_36 rfl (by decide) (fun c36 => ?_) (fun c36 => ?_) (hx := ⟨by omega, by omega⟩) (hy := ⟨by omega, by omega⟩)
        · refine e_aload_n (q := 43) (i := 0) dX12_cuts_42 rfl rfl rfl ?_
          refine e_iload_n (q := 44) (i := 1) dX12_cuts_43 rfl rfl rfl ?_
          refine e_putI (q := 47) (jz := 49) dX12_cuts_44 rfl fp_X12_455 rfl (by first | assumption | rfl) rfl ?_
          refine e_aload_n (q := 48) (i := 0) dX12_cuts_47 rfl rfl rfl ?_
          refine e_iload (q := 50) dX12_cuts_48 rfl rfl ?_
          refine e_putI (q := 53) (jz := 50) dX12_cuts_50 rfl fp_X12_461 rfl (by first | assumption | rfl) rfl ?_
          refine e_aload_n (q := 54) (i := 0) dX12_cuts_53 rfl rfl rfl ?_
          refine e_iload (q := 56) dX12_cuts_54 rfl rfl ?_
          refine e_putI (q := 59) (jz := 51) dX12_cuts_56 rfl fp_X12_458 rfl (by first | assumption | rfl) rfl ?_
          refine e_iinc (q := 62) (L' := [_, _, _, _, _, _]) dX12_cuts_59 rfl rfl (by decide) rfl rfl ?_
          refine e_goto (tgt := 3) dX12_cuts_62 (by decide) ?_
          refine ih _ _ _ (by omega) (by omega) (((hF.s82 (by decide) _).s82 (by decide) _).s82 (by decide) _) ?_
          have e49 : (sI (sI (sI τ 82 49 wy) 82 50 k) 82 51 (max (2 * k - a) (-(2 * k - a)) * b)).1 82 49 = wy := by rw [sI_1, if_neg (by decide), sI_1, if_neg (by decide), sI_1, if_pos ⟨rfl, rfl⟩]
          have e50 : (sI (sI (sI τ 82 49 wy) 82 50 k) 82 51 (max (2 * k - a) (-(2 * k - a)) * b)).1 82 50 = k := by rw [sI_1, if_neg (by decide), sI_1, if_pos ⟨rfl, rfl⟩]
          have e51 : (sI (sI (sI τ 82 49 wy) 82 50 k) 82 51 (max (2 * k - a) (-(2 * k - a)) * b)).1 82 51 = max (2 * k - a) (-(2 * k - a)) * b := by rw [sI_1, if_pos ⟨rfl, rfl⟩]
          rw [e49, e50, e51]
          by_cases hk1 : k = 1
          · subst hk1
            have h12 : ctV a b (1 + 1) = max (2 * 1 - a) (-(2 * 1 - a)) * b := by unfold ctV; rw [show min ((1 : Int) + 1 - 1) (a / 2) = 1 by omega]
            omega
          by_cases hk2 : k ≤ a / 2
          · have hu := ct_up (a := a) (b := b) (k := k) hb1 (by omega) hk2
            omega
          · have he := ct_eq (a := a) (b := b) (k := k) (by omega)
            have hg := ct_ge (a := a) (b := b) (k := k) (by omega) (by omega)
            omega
        · refine e_goto (tgt := 59) dX12_cuts_39 (by decide) ?_
          refine e_iinc (q := 62) (L' := [_, _, _, _, _, _]) dX12_cuts_59 rfl rfl (by decide) rfl rfl ?_
          refine e_goto (tgt := 3) dX12_cuts_62 (by decide) ?_
          refine ih _ _ _ (by omega) (by omega) hF ?_
          by_cases hk1 : k = 1
          · subst hk1
            have h12 : ctV a b (1 + 1) = max (2 * 1 - a) (-(2 * 1 - a)) * b := by unfold ctV; rw [show min ((1 : Int) + 1 - 1) (a / 2) = 1 by omega]
            omega
          by_cases hk2 : k ≤ a / 2
          · have hu := ct_up (a := a) (b := b) (k := k) hb1 (by omega) hk2
            omega
          · have he := ct_eq (a := a) (b := b) (k := k) (by omega)
            have hg := ct_ge (a := a) (b := b) (k := k) (by omega) (by omega)
            omega
  refine e_entry om_X12_cuts (Nat.le_of_ble_eq_true rfl) (L := [some (.ref (G.2.2.2 + 82)), some (.int (iZ wy)), some (.int (iZ a)), some (.int (iZ b)), none, none]) rfl ?_
  refine e_iconst (q := 1) dX12_cuts_0 rfl ?_
  refine e_istore (q := 3) (L' := [_, _, _, _, _, _]) dX12_cuts_1 rfl (by decide) rfl rfl ?_
  exact lp (max a 1 - 1).toNat σ _ 1 (by decide) (by omega) (Fm.rf _ _ _) (by omega)

set_option maxHeartbeats 8000000 in
theorem c_X12_cut {G : Gx} {σ0 σ : Sg} {p q x : Int} (hσ : σ = sI σ0 82 0 0) (hT : MT σ) (hI : MI σ 0) (h51 : R32 (σ.1 82 51)) (hp : R32 p) (hq : R32 q) (hx : R32 x) : Con G 5 mX12_cut [.ref (G.2.2.2 + 82), .int (iZ p), .int (iZ q), .int (iZ x)] σ0 (pI (fun z σ' => z = (if (((0 ≤ p ∧ p < σ.1 84 1) ∧ (0 ≤ q ∧ q < σ.1 84 1) ∧ p ≠ q) ∧ 0 ≤ x ∧ x ≤ 2) then (if gOv (σ.1 86) (σ.1 87) (mF σ 0) p q < 2 then -2 else cutV (gCR (σ.1 86) (mF σ 0) p q) (gCC (σ.1 87) (mF σ 0) p q) x) else -1) ∧ Qm σ σ')) := by
  obtain ⟨hzz, hnp, hnc, hnb, hrn, hsd, hrw, hrq, hch, hbt, hck⟩ := id hT
  refine e_entry om_X12_cut (Nat.le_of_ble_eq_true rfl) (L := [some (.ref (G.2.2.2 + 82)), some (.int (iZ p)), some (.int (iZ q)), some (.int (iZ x)), none, none]) rfl ?_
  refine e_aload_n (q := 1) (i := 0) dX12_cut_0 rfl rfl rfl ?_
  refine e_iconst (q := 2) dX12_cut_1 rfl ?_
  refine e_putI (q := 5) (jz := 0) dX12_cut_2 rfl fp_X12_136 rfl (by first | assumption | rfl) rfl ?_
  rw [← hσ]
  refine e_aload_n (q := 6) (i := 0) dX12_cut_5 rfl rfl rfl ?_
  refine e_iload_n (q := 7) (i := 1) dX12_cut_6 rfl rfl rfl ?_
  refine e_iload_n (q := 8) (i := 2) dX12_cut_7 rfl rfl rfl ?_
  refine e_Vip (q := 11) (vs := [_, _]) ok_X12_areTwo ml_X12_418 dX12_cut_8 rfl ⟨_, _, rfl⟩ (by first | assumption | rfl) rfl rfl (Nat.le_of_ble_eq_true rfl) (by decide) (c_X12_areTwo hT (by assumption) (by assumption)) ?_
  refine e_if_eq (q := 14) (tgt := 23) dX12_cut_11 rfl (by decide) (fun c11 => ?_) (fun c11 => ?_)
  · refine e_iconst (q := 24) dX12_cut_23 rfl ?_
    exact r_i dX12_cut_24 rfl ⟨by rw [if_neg (by omega)], Qm.rf _⟩
  · refine e_iload_n (q := 15) (i := 3) dX12_cut_14 rfl rfl rfl ?_
    refine e_if_lt (q := 18) (tgt := 23) dX12_cut_15 rfl (by decide) (fun c15 => ?_) (fun c15 => ?_)
    · refine e_iconst (q := 24) dX12_cut_23 rfl ?_
      exact r_i dX12_cut_24 rfl ⟨by rw [if_neg (by omega)], Qm.rf _⟩
    · refine e_iload_n (q := 19) (i := 3) dX12_cut_18 rfl rfl rfl ?_
      refine e_iconst (q := 20) dX12_cut_19 rfl ?_
      refine e_icmp_le (q := 23) (tgt := 25) dX12_cut_20 rfl (by decide) (fun c20 => ?_) (fun c20 => ?_)
      · have hov := mOv_in (p := p) (q := q) hT hI (by decide) (by decide) (by omega) (by omega) (by omega) (by omega)
        refine e_aload_n (q := 26) (i := 0) dX12_cut_25 rfl rfl rfl ?_
        refine e_iconst (q := 27) dX12_cut_26 rfl ?_
        refine e_iload_n (q := 28) (i := 1) dX12_cut_27 rfl rfl rfl ?_
        refine e_iload_n (q := 29) (i := 2) dX12_cut_28 rfl rfl rfl ?_
        refine e_Vip (q := 32) (vs := [_, _, _]) ok_X12_overlapOf ml_X12_342 dX12_cut_29 rfl ⟨_, _, rfl⟩ (by first | assumption | rfl) rfl rfl (Nat.le_of_ble_eq_true rfl) (by decide) (c_X12_overlapOf hT hI (by decide) (by decide) (by omega) (by omega) (by omega) (by omega)) ?_
        refine e_iconst (q := 33) dX12_cut_32 rfl ?_
        refine e_icmp_ge (q := 36) (tgt := 39) dX12_cut_33 rfl (by decide) (fun c33 => ?_) (fun c33 => ?_) (hx := ⟨by omega, by omega⟩)
        · refine e_aload_n (q := 40) (i := 0) dX12_cut_39 rfl rfl rfl ?_
          refine e_iconst (q := 41) dX12_cut_40 rfl ?_
          refine e_iload_n (q := 42) (i := 1) dX12_cut_41 rfl rfl rfl ?_
          refine e_iload_n (q := 43) (i := 2) dX12_cut_42 rfl rfl rfl ?_
          refine e_iconst (q := 44) dX12_cut_43 rfl ?_
          refine e_Vip (q := 47) (vs := [_, _, _, _]) ok_X12_shared ml_X12_335 dX12_cut_44 rfl ⟨_, _, rfl⟩ (by first | assumption | rfl) rfl rfl (Nat.le_of_ble_eq_true rfl) (by decide) (c_X12_shared0 hT hI (by decide) (by decide) (by omega) (by omega) (by omega) (by omega)) ?_
          refine e_istore (q := 49) (L' := [_, _, _, _, _, _]) dX12_cut_47 rfl (by decide) rfl rfl ?_
          refine e_aload_n (q := 50) (i := 0) dX12_cut_49 rfl rfl rfl ?_
          refine e_iconst (q := 51) dX12_cut_50 rfl ?_
          refine e_iload_n (q := 52) (i := 1) dX12_cut_51 rfl rfl rfl ?_
          refine e_iload_n (q := 53) (i := 2) dX12_cut_52 rfl rfl rfl ?_
          refine e_iconst (q := 54) dX12_cut_53 rfl ?_
          refine e_Vip (q := 57) (vs := [_, _, _, _]) ok_X12_shared ml_X12_335 dX12_cut_54 rfl ⟨_, _, rfl⟩ (by first | assumption | rfl) rfl rfl (Nat.le_of_ble_eq_true rfl) (by decide) (c_X12_shared2 hT hI (by decide) (by decide) (by omega) (by omega) (by omega) (by omega)) ?_
          have hin := mCR_in (p := p) (q := q) hT hI (by decide) (by decide) (by omega) (by omega) (by omega) (by omega)
          have hpos := gOv_pos (show 2 ≤ gOv (σ.1 86) (σ.1 87) (mF σ 0) p q by omega)
          obtain ⟨r, er⟩ : ∃ r, r = (gCR (σ.1 86) (mF σ 0) p q) := ⟨_, rfl⟩
          obtain ⟨c, ec⟩ : ∃ c, c = (gCC (σ.1 87) (mF σ 0) p q) := ⟨_, rfl⟩
          rw [← er, ← ec] at hin hpos ⊢
          refine e_istore (q := 59) (L' := [_, _, _, _, _, _]) dX12_cut_57 rfl (by decide) rfl rfl ?_
          refine e_aload_n (q := 60) (i := 0) dX12_cut_59 rfl rfl rfl ?_
          refine e_iconst (q := 61) dX12_cut_60 rfl ?_
          refine e_putI (q := 64) (jz := 49) dX12_cut_61 rfl fp_X12_455 rfl (by first | assumption | rfl) rfl ?_
          refine e_aload_n (q := 65) (i := 0) dX12_cut_64 rfl rfl rfl ?_
          refine e_iconst (q := 66) dX12_cut_65 rfl ?_
          refine e_iload (q := 68) dX12_cut_66 rfl rfl ?_
          refine e_iload (q := 70) dX12_cut_68 rfl rfl ?_
          have e49 : (sI σ 82 49 (-1)).1 82 49 = -1 := by rw [sI_1, if_pos ⟨rfl, rfl⟩]
          have e51 : (sI σ 82 49 (-1)).1 82 51 = σ.1 82 51 := by rw [sI_1, if_neg (by decide)]
          refine e_Vv (q := 73) (vs := [_, _, _]) ok_X12_cuts ml_X12_464 dX12_cut_70 rfl ⟨_, _, rfl⟩ (by first | assumption | rfl) rfl rfl (Nat.le_of_ble_eq_true rfl) (by decide) (c_X12_cuts (Or.inl rfl) (by omega) (by omega) (by omega) (by omega) (by omega) (by rw [e51]; exact h51)) (fun s70 h70 => ?_)
          refine e_aload_n (q := 74) (i := 0) dX12_cut_73 rfl rfl rfl ?_
          refine e_iconst (q := 75) dX12_cut_74 rfl ?_
          refine e_iload (q := 77) dX12_cut_75 rfl rfl ?_
          refine e_iload (q := 79) dX12_cut_77 rfl rfl ?_
          have hv1 : 0 ≤ r % 2 * c ∧ r % 2 * c ≤ 200 := by rcases (show r % 2 = 0 ∨ r % 2 = 1 by omega) with q | q <;> rw [q] <;> omega
          have hv2 : 0 ≤ c % 2 * r ∧ c % 2 * r ≤ 200 := by rcases (show c % 2 = 0 ∨ c % 2 = 1 by omega) with q | q <;> rw [q] <;> omega
          refine e_Vv (q := 82) (vs := [_, _, _]) ok_X12_cuts ml_X12_464 dX12_cut_79 rfl ⟨_, _, rfl⟩ (by first | assumption | rfl) rfl rfl (Nat.le_of_ble_eq_true rfl) (by decide) (c_X12_cuts (Or.inr rfl) (by omega) (by omega) (by omega) (by omega) (by omega) ⟨by omega, by omega⟩) (fun s79 h79 => ?_)
          have hqm : Qm σ s79 := by
            have hf : Fm [] [49, 50, 51] σ s79 := (((Fm.rf _ _ σ).s82 (by decide) _).tr h70.1).tr h79.1
            exact ⟨hf.mono (by simp) (by decide), fun u _ => ldm_fr hf (fun a h1 h2 h3 => by simp only [List.mem_cons, List.not_mem_nil, or_false] at h3; omega) u⟩
          have hrc : 2 ≤ r ∨ 2 ≤ c := by
            by_cases h : 2 ≤ r
            · exact Or.inl h
            · refine Or.inr ?_
              have hg : gOv (σ.1 86) (σ.1 87) (mF σ 0) p q = c := by
                unfold gOv
                rw [← er, ← ec, show max r 0 = 1 by omega, show max c 0 = c by omega, Int.one_mul]
              omega
          have h1 := h70.2
          have h2 := h79.2
          rw [e49, e51] at h1
          refine e_iload_n (q := 83) (i := 3) dX12_cut_82 rfl rfl rfl ?_
          refine e_if_ne (q := 86) (tgt := 93) dX12_cut_83 rfl (by decide) (fun c83 => ?_) (fun c83 => ?_)
          · refine e_iload_n (q := 94) (i := 3) dX12_cut_93 rfl rfl rfl ?_
            refine e_iconst (q := 95) dX12_cut_94 rfl ?_
            refine e_icmp_ne (q := 98) (tgt := 105) dX12_cut_95 rfl (by decide) (fun c95 => ?_) (fun c95 => ?_)
            · refine e_aload_n (q := 106) (i := 0) dX12_cut_105 rfl rfl rfl ?_
              refine e_getI (q := 109) (jz := 51) dX12_cut_106 rfl fg_X12_458 rfl (by first | assumption | rfl) rfl ?_
              exact r_i dX12_cut_109 rfl ⟨by
    rw [if_pos (show (((0 ≤ p ∧ p < σ.1 84 1) ∧ (0 ≤ q ∧ q < σ.1 84 1) ∧ p ≠ q) ∧ 0 ≤ x ∧ x ≤ 2) by omega), if_neg (by omega)]
    unfold cutV cutL
    rw [if_neg c83, if_neg c95]
    by_cases hr2 : r < 2
    · rw [if_pos hr2]
      rw [if_neg (show ¬ c < 2 by omega)]
      rw [if_neg (show ¬ (2147483647 ≤ c % 2 * r) by omega)]
      omega
    · rw [if_neg hr2]
      by_cases hc2 : c < 2
      · rw [if_pos hc2, if_pos (show r % 2 * c ≤ 2147483647 by omega)]
        omega
      · rw [if_neg hc2]
        by_cases hcmp : r % 2 * c ≤ c % 2 * r
        · rw [if_pos hcmp]; omega
        · rw [if_neg hcmp]; omega, hqm⟩
            · refine e_aload_n (q := 99) (i := 0) dX12_cut_98 rfl rfl rfl ?_
              refine e_getI (q := 102) (jz := 50) dX12_cut_99 rfl fg_X12_461 rfl (by first | assumption | rfl) rfl ?_
              refine e_goto (tgt := 109) dX12_cut_102 (by decide) ?_
              exact r_i dX12_cut_109 rfl ⟨by
    rw [if_pos (show (((0 ≤ p ∧ p < σ.1 84 1) ∧ (0 ≤ q ∧ q < σ.1 84 1) ∧ p ≠ q) ∧ 0 ≤ x ∧ x ≤ 2) by omega), if_neg (by omega)]
    unfold cutV cutL
    rw [if_neg c83, if_pos c95]
    by_cases hr2 : r < 2
    · rw [if_pos hr2]
      rw [if_neg (show ¬ c < 2 by omega)]
      rw [if_neg (show ¬ (2147483647 ≤ c % 2 * r) by omega)]
      omega
    · rw [if_neg hr2]
      by_cases hc2 : c < 2
      · rw [if_pos hc2, if_pos (show r % 2 * c ≤ 2147483647 by omega)]
        omega
      · rw [if_neg hc2]
        by_cases hcmp : r % 2 * c ≤ c % 2 * r
        · rw [if_pos hcmp]; omega
        · rw [if_neg hcmp]; omega, hqm⟩
          · refine e_aload_n (q := 87) (i := 0) dX12_cut_86 rfl rfl rfl ?_
            refine e_getI (q := 90) (jz := 49) dX12_cut_87 rfl fg_X12_455 rfl (by first | assumption | rfl) rfl ?_
            refine e_goto (tgt := 109) dX12_cut_90 (by decide) ?_
            exact r_i dX12_cut_109 rfl ⟨by
    rw [if_pos (show (((0 ≤ p ∧ p < σ.1 84 1) ∧ (0 ≤ q ∧ q < σ.1 84 1) ∧ p ≠ q) ∧ 0 ≤ x ∧ x ≤ 2) by omega), if_neg (by omega)]
    unfold cutV cutL
    rw [if_pos c83]
    by_cases hr2 : r < 2
    · rw [if_pos hr2]
      rw [if_neg (show ¬ c < 2 by omega)]
      rw [if_neg (show ¬ (2147483647 ≤ c % 2 * r) by omega)]
      omega
    · rw [if_neg hr2]
      by_cases hc2 : c < 2
      · rw [if_pos hc2, if_pos (show r % 2 * c ≤ 2147483647 by omega)]
        omega
      · rw [if_neg hc2]
        by_cases hcmp : r % 2 * c ≤ c % 2 * r
        · rw [if_pos hcmp]; omega
        · rw [if_neg hcmp]; omega, hqm⟩
        · refine e_bipush (q := 38) dX12_cut_36 rfl (by decide) ?_
          exact r_i dX12_cut_38 rfl ⟨by rw [if_pos (show (((0 ≤ p ∧ p < σ.1 84 1) ∧ (0 ≤ q ∧ q < σ.1 84 1) ∧ p ≠ q) ∧ 0 ≤ x ∧ x ≤ 2) by omega), if_pos (by omega)], Qm.rf _⟩
      · refine e_iconst (q := 24) dX12_cut_23 rfl ?_
        exact r_i dX12_cut_24 rfl ⟨by rw [if_neg (by omega)], Qm.rf _⟩

theorem c_X12_hasOf {G : Gx} {σ : Sg} {p q a b : Int} (hT : MT σ) (hI : MI σ 0) (hp : 0 ≤ p) (hp4 : p < 4) (hq : 0 ≤ q) (hq4 : q < 4) (ha : R32 a) (hb : R32 b) : Con G 5 mX12_hasOf [.ref (G.2.2.2 + 82), .int (iZ p), .int (iZ q), .int (iZ a), .int (iZ b)] σ (pI (pE σ (gSung (gOv (σ.1 86) (σ.1 87) (mF σ 0) p q) (gArea (σ.1 86) (σ.1 87) (mF σ 0) p) a b))) := by
  have hov := mOv_in hT hI (by decide) (by decide) hp hp4 hq hq4
  have har := mArea_in hT hI hp hp4
  refine e_entry om_X12_hasOf (Nat.le_of_ble_eq_true rfl) (L := [some (.ref (G.2.2.2 + 82)), some (.int (iZ p)), some (.int (iZ q)), some (.int (iZ a)), some (.int (iZ b)), none]) rfl ?_
  refine e_aload_n (q := 1) (i := 0) dX12_hasOf_0 rfl rfl rfl ?_
  refine e_iconst (q := 2) dX12_hasOf_1 rfl ?_
  refine e_iload_n (q := 3) (i := 1) dX12_hasOf_2 rfl rfl rfl ?_
  refine e_iload_n (q := 4) (i := 2) dX12_hasOf_3 rfl rfl rfl ?_
  refine e_Vip (q := 7) (vs := [_, _, _]) ok_X12_overlapOf ml_X12_342 dX12_hasOf_4 rfl ⟨_, _, rfl⟩ (by first | assumption | rfl) rfl rfl (Nat.le_of_ble_eq_true rfl) (by decide) (c_X12_overlapOf hT hI (by decide) (by decide) hp hp4 hq hq4) ?_
  refine e_istore (q := 9) (L' := [_, _, _, _, _, _]) dX12_hasOf_7 rfl (by decide) rfl rfl ?_
  refine e_iload_n (q := 10) (i := 3) dX12_hasOf_9 rfl rfl rfl ?_
  refine e_if_ne (q := 13) (tgt := 27) dX12_hasOf_10 rfl (by decide) (fun c10 => ?_) (fun c10 => ?_)
  · refine e_iload (q := 29) dX12_hasOf_27 rfl rfl ?_
    refine e_if_ne (q := 32) (tgt := 45) dX12_hasOf_29 rfl (by decide) (fun c29 => ?_) (fun c29 => ?_)
    · refine e_iload (q := 47) dX12_hasOf_45 rfl rfl ?_
      refine e_iconst (q := 48) dX12_hasOf_47 rfl ?_
      refine e_idiv (q := 49) dX12_hasOf_48 rfl (by decide) (iZ_div (by omega) (by omega) (by omega) (by omega)) ?_
      exact r_i dX12_hasOf_49 rfl ⟨by unfold gSung; first | (rw [if_pos (by omega), if_pos (by omega)]; done) | (rw [if_pos (by omega), if_neg (by omega)]; done) | (rw [if_neg (by omega), if_pos (by omega)]; done) | (rw [if_neg (by omega), if_neg (by omega)]; done), rfl⟩
    · refine e_aload_n (q := 33) (i := 0) dX12_hasOf_32 rfl rfl rfl ?_
      refine e_iconst (q := 34) dX12_hasOf_33 rfl ?_
      refine e_iload_n (q := 35) (i := 1) dX12_hasOf_34 rfl rfl rfl ?_
      refine e_Vip (q := 38) (vs := [_, _]) ok_X12_areaOf ml_X12_339 dX12_hasOf_35 rfl ⟨_, _, rfl⟩ (by first | assumption | rfl) rfl rfl (Nat.le_of_ble_eq_true rfl) (by decide) (c_X12_areaOf (by decide) (by decide) hp hp4) ?_
      refine e_bipush (q := 40) dX12_hasOf_38 rfl (by decide) ?_
      refine e_idiv (q := 41) dX12_hasOf_40 rfl (by decide) (iZ_div (by omega) (by omega) (by omega) (by omega)) ?_
      refine e_ineg (q := 42) dX12_hasOf_41 rfl ?_
      refine e_goto (tgt := 49) dX12_hasOf_42 (by decide) ?_
      exact r_i dX12_hasOf_49 rfl ⟨by unfold gSung; first | (rw [if_pos (by omega), if_pos (by omega)]; done) | (rw [if_pos (by omega), if_neg (by omega)]; done) | (rw [if_neg (by omega), if_pos (by omega)]; done) | (rw [if_neg (by omega), if_neg (by omega)]; done), rfl⟩
  · refine e_iload (q := 15) dX12_hasOf_13 rfl rfl ?_
    refine e_if_ne (q := 18) (tgt := 24) dX12_hasOf_15 rfl (by decide) (fun c15 => ?_) (fun c15 => ?_)
    · refine e_iload (q := 26) dX12_hasOf_24 rfl rfl ?_
      exact r_i dX12_hasOf_26 rfl ⟨by unfold gSung; first | (rw [if_pos (by omega), if_pos (by omega)]; done) | (rw [if_pos (by omega), if_neg (by omega)]; done) | (rw [if_neg (by omega), if_pos (by omega)]; done) | (rw [if_neg (by omega), if_neg (by omega)]; done), rfl⟩
    · refine e_iload (q := 20) dX12_hasOf_18 rfl rfl ?_
      refine e_ineg (q := 21) dX12_hasOf_20 rfl ?_
      refine e_goto (tgt := 26) dX12_hasOf_21 (by decide) ?_
      exact r_i dX12_hasOf_26 rfl ⟨by unfold gSung; first | (rw [if_pos (by omega), if_pos (by omega)]; done) | (rw [if_pos (by omega), if_neg (by omega)]; done) | (rw [if_neg (by omega), if_pos (by omega)]; done) | (rw [if_neg (by omega), if_neg (by omega)]; done), rfl⟩

theorem gOv_sy (rw cl f : Int → Int) (p q : Int) : gOv rw cl f q p = gOv rw cl f p q := by
  unfold gOv gCR gCC
  rw [Int.min_comm (gBot rw f q), Int.max_comm (gTop rw f q), Int.min_comm (gRgt cl f q), Int.max_comm (gLft cl f q)]

set_option maxHeartbeats 4000000 in
theorem c_X12_isRest {G : Gx} {σ : Sg} {p q i : Int} (hT : MT σ) (hI : MI σ 0) (hp : 0 ≤ p) (hp4 : p < 4) (hq : 0 ≤ q) (hq4 : q < 4) (hi0 : 0 ≤ i) (hi4 : i < 4) : Con G 6 mX12_isRest [.ref (G.2.2.2 + 82), .int (iZ p), .int (iZ q), .int (iZ i)] σ (pI (pE σ (gRest (gOv (σ.1 86) (σ.1 87) (mF σ 0) p q) (gArea (σ.1 86) (σ.1 87) (mF σ 0) p) (gArea (σ.1 86) (σ.1 87) (mF σ 0) q) (i / 2) (i % 2)))) := by
  have hov := mOv_in hT hI (by decide) (by decide) hp hp4 hq hq4
  have har := mArea_in hT hI hp hp4
  have hov2 := mOv_in hT hI (by decide) (by decide) hq hq4 hp hp4
  have har2 := mArea_in hT hI hq hq4
  have b0 := gSung_in (a := i / 2) (b := i % 2) (sh := gOv (σ.1 86) (σ.1 87) (mF σ 0) p q) (ar := gArea (σ.1 86) (σ.1 87) (mF σ 0) p) (by omega) (by omega) (by omega) (by omega)
  have b1 := gSung_in (a := 1 - i / 2) (b := i % 2) (sh := gOv (σ.1 86) (σ.1 87) (mF σ 0) p q) (ar := gArea (σ.1 86) (σ.1 87) (mF σ 0) p) (by omega) (by omega) (by omega) (by omega)
  have b2 := gSung_in (a := i % 2) (b := i / 2) (sh := gOv (σ.1 86) (σ.1 87) (mF σ 0) q p) (ar := gArea (σ.1 86) (σ.1 87) (mF σ 0) q) (by omega) (by omega) (by omega) (by omega)
  have b3 := gSung_in (a := 1 - i % 2) (b := i / 2) (sh := gOv (σ.1 86) (σ.1 87) (mF σ 0) q p) (ar := gArea (σ.1 86) (σ.1 87) (mF σ 0) q) (by omega) (by omega) (by omega) (by omega)
  refine e_entry om_X12_isRest (Nat.le_of_ble_eq_true rfl) (L := [some (.ref (G.2.2.2 + 82)), some (.int (iZ p)), some (.int (iZ q)), some (.int (iZ i)), none, none]) rfl ?_
  refine e_iload_n (q := 1) (i := 3) dX12_isRest_0 rfl rfl rfl ?_
  refine e_iconst (q := 2) dX12_isRest_1 rfl ?_
  refine e_idiv (q := 3) dX12_isRest_2 rfl (by decide) (iZ_div (by omega) (by omega) (by omega) (by omega)) ?_
  refine e_istore (q := 5) (L' := [_, _, _, _, _, _]) dX12_isRest_3 rfl (by decide) rfl rfl ?_
  refine e_iload_n (q := 6) (i := 3) dX12_isRest_5 rfl rfl rfl ?_
  refine e_iconst (q := 7) dX12_isRest_6 rfl ?_
  refine e_irem (q := 8) dX12_isRest_7 rfl (by decide) (iZ_rem (by omega) (by omega) (by omega) (by omega)) ?_
  refine e_istore (q := 10) (L' := [_, _, _, _, _, _]) dX12_isRest_8 rfl (by decide) rfl rfl ?_
  refine e_aload_n (q := 11) (i := 0) dX12_isRest_10 rfl rfl rfl ?_
  refine e_iload_n (q := 12) (i := 1) dX12_isRest_11 rfl rfl rfl ?_
  refine e_iload_n (q := 13) (i := 2) dX12_isRest_12 rfl rfl rfl ?_
  refine e_iconst (q := 14) dX12_isRest_13 rfl ?_
  refine e_iload (q := 16) dX12_isRest_14 rfl rfl ?_
  refine e_isub (q := 17) dX12_isRest_16 rfl ?_
  refine e_iload (q := 19) dX12_isRest_17 rfl rfl ?_
  refine e_Vip (q := 22) (vs := [_, _, _, _]) ok_X12_hasOf ml_X12_473 dX12_isRest_19 rfl ⟨_, _, rfl⟩ (by first | assumption | rfl) rfl rfl (Nat.le_of_ble_eq_true rfl) (by decide) (c_X12_hasOf (p := p) (q := q) hT hI (by omega) (by omega) (by omega) (by omega) ⟨by omega, by omega⟩ ⟨by omega, by omega⟩) ?_
  refine e_aload_n (q := 23) (i := 0) dX12_isRest_22 rfl rfl rfl ?_
  refine e_iload_n (q := 24) (i := 1) dX12_isRest_23 rfl rfl rfl ?_
  refine e_iload_n (q := 25) (i := 2) dX12_isRest_24 rfl rfl rfl ?_
  refine e_iload (q := 27) dX12_isRest_25 rfl rfl ?_
  refine e_iload (q := 29) dX12_isRest_27 rfl rfl ?_
  refine e_Vip (q := 32) (vs := [_, _, _, _]) ok_X12_hasOf ml_X12_473 dX12_isRest_29 rfl ⟨_, _, rfl⟩ (by first | assumption | rfl) rfl rfl (Nat.le_of_ble_eq_true rfl) (by decide) (c_X12_hasOf (p := p) (q := q) hT hI (by omega) (by omega) (by omega) (by omega) ⟨by omega, by omega⟩ ⟨by omega, by omega⟩) ?_
  refine e_icmp_gt (q := 35) (tgt := 64) dX12_isRest_32 rfl (by decide) (fun c32 => ?_) (fun c32 => ?_) (hx := ⟨by omega, by omega⟩) (hy := ⟨by omega, by omega⟩)
  · refine e_iconst (q := 65) dX12_isRest_64 rfl ?_
    exact r_z dX12_isRest_65 rfl (by first | exact Or.inl rfl | exact Or.inr rfl | omega) ⟨by unfold gRest; rw [if_neg (fun q => by have := q.1; omega)], rfl⟩
  · refine e_aload_n (q := 36) (i := 0) dX12_isRest_35 rfl rfl rfl ?_
    refine e_iload_n (q := 37) (i := 2) dX12_isRest_36 rfl rfl rfl ?_
    refine e_iload_n (q := 38) (i := 1) dX12_isRest_37 rfl rfl rfl ?_
    refine e_iconst (q := 39) dX12_isRest_38 rfl ?_
    refine e_iload (q := 41) dX12_isRest_39 rfl rfl ?_
    refine e_isub (q := 42) dX12_isRest_41 rfl ?_
    refine e_iload (q := 44) dX12_isRest_42 rfl rfl ?_
    refine e_Vip (q := 47) (vs := [_, _, _, _]) ok_X12_hasOf ml_X12_473 dX12_isRest_44 rfl ⟨_, _, rfl⟩ (by first | assumption | rfl) rfl rfl (Nat.le_of_ble_eq_true rfl) (by decide) (c_X12_hasOf (p := q) (q := p) hT hI (by omega) (by omega) (by omega) (by omega) ⟨by omega, by omega⟩ ⟨by omega, by omega⟩) ?_
    refine e_aload_n (q := 48) (i := 0) dX12_isRest_47 rfl rfl rfl ?_
    refine e_iload_n (q := 49) (i := 2) dX12_isRest_48 rfl rfl rfl ?_
    refine e_iload_n (q := 50) (i := 1) dX12_isRest_49 rfl rfl rfl ?_
    refine e_iload (q := 52) dX12_isRest_50 rfl rfl ?_
    refine e_iload (q := 54) dX12_isRest_52 rfl rfl ?_
    refine e_Vip (q := 57) (vs := [_, _, _, _]) ok_X12_hasOf ml_X12_473 dX12_isRest_54 rfl ⟨_, _, rfl⟩ (by first | assumption | rfl) rfl rfl (Nat.le_of_ble_eq_true rfl) (by decide) (c_X12_hasOf (p := q) (q := p) hT hI (by omega) (by omega) (by omega) (by omega) ⟨by omega, by omega⟩ ⟨by omega, by omega⟩) ?_
    refine e_icmp_gt (q := 60) (tgt := 64) dX12_isRest_57 rfl (by decide) (fun c57 => ?_) (fun c57 => ?_) (hx := ⟨by omega, by omega⟩) (hy := ⟨by omega, by omega⟩)
    · refine e_iconst (q := 65) dX12_isRest_64 rfl ?_
      exact r_z dX12_isRest_65 rfl (by first | exact Or.inl rfl | exact Or.inr rfl | omega) ⟨by unfold gRest; rw [gOv_sy] at c57; rw [if_neg (fun q => by have := q.2; omega)], rfl⟩
    · refine e_iconst (q := 61) dX12_isRest_60 rfl ?_
      refine e_goto (tgt := 65) dX12_isRest_61 (by decide) ?_
      exact r_z dX12_isRest_65 rfl (by first | exact Or.inl rfl | exact Or.inr rfl | omega) ⟨by unfold gRest; rw [gOv_sy] at c57; rw [if_pos ⟨by omega, by omega⟩], rfl⟩

def mRf (σ : Sg) (p q i : Int) : Int := gRest (gOv (σ.1 86) (σ.1 87) (mF σ 0) p q) (gArea (σ.1 86) (σ.1 87) (mF σ 0) p) (gArea (σ.1 86) (σ.1 87) (mF σ 0) q) (i / 2) (i % 2)
theorem mRf_01 (σ : Sg) (p q i : Int) : mRf σ p q i = 0 ∨ mRf σ p q i = 1 := by unfold mRf gRest; split <;> simp

set_option maxHeartbeats 4000000 in
theorem c_X12_restOf {G : Gx} {σ : Sg} {p q k : Int} (hT : MT σ) (hI : MI σ 0) (hp : 0 ≤ p) (hp4 : p < 4) (hq : 0 ≤ q) (hq4 : q < 4) (hk : R32 k) (hk1 : -1 ≤ k) : Con G 7 mX12_restOf [.ref (G.2.2.2 + 82), .int (iZ p), .int (iZ q), .int (iZ k)] σ (pI (fun z σ' => ((k = -1 ∧ z = zs (mRf σ p q) 4) ∨ (k ≠ -1 ∧ ((z = -2 ∧ ∀ i, 0 ≤ i → i < 4 → ¬ ((mRf σ p q) i = 1 ∧ zs (mRf σ p q) i = k)) ∨ ∃ i, 0 ≤ i ∧ i < 4 ∧ (mRf σ p q) i = 1 ∧ zs (mRf σ p q) i = k ∧ z = 10 * (i / 2) + i % 2))) ∧ σ' = σ)) := by
  have lp : ∀ (n : Nat) (i v : Int), 0 ≤ i → i + n = 4 → v = zs (mRf σ p q) i → (∀ j, 0 ≤ j → j < i → ¬ ((mRf σ p q) j = 1 ∧ zs (mRf σ p q) j = k)) → J G 7 mX12_restOf (pI (fun z σ' => ((k = -1 ∧ z = zs (mRf σ p q) 4) ∨ (k ≠ -1 ∧ ((z = -2 ∧ ∀ i, 0 ≤ i → i < 4 → ¬ ((mRf σ p q) i = 1 ∧ zs (mRf σ p q) i = k)) ∨ ∃ i, 0 ≤ i ∧ i < 4 ∧ (mRf σ p q) i = 1 ∧ zs (mRf σ p q) i = k ∧ z = 10 * (i / 2) + i % 2))) ∧ σ' = σ)) σ 6 [some (.ref (G.2.2.2 + 82)), some (.int (iZ p)), some (.int (iZ q)), some (.int (iZ k)), some (.int (iZ v)), some (.int (iZ i))] [] := by
    intro n
    induction n with
    | zero =>
      intro i v h0 hn hv hN
      refine e_iload (q := 8) dX12_restOf_6 rfl rfl ?_
      refine e_iconst (q := 9) dX12_restOf_8 rfl ?_
      refine e_icmp_ge (q := 12) (tgt := 54) dX12_restOf_9 rfl (by decide) (fun c9 => ?_) (fun c9 => absurd (by omega) c9)
      refine e_iload_n (q := 55) (i := 3) dX12_restOf_54 rfl rfl rfl ?_
      refine e_iconst (q := 56) dX12_restOf_55 rfl ?_
      refine e_icmp_ne (q := 59) (tgt := 64) dX12_restOf_56 rfl (by decide) (fun c56 => ?_) (fun c56 => ?_)
      · refine e_bipush (q := 66) dX12_restOf_64 rfl (by decide) ?_
        exact r_i dX12_restOf_66 rfl ⟨Or.inr ⟨c56, Or.inl ⟨rfl, fun j a b => hN j a (by omega)⟩⟩, rfl⟩
      · refine e_iload (q := 61) dX12_restOf_59 rfl rfl ?_
        refine e_goto (tgt := 66) dX12_restOf_61 (by decide) ?_
        exact r_i dX12_restOf_66 rfl ⟨Or.inl ⟨c56, by rw [hv]; congr 1; omega⟩, rfl⟩
    | succ n ih =>
      intro i v h0 hn hv hN
      refine e_iload (q := 8) dX12_restOf_6 rfl rfl ?_
      refine e_iconst (q := 9) dX12_restOf_8 rfl ?_
      refine e_icmp_ge (q := 12) (tgt := 54) dX12_restOf_9 rfl (by decide) (fun c9 => absurd c9 (by omega)) (fun c9 => ?_)
      have hg := mRf_01 σ p q i
      have hzl := zs_01 (f := (mRf σ p q)) (mRf_01 σ p q) h0
      have eg : gRest (gOv (σ.1 86) (σ.1 87) (mF σ 0) p q) (gArea (σ.1 86) (σ.1 87) (mF σ 0) p) (gArea (σ.1 86) (σ.1 87) (mF σ 0) q) (i / 2) (i % 2) = mRf σ p q i := rfl
      refine e_aload_n (q := 13) (i := 0) dX12_restOf_12 rfl rfl rfl ?_
      refine e_iload_n (q := 14) (i := 1) dX12_restOf_13 rfl rfl rfl ?_
      refine e_iload_n (q := 15) (i := 2) dX12_restOf_14 rfl rfl rfl ?_
      refine e_iload (q := 17) dX12_restOf_15 rfl rfl ?_
      refine e_Vip (q := 20) (vs := [_, _, _]) ok_X12_isRest ml_X12_476 dX12_restOf_17 rfl ⟨_, _, rfl⟩ (by first | assumption | rfl) rfl rfl (Nat.le_of_ble_eq_true rfl) (by decide) (c_X12_isRest hT hI hp hp4 hq hq4 (by omega) (by omega)) ?_
      rw [eg]
      refine e_if_ne (q := 23) (tgt := 26) dX12_restOf_20 rfl (by decide) (fun c20 => ?_) (fun c20 => ?_) (hx := ⟨by omega, by omega⟩)
      · refine e_iload (q := 28) dX12_restOf_26 rfl rfl ?_
        refine e_iload_n (q := 29) (i := 3) dX12_restOf_28 rfl rfl rfl ?_
        refine e_icmp_ne (q := 32) (tgt := 45) dX12_restOf_29 rfl (by decide) (fun c29 => ?_) (fun c29 => ?_) (hx := ⟨by omega, by omega⟩) (hy := hk)
        · refine e_iinc (q := 48) (L' := [_, _, _, _, _, _]) dX12_restOf_45 rfl rfl (by decide) rfl rfl ?_
          refine e_iinc (q := 51) (L' := [_, _, _, _, _, _]) dX12_restOf_48 rfl rfl (by decide) rfl rfl ?_
          refine e_goto (tgt := 6) dX12_restOf_51 (by decide) ?_
          refine ih _ _ (by omega) (by omega) (by rw [zs_succ _ h0]; omega) (fun j a b => ?_)
          by_cases e : j = i
          · subst e
            intro w; omega
          · exact hN j a (by omega)
        · refine e_bipush (q := 34) dX12_restOf_32 rfl (by decide) ?_
          refine e_iload (q := 36) dX12_restOf_34 rfl rfl ?_
          refine e_iconst (q := 37) dX12_restOf_36 rfl ?_
          refine e_idiv (q := 38) dX12_restOf_37 rfl (by decide) (iZ_div (by omega) (by omega) (by omega) (by omega)) ?_
          refine e_imul (q := 39) dX12_restOf_38 rfl ?_
          refine e_iload (q := 41) dX12_restOf_39 rfl rfl ?_
          refine e_iconst (q := 42) dX12_restOf_41 rfl ?_
          refine e_irem (q := 43) dX12_restOf_42 rfl (by decide) (iZ_rem (by omega) (by omega) (by omega) (by omega)) ?_
          refine e_iadd (q := 44) dX12_restOf_43 rfl ?_
          exact r_i dX12_restOf_44 rfl ⟨Or.inr ⟨by omega, Or.inr ⟨i, h0, by omega, by omega, by omega, rfl⟩⟩, rfl⟩
      · refine e_goto (tgt := 48) dX12_restOf_23 (by decide) ?_
        refine e_iinc (q := 51) (L' := [_, _, _, _, _, _]) dX12_restOf_48 rfl rfl (by decide) rfl rfl ?_
        refine e_goto (tgt := 6) dX12_restOf_51 (by decide) ?_
        refine ih _ _ (by omega) (by omega) (by rw [zs_succ _ h0]; omega) (fun j a b => ?_)
        by_cases e : j = i
        · subst e
          intro w; omega
        · exact hN j a (by omega)
  refine e_entry om_X12_restOf (Nat.le_of_ble_eq_true rfl) (L := [some (.ref (G.2.2.2 + 82)), some (.int (iZ p)), some (.int (iZ q)), some (.int (iZ k)), none, none]) rfl ?_
  refine e_iconst (q := 1) dX12_restOf_0 rfl ?_
  refine e_istore (q := 3) (L' := [_, _, _, _, _, _]) dX12_restOf_1 rfl (by decide) rfl rfl ?_
  refine e_iconst (q := 4) dX12_restOf_3 rfl ?_
  refine e_istore (q := 6) (L' := [_, _, _, _, _, _]) dX12_restOf_4 rfl (by decide) rfl rfl ?_
  exact lp 4 0 0 (by decide) (by decide) rfl (fun j a b => absurd b (by omega))

theorem c_X12_rests {G : Gx} {σ0 σ : Sg} {a b : Int} (hσ : σ = sI σ0 82 0 0) (hT : MT σ) (hI : MI σ 0) (ha : R32 a) (hb : R32 b) : Con G 8 mX12_rests [.ref (G.2.2.2 + 82), .int (iZ a), .int (iZ b)] σ0 (pI (fun z σ' => z = (if ((0 ≤ a ∧ a < σ.1 84 1) ∧ (0 ≤ b ∧ b < σ.1 84 1) ∧ a ≠ b) then zs (mRf σ a b) 4 else -1) ∧ σ' = σ)) := by
  obtain ⟨hzz, hnp, hnc, hnb, hrn, hsd, hrw, hrq, hch, hbt, hck⟩ := id hT
  refine e_entry om_X12_rests (Nat.le_of_ble_eq_true rfl) (L := [some (.ref (G.2.2.2 + 82)), some (.int (iZ a)), some (.int (iZ b))]) rfl ?_
  refine e_aload_n (q := 1) (i := 0) dX12_rests_0 rfl rfl rfl ?_
  refine e_iconst (q := 2) dX12_rests_1 rfl ?_
  refine e_putI (q := 5) (jz := 0) dX12_rests_2 rfl fp_X12_136 rfl (by first | assumption | rfl) rfl ?_
  rw [← hσ]
  refine e_aload_n (q := 6) (i := 0) dX12_rests_5 rfl rfl rfl ?_
  refine e_iload_n (q := 7) (i := 1) dX12_rests_6 rfl rfl rfl ?_
  refine e_iload_n (q := 8) (i := 2) dX12_rests_7 rfl rfl rfl ?_
  refine e_Vip (q := 11) (vs := [_, _]) ok_X12_areTwo ml_X12_418 dX12_rests_8 rfl ⟨_, _, rfl⟩ (by first | assumption | rfl) rfl rfl (Nat.le_of_ble_eq_true rfl) (by decide) (c_X12_areTwo hT (by assumption) (by assumption)) ?_
  refine e_if_eq (q := 14) (tgt := 24) dX12_rests_11 rfl (by decide) (fun c11 => ?_) (fun c11 => ?_)
  · refine e_iconst (q := 25) dX12_rests_24 rfl ?_
    exact r_i dX12_rests_25 rfl ⟨by rw [if_neg (by omega)], rfl⟩
  · refine e_aload_n (q := 15) (i := 0) dX12_rests_14 rfl rfl rfl ?_
    refine e_iload_n (q := 16) (i := 1) dX12_rests_15 rfl rfl rfl ?_
    refine e_iload_n (q := 17) (i := 2) dX12_rests_16 rfl rfl rfl ?_
    refine e_iconst (q := 18) dX12_rests_17 rfl ?_
    have hKp : ((0 ≤ a ∧ a < σ.1 84 1) ∧ (0 ≤ b ∧ b < σ.1 84 1) ∧ a ≠ b) := by omega
    refine e_Vi (q := 21) (vs := [_, _, _]) ok_X12_restOf ml_X12_480 dX12_rests_18 rfl ⟨_, _, rfl⟩ (by first | assumption | rfl) rfl rfl (Nat.le_of_ble_eq_true rfl) (by decide) (c_X12_restOf hT hI (by omega) (by omega) (by omega) (by omega) ⟨by decide, by decide⟩ (by decide)) (fun z18 s18 h18 => ?_)
    refine e_goto (tgt := 25) dX12_rests_21 (by decide) ?_
    exact r_i dX12_rests_25 rfl ⟨by rw [if_pos hKp]; rcases h18.1 with q | q; exact q.2; exact absurd rfl q.1, h18.2⟩

theorem c_X12_rest {G : Gx} {σ0 σ : Sg} {p q k : Int} (hσ : σ = sI σ0 82 0 0) (hT : MT σ) (hI : MI σ 0) (hp : R32 p) (hq : R32 q) (hk : R32 k) : Con G 8 mX12_rest [.ref (G.2.2.2 + 82), .int (iZ p), .int (iZ q), .int (iZ k)] σ0 (pI (fun z σ' => ((¬ (((0 ≤ p ∧ p < σ.1 84 1) ∧ (0 ≤ q ∧ q < σ.1 84 1) ∧ p ≠ q) ∧ 0 ≤ k) ∧ z = -1) ∨ ((((0 ≤ p ∧ p < σ.1 84 1) ∧ (0 ≤ q ∧ q < σ.1 84 1) ∧ p ≠ q) ∧ 0 ≤ k) ∧ ((z = -2 ∧ ∀ i, 0 ≤ i → i < 4 → ¬ ((mRf σ p q) i = 1 ∧ zs (mRf σ p q) i = k)) ∨ ∃ i, 0 ≤ i ∧ i < 4 ∧ (mRf σ p q) i = 1 ∧ zs (mRf σ p q) i = k ∧ z = 10 * (i / 2) + i % 2))) ∧ σ' = σ)) := by
  obtain ⟨hzz, hnp, hnc, hnb, hrn, hsd, hrw, hrq, hch, hbt, hck⟩ := id hT
  refine e_entry om_X12_rest (Nat.le_of_ble_eq_true rfl) (L := [some (.ref (G.2.2.2 + 82)), some (.int (iZ p)), some (.int (iZ q)), some (.int (iZ k))]) rfl ?_
  refine e_aload_n (q := 1) (i := 0) dX12_rest_0 rfl rfl rfl ?_
  refine e_iconst (q := 2) dX12_rest_1 rfl ?_
  refine e_putI (q := 5) (jz := 0) dX12_rest_2 rfl fp_X12_136 rfl (by first | assumption | rfl) rfl ?_
  rw [← hσ]
  refine e_aload_n (q := 6) (i := 0) dX12_rest_5 rfl rfl rfl ?_
  refine e_iload_n (q := 7) (i := 1) dX12_rest_6 rfl rfl rfl ?_
  refine e_iload_n (q := 8) (i := 2) dX12_rest_7 rfl rfl rfl ?_
  refine e_Vip (q := 11) (vs := [_, _]) ok_X12_areTwo ml_X12_418 dX12_rest_8 rfl ⟨_, _, rfl⟩ (by first | assumption | rfl) rfl rfl (Nat.le_of_ble_eq_true rfl) (by decide) (c_X12_areTwo hT (by assumption) (by assumption)) ?_
  refine e_if_eq (q := 14) (tgt := 28) dX12_rest_11 rfl (by decide) (fun c11 => ?_) (fun c11 => ?_)
  · refine e_iconst (q := 29) dX12_rest_28 rfl ?_
    exact r_i dX12_rest_29 rfl ⟨Or.inl ⟨by omega, rfl⟩, rfl⟩
  · refine e_iload_n (q := 15) (i := 3) dX12_rest_14 rfl rfl rfl ?_
    refine e_if_lt (q := 18) (tgt := 28) dX12_rest_15 rfl (by decide) (fun c15 => ?_) (fun c15 => ?_)
    · refine e_iconst (q := 29) dX12_rest_28 rfl ?_
      exact r_i dX12_rest_29 rfl ⟨Or.inl ⟨by omega, rfl⟩, rfl⟩
    · refine e_aload_n (q := 19) (i := 0) dX12_rest_18 rfl rfl rfl ?_
      refine e_iload_n (q := 20) (i := 1) dX12_rest_19 rfl rfl rfl ?_
      refine e_iload_n (q := 21) (i := 2) dX12_rest_20 rfl rfl rfl ?_
      refine e_iload_n (q := 22) (i := 3) dX12_rest_21 rfl rfl rfl ?_
      have hKp : (((0 ≤ p ∧ p < σ.1 84 1) ∧ (0 ≤ q ∧ q < σ.1 84 1) ∧ p ≠ q) ∧ 0 ≤ k) := by omega
      have hk1 : k ≠ -1 := by omega
      refine e_Vi (q := 25) (vs := [_, _, _]) ok_X12_restOf ml_X12_480 dX12_rest_22 rfl ⟨_, _, rfl⟩ (by first | assumption | rfl) rfl rfl (Nat.le_of_ble_eq_true rfl) (by decide) (c_X12_restOf hT hI (by omega) (by omega) (by omega) (by omega) hk (by omega)) (fun z22 s22 h22 => ?_)
      refine e_goto (tgt := 29) dX12_rest_25 (by decide) ?_
      exact r_i dX12_rest_29 rfl ⟨Or.inr ⟨hKp, by rcases h22.1 with q | q; exact absurd q.1 hk1; exact q.2⟩, h22.2⟩

def mSee (σ : Sg) (y p r c b : Int) : Sg := sI (sI (sI (sI (sI (sI (sI σ 112 (σ.1 82 53) y) 113 (σ.1 82 53) p) 114 (σ.1 82 53) r) 115 (σ.1 82 53) c) 116 (σ.1 82 53) b) 117 (σ.1 82 53) (-1)) 82 53 ((σ.1 82 53) + 1)

theorem c_X12_see {G : Gx} {σ0 σ : Sg} {y p r c b : Int} (hσ : σ = sI σ0 82 0 0) (hT : MT σ) (hn0 : 0 ≤ σ.1 82 53) (hn1 : σ.1 82 53 ≤ 24) (hy : R32 y) (hp : R32 p) (hr : R32 r) (hc : R32 c) (hb : b = 0 ∨ b = 1) : Con G 2 mX12_see [.ref (G.2.2.2 + 82), .int (iZ y), .int (iZ p), .int (iZ r), .int (iZ c), .int (iZ b)] σ0 (pI (fun z σ' => (¬ (1 ≤ y ∧ y ≤ 60 ∧ (0 ≤ p ∧ p < σ.1 84 1) ∧ (0 ≤ r ∧ r < σ.1 84 0 ∧ 0 ≤ c ∧ c < σ.1 84 0) ∧ (σ.1 82 53) < 24) ∧ z = -1 ∧ σ' = σ) ∨ ((1 ≤ y ∧ y ≤ 60 ∧ (0 ≤ p ∧ p < σ.1 84 1) ∧ (0 ≤ r ∧ r < σ.1 84 0 ∧ 0 ≤ c ∧ c < σ.1 84 0) ∧ (σ.1 82 53) < 24) ∧ z = (σ.1 82 53) ∧ σ' = mSee σ y p r c b))) := by
  obtain ⟨hzz, hnp, hnc, hnb, hrn, hsd, hrw, hrq, hch, hbt, hck⟩ := id hT
  refine e_entry om_X12_see (Nat.le_of_ble_eq_true rfl) (L := [some (.ref (G.2.2.2 + 82)), some (.int (iZ y)), some (.int (iZ p)), some (.int (iZ r)), some (.int (iZ c)), some (.int (iZ b))]) rfl ?_
  refine e_aload_n (q := 1) (i := 0) dX12_see_0 rfl rfl rfl ?_
  refine e_iconst (q := 2) dX12_see_1 rfl ?_
  refine e_putI (q := 5) (jz := 0) dX12_see_2 rfl fp_X12_136 rfl (by first | assumption | rfl) rfl ?_
  rw [← hσ]
  refine e_iload_n (q := 6) (i := 1) dX12_see_5 rfl rfl rfl ?_
  refine e_iconst (q := 7) dX12_see_6 rfl ?_
  refine e_icmp_lt (q := 10) (tgt := 43) dX12_see_7 rfl (by decide) (fun c7 => ?_) (fun c7 => ?_)
  · refine e_iconst (q := 44) dX12_see_43 rfl ?_
    exact r_i dX12_see_44 rfl (Or.inl ⟨by omega, rfl, rfl⟩)
  · refine e_iload_n (q := 11) (i := 1) dX12_see_10 rfl rfl rfl ?_
    refine e_bipush (q := 13) dX12_see_11 rfl (by decide) ?_
    refine e_icmp_gt (q := 16) (tgt := 43) dX12_see_13 rfl (by decide) (fun c13 => ?_) (fun c13 => ?_)
    · refine e_iconst (q := 44) dX12_see_43 rfl ?_
      exact r_i dX12_see_44 rfl (Or.inl ⟨by omega, rfl, rfl⟩)
    · refine e_aload_n (q := 17) (i := 0) dX12_see_16 rfl rfl rfl ?_
      refine e_iload_n (q := 18) (i := 2) dX12_see_17 rfl rfl rfl ?_
      refine e_Vip (q := 21) (vs := [_]) ok_X12_isParish ml_X12_396 dX12_see_18 rfl ⟨_, _, rfl⟩ (by first | assumption | rfl) rfl rfl (Nat.le_of_ble_eq_true rfl) (by decide) (c_X12_isParish hT (by assumption)) ?_
      refine e_if_eq (q := 24) (tgt := 43) dX12_see_21 rfl (by decide) (fun c21 => ?_) (fun c21 => ?_)
      · refine e_iconst (q := 44) dX12_see_43 rfl ?_
        exact r_i dX12_see_44 rfl (Or.inl ⟨by omega, rfl, rfl⟩)
      · refine e_aload_n (q := 25) (i := 0) dX12_see_24 rfl rfl rfl ?_
        refine e_iload_n (q := 26) (i := 3) dX12_see_25 rfl rfl rfl ?_
        refine e_iload (q := 28) dX12_see_26 rfl rfl ?_
        refine e_Vip (q := 31) (vs := [_, _]) ok_X12_isCell ml_X12_412 dX12_see_28 rfl ⟨_, _, rfl⟩ (by first | assumption | rfl) rfl rfl (Nat.le_of_ble_eq_true rfl) (by decide) (c_X12_isCell hT (by assumption) (by assumption)) ?_
        refine e_if_eq (q := 34) (tgt := 43) dX12_see_31 rfl (by decide) (fun c31 => ?_) (fun c31 => ?_)
        · refine e_iconst (q := 44) dX12_see_43 rfl ?_
          exact r_i dX12_see_44 rfl (Or.inl ⟨by omega, rfl, rfl⟩)
        · refine e_aload_n (q := 35) (i := 0) dX12_see_34 rfl rfl rfl ?_
          refine e_getI (q := 38) (jz := 53) dX12_see_35 rfl fg_X12_289 rfl (by first | assumption | rfl) rfl ?_
          refine e_bipush (q := 40) dX12_see_38 rfl (by decide) ?_
          refine e_icmp_ne (q := 43) (tgt := 45) dX12_see_40 rfl (by decide) (fun c40 => ?_) (fun c40 => ?_) (hx := ⟨by omega, by omega⟩)
          · refine e_aload_n (q := 46) (i := 0) dX12_see_45 rfl rfl rfl ?_
            refine e_getR (q := 49) dX12_see_46 rfl fg_X12_108 (by first | assumption | rfl) rfl ?_
            refine e_aload_n (q := 50) (i := 0) dX12_see_49 rfl rfl rfl ?_
            refine e_getI (q := 53) (jz := 53) dX12_see_50 rfl fg_X12_289 rfl (by first | assumption | rfl) rfl ?_
            refine e_iload_n (q := 54) (i := 1) dX12_see_53 rfl rfl rfl ?_
            refine e_iast (q := 55) dX12_see_54 rfl (by first | assumption | rfl) ?_
            refine e_aload_n (q := 56) (i := 0) dX12_see_55 rfl rfl rfl ?_
            refine e_getR (q := 59) dX12_see_56 rfl fg_X12_111 (by first | assumption | rfl) rfl ?_
            refine e_aload_n (q := 60) (i := 0) dX12_see_59 rfl rfl rfl ?_
            refine e_getI (q := 63) (jz := 53) dX12_see_60 rfl fg_X12_289 rfl (by first | assumption | rfl) rfl ?_
            rw [show (sI σ 112 (σ.1 82 53) y).1 82 53 = (σ.1 82 53) from by simp only [sI_1, show ¬ (82 : Nat) = 112 by decide, show ¬ (82 : Nat) = 113 by decide, show ¬ (82 : Nat) = 114 by decide, show ¬ (82 : Nat) = 115 by decide, show ¬ (82 : Nat) = 116 by decide, false_and, if_false]]
            refine e_iload_n (q := 64) (i := 2) dX12_see_63 rfl rfl rfl ?_
            refine e_iast (q := 65) dX12_see_64 rfl (by first | assumption | rfl) ?_
            refine e_aload_n (q := 66) (i := 0) dX12_see_65 rfl rfl rfl ?_
            refine e_getR (q := 69) dX12_see_66 rfl fg_X12_114 (by first | assumption | rfl) rfl ?_
            refine e_aload_n (q := 70) (i := 0) dX12_see_69 rfl rfl rfl ?_
            refine e_getI (q := 73) (jz := 53) dX12_see_70 rfl fg_X12_289 rfl (by first | assumption | rfl) rfl ?_
            rw [show (sI (sI σ 112 (σ.1 82 53) y) 113 (σ.1 82 53) p).1 82 53 = (σ.1 82 53) from by simp only [sI_1, show ¬ (82 : Nat) = 112 by decide, show ¬ (82 : Nat) = 113 by decide, show ¬ (82 : Nat) = 114 by decide, show ¬ (82 : Nat) = 115 by decide, show ¬ (82 : Nat) = 116 by decide, false_and, if_false]]
            refine e_iload_n (q := 74) (i := 3) dX12_see_73 rfl rfl rfl ?_
            refine e_iast (q := 75) dX12_see_74 rfl (by first | assumption | rfl) ?_
            refine e_aload_n (q := 76) (i := 0) dX12_see_75 rfl rfl rfl ?_
            refine e_getR (q := 79) dX12_see_76 rfl fg_X12_117 (by first | assumption | rfl) rfl ?_
            refine e_aload_n (q := 80) (i := 0) dX12_see_79 rfl rfl rfl ?_
            refine e_getI (q := 83) (jz := 53) dX12_see_80 rfl fg_X12_289 rfl (by first | assumption | rfl) rfl ?_
            rw [show (sI (sI (sI σ 112 (σ.1 82 53) y) 113 (σ.1 82 53) p) 114 (σ.1 82 53) r).1 82 53 = (σ.1 82 53) from by simp only [sI_1, show ¬ (82 : Nat) = 112 by decide, show ¬ (82 : Nat) = 113 by decide, show ¬ (82 : Nat) = 114 by decide, show ¬ (82 : Nat) = 115 by decide, show ¬ (82 : Nat) = 116 by decide, false_and, if_false]]
            refine e_iload (q := 85) dX12_see_83 rfl rfl ?_
            refine e_iast (q := 86) dX12_see_85 rfl (by first | assumption | rfl) ?_
            refine e_aload_n (q := 87) (i := 0) dX12_see_86 rfl rfl rfl ?_
            refine e_getR (q := 90) dX12_see_87 rfl fg_X12_120 (by first | assumption | rfl) rfl ?_
            refine e_aload_n (q := 91) (i := 0) dX12_see_90 rfl rfl rfl ?_
            refine e_getI (q := 94) (jz := 53) dX12_see_91 rfl fg_X12_289 rfl (by first | assumption | rfl) rfl ?_
            rw [show (sI (sI (sI (sI σ 112 (σ.1 82 53) y) 113 (σ.1 82 53) p) 114 (σ.1 82 53) r) 115 (σ.1 82 53) c).1 82 53 = (σ.1 82 53) from by simp only [sI_1, show ¬ (82 : Nat) = 112 by decide, show ¬ (82 : Nat) = 113 by decide, show ¬ (82 : Nat) = 114 by decide, show ¬ (82 : Nat) = 115 by decide, show ¬ (82 : Nat) = 116 by decide, false_and, if_false]]
            refine e_iload (q := 96) dX12_see_94 rfl rfl ?_
            refine e_zast (q := 97) dX12_see_96 rfl (by first | assumption | rfl) hb ?_
            refine e_aload_n (q := 98) (i := 0) dX12_see_97 rfl rfl rfl ?_
            refine e_getR (q := 101) dX12_see_98 rfl fg_X12_124 (by first | assumption | rfl) rfl ?_
            refine e_aload_n (q := 102) (i := 0) dX12_see_101 rfl rfl rfl ?_
            refine e_getI (q := 105) (jz := 53) dX12_see_102 rfl fg_X12_289 rfl (by first | assumption | rfl) rfl ?_
            rw [show (sI (sI (sI (sI (sI σ 112 (σ.1 82 53) y) 113 (σ.1 82 53) p) 114 (σ.1 82 53) r) 115 (σ.1 82 53) c) 116 (σ.1 82 53) b).1 82 53 = (σ.1 82 53) from by simp only [sI_1, show ¬ (82 : Nat) = 112 by decide, show ¬ (82 : Nat) = 113 by decide, show ¬ (82 : Nat) = 114 by decide, show ¬ (82 : Nat) = 115 by decide, show ¬ (82 : Nat) = 116 by decide, false_and, if_false]]
            refine e_iconst (q := 106) dX12_see_105 rfl ?_
            refine e_iast (q := 107) dX12_see_106 rfl (by first | assumption | rfl) ?_
            refine e_aload_n (q := 108) (i := 0) dX12_see_107 rfl rfl rfl ?_
            refine e_dup (q := 109) dX12_see_108 rfl rfl ?_
            refine e_getI (q := 112) (jz := 53) dX12_see_109 rfl fg_X12_289 rfl (by first | assumption | rfl) rfl ?_
            have e53 : (sI (sI (sI (sI (sI (sI σ 112 (σ.1 82 53) y) 113 (σ.1 82 53) p) 114 (σ.1 82 53) r) 115 (σ.1 82 53) c) 116 (σ.1 82 53) b) 117 (σ.1 82 53) (-1)).1 82 53 = (σ.1 82 53) := by simp only [sI_1, show ¬ (82 : Nat) = 112 by decide, show ¬ (82 : Nat) = 113 by decide, show ¬ (82 : Nat) = 114 by decide, show ¬ (82 : Nat) = 115 by decide, show ¬ (82 : Nat) = 116 by decide, show ¬ (82 : Nat) = 117 by decide, false_and, if_false]
            rw [e53]
            refine e_iconst (q := 113) dX12_see_112 rfl ?_
            refine e_iadd (q := 114) dX12_see_113 rfl ?_
            refine e_putI (q := 117) (jz := 53) dX12_see_114 rfl fp_X12_289 rfl (by first | assumption | rfl) rfl ?_
            refine e_aload_n (q := 118) (i := 0) dX12_see_117 rfl rfl rfl ?_
            refine e_getI (q := 121) (jz := 53) dX12_see_118 rfl fg_X12_289 rfl (by first | assumption | rfl) rfl ?_
            refine e_iconst (q := 122) dX12_see_121 rfl ?_
            refine e_isub (q := 123) dX12_see_122 rfl ?_
            exact r_i dX12_see_123 rfl (Or.inr ⟨by omega, by rw [sI_1, if_pos ⟨rfl, rfl⟩]; omega, rfl⟩)
          · refine e_iconst (q := 44) dX12_see_43 rfl ?_
            exact r_i dX12_see_44 rfl (Or.inl ⟨by omega, rfl, rfl⟩)

theorem c_X12_strike {G : Gx} {σ0 σ : Sg} (hσ : σ = sI σ0 82 0 0) {x : Int} (hn0 : 0 ≤ σ.1 82 53) (hn1 : σ.1 82 53 ≤ 24) (hx : R32 x) : Con G 1 mX12_strike [.ref (G.2.2.2 + 82), .int (iZ x)] σ0 (pI (fun z σ' => ((x < 0 ∨ (σ.1 82 53) ≤ x ∨ 24 ≤ (σ.1 82 53)) ∧ z = -1 ∧ σ' = σ) ∨ ((0 ≤ x ∧ x < (σ.1 82 53) ∧ (σ.1 82 53) < 24) ∧ z = (σ.1 82 53) ∧ σ' = sI (sI σ 117 (σ.1 82 53) x) 82 53 ((σ.1 82 53) + 1)))) := by
  refine e_entry om_X12_strike (Nat.le_of_ble_eq_true rfl) (L := [some (.ref (G.2.2.2 + 82)), some (.int (iZ x))]) rfl ?_
  refine e_aload_n (q := 1) (i := 0) dX12_strike_0 rfl rfl rfl ?_
  refine e_iconst (q := 2) dX12_strike_1 rfl ?_
  refine e_putI (q := 5) (jz := 0) dX12_strike_2 rfl fp_X12_136 rfl (by first | assumption | rfl) rfl ?_
  rw [← hσ]
  refine e_iload_n (q := 6) (i := 1) dX12_strike_5 rfl rfl rfl ?_
  refine e_if_lt (q := 9) (tgt := 26) dX12_strike_6 rfl (by decide) (fun c6 => ?_) (fun c6 => ?_)
  · refine e_iconst (q := 27) dX12_strike_26 rfl ?_
    exact r_i dX12_strike_27 rfl (Or.inl ⟨by omega, rfl, rfl⟩)
  · refine e_iload_n (q := 10) (i := 1) dX12_strike_9 rfl rfl rfl ?_
    refine e_aload_n (q := 11) (i := 0) dX12_strike_10 rfl rfl rfl ?_
    refine e_getI (q := 14) (jz := 53) dX12_strike_11 rfl fg_X12_289 rfl (by first | assumption | rfl) rfl ?_
    refine e_icmp_ge (q := 17) (tgt := 26) dX12_strike_14 rfl (by decide) (fun c14 => ?_) (fun c14 => ?_) (hy := ⟨by omega, by omega⟩)
    · refine e_iconst (q := 27) dX12_strike_26 rfl ?_
      exact r_i dX12_strike_27 rfl (Or.inl ⟨by omega, rfl, rfl⟩)
    · refine e_aload_n (q := 18) (i := 0) dX12_strike_17 rfl rfl rfl ?_
      refine e_getI (q := 21) (jz := 53) dX12_strike_18 rfl fg_X12_289 rfl (by first | assumption | rfl) rfl ?_
      refine e_bipush (q := 23) dX12_strike_21 rfl (by decide) ?_
      refine e_icmp_ne (q := 26) (tgt := 28) dX12_strike_23 rfl (by decide) (fun c23 => ?_) (fun c23 => ?_) (hx := ⟨by omega, by omega⟩)
      · refine e_aload_n (q := 29) (i := 0) dX12_strike_28 rfl rfl rfl ?_
        refine e_getR (q := 32) dX12_strike_29 rfl fg_X12_124 (by first | assumption | rfl) rfl ?_
        refine e_aload_n (q := 33) (i := 0) dX12_strike_32 rfl rfl rfl ?_
        refine e_getI (q := 36) (jz := 53) dX12_strike_33 rfl fg_X12_289 rfl (by first | assumption | rfl) rfl ?_
        refine e_iload_n (q := 37) (i := 1) dX12_strike_36 rfl rfl rfl ?_
        refine e_iast (q := 38) dX12_strike_37 rfl (by first | assumption | rfl) ?_
        refine e_aload_n (q := 39) (i := 0) dX12_strike_38 rfl rfl rfl ?_
        refine e_dup (q := 40) dX12_strike_39 rfl rfl ?_
        refine e_getI (q := 43) (jz := 53) dX12_strike_40 rfl fg_X12_289 rfl (by first | assumption | rfl) rfl ?_
        have e53 : (sI σ 117 (σ.1 82 53) x).1 82 53 = σ.1 82 53 := by rw [sI_ne _ (by decide)]
        rw [e53]
        refine e_iconst (q := 44) dX12_strike_43 rfl ?_
        refine e_iadd (q := 45) dX12_strike_44 rfl ?_
        refine e_putI (q := 48) (jz := 53) dX12_strike_45 rfl fp_X12_289 rfl (by first | assumption | rfl) rfl ?_
        refine e_aload_n (q := 49) (i := 0) dX12_strike_48 rfl rfl rfl ?_
        refine e_getI (q := 52) (jz := 53) dX12_strike_49 rfl fg_X12_289 rfl (by first | assumption | rfl) rfl ?_
        refine e_iconst (q := 53) dX12_strike_52 rfl ?_
        refine e_isub (q := 54) dX12_strike_53 rfl ?_
        exact r_i dX12_strike_54 rfl (Or.inr ⟨by omega, by rw [sI_1, if_pos ⟨rfl, rfl⟩]; omega, rfl⟩)
      · refine e_iconst (q := 27) dX12_strike_26 rfl ?_
        exact r_i dX12_strike_27 rfl (Or.inl ⟨by omega, rfl, rfl⟩)

theorem c_X12_known {G : Gx} {σ0 σ : Sg} (hσ : σ = sI σ0 82 0 0) {x : Int} (hn0 : 0 ≤ σ.1 82 53) (hn1 : σ.1 82 53 ≤ 24) (hx : R32 x) : Con G 1 mX12_known [.ref (G.2.2.2 + 82), .int (iZ x)] σ0 (pI (fun z σ' => ((x < -1 ∨ (σ.1 82 53) < x) ∧ z = 0 ∧ σ' = σ) ∨ ((-1 ≤ x ∧ x ≤ (σ.1 82 53)) ∧ z = 1 ∧ σ' = sI σ 82 54 x))) := by
  refine e_entry om_X12_known (Nat.le_of_ble_eq_true rfl) (L := [some (.ref (G.2.2.2 + 82)), some (.int (iZ x))]) rfl ?_
  refine e_aload_n (q := 1) (i := 0) dX12_known_0 rfl rfl rfl ?_
  refine e_iconst (q := 2) dX12_known_1 rfl ?_
  refine e_putI (q := 5) (jz := 0) dX12_known_2 rfl fp_X12_136 rfl (by first | assumption | rfl) rfl ?_
  rw [← hσ]
  refine e_iload_n (q := 6) (i := 1) dX12_known_5 rfl rfl rfl ?_
  refine e_iconst (q := 7) dX12_known_6 rfl ?_
  refine e_icmp_lt (q := 10) (tgt := 18) dX12_known_7 rfl (by decide) (fun c7 => ?_) (fun c7 => ?_)
  · refine e_iconst (q := 19) dX12_known_18 rfl ?_
    exact r_z dX12_known_19 rfl (by first | exact Or.inl rfl | exact Or.inr rfl | omega) (Or.inl ⟨by omega, rfl, rfl⟩)
  · refine e_iload_n (q := 11) (i := 1) dX12_known_10 rfl rfl rfl ?_
    refine e_aload_n (q := 12) (i := 0) dX12_known_11 rfl rfl rfl ?_
    refine e_getI (q := 15) (jz := 53) dX12_known_12 rfl fg_X12_289 rfl (by first | assumption | rfl) rfl ?_
    refine e_icmp_le (q := 18) (tgt := 20) dX12_known_15 rfl (by decide) (fun c15 => ?_) (fun c15 => ?_) (hy := ⟨by omega, by omega⟩)
    · refine e_aload_n (q := 21) (i := 0) dX12_known_20 rfl rfl rfl ?_
      refine e_iload_n (q := 22) (i := 1) dX12_known_21 rfl rfl rfl ?_
      refine e_putI (q := 25) (jz := 54) dX12_known_22 rfl fp_X12_105 rfl (by first | assumption | rfl) rfl ?_
      refine e_iconst (q := 26) dX12_known_25 rfl ?_
      exact r_z dX12_known_26 rfl (by first | exact Or.inl rfl | exact Or.inr rfl | omega) (Or.inr ⟨by omega, rfl, rfl⟩)
    · refine e_iconst (q := 19) dX12_known_18 rfl ?_
      exact r_z dX12_known_19 rfl (by first | exact Or.inl rfl | exact Or.inr rfl | omega) (Or.inl ⟨by omega, rfl, rfl⟩)

