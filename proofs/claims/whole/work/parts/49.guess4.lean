def m20 (σ : Sg) (c g : Int) : Int → Int := (mGn σ c g 20).1.1
def sdV (σ : Sg) (c p g j : Int) : Int := if j = 0 then gTop (σ.1 86) (m20 σ c g) p else if j = 1 then gBot (σ.1 86) (m20 σ c g) p else if j = 2 then gLft (σ.1 87) (m20 σ c g) p else gRgt (σ.1 87) (m20 σ c g) p
theorem sd_side {σ ρ : Sg} {c p g j : Int} (hq : Qg σ ρ) (hp : 0 ≤ p) (hpn : p < σ.1 84 1) (hm : ∀ s, 0 ≤ s → s < 4 * σ.1 84 1 → mF ρ 1 s = m20 σ c g s) : mSide ρ 1 p j = sdV σ c p g j := by
  unfold mSide sdV gTop gBot gLft gRgt
  rw [hq.c (a := 86) (by decide) (by decide), hq.c (a := 87) (by decide) (by decide), hm (4 * p) (by omega) (by omega), hm (4 * p + 1) (by omega) (by omega), hm (4 * p + 2) (by omega) (by omega), hm (4 * p + 3) (by omega) (by omega)]
theorem ye_sd {σ τ : Sg} {c p v r e : Int} (hS : ∀ k j, 0 ≤ k → k < 30 → 0 ≤ j → j < 4 → τ.1 119 (4 * k + j) = sdV σ c p (k + 1) j) : zs (fun k => if v / 2 ^ k.toNat % 2 = 1 ∧ τ.1 119 (4 * k) ≤ r ∧ r ≤ τ.1 119 (4 * k + 1) ∧ τ.1 119 (4 * k + 2) ≤ e ∧ e ≤ τ.1 119 (4 * k + 3) then 1 else 0) 30 = yeN (σ.1 86) (σ.1 87) (m20 σ c) v p r e := by
  unfold yeN
  refine zs_congr (fun k a b => ?_)
  have h0 := hS k 0 a b (by decide) (by decide)
  have h1 := hS k 1 a b (by decide) (by decide)
  have h2 := hS k 2 a b (by decide) (by decide)
  have h3 := hS k 3 a b (by decide) (by decide)
  rw [Int.add_zero] at h0
  rw [h0, h1, h2, h3]
  have i1 : ∀ (P : Prop) [Decidable P], ((if P then (1 : Int) else 0) = 1) = P := fun P _ => propext ⟨fun h => by
    by_cases q : P
    · exact q
    · rw [if_neg q] at h; omega, fun h => if_pos h⟩
  unfold yeF gHold
  simp only [i1]
  rfl

set_option maxHeartbeats 8000000 in
theorem c_X12_ask {G : Gx} {σ0 σ : Sg} {c p x : Int} (hσ : σ = sI σ0 82 0 0) (hT : MT σ) (hB : MB σ) (hW : MW σ) (hM : MN σ) (h44 : σ.1 82 44 = 0) (h45 : R32 (σ.1 82 45)) (hc : R32 c) (hp : R32 p) (hx : R32 x) : Con G 11 mX12_ask [.ref (G.2.2.2 + 82), .int (iZ c), .int (iZ p), .int (iZ x)] σ0 (pI (fun z σ' => (¬ ((0 ≤ c ∧ c < σ.1 84 2) ∧ (0 ≤ p ∧ p < σ.1 84 1) ∧ 0 ≤ x ∧ x ≤ 1) ∧ z = -1 ∧ σ' = σ) ∨ (((0 ≤ c ∧ c < σ.1 84 2) ∧ (0 ≤ p ∧ p < σ.1 84 1) ∧ 0 ≤ x ∧ x ≤ 1) ∧ (∃ b, akB (woN (σ.1 86) (σ.1 87) (m20 σ c) (zb (fun k => fitB (fitM σ c (k + 1))) 30) p (σ.1 84 0)) ((σ.1 84 0) * (σ.1 84 0)) b ∧ z = if x = 0 then 100 * (b / (σ.1 84 0)) + b % (σ.1 84 0) else (woN (σ.1 86) (σ.1 87) (m20 σ c) (zb (fun k => fitB (fitM σ c (k + 1))) 30) p (σ.1 84 0)) b) ∧ Qn σ σ' ∧ (∀ k, 0 ≤ k → k < 24 → σ'.1 118 k = 0 ∨ σ'.1 118 k = 1)))) := by
  obtain ⟨hzz, hnp, hnc, hnb, hrn, hsd, hrw, hrq, hch, hbt, hck⟩ := id hT
  refine e_entry om_X12_ask (Nat.le_of_ble_eq_true rfl) (L := [some (.ref (G.2.2.2 + 82)), some (.int (iZ c)), some (.int (iZ p)), some (.int (iZ x)), none, none, none, none, none, none, none, none]) rfl ?_
  refine e_aload_n (q := 1) (i := 0) dX12_ask_0 rfl rfl rfl ?_
  refine e_iconst (q := 2) dX12_ask_1 rfl ?_
  refine e_putI (q := 5) (jz := 0) dX12_ask_2 rfl fp_X12_136 rfl (by first | assumption | rfl) rfl ?_
  rw [← hσ]
  refine e_aload_n (q := 6) (i := 0) dX12_ask_5 rfl rfl rfl ?_
  refine e_iload_n (q := 7) (i := 1) dX12_ask_6 rfl rfl rfl ?_
  refine e_Vip (q := 10) (vs := [_]) ok_X12_isChild ml_X12_402 dX12_ask_7 rfl ⟨_, _, rfl⟩ (by first | assumption | rfl) rfl rfl (Nat.le_of_ble_eq_true rfl) (by decide) (c_X12_isChild hT (by assumption)) ?_
  refine e_if_eq (q := 13) (tgt := 30) dX12_ask_10 rfl (by decide) (fun c10 => ?_) (fun c10 => ?_)
  · refine e_iconst (q := 31) dX12_ask_30 rfl ?_
    exact r_i dX12_ask_31 rfl (Or.inl ⟨by omega, rfl, rfl⟩)
  · refine e_aload_n (q := 14) (i := 0) dX12_ask_13 rfl rfl rfl ?_
    refine e_iload_n (q := 15) (i := 2) dX12_ask_14 rfl rfl rfl ?_
    refine e_Vip (q := 18) (vs := [_]) ok_X12_isParish ml_X12_396 dX12_ask_15 rfl ⟨_, _, rfl⟩ (by first | assumption | rfl) rfl rfl (Nat.le_of_ble_eq_true rfl) (by decide) (c_X12_isParish hT (by assumption)) ?_
    refine e_if_eq (q := 21) (tgt := 30) dX12_ask_18 rfl (by decide) (fun c18 => ?_) (fun c18 => ?_)
    · refine e_iconst (q := 31) dX12_ask_30 rfl ?_
      exact r_i dX12_ask_31 rfl (Or.inl ⟨by omega, rfl, rfl⟩)
    · refine e_iload_n (q := 22) (i := 3) dX12_ask_21 rfl rfl rfl ?_
      refine e_if_lt (q := 25) (tgt := 30) dX12_ask_22 rfl (by decide) (fun c22 => ?_) (fun c22 => ?_)
      · refine e_iconst (q := 31) dX12_ask_30 rfl ?_
        exact r_i dX12_ask_31 rfl (Or.inl ⟨by omega, rfl, rfl⟩)
      · refine e_iload_n (q := 26) (i := 3) dX12_ask_25 rfl rfl rfl ?_
        refine e_iconst (q := 27) dX12_ask_26 rfl ?_
        refine e_icmp_le (q := 30) (tgt := 32) dX12_ask_27 rfl (by decide) (fun c27 => ?_) (fun c27 => ?_)
        · refine e_aload_n (q := 33) (i := 0) dX12_ask_32 rfl rfl rfl ?_
          refine e_iload_n (q := 34) (i := 1) dX12_ask_33 rfl rfl rfl ?_
          refine e_Vi (q := 37) (vs := [_]) ok_X12_legsFor ml_X12_502 dX12_ask_34 rfl ⟨_, _, rfl⟩ (by first | assumption | rfl) rfl rfl (Nat.le_of_ble_eq_true rfl) (by decide) (c_X12_legsFor hT hB hW hM h44 h45 (by omega) (by omega)) (fun z34 s34 h34 => ?_)
          obtain ⟨hz, hq0, h8⟩ := h34
          rw [hz]
          have hzl := zb_lt (fun k => fitB (fitM σ c (k + 1))) (i := 30)
          rw [show (2 : Int) ^ (30 : Int).toNat = 1073741824 by decide] at hzl
          have hKK : ((0 ≤ c ∧ c < σ.1 84 2) ∧ (0 ≤ p ∧ p < σ.1 84 1) ∧ 0 ≤ x ∧ x ≤ 1) := by omega
          refine e_istore (q := 39) (L' := [_, _, _, _, _, _, _, _, _, _, _, _]) dX12_ask_37 rfl (by decide) rfl rfl ?_
          refine e_iconst (q := 40) dX12_ask_39 rfl ?_
          refine e_istore (q := 42) (L' := [_, _, _, _, _, _, _, _, _, _, _, _]) dX12_ask_40 rfl (by decide) rfl rfl ?_
          have la : ∀ (n : Nat) (τ : Sg) (i : Int) (x6 : Option Value), 0 ≤ i → i + n = 30 → Qg σ τ → τ.1 118 = s34.1 118 → (∀ k j, 0 ≤ k → k < i → 0 ≤ j → j < 4 → τ.1 119 (4 * k + j) = sdV σ c p (k + 1) j ∧ R32 (sdV σ c p (k + 1) j)) → J G 11 mX12_ask (pI (fun z σ' => (¬ ((0 ≤ c ∧ c < σ.1 84 2) ∧ (0 ≤ p ∧ p < σ.1 84 1) ∧ 0 ≤ x ∧ x ≤ 1) ∧ z = -1 ∧ σ' = σ) ∨ (((0 ≤ c ∧ c < σ.1 84 2) ∧ (0 ≤ p ∧ p < σ.1 84 1) ∧ 0 ≤ x ∧ x ≤ 1) ∧ (∃ b, akB (woN (σ.1 86) (σ.1 87) (m20 σ c) (zb (fun k => fitB (fitM σ c (k + 1))) 30) p (σ.1 84 0)) ((σ.1 84 0) * (σ.1 84 0)) b ∧ z = if x = 0 then 100 * (b / (σ.1 84 0)) + b % (σ.1 84 0) else (woN (σ.1 86) (σ.1 87) (m20 σ c) (zb (fun k => fitB (fitM σ c (k + 1))) 30) p (σ.1 84 0)) b) ∧ Qn σ σ' ∧ (∀ k, 0 ≤ k → k < 24 → σ'.1 118 k = 0 ∨ σ'.1 118 k = 1)))) τ 42 [some (.ref (G.2.2.2 + 82)), some (.int (iZ c)), some (.int (iZ p)), some (.int (iZ x)), some (.int (iZ (zb (fun k => fitB (fitM σ c (k + 1))) 30))), some (.int (iZ i)), x6, none, none, none, none, none] [] := by
            intro n
            induction n with
            | zero =>
              intro τ i x6 h0 hn hq e8 hS
              refine e_iload (q := 44) dX12_ask_42 rfl rfl ?_
              refine e_bipush (q := 46) dX12_ask_44 rfl (by decide) ?_
              refine e_icmp_ge (q := 49) (tgt := 105) dX12_ask_46 rfl (by decide) (fun c46 => ?_) (fun c46 => absurd (by omega) c46)
              refine e_iload (q := 107) dX12_ask_105 rfl rfl ?_
              refine e_Sip (q := 110) (vs := [_]) ok_X12_bitsOf ml_X12_421 dX12_ask_107 rfl rfl rfl (Nat.le_of_ble_eq_true rfl) (by decide) (c_X12_bitsOf hzl.1 (by omega)) ?_
              refine e_istore (q := 112) (L' := [_, _, _, _, _, _, _, _, _, _, _, _]) dX12_ask_110 rfl (by decide) rfl rfl ?_
              refine e_iconst (q := 113) dX12_ask_112 rfl ?_
              refine e_istore (q := 115) (L' := [_, _, _, _, _, _, _, _, _, _, _, _]) dX12_ask_113 rfl (by decide) rfl rfl ?_
              refine e_iconst (q := 116) dX12_ask_115 rfl ?_
              refine e_istore (q := 118) (L' := [_, _, _, _, _, _, _, _, _, _, _, _]) dX12_ask_116 rfl (by decide) rfl rfl ?_
              refine e_iconst (q := 119) dX12_ask_118 rfl ?_
              refine e_istore (q := 121) (L' := [_, _, _, _, _, _, _, _, _, _, _, _]) dX12_ask_119 rfl (by decide) rfl rfl ?_
              have e84 : τ.1 84 0 = (σ.1 84 0) := by rw [hq.c (by decide) (by decide)]
              have hS2 : ∀ k j, 0 ≤ k → k < 30 → 0 ≤ j → j < 4 → τ.1 119 (4 * k + j) = sdV σ c p (k + 1) j := fun k j a b d f => (hS k j a (by omega) d f).1
              have hR2 : ∀ i, 0 ≤ i → i < 120 → R32 (τ.1 119 i) := fun j a b => by
                have := hS (j / 4) (j % 4) (by omega) (by omega) (by omega) (by omega)
                rw [show 4 * (j / 4) + j % 4 = j by omega] at this
                rw [this.1]
                exact this.2
              have lb : ∀ (n : Nat) (r be le : Int) (x9 x10 x11 : Option Value), 0 ≤ r → r + n = (σ.1 84 0) → AkS (woN (σ.1 86) (σ.1 87) (m20 σ c) (zb (fun k => fitB (fitM σ c (k + 1))) 30) p (σ.1 84 0)) (σ.1 84 0) (r * (σ.1 84 0)) (be = -1) le be → J G 11 mX12_ask (pI (fun z σ' => (¬ ((0 ≤ c ∧ c < σ.1 84 2) ∧ (0 ≤ p ∧ p < σ.1 84 1) ∧ 0 ≤ x ∧ x ≤ 1) ∧ z = -1 ∧ σ' = σ) ∨ (((0 ≤ c ∧ c < σ.1 84 2) ∧ (0 ≤ p ∧ p < σ.1 84 1) ∧ 0 ≤ x ∧ x ≤ 1) ∧ (∃ b, akB (woN (σ.1 86) (σ.1 87) (m20 σ c) (zb (fun k => fitB (fitM σ c (k + 1))) 30) p (σ.1 84 0)) ((σ.1 84 0) * (σ.1 84 0)) b ∧ z = if x = 0 then 100 * (b / (σ.1 84 0)) + b % (σ.1 84 0) else (woN (σ.1 86) (σ.1 87) (m20 σ c) (zb (fun k => fitB (fitM σ c (k + 1))) 30) p (σ.1 84 0)) b) ∧ Qn σ σ' ∧ (∀ k, 0 ≤ k → k < 24 → σ'.1 118 k = 0 ∨ σ'.1 118 k = 1)))) τ 121 [some (.ref (G.2.2.2 + 82)), some (.int (iZ c)), some (.int (iZ p)), some (.int (iZ x)), some (.int (iZ (zb (fun k => fitB (fitM σ c (k + 1))) 30))), some (.int (iZ (bts (zb (fun k => fitB (fitM σ c (k + 1))) 30)))), some (.int (iZ be)), some (.int (iZ le)), some (.int (iZ r)), x9, x10, x11] [] := by
                intro n
                induction n with
                | zero =>
                  intro r be le x9 x10 x11 h0 hn hA
                  refine e_iload (q := 123) dX12_ask_121 rfl rfl ?_
                  refine e_aload_n (q := 124) (i := 0) dX12_ask_123 rfl rfl rfl ?_
                  refine e_getR (q := 127) dX12_ask_124 rfl fg_X12_13 (by first | assumption | rfl) rfl ?_
                  refine e_iconst (q := 128) dX12_ask_127 rfl ?_
                  refine e_iald (q := 129) dX12_ask_128 rfl (by first | assumption | rfl) ?_
                  rw [e84]
                  refine e_icmp_ge (q := 132) (tgt := 212) dX12_ask_129 rfl (by decide) (fun c129 => ?_) (fun c129 => absurd (by omega) c129)
                  obtain ⟨b, hb, hle, hbe⟩ : ∃ b, akB (woN (σ.1 86) (σ.1 87) (m20 σ c) (zb (fun k => fitB (fitM σ c (k + 1))) 30) p (σ.1 84 0)) ((σ.1 84 0) * (σ.1 84 0)) b ∧ le = (woN (σ.1 86) (σ.1 87) (m20 σ c) (zb (fun k => fitB (fitM σ c (k + 1))) 30) p (σ.1 84 0)) b ∧ be = 100 * (b / (σ.1 84 0)) + b % (σ.1 84 0) := by
                    rcases hA with ⟨q1, q2⟩ | q
                    · have h25 := Int.mul_le_mul (show (5 : Int) ≤ r by omega) (show (5 : Int) ≤ (σ.1 84 0) by omega) (by decide) (by omega)
                      omega
                    · rw [show r = (σ.1 84 0) by omega] at q
                      exact q
                  refine e_iload_n (q := 213) (i := 3) dX12_ask_212 rfl rfl rfl ?_
                  refine e_if_ne (q := 216) (tgt := 221) dX12_ask_213 rfl (by decide) (fun c213 => ?_) (fun c213 => ?_)
                  · refine e_iload (q := 223) dX12_ask_221 rfl rfl ?_
                    exact r_i dX12_ask_223 rfl (Or.inr ⟨hKK, ⟨b, hb, by rw [if_neg c213]; exact hle⟩, hq.qn, fun k a b => by rw [e8]; exact h8 k a b⟩)
                  · refine e_iload (q := 218) dX12_ask_216 rfl rfl ?_
                    refine e_goto (tgt := 223) dX12_ask_218 (by decide) ?_
                    exact r_i dX12_ask_223 rfl (Or.inr ⟨hKK, ⟨b, hb, by rw [if_pos c213]; exact hbe⟩, hq.qn, fun k a b => by rw [e8]; exact h8 k a b⟩)
                | succ n ih =>
                  intro r be le x9 x10 x11 h0 hn hA
                  refine e_iload (q := 123) dX12_ask_121 rfl rfl ?_
                  refine e_aload_n (q := 124) (i := 0) dX12_ask_123 rfl rfl rfl ?_
                  refine e_getR (q := 127) dX12_ask_124 rfl fg_X12_13 (by first | assumption | rfl) rfl ?_
                  refine e_iconst (q := 128) dX12_ask_127 rfl ?_
                  refine e_iald (q := 129) dX12_ask_128 rfl (by first | assumption | rfl) ?_
                  rw [e84]
                  refine e_icmp_ge (q := 132) (tgt := 212) dX12_ask_129 rfl (by decide) (fun c129 => absurd c129 (by omega)) (fun c129 => ?_)
                  refine e_iconst (q := 133) dX12_ask_132 rfl ?_
                  refine e_istore (q := 135) (L' := [_, _, _, _, _, _, _, _, _, _, _, _]) dX12_ask_133 rfl (by decide) rfl rfl ?_
                  have hK0 : ∀ j, 0 ≤ j → 0 ≤ r * (σ.1 84 0) + j := fun j a => Int.add_nonneg (Int.mul_nonneg h0 (by omega)) a
                  have lq : ∀ (k : Nat) (e be le : Int) (x10 x11 : Option Value), 0 ≤ e → e + k = (σ.1 84 0) → AkS (woN (σ.1 86) (σ.1 87) (m20 σ c) (zb (fun k => fitB (fitM σ c (k + 1))) 30) p (σ.1 84 0)) (σ.1 84 0) (r * (σ.1 84 0) + e) (be = -1) le be → J G 11 mX12_ask (pI (fun z σ' => (¬ ((0 ≤ c ∧ c < σ.1 84 2) ∧ (0 ≤ p ∧ p < σ.1 84 1) ∧ 0 ≤ x ∧ x ≤ 1) ∧ z = -1 ∧ σ' = σ) ∨ (((0 ≤ c ∧ c < σ.1 84 2) ∧ (0 ≤ p ∧ p < σ.1 84 1) ∧ 0 ≤ x ∧ x ≤ 1) ∧ (∃ b, akB (woN (σ.1 86) (σ.1 87) (m20 σ c) (zb (fun k => fitB (fitM σ c (k + 1))) 30) p (σ.1 84 0)) ((σ.1 84 0) * (σ.1 84 0)) b ∧ z = if x = 0 then 100 * (b / (σ.1 84 0)) + b % (σ.1 84 0) else (woN (σ.1 86) (σ.1 87) (m20 σ c) (zb (fun k => fitB (fitM σ c (k + 1))) 30) p (σ.1 84 0)) b) ∧ Qn σ σ' ∧ (∀ k, 0 ≤ k → k < 24 → σ'.1 118 k = 0 ∨ σ'.1 118 k = 1)))) τ 135 [some (.ref (G.2.2.2 + 82)), some (.int (iZ c)), some (.int (iZ p)), some (.int (iZ x)), some (.int (iZ (zb (fun k => fitB (fitM σ c (k + 1))) 30))), some (.int (iZ (bts (zb (fun k => fitB (fitM σ c (k + 1))) 30)))), some (.int (iZ be)), some (.int (iZ le)), some (.int (iZ r)), some (.int (iZ e)), x10, x11] [] := by
                    intro k
                    induction k with
                    | zero =>
                      intro e be le x10 x11 h3 h4 hA
                      refine e_iload (q := 137) dX12_ask_135 rfl rfl ?_
                      refine e_aload_n (q := 138) (i := 0) dX12_ask_137 rfl rfl rfl ?_
                      refine e_getR (q := 141) dX12_ask_138 rfl fg_X12_13 (by first | assumption | rfl) rfl ?_
                      refine e_iconst (q := 142) dX12_ask_141 rfl ?_
                      refine e_iald (q := 143) dX12_ask_142 rfl (by first | assumption | rfl) ?_
                      rw [e84]
                      refine e_icmp_ge (q := 146) (tgt := 206) dX12_ask_143 rfl (by decide) (fun c143 => ?_) (fun c143 => absurd (by omega) c143)
                      refine e_iinc (q := 209) (L' := [_, _, _, _, _, _, _, _, _, _, _, _]) dX12_ask_206 rfl rfl (by decide) rfl rfl ?_
                      refine e_goto (tgt := 121) dX12_ask_209 (by decide) ?_
                      refine ih _ _ _ _ _ _ (by omega) (by omega) ?_
                      rw [show (r + 1) * (σ.1 84 0) = r * (σ.1 84 0) + e by rw [Int.add_mul, Int.one_mul]; omega]
                      exact hA
                    | succ k ih2 =>
                      intro e be le x10 x11 h3 h4 hA
                      refine e_iload (q := 137) dX12_ask_135 rfl rfl ?_
                      refine e_aload_n (q := 138) (i := 0) dX12_ask_137 rfl rfl rfl ?_
                      refine e_getR (q := 141) dX12_ask_138 rfl fg_X12_13 (by first | assumption | rfl) rfl ?_
                      refine e_iconst (q := 142) dX12_ask_141 rfl ?_
                      refine e_iald (q := 143) dX12_ask_142 rfl (by first | assumption | rfl) ?_
                      rw [e84]
                      refine e_icmp_ge (q := 146) (tgt := 206) dX12_ask_143 rfl (by decide) (fun c143 => absurd c143 (by omega)) (fun c143 => ?_)
                      refine e_aload_n (q := 147) (i := 0) dX12_ask_146 rfl rfl rfl ?_
                      refine e_iload (q := 149) dX12_ask_147 rfl rfl ?_
                      refine e_iload (q := 151) dX12_ask_149 rfl rfl ?_
                      refine e_iload (q := 153) dX12_ask_151 rfl rfl ?_
                      refine e_Vip (q := 156) (vs := [_, _, _]) ok_X12_yesOf ml_X12_505 dX12_ask_153 rfl ⟨_, _, rfl⟩ (by first | assumption | rfl) rfl rfl (Nat.le_of_ble_eq_true rfl) (by decide) (c_X12_yesOf hzl.1 hzl.2 ⟨by omega, by omega⟩ ⟨by omega, by omega⟩ hR2) ?_
                      rw [ye_sd (r := r) (e := e) hS2]
                      have hyi := yeN_in (σ.1 86) (σ.1 87) (m20 σ c) (zb (fun k => fitB (fitM σ c (k + 1))) 30) p r e
                      have hbv := bts_in (zb (fun k => fitB (fitM σ c (k + 1))) 30)
                      have hrc := rc_div (r := r) h3 (show e < (σ.1 84 0) by omega)
                      have eW : (woN (σ.1 86) (σ.1 87) (m20 σ c) (zb (fun k => fitB (fitM σ c (k + 1))) 30) p (σ.1 84 0)) (r * (σ.1 84 0) + e) = max (yeN (σ.1 86) (σ.1 87) (m20 σ c) (zb (fun k => fitB (fitM σ c (k + 1))) 30) p r e) (bts (zb (fun k => fitB (fitM σ c (k + 1))) 30) - yeN (σ.1 86) (σ.1 87) (m20 σ c) (zb (fun k => fitB (fitM σ c (k + 1))) 30) p r e) := by
                        unfold woN
                        rw [hrc.1, hrc.2]
                      obtain ⟨yy, hyy⟩ : ∃ yy, yy = yeN (σ.1 86) (σ.1 87) (m20 σ c) (zb (fun k => fitB (fitM σ c (k + 1))) 30) p r e := ⟨_, rfl⟩
                      rw [← hyy] at hyi ⊢
                      rw [← hyy] at eW
                      have hW30 : 0 ≤ (woN (σ.1 86) (σ.1 87) (m20 σ c) (zb (fun k => fitB (fitM σ c (k + 1))) 30) p (σ.1 84 0)) (r * (σ.1 84 0) + e) ∧ (woN (σ.1 86) (σ.1 87) (m20 σ c) (zb (fun k => fitB (fitM σ c (k + 1))) 30) p (σ.1 84 0)) (r * (σ.1 84 0) + e) ≤ 30 := by rw [eW]; omega
                      have hbe : (r * (σ.1 84 0) + e = 0 ∧ be = -1) ∨ (0 ≤ be ∧ be ≤ 10000 ∧ 0 ≤ le ∧ le ≤ 30 ∧ r * (σ.1 84 0) + e ≠ 0) := by
                        rcases hA with ⟨q1, q2⟩ | ⟨b, ⟨b0, b1, -, -⟩, q, q2⟩
                        · exact Or.inl ⟨q1, q2⟩
                        · refine Or.inr ?_
                          have hd := Int.ediv_nonneg b0 (show (0 : Int) ≤ (σ.1 84 0) by omega)
                          have hm0 := Int.emod_nonneg b (show (σ.1 84 0) ≠ 0 by omega)
                          have hm1 := Int.emod_lt_of_pos b (show 0 < (σ.1 84 0) by omega)
                          have hdl : b / (σ.1 84 0) < 40 := by
                            have h1 : r * (σ.1 84 0) + e < 40 * (σ.1 84 0) := by
                              have h2 : (r + 1) * (σ.1 84 0) ≤ 40 * (σ.1 84 0) := Int.mul_le_mul_of_nonneg_right (by omega) (by omega)
                              rw [Int.add_mul, Int.one_mul] at h2
                              omega
                            exact Int.ediv_lt_of_lt_mul (by omega) (by omega)
                          have hy := yeN_in (σ.1 86) (σ.1 87) (m20 σ c) (zb (fun k => fitB (fitM σ c (k + 1))) 30) p (b / (σ.1 84 0)) (b % (σ.1 84 0))
                          have hl : 0 ≤ le ∧ le ≤ 30 := by rw [q]; unfold woN; omega
                          exact ⟨by omega, by omega, hl.1, hl.2, by omega⟩
                      refine e_istore (q := 158) (L' := [_, _, _, _, _, _, _, _, _, _, _, _]) dX12_ask_156 rfl (by decide) rfl rfl ?_
                      refine e_iload (q := 160) dX12_ask_158 rfl rfl ?_
                      refine e_iload (q := 162) dX12_ask_160 rfl rfl ?_
                      refine e_iload (q := 164) dX12_ask_162 rfl rfl ?_
                      refine e_isub (q := 165) dX12_ask_164 rfl ?_
                      refine e_mmax (q := 168) dX12_ask_165 rfl ml_X12_332 mw_max_s mw_max_c mw_init (Nat.le_of_ble_eq_true rfl) (by decide) ?_
                      refine e_istore (q := 170) (L' := [_, _, _, _, _, _, _, _, _, _, _, _]) dX12_ask_168 rfl (by decide) rfl rfl ?_
                      refine e_iload (q := 172) dX12_ask_170 rfl rfl ?_
                      refine e_iconst (q := 173) dX12_ask_172 rfl ?_
                      refine e_icmp_eq (q := 176) (tgt := 186) dX12_ask_173 rfl (by decide) (fun c173 => ?_) (fun c173 => ?_) (hx := by rcases hbe with q | q; exact ⟨by omega, by omega⟩; exact ⟨by omega, by omega⟩)
                      · refine e_bipush (q := 188) dX12_ask_186 rfl (by decide) ?_
                        refine e_iload (q := 190) dX12_ask_188 rfl rfl ?_
                        refine e_imul (q := 191) dX12_ask_190 rfl ?_
                        refine e_iload (q := 193) dX12_ask_191 rfl rfl ?_
                        refine e_iadd (q := 194) dX12_ask_193 rfl ?_
                        refine e_istore (q := 196) (L' := [_, _, _, _, _, _, _, _, _, _, _, _]) dX12_ask_194 rfl (by decide) rfl rfl ?_
                        refine e_iload (q := 198) dX12_ask_196 rfl rfl ?_
                        refine e_istore (q := 200) (L' := [_, _, _, _, _, _, _, _, _, _, _, _]) dX12_ask_198 rfl (by decide) rfl rfl ?_
                        refine e_iinc (q := 203) (L' := [_, _, _, _, _, _, _, _, _, _, _, _]) dX12_ask_200 rfl rfl (by decide) rfl rfl ?_
                        refine e_goto (tgt := 135) dX12_ask_203 (by decide) ?_
                        have hup := AkS_up hA (hK0 e h3) (fun _ => by rcases hbe with q | q; omega; omega)
                        refine ih2 _ _ _ _ _ (by omega) (by omega) ?_
                        rw [show r * (σ.1 84 0) + (e + 1) = r * (σ.1 84 0) + e + 1 by omega]
                        refine Or.inr ?_
                        rcases hup with ⟨u1, -⟩ | u
                        · have := hK0 e h3; omega
                        · rw [hrc.1, hrc.2] at u
                          rw [← eW]
                          exact u
                      · refine e_iload (q := 178) dX12_ask_176 rfl rfl ?_
                        refine e_iload (q := 180) dX12_ask_178 rfl rfl ?_
                        have hbe2 : 0 ≤ le ∧ le ≤ 30 ∧ r * (σ.1 84 0) + e ≠ 0 := by
                          rcases hbe with q | q
                          · omega
                          · exact ⟨by omega, by omega, by omega⟩
                        refine e_icmp_lt (q := 183) (tgt := 186) dX12_ask_180 rfl (by decide) (fun c180 => ?_) (fun c180 => ?_) (hx := ⟨by omega, by omega⟩) (hy := ⟨by omega, by omega⟩)
                        · refine e_bipush (q := 188) dX12_ask_186 rfl (by decide) ?_
                          refine e_iload (q := 190) dX12_ask_188 rfl rfl ?_
                          refine e_imul (q := 191) dX12_ask_190 rfl ?_
                          refine e_iload (q := 193) dX12_ask_191 rfl rfl ?_
                          refine e_iadd (q := 194) dX12_ask_193 rfl ?_
                          refine e_istore (q := 196) (L' := [_, _, _, _, _, _, _, _, _, _, _, _]) dX12_ask_194 rfl (by decide) rfl rfl ?_
                          refine e_iload (q := 198) dX12_ask_196 rfl rfl ?_
                          refine e_istore (q := 200) (L' := [_, _, _, _, _, _, _, _, _, _, _, _]) dX12_ask_198 rfl (by decide) rfl rfl ?_
                          refine e_iinc (q := 203) (L' := [_, _, _, _, _, _, _, _, _, _, _, _]) dX12_ask_200 rfl rfl (by decide) rfl rfl ?_
                          refine e_goto (tgt := 135) dX12_ask_203 (by decide) ?_
                          have hup := AkS_up hA (hK0 e h3) (fun _ => by rw [eW]; exact c180)
                          refine ih2 _ _ _ _ _ (by omega) (by omega) ?_
                          rw [show r * (σ.1 84 0) + (e + 1) = r * (σ.1 84 0) + e + 1 by omega]
                          refine Or.inr ?_
                          rcases hup with ⟨u1, -⟩ | u
                          · have := hK0 e h3; omega
                          · rw [hrc.1, hrc.2] at u
                            rw [← eW]
                            exact u
                        · refine e_goto (tgt := 200) dX12_ask_183 (by decide) ?_
                          refine e_iinc (q := 203) (L' := [_, _, _, _, _, _, _, _, _, _, _, _]) dX12_ask_200 rfl rfl (by decide) rfl rfl ?_
                          refine e_goto (tgt := 135) dX12_ask_203 (by decide) ?_
                          refine ih2 _ _ _ _ _ (by omega) (by omega) ?_
                          rw [show r * (σ.1 84 0) + (e + 1) = r * (σ.1 84 0) + e + 1 by omega]
                          exact AkS_no hA (fun q => absurd q hbe2.2.2) (by rw [eW]; omega)
                  exact lq ((σ.1 84 0)).toNat 0 _ _ _ _ (by decide) (by omega) (by rw [Int.add_zero]; exact hA)
              exact lb ((σ.1 84 0)).toNat 0 (-1) 0 _ _ _ (by decide) (by omega) (Or.inl ⟨by rw [Int.zero_mul], rfl⟩)
            | succ n ih =>
              intro τ i x6 h0 hn hq e8 hS
              refine e_iload (q := 44) dX12_ask_42 rfl rfl ?_
              refine e_bipush (q := 46) dX12_ask_44 rfl (by decide) ?_
              refine e_icmp_ge (q := 49) (tgt := 105) dX12_ask_46 rfl (by decide) (fun c46 => absurd c46 (by omega)) (fun c46 => ?_)
              refine e_aload_n (q := 50) (i := 0) dX12_ask_49 rfl rfl rfl ?_
              refine e_iload_n (q := 51) (i := 1) dX12_ask_50 rfl rfl rfl ?_
              refine e_iload (q := 53) dX12_ask_51 rfl rfl ?_
              refine e_iconst (q := 54) dX12_ask_53 rfl ?_
              refine e_iadd (q := 55) dX12_ask_54 rfl ?_
              refine e_Vv (q := 58) (vs := [_, _]) ok_X12_startsWith ml_X12_493 dX12_ask_55 rfl ⟨_, _, rfl⟩ (by first | assumption | rfl) rfl rfl (Nat.le_of_ble_eq_true rfl) (by decide) (c_X12_startsWith (hq.mt hT) (by rw [hq.f (by decide)]; exact h44) (by rw [hq.f (by decide)]; exact h45) (by omega) (by omega) (by omega) (by omega)) (fun s55 h55 => ?_)
              refine e_aload_n (q := 59) (i := 0) dX12_ask_58 rfl rfl rfl ?_
              refine e_bipush (q := 61) dX12_ask_59 rfl (by decide) ?_
              refine e_Vv (q := 64) (vs := [_]) ok_X12_goesOn ml_X12_437 dX12_ask_61 rfl ⟨_, _, rfl⟩ (by first | assumption | rfl) rfl rfl (Nat.le_of_ble_eq_true rfl) (by decide) (c_X12_goesOnR (hq.mt hT) (hq.mw hW) (hq.mb hB) h55.1 (by decide) (by decide) (by show (0 : Int) + ((0 : Nat) : Int) + 20 ≤ 100000; decide)) (fun s61 h61 => ?_)
              obtain ⟨hR61, g44, g45⟩ := h61
              have hR61 : MR τ (τ.1 88) (-1) 0 0 0 (mYS τ c (i + 1)) (τ.1 84 5) 20 s61 := hR61
              have hq2 : Qg σ s61 := MR.qg hq hR61 (by rw [g44]; exact h55.2.1) (by rw [g45]; exact h55.2.2)
              have e119 : s61.1 119 = τ.1 119 := hR61.1.c (by decide)
              refine e_iconst (q := 65) dX12_ask_64 rfl ?_
              refine e_istore (q := 67) (L' := [_, _, _, _, _, _, _, _, _, _, _, _]) dX12_ask_65 rfl (by decide) rfl rfl ?_
              have ls : ∀ (k : Nat) (ρ : Sg) (j : Int), 0 ≤ j → j + k = 4 → Qg σ ρ → ρ.1 118 = s34.1 118 → MI ρ 1 → (∀ s, 0 ≤ s → s < 4 * σ.1 84 1 → mF ρ 1 s = m20 σ c (i + 1) s) → (∀ k j, 0 ≤ k → k < i → 0 ≤ j → j < 4 → ρ.1 119 (4 * k + j) = sdV σ c p (k + 1) j ∧ R32 (sdV σ c p (k + 1) j)) → (∀ t, 0 ≤ t → t < j → ρ.1 119 (4 * i + t) = sdV σ c p (i + 1) t ∧ R32 (sdV σ c p (i + 1) t)) → J G 11 mX12_ask (pI (fun z σ' => (¬ ((0 ≤ c ∧ c < σ.1 84 2) ∧ (0 ≤ p ∧ p < σ.1 84 1) ∧ 0 ≤ x ∧ x ≤ 1) ∧ z = -1 ∧ σ' = σ) ∨ (((0 ≤ c ∧ c < σ.1 84 2) ∧ (0 ≤ p ∧ p < σ.1 84 1) ∧ 0 ≤ x ∧ x ≤ 1) ∧ (∃ b, akB (woN (σ.1 86) (σ.1 87) (m20 σ c) (zb (fun k => fitB (fitM σ c (k + 1))) 30) p (σ.1 84 0)) ((σ.1 84 0) * (σ.1 84 0)) b ∧ z = if x = 0 then 100 * (b / (σ.1 84 0)) + b % (σ.1 84 0) else (woN (σ.1 86) (σ.1 87) (m20 σ c) (zb (fun k => fitB (fitM σ c (k + 1))) 30) p (σ.1 84 0)) b) ∧ Qn σ σ' ∧ (∀ k, 0 ≤ k → k < 24 → σ'.1 118 k = 0 ∨ σ'.1 118 k = 1)))) ρ 67 [some (.ref (G.2.2.2 + 82)), some (.int (iZ c)), some (.int (iZ p)), some (.int (iZ x)), some (.int (iZ (zb (fun k => fitB (fitM σ c (k + 1))) 30))), some (.int (iZ i)), some (.int (iZ j)), none, none, none, none, none] [] := by
                intro k
                induction k with
                | zero =>
                  intro ρ j h3 h4 hq e8 hI1 hm hS hT4
                  refine e_iload (q := 69) dX12_ask_67 rfl rfl ?_
                  refine e_iconst (q := 70) dX12_ask_69 rfl ?_
                  refine e_icmp_ge (q := 73) (tgt := 99) dX12_ask_70 rfl (by decide) (fun c70 => ?_) (fun c70 => absurd (by omega) c70)
                  refine e_iinc (q := 102) (L' := [_, _, _, _, _, _, _, _, _, _, _, _]) dX12_ask_99 rfl rfl (by decide) rfl rfl ?_
                  refine e_goto (tgt := 42) dX12_ask_102 (by decide) ?_
                  refine ih _ _ _ (by omega) (by omega) hq e8 (fun k t a b d f => ?_)
                  by_cases e : k = i
                  · subst e
                    exact hT4 t d (by omega)
                  · exact hS k t a (by omega) d f
                | succ k ih2 =>
                  intro ρ j h3 h4 hq e8 hI1 hm hS hT4
                  refine e_iload (q := 69) dX12_ask_67 rfl rfl ?_
                  refine e_iconst (q := 70) dX12_ask_69 rfl ?_
                  refine e_icmp_ge (q := 73) (tgt := 99) dX12_ask_70 rfl (by decide) (fun c70 => absurd c70 (by omega)) (fun c70 => ?_)
                  refine e_aload_n (q := 74) (i := 0) dX12_ask_73 rfl rfl rfl ?_
                  refine e_getR (q := 77) dX12_ask_74 rfl fg_X12_130 (by first | assumption | rfl) rfl ?_
                  refine e_iconst (q := 78) dX12_ask_77 rfl ?_
                  refine e_iload (q := 80) dX12_ask_78 rfl rfl ?_
                  refine e_imul (q := 81) dX12_ask_80 rfl ?_
                  refine e_iload (q := 83) dX12_ask_81 rfl rfl ?_
                  refine e_iadd (q := 84) dX12_ask_83 rfl ?_
                  refine e_aload_n (q := 85) (i := 0) dX12_ask_84 rfl rfl rfl ?_
                  refine e_iconst (q := 86) dX12_ask_85 rfl ?_
                  refine e_iload_n (q := 87) (i := 2) dX12_ask_86 rfl rfl rfl ?_
                  refine e_iload (q := 89) dX12_ask_87 rfl rfl ?_
                  refine e_Vip (q := 92) (vs := [_, _, _]) ok_X12_side ml_X12_326 dX12_ask_89 rfl ⟨_, _, rfl⟩ (by first | assumption | rfl) rfl rfl (Nat.le_of_ble_eq_true rfl) (by decide) (c_X12_side (by decide) (by decide) (by omega) (by omega) (by omega) (by omega)) ?_
                  rw [sd_side (j := j) hq (by omega) (by omega) hm]
                  have hsr : R32 (sdV σ c p (i + 1) j) := by
                    have := mSide_in (hq.mt hT) hI1 (show 0 ≤ p by omega) (show p < 4 by omega) j
                    rw [sd_side (j := j) hq (by omega) (by omega) hm] at this
                    exact ⟨by omega, by omega⟩
                  refine e_iast (q := 93) dX12_ask_92 rfl (by first | assumption | rfl) ?_
                  refine e_iinc (q := 96) (L' := [_, _, _, _, _, _, _, _, _, _, _, _]) dX12_ask_93 rfl rfl (by decide) rfl rfl ?_
                  refine e_goto (tgt := 67) dX12_ask_96 (by decide) ?_
                  refine ih2 _ _ (by omega) (by omega) (hq.s (Or.inr rfl) _ _) (by rw [sI_ne _ (by decide)]; exact e8) ?_ (fun s a b => ?_) (fun k t a b d f => ?_) (fun t a b => ?_)
                  · exact hI1.ld (ldm_ne (by decide) _ _ _)
                  · rw [mF_ne _ _ (by decide)]; exact hm s a b
                  · rw [sI_1, if_neg (by omega)]; exact hS k t a b d f
                  · rw [sI_1]
                    by_cases e : t = j
                    · rw [if_pos ⟨rfl, by omega⟩, e]; exact ⟨rfl, hsr⟩
                    · rw [if_neg (by omega)]; exact hT4 t a (by omega)
              exact ls 4 s61 0 (by decide) (by decide) hq2 (by rw [hR61.1.c (a := 118) (by decide)]; exact e8) hR61.2.2.2.2.2.2.1 (fun s a b => by have h9 := hR61.2.2.2.2.1.1 s a (by rw [hq.c (by decide) (by decide)]; exact b); rw [mGn_qg hq] at h9; exact h9) (fun k t a b d f => by rw [e119]; exact hS k t a b d f) (fun t a b => absurd b (by omega))
          exact la 30 s34 0 _ (by decide) (by decide) hq0 rfl (fun k j a b => absurd b (by omega))
        · refine e_iconst (q := 31) dX12_ask_30 rfl ?_
          exact r_i dX12_ask_31 rfl (Or.inl ⟨by omega, rfl, rfl⟩)

