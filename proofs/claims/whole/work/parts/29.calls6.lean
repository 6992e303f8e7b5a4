theorem pw_mul (j : Nat) : ∀ n : Nat, j < n → ∃ m : Int, (2 : Int) ^ n = 2 ^ j * (2 * m)
  | 0, h => by omega
  | n + 1, h => by
    by_cases e : j = n
    · subst e
      exact ⟨1, by rw [Int.pow_succ]; omega⟩
    · obtain ⟨m, hm⟩ := pw_mul j n (by omega)
      exact ⟨2 * m, by rw [Int.pow_succ, hm, Int.mul_assoc]; congr 1; omega⟩
theorem zbits_bit (f : Int → Int) : ∀ n j : Nat, j < n → zbits f n / 2 ^ j % 2 = if f j = 1 then 1 else 0
  | 0, j, h => by omega
  | n + 1, j, h => by
    have hl := zbits_lt f n
    have hp : (0 : Int) < 2 ^ j := by exact Int.pow_pos (by decide)
    simp only [zbits]
    by_cases e : j = n
    · subst e
      by_cases q : f j = 1
      · rw [if_pos q, if_pos q]
        rw [show zbits f j + 2 ^ j = zbits f j + 2 ^ j * 1 by omega, Int.add_mul_ediv_left _ _ (by omega), Int.ediv_eq_zero_of_lt hl.1 hl.2]
        decide
      · rw [if_neg q, if_neg q, Int.add_zero, Int.ediv_eq_zero_of_lt hl.1 hl.2]
        decide
    · have ih := zbits_bit f n j (by omega)
      obtain ⟨m, hm⟩ := pw_mul j n (by omega)
      by_cases q : f n = 1
      · rw [if_pos q, hm, Int.add_mul_ediv_left _ _ (by omega), ← ih]
        omega
      · rw [if_neg q, Int.add_zero]
        exact ih
theorem zsum_01 {f : Int → Int} (h : ∀ t, f t = 0 ∨ f t = 1) : ∀ n : Nat, 0 ≤ zsum f n ∧ zsum f n ≤ n
  | 0 => ⟨Int.le_refl 0, Int.le_refl 0⟩
  | n + 1 => by
    have ih := zsum_01 h n
    have g := h n
    simp only [zsum]
    omega
theorem zs_01 {f : Int → Int} (h : ∀ t, f t = 0 ∨ f t = 1) {n : Int} (hn : 0 ≤ n) : 0 ≤ zs f n ∧ zs f n ≤ n := by
  have := zsum_01 h n.toNat
  unfold zs
  omega
theorem zb_bit (f : Int → Int) {n j : Int} (h0 : 0 ≤ j) (h1 : j < n) : zb f n / 2 ^ j.toNat % 2 = if f j = 1 then 1 else 0 := by
  have := zbits_bit f n.toNat j.toNat (by omega)
  unfold zb
  rw [this]
  congr 2
  rw [Int.toNat_of_nonneg h0]
def gRf (σ : Sg) (p q i : Int) : Int := gRest (gOv (σ.1 3) (σ.1 4) (σ.1 40) p q) (gArea (σ.1 3) (σ.1 4) (σ.1 40) p) (gArea (σ.1 3) (σ.1 4) (σ.1 40) q) (i / 2) (i % 2)
theorem gRf_01 (σ : Sg) (p q i : Int) : gRf σ p q i = 0 ∨ gRf σ p q i = 1 := by unfold gRf gRest; split <;> simp

set_option maxHeartbeats 8000000 in
theorem c_X11_rest {G : Gx} {σ : Sg} {p q k : Int} (hT : TI σ) (hI : LI σ 39) (hp : R32 p) (hq : R32 q) (hk : R32 k) : Con G 6 mX11_rest [.ref (G.2.2.2 + 0), .int (iZ p), .int (iZ q), .int (iZ k)] σ (pI (fun z σ' => ((¬ (((0 ≤ p ∧ p < σ.1 2 2) ∧ (0 ≤ q ∧ q < σ.1 2 2) ∧ p ≠ q) ∧ 0 ≤ k) ∧ z = -1) ∨ ((((0 ≤ p ∧ p < σ.1 2 2) ∧ (0 ≤ q ∧ q < σ.1 2 2) ∧ p ≠ q) ∧ 0 ≤ k) ∧ ((z = -2 ∧ ∀ i, 0 ≤ i → i < 4 → ¬ ((gRf σ p q) i = 1 ∧ zs (gRf σ p q) i = k)) ∨ ∃ i, 0 ≤ i ∧ i < 4 ∧ (gRf σ p q) i = 1 ∧ zs (gRf σ p q) i = k ∧ z = 10 * (i / 2) + i % 2))) ∧ σ' = σ)) := by
  obtain ⟨hzz, -, hnp, hnc, hnb, hlb, hrn, hsd, hrw, hrq, hch, hbt, hck⟩ := id hT
  refine e_entry om_X11_rest (Nat.le_of_ble_eq_true rfl) (L := [some (.ref (G.2.2.2 + 0)), some (.int (iZ p)), some (.int (iZ q)), some (.int (iZ k)), none, none, none]) rfl ?_
  refine e_aload_n (q := 1) (i := 0) dX11_rest_0 rfl rfl rfl ?_
  refine e_iload_n (q := 2) (i := 1) dX11_rest_1 rfl rfl rfl ?_
  refine e_iload_n (q := 3) (i := 2) dX11_rest_2 rfl rfl rfl ?_
  refine e_Vip (q := 6) (vs := [_, _]) ok_X11_isPair ml_X11_193 dX11_rest_3 rfl ⟨_, _, rfl⟩ (by first | assumption | rfl) rfl rfl (Nat.le_of_ble_eq_true rfl) (by decide) (c_X11_isPair hT (by assumption) (by assumption)) ?_
  refine e_if_eq (q := 9) (tgt := 13) dX11_rest_6 rfl (by decide) (fun c6 => ?_) (fun c6 => ?_)
  · refine e_iconst (q := 14) dX11_rest_13 rfl ?_
    exact r_i dX11_rest_14 rfl ⟨Or.inl ⟨by omega, rfl⟩, rfl⟩
  · refine e_iload_n (q := 10) (i := 3) dX11_rest_9 rfl rfl rfl ?_
    refine e_if_ge (q := 13) (tgt := 15) dX11_rest_10 rfl (by decide) (fun c10 => ?_) (fun c10 => ?_)
    · refine e_aload_n (q := 16) (i := 0) dX11_rest_15 rfl rfl rfl ?_
      refine e_iload_n (q := 17) (i := 1) dX11_rest_16 rfl rfl rfl ?_
      refine e_iload_n (q := 18) (i := 2) dX11_rest_17 rfl rfl rfl ?_
      refine e_Vip (q := 21) (vs := [_, _]) ok_X11_restBits ml_X11_283 dX11_rest_18 rfl ⟨_, _, rfl⟩ (by first | assumption | rfl) rfl rfl (Nat.le_of_ble_eq_true rfl) (by decide) (c_X11_restBits hT hI (by omega) (by omega) (by omega) (by omega)) ?_
      refine e_istore (q := 23) (L' := [_, _, _, _, _, _, _]) dX11_rest_21 rfl (by decide) rfl rfl ?_
      refine e_iload_n (q := 24) (i := 3) dX11_rest_23 rfl rfl rfl ?_
      refine e_istore (q := 26) (L' := [_, _, _, _, _, _, _]) dX11_rest_24 rfl (by decide) rfl rfl ?_
      refine e_iconst (q := 27) dX11_rest_26 rfl ?_
      refine e_istore (q := 29) (L' := [_, _, _, _, _, _, _]) dX11_rest_27 rfl (by decide) rfl rfl ?_
      have hK : (((0 ≤ p ∧ p < σ.1 2 2) ∧ (0 ≤ q ∧ q < σ.1 2 2) ∧ p ≠ q) ∧ 0 ≤ k) := by omega
      have lp : ∀ (n : Nat) (i v : Int), 0 ≤ i → i + n = 4 → v = k - zs (gRf σ p q) i → (∀ j, 0 ≤ j → j < i → ¬ ((gRf σ p q) j = 1 ∧ zs (gRf σ p q) j = k)) → J G 6 mX11_rest (pI (fun z σ' => ((¬ (((0 ≤ p ∧ p < σ.1 2 2) ∧ (0 ≤ q ∧ q < σ.1 2 2) ∧ p ≠ q) ∧ 0 ≤ k) ∧ z = -1) ∨ ((((0 ≤ p ∧ p < σ.1 2 2) ∧ (0 ≤ q ∧ q < σ.1 2 2) ∧ p ≠ q) ∧ 0 ≤ k) ∧ ((z = -2 ∧ ∀ i, 0 ≤ i → i < 4 → ¬ ((gRf σ p q) i = 1 ∧ zs (gRf σ p q) i = k)) ∨ ∃ i, 0 ≤ i ∧ i < 4 ∧ (gRf σ p q) i = 1 ∧ zs (gRf σ p q) i = k ∧ z = 10 * (i / 2) + i % 2))) ∧ σ' = σ)) σ 29 [some (.ref (G.2.2.2 + 0)), some (.int (iZ p)), some (.int (iZ q)), some (.int (iZ k)), some (.int (iZ (zb (gRf σ p q) 4))), some (.int (iZ v)), some (.int (iZ i))] [] := by
        intro n
        induction n with
        | zero =>
          intro i v h0 hn hv hN
          refine e_iload (q := 31) dX11_rest_29 rfl rfl ?_
          refine e_iconst (q := 32) dX11_rest_31 rfl ?_
          refine e_icmp_ge (q := 35) (tgt := 72) dX11_rest_32 rfl (by decide) (fun c32 => ?_) (fun c32 => absurd (by omega) c32)
          refine e_bipush (q := 74) dX11_rest_72 rfl (by decide) ?_
          exact r_i dX11_rest_74 rfl ⟨Or.inr ⟨hK, Or.inl ⟨rfl, fun j a b => hN j a (by omega)⟩⟩, rfl⟩
        | succ n ih =>
          intro i v h0 hn hv hN
          refine e_iload (q := 31) dX11_rest_29 rfl rfl ?_
          refine e_iconst (q := 32) dX11_rest_31 rfl ?_
          refine e_icmp_ge (q := 35) (tgt := 72) dX11_rest_32 rfl (by decide) (fun c32 => absurd c32 (by omega)) (fun c32 => ?_)
          have hbt := zb_bit (gRf σ p q) (n := 4) h0 (by omega)
          have hb := zb_lt (gRf σ p q) (i := 4)
          have hp2 := p2_16 h0 (show i < 4 by omega)
          have hd0 := Int.ediv_nonneg hb.1 (show (0 : Int) ≤ 2 ^ i.toNat by omega)
          have hd1 := Int.ediv_le_self (2 ^ i.toNat) hb.1
          have h16 : (2 : Int) ^ (4 : Int).toNat = 16 := by decide
          have hg := gRf_01 σ p q i
          have hzl := zs_01 (f := (gRf σ p q)) (gRf_01 σ p q) h0
          refine e_iload (q := 37) dX11_rest_35 rfl rfl ?_
          refine e_iload (q := 39) dX11_rest_37 rfl rfl ?_
          refine e_ishr (q := 40) dX11_rest_39 rfl (iZ_shrk hb.1 (by omega) h0 (by omega)) ?_
          refine e_iconst (q := 41) dX11_rest_40 rfl ?_
          refine e_iand (q := 42) dX11_rest_41 rfl (iZ_and1 hd0 (by omega)) ?_
          refine e_if_eq (q := 45) (tgt := 66) dX11_rest_42 rfl (by decide) (fun c42 => ?_) (fun c42 => ?_) (hx := ⟨by omega, by omega⟩)
          · refine e_iinc (q := 69) (L' := [_, _, _, _, _, _, _]) dX11_rest_66 rfl rfl (by decide) rfl rfl ?_
            refine e_goto (tgt := 29) dX11_rest_69 (by decide) ?_
            have g0 : (gRf σ p q) i = 0 := by
              rcases hg with w | w
              · exact w
              · rw [hbt, if_pos w] at c42; omega
            refine ih _ _ (by omega) (by omega) (by rw [zs_succ _ h0]; rw [g0]; omega) (fun j a b => ?_)
            by_cases e : j = i
            · subst e
              intro w; rw [g0] at w; exact absurd w.1 (by decide)
            · exact hN j a (by omega)
          · refine e_iload (q := 47) dX11_rest_45 rfl rfl ?_
            refine e_if_ne (q := 50) (tgt := 63) dX11_rest_47 rfl (by decide) (fun c47 => ?_) (fun c47 => ?_) (hx := ⟨by omega, by omega⟩)
            · refine e_iinc (q := 66) (L' := [_, _, _, _, _, _, _]) dX11_rest_63 rfl rfl (by decide) rfl rfl ?_
              refine e_iinc (q := 69) (L' := [_, _, _, _, _, _, _]) dX11_rest_66 rfl rfl (by decide) rfl rfl ?_
              refine e_goto (tgt := 29) dX11_rest_69 (by decide) ?_
              have g1 : (gRf σ p q) i = 1 := by
                rcases hg with w | w
                · rw [hbt, if_neg (by rw [w]; decide)] at c42; exact absurd rfl c42
                · exact w
              refine ih _ _ (by omega) (by omega) (by rw [zs_succ _ h0]; rw [g1]; omega) (fun j a b => ?_)
              by_cases e : j = i
              · subst e
                intro w; omega
              · exact hN j a (by omega)
            · refine e_bipush (q := 52) dX11_rest_50 rfl (by decide) ?_
              refine e_iload (q := 54) dX11_rest_52 rfl rfl ?_
              refine e_iconst (q := 55) dX11_rest_54 rfl ?_
              refine e_idiv (q := 56) dX11_rest_55 rfl (by decide) (iZ_div (by omega) (by omega) (by omega) (by omega)) ?_
              refine e_imul (q := 57) dX11_rest_56 rfl ?_
              refine e_iload (q := 59) dX11_rest_57 rfl rfl ?_
              refine e_iconst (q := 60) dX11_rest_59 rfl ?_
              refine e_irem (q := 61) dX11_rest_60 rfl (by decide) (iZ_rem (by omega) (by omega) (by omega) (by omega)) ?_
              refine e_iadd (q := 62) dX11_rest_61 rfl ?_
              have hgi : gRf σ p q i = 1 := by
                rcases hg with w | w
                · rw [hbt, if_neg (by rw [w]; decide)] at c42; exact absurd rfl c42
                · exact w
              exact r_i dX11_rest_62 rfl ⟨Or.inr ⟨hK, Or.inr ⟨i, h0, by omega, hgi, by omega, rfl⟩⟩, rfl⟩
      exact lp 4 0 _ (by decide) (by decide) (by rw [zs_0]; omega) (fun j a b => absurd b (by omega))
    · refine e_iconst (q := 14) dX11_rest_13 rfl ?_
      exact r_i dX11_rest_14 rfl ⟨Or.inl ⟨by omega, rfl⟩, rfl⟩

theorem c_X11_commonWithHundred {G : Gx} {σ : Sg} {a : Int} (ha0 : 0 ≤ a) (ha1 : a ≤ 100) : Con G 1 mX11_commonWithHundred [.int (iZ a)] σ (pI (fun z σ' => (1 ≤ z ∧ z ≤ 100 ∧ a % z = 0 ∧ 100 % z = 0 ∧ ∀ d, z < d → d ≤ 100 → ¬ (a % d = 0 ∧ 100 % d = 0)) ∧ σ' = σ)) := by
  have lp : ∀ (n : Nat) (d : Int), 1 ≤ d → d = 1 + n → d ≤ 100 → (∀ e, d < e → e ≤ 100 → ¬ (a % e = 0 ∧ 100 % e = 0)) → J G 1 mX11_commonWithHundred (pI (fun z σ' => (1 ≤ z ∧ z ≤ 100 ∧ a % z = 0 ∧ 100 % z = 0 ∧ ∀ d, z < d → d ≤ 100 → ¬ (a % d = 0 ∧ 100 % d = 0)) ∧ σ' = σ)) σ 3 [some (.int (iZ a)), some (.int (iZ d))] [] := by
    intro n
    induction n with
    | zero =>
      intro d h0 hn hd hN
      refine e_iload_n (q := 4) (i := 1) dX11_commonWithHundred_3 rfl rfl rfl ?_
      refine e_iconst (q := 5) dX11_commonWithHundred_4 rfl ?_
      refine e_icmp_le (q := 8) (tgt := 29) dX11_commonWithHundred_5 rfl (by decide) (fun c5 => ?_) (fun c5 => absurd (by omega) c5)
      refine e_iconst (q := 30) dX11_commonWithHundred_29 rfl ?_
      exact r_i dX11_commonWithHundred_30 rfl ⟨⟨by decide, by decide, by omega, by decide, fun e a b => hN e (by omega) b⟩, rfl⟩
    | succ n ih =>
      intro d h0 hn hd hN
      refine e_iload_n (q := 4) (i := 1) dX11_commonWithHundred_3 rfl rfl rfl ?_
      refine e_iconst (q := 5) dX11_commonWithHundred_4 rfl ?_
      refine e_icmp_le (q := 8) (tgt := 29) dX11_commonWithHundred_5 rfl (by decide) (fun c5 => absurd c5 (by omega)) (fun c5 => ?_)
      refine e_iload_n (q := 9) (i := 0) dX11_commonWithHundred_8 rfl rfl rfl ?_
      refine e_iload_n (q := 10) (i := 1) dX11_commonWithHundred_9 rfl rfl rfl ?_
      refine e_irem (q := 11) dX11_commonWithHundred_10 rfl (iZ_ne0 ⟨by omega, by omega⟩ (by omega)) (iZ_rem (by omega) (by omega) (by omega) (by omega)) ?_
      refine e_if_ne (q := 14) (tgt := 23) dX11_commonWithHundred_11 rfl (by decide) (fun c11 => ?_) (fun c11 => ?_) (hx := ⟨by have := Int.emod_nonneg a (show d ≠ 0 by omega); omega, by have := Int.emod_lt_of_pos a (show 0 < d by omega); omega⟩)
      · refine e_iinc (q := 26) (L' := [_, _]) dX11_commonWithHundred_23 rfl rfl (by decide) rfl rfl ?_
        refine e_goto (tgt := 3) dX11_commonWithHundred_26 (by decide) ?_
        refine ih _ (by omega) (by omega) (by omega) (fun e a b => ?_)
        by_cases q : e = d
        · subst q
          intro w
          first | exact c11 w.1 | exact c18 w.2
        · exact hN e (by omega) b
      · refine e_bipush (q := 16) dX11_commonWithHundred_14 rfl (by decide) ?_
        refine e_iload_n (q := 17) (i := 1) dX11_commonWithHundred_16 rfl rfl rfl ?_
        refine e_irem (q := 18) dX11_commonWithHundred_17 rfl (iZ_ne0 ⟨by omega, by omega⟩ (by omega)) (iZ_rem (by decide) (by decide) (by omega) (by omega)) ?_
        refine e_if_ne (q := 21) (tgt := 23) dX11_commonWithHundred_18 rfl (by decide) (fun c18 => ?_) (fun c18 => ?_) (hx := ⟨by have := Int.emod_nonneg 100 (show d ≠ 0 by omega); omega, by have := Int.emod_lt_of_pos 100 (show 0 < d by omega); omega⟩)
        · refine e_iinc (q := 26) (L' := [_, _]) dX11_commonWithHundred_23 rfl rfl (by decide) rfl rfl ?_
          refine e_goto (tgt := 3) dX11_commonWithHundred_26 (by decide) ?_
          refine ih _ (by omega) (by omega) (by omega) (fun e a b => ?_)
          by_cases q : e = d
          · subst q
            intro w
            first | exact c11 w.1 | exact c18 w.2
          · exact hN e (by omega) b
        · refine e_iload_n (q := 22) (i := 1) dX11_commonWithHundred_21 rfl rfl rfl ?_
          exact r_i dX11_commonWithHundred_22 rfl ⟨⟨h0, hd, c11, c18, hN⟩, rfl⟩
  refine e_entry om_X11_commonWithHundred (Nat.le_of_ble_eq_true rfl) (L := [some (.int (iZ a)), none]) rfl ?_
  refine e_bipush (q := 2) dX11_commonWithHundred_0 rfl (by decide) ?_
  refine e_istore_n (q := 3) (i := 1) (L' := [_, _]) dX11_commonWithHundred_2 rfl rfl (by decide) rfl rfl ?_
  exact lp 99 100 (by decide) (by decide) (by decide) (fun e a b => absurd b (by omega))

set_option maxHeartbeats 4000000 in
theorem c_X11_dry {G : Gx} {σ : Sg} {m x : Int} (hT : TI σ) (hm : R32 m) (hx : R32 x) : Con G 2 mX11_dry [.ref (G.2.2.2 + 0), .int (iZ m), .int (iZ x)] σ (pL (fun z σ' => ((¬ (0 ≤ m ∧ m ≤ 6 ∧ 0 ≤ x ∧ x ≤ 1) ∧ z = -1) ∨ ((0 ≤ m ∧ m ≤ 6 ∧ 0 ≤ x ∧ x ≤ 1) ∧ ∃ g, (1 ≤ g ∧ g ≤ 100 ∧ (100 - σ.1 2 6) % g = 0 ∧ 100 % g = 0 ∧ ∀ d, g < d → d ≤ 100 → ¬ ((100 - σ.1 2 6) % d = 0 ∧ 100 % d = 0)) ∧ z = ((if x = 0 then 100 - σ.1 2 6 else 100) / g) ^ m.toNat)) ∧ σ' = σ)) := by
  obtain ⟨hzz, -, hnp, hnc, hnb, hlb, hrn, hsd, hrw, hrq, hch, hbt, hck⟩ := id hT
  refine e_entry om_X11_dry (Nat.le_of_ble_eq_true rfl) (L := [some (.ref (G.2.2.2 + 0)), some (.int (iZ m)), some (.int (iZ x)), none, none, none, none]) rfl ?_
  refine e_iload_n (q := 1) (i := 1) dX11_dry_0 rfl rfl rfl ?_
  refine e_if_lt (q := 4) (tgt := 19) dX11_dry_1 rfl (by decide) (fun c1 => ?_) (fun c1 => ?_)
  · refine e_ldc2 (q := 22) (z := -1) dX11_dry_19 rfl kw_X11_297 (by decide) ?_
    exact r_l dX11_dry_22 rfl ⟨Or.inl ⟨by omega, rfl⟩, rfl⟩
  · refine e_iload_n (q := 5) (i := 1) dX11_dry_4 rfl rfl rfl ?_
    refine e_bipush (q := 7) dX11_dry_5 rfl (by decide) ?_
    refine e_icmp_gt (q := 10) (tgt := 19) dX11_dry_7 rfl (by decide) (fun c7 => ?_) (fun c7 => ?_)
    · refine e_ldc2 (q := 22) (z := -1) dX11_dry_19 rfl kw_X11_297 (by decide) ?_
      exact r_l dX11_dry_22 rfl ⟨Or.inl ⟨by omega, rfl⟩, rfl⟩
    · refine e_iload_n (q := 11) (i := 2) dX11_dry_10 rfl rfl rfl ?_
      refine e_if_lt (q := 14) (tgt := 19) dX11_dry_11 rfl (by decide) (fun c11 => ?_) (fun c11 => ?_)
      · refine e_ldc2 (q := 22) (z := -1) dX11_dry_19 rfl kw_X11_297 (by decide) ?_
        exact r_l dX11_dry_22 rfl ⟨Or.inl ⟨by omega, rfl⟩, rfl⟩
      · refine e_iload_n (q := 15) (i := 2) dX11_dry_14 rfl rfl rfl ?_
        refine e_iconst (q := 16) dX11_dry_15 rfl ?_
        refine e_icmp_le (q := 19) (tgt := 23) dX11_dry_16 rfl (by decide) (fun c16 => ?_) (fun c16 => ?_)
        · refine e_iload_n (q := 24) (i := 2) dX11_dry_23 rfl rfl rfl ?_
          refine e_if_ne (q := 27) (tgt := 40) dX11_dry_24 rfl (by decide) (fun c24 => ?_) (fun c24 => ?_)
          · refine e_bipush (q := 42) dX11_dry_40 rfl (by decide) ?_
            refine e_bipush (q := 44) dX11_dry_42 rfl (by decide) ?_
            refine e_aload_n (q := 45) (i := 0) dX11_dry_44 rfl rfl rfl ?_
            refine e_getR (q := 48) dX11_dry_45 rfl fg_X11_18 (by first | assumption | rfl) rfl ?_
            refine e_getI (q := 51) (jz := 6) dX11_dry_48 rfl fg_X11_299 rfl (by first | assumption | rfl) rfl ?_
            refine e_isub (q := 52) dX11_dry_51 rfl ?_
            refine e_Si (q := 55) (vs := [_]) ok_X11_commonWithHundred ml_X11_302 dX11_dry_52 rfl rfl rfl (Nat.le_of_ble_eq_true rfl) (by decide) (c_X11_commonWithHundred (by omega) (by omega)) (fun z52 s52 h52 => ?_)
            obtain ⟨hg52, es⟩ := id h52
            have es := es.symm
            subst es
            refine e_idiv (q := 56) dX11_dry_55 rfl (iZ_ne0 ⟨by omega, by omega⟩ (by omega)) (iZ_div (by omega) (by omega) (by omega) (by omega)) ?_
            have hq0 := Int.ediv_nonneg (show (0 : Int) ≤ 100 - σ.1 2 6 by omega) (show 0 ≤ z52 by omega)
            have hq1 := Int.ediv_le_self z52 (show (0 : Int) ≤ 100 - σ.1 2 6 by omega)
            have hq2 := Int.ediv_nonneg (show (0 : Int) ≤ 100 by decide) (show 0 ≤ z52 by omega)
            have hq3 := Int.ediv_le_self z52 (show (0 : Int) ≤ 100 by decide)
            refine e_istore_n (q := 57) (i := 3) (L' := [_, _, _, _, _, _, _]) dX11_dry_56 rfl rfl (by decide) rfl rfl ?_
            refine e_lconst (q := 58) (z := 1) dX11_dry_57 rfl (by decide) ?_
            refine e_lstore (q := 60) (L' := [_, _, _, _, _, _, _]) dX11_dry_58 rfl (by decide) rfl rfl ?_
            refine e_iconst (q := 61) dX11_dry_60 rfl ?_
            refine e_istore (q := 63) (L' := [_, _, _, _, _, _, _]) dX11_dry_61 rfl (by decide) rfl rfl ?_
            have hK : (0 ≤ m ∧ m ≤ 6 ∧ 0 ≤ x ∧ x ≤ 1) := by omega
            have hg := h52.1
            obtain ⟨g, rfl⟩ : ∃ g, g = z52 := ⟨_, rfl⟩
            obtain ⟨bs, ebs⟩ : ∃ bs, bs = ((if x = 0 then 100 - σ.1 2 6 else 100) / g) := ⟨_, rfl⟩
            rw [show (100 : Int) / g = bs by rw [ebs, if_neg c24]]
            have hb : R32 bs := by rw [ebs, if_neg c24]; exact ⟨by omega, by omega⟩
            have lp : ∀ (n : Nat) (i v : Int), 0 ≤ i → i + n = m → v = bs ^ i.toNat → J G 2 mX11_dry (pL (fun z σ' => ((¬ (0 ≤ m ∧ m ≤ 6 ∧ 0 ≤ x ∧ x ≤ 1) ∧ z = -1) ∨ ((0 ≤ m ∧ m ≤ 6 ∧ 0 ≤ x ∧ x ≤ 1) ∧ ∃ g, (1 ≤ g ∧ g ≤ 100 ∧ (100 - σ.1 2 6) % g = 0 ∧ 100 % g = 0 ∧ ∀ d, g < d → d ≤ 100 → ¬ ((100 - σ.1 2 6) % d = 0 ∧ 100 % d = 0)) ∧ z = ((if x = 0 then 100 - σ.1 2 6 else 100) / g) ^ m.toNat)) ∧ σ' = σ)) σ 63 [some (.ref (G.2.2.2 + 0)), some (.int (iZ m)), some (.int (iZ x)), some (.int (iZ bs)), some (.long (lZ v)), none, some (.int (iZ i))] [] := by
              intro n
              induction n with
              | zero =>
                intro i v h0 hn hv
                refine e_iload (q := 65) dX11_dry_63 rfl rfl ?_
                refine e_iload_n (q := 66) (i := 1) dX11_dry_65 rfl rfl rfl ?_
                refine e_icmp_ge (q := 69) (tgt := 82) dX11_dry_66 rfl (by decide) (fun c66 => ?_) (fun c66 => absurd (by omega) c66)
                refine e_lload (q := 84) dX11_dry_82 rfl rfl ?_
                exact r_l dX11_dry_84 rfl ⟨Or.inr ⟨hK, g, hg, by rw [hv, ebs, show i = m by omega]⟩, rfl⟩
              | succ n ih =>
                intro i v h0 hn hv
                refine e_iload (q := 65) dX11_dry_63 rfl rfl ?_
                refine e_iload_n (q := 66) (i := 1) dX11_dry_65 rfl rfl rfl ?_
                refine e_icmp_ge (q := 69) (tgt := 82) dX11_dry_66 rfl (by decide) (fun c66 => absurd c66 (by omega)) (fun c66 => ?_)
                refine e_lload (q := 71) dX11_dry_69 rfl rfl ?_
                refine e_iload_n (q := 72) (i := 3) dX11_dry_71 rfl rfl rfl ?_
                refine e_i2l (q := 73) dX11_dry_72 rfl (by first | assumption | exact ⟨by omega, by omega⟩) ?_
                refine e_lmul (q := 74) dX11_dry_73 rfl ?_
                refine e_lstore (q := 76) (L' := [_, _, _, _, _, _, _]) dX11_dry_74 rfl (by decide) rfl rfl ?_
                refine e_iinc (q := 79) (L' := [_, _, _, _, _, _, _]) dX11_dry_76 rfl rfl (by decide) rfl rfl ?_
                refine e_goto (tgt := 63) dX11_dry_79 (by decide) ?_
                exact ih _ _ (by omega) (by omega) (by rw [hv, show (i + 1).toNat = i.toNat + 1 by omega, Int.pow_succ])
            exact lp m.toNat 0 1 (by decide) (by omega) (by rw [show (0 : Int).toNat = 0 from rfl, Int.pow_zero])
          · refine e_bipush (q := 29) dX11_dry_27 rfl (by decide) ?_
            refine e_aload_n (q := 30) (i := 0) dX11_dry_29 rfl rfl rfl ?_
            refine e_getR (q := 33) dX11_dry_30 rfl fg_X11_18 (by first | assumption | rfl) rfl ?_
            refine e_getI (q := 36) (jz := 6) dX11_dry_33 rfl fg_X11_299 rfl (by first | assumption | rfl) rfl ?_
            refine e_isub (q := 37) dX11_dry_36 rfl ?_
            refine e_goto (tgt := 42) dX11_dry_37 (by decide) ?_
            refine e_bipush (q := 44) dX11_dry_42 rfl (by decide) ?_
            refine e_aload_n (q := 45) (i := 0) dX11_dry_44 rfl rfl rfl ?_
            refine e_getR (q := 48) dX11_dry_45 rfl fg_X11_18 (by first | assumption | rfl) rfl ?_
            refine e_getI (q := 51) (jz := 6) dX11_dry_48 rfl fg_X11_299 rfl (by first | assumption | rfl) rfl ?_
            refine e_isub (q := 52) dX11_dry_51 rfl ?_
            refine e_Si (q := 55) (vs := [_]) ok_X11_commonWithHundred ml_X11_302 dX11_dry_52 rfl rfl rfl (Nat.le_of_ble_eq_true rfl) (by decide) (c_X11_commonWithHundred (by omega) (by omega)) (fun z52 s52 h52 => ?_)
            obtain ⟨hg52, es⟩ := id h52
            have es := es.symm
            subst es
            refine e_idiv (q := 56) dX11_dry_55 rfl (iZ_ne0 ⟨by omega, by omega⟩ (by omega)) (iZ_div (by omega) (by omega) (by omega) (by omega)) ?_
            have hq0 := Int.ediv_nonneg (show (0 : Int) ≤ 100 - σ.1 2 6 by omega) (show 0 ≤ z52 by omega)
            have hq1 := Int.ediv_le_self z52 (show (0 : Int) ≤ 100 - σ.1 2 6 by omega)
            have hq2 := Int.ediv_nonneg (show (0 : Int) ≤ 100 by decide) (show 0 ≤ z52 by omega)
            have hq3 := Int.ediv_le_self z52 (show (0 : Int) ≤ 100 by decide)
            refine e_istore_n (q := 57) (i := 3) (L' := [_, _, _, _, _, _, _]) dX11_dry_56 rfl rfl (by decide) rfl rfl ?_
            refine e_lconst (q := 58) (z := 1) dX11_dry_57 rfl (by decide) ?_
            refine e_lstore (q := 60) (L' := [_, _, _, _, _, _, _]) dX11_dry_58 rfl (by decide) rfl rfl ?_
            refine e_iconst (q := 61) dX11_dry_60 rfl ?_
            refine e_istore (q := 63) (L' := [_, _, _, _, _, _, _]) dX11_dry_61 rfl (by decide) rfl rfl ?_
            have hK : (0 ≤ m ∧ m ≤ 6 ∧ 0 ≤ x ∧ x ≤ 1) := by omega
            have hg := h52.1
            obtain ⟨g, rfl⟩ : ∃ g, g = z52 := ⟨_, rfl⟩
            obtain ⟨bs, ebs⟩ : ∃ bs, bs = ((if x = 0 then 100 - σ.1 2 6 else 100) / g) := ⟨_, rfl⟩
            rw [show (100 - σ.1 2 6) / g = bs by rw [ebs, if_pos c24]]
            have hb : R32 bs := by rw [ebs, if_pos c24]; exact ⟨by omega, by omega⟩
            have lp : ∀ (n : Nat) (i v : Int), 0 ≤ i → i + n = m → v = bs ^ i.toNat → J G 2 mX11_dry (pL (fun z σ' => ((¬ (0 ≤ m ∧ m ≤ 6 ∧ 0 ≤ x ∧ x ≤ 1) ∧ z = -1) ∨ ((0 ≤ m ∧ m ≤ 6 ∧ 0 ≤ x ∧ x ≤ 1) ∧ ∃ g, (1 ≤ g ∧ g ≤ 100 ∧ (100 - σ.1 2 6) % g = 0 ∧ 100 % g = 0 ∧ ∀ d, g < d → d ≤ 100 → ¬ ((100 - σ.1 2 6) % d = 0 ∧ 100 % d = 0)) ∧ z = ((if x = 0 then 100 - σ.1 2 6 else 100) / g) ^ m.toNat)) ∧ σ' = σ)) σ 63 [some (.ref (G.2.2.2 + 0)), some (.int (iZ m)), some (.int (iZ x)), some (.int (iZ bs)), some (.long (lZ v)), none, some (.int (iZ i))] [] := by
              intro n
              induction n with
              | zero =>
                intro i v h0 hn hv
                refine e_iload (q := 65) dX11_dry_63 rfl rfl ?_
                refine e_iload_n (q := 66) (i := 1) dX11_dry_65 rfl rfl rfl ?_
                refine e_icmp_ge (q := 69) (tgt := 82) dX11_dry_66 rfl (by decide) (fun c66 => ?_) (fun c66 => absurd (by omega) c66)
                refine e_lload (q := 84) dX11_dry_82 rfl rfl ?_
                exact r_l dX11_dry_84 rfl ⟨Or.inr ⟨hK, g, hg, by rw [hv, ebs, show i = m by omega]⟩, rfl⟩
              | succ n ih =>
                intro i v h0 hn hv
                refine e_iload (q := 65) dX11_dry_63 rfl rfl ?_
                refine e_iload_n (q := 66) (i := 1) dX11_dry_65 rfl rfl rfl ?_
                refine e_icmp_ge (q := 69) (tgt := 82) dX11_dry_66 rfl (by decide) (fun c66 => absurd c66 (by omega)) (fun c66 => ?_)
                refine e_lload (q := 71) dX11_dry_69 rfl rfl ?_
                refine e_iload_n (q := 72) (i := 3) dX11_dry_71 rfl rfl rfl ?_
                refine e_i2l (q := 73) dX11_dry_72 rfl (by first | assumption | exact ⟨by omega, by omega⟩) ?_
                refine e_lmul (q := 74) dX11_dry_73 rfl ?_
                refine e_lstore (q := 76) (L' := [_, _, _, _, _, _, _]) dX11_dry_74 rfl (by decide) rfl rfl ?_
                refine e_iinc (q := 79) (L' := [_, _, _, _, _, _, _]) dX11_dry_76 rfl rfl (by decide) rfl rfl ?_
                refine e_goto (tgt := 63) dX11_dry_79 (by decide) ?_
                exact ih _ _ (by omega) (by omega) (by rw [hv, show (i + 1).toNat = i.toNat + 1 by omega, Int.pow_succ])
            exact lp m.toNat 0 1 (by decide) (by omega) (by rw [show (0 : Int).toNat = 0 from rfl, Int.pow_zero])
        · refine e_ldc2 (q := 22) (z := -1) dX11_dry_19 rfl kw_X11_297 (by decide) ?_
          exact r_l dX11_dry_22 rfl ⟨Or.inl ⟨by omega, rfl⟩, rfl⟩

