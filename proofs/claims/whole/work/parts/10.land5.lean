theorem p2_64 {k : Int} (h0 : 0 ≤ k) (h1 : k < 4) : (1 : Int) ≤ 2 ^ (2 * k).toNat ∧ (2 : Int) ^ (2 * k).toNat ≤ 64 := by
  have e : ∀ k : Nat, k ≤ 6 → (1 : Int) ≤ 2 ^ k ∧ (2 : Int) ^ k ≤ 64 := by decide
  exact e (2 * k).toNat (by omega)
theorem p2_256 {k : Int} (h0 : 0 ≤ k) (h1 : k ≤ 4) : (1 : Int) ≤ 2 ^ (2 * k).toNat ∧ (2 : Int) ^ (2 * k).toNat ≤ 256 := by
  have e : ∀ k : Nat, k ≤ 8 → (1 : Int) ≤ 2 ^ k ∧ (2 : Int) ^ k ≤ 256 := by decide
  exact e (2 * k).toNat (by omega)
theorem dv_in {x : Int} (h0 : 0 ≤ x) (h1 : x ≤ 256) (d : Int) (hd : 0 ≤ d) : 0 ≤ x / d ∧ x / d ≤ 256 := ⟨Int.ediv_nonneg h0 hd, by have := Int.ediv_le_self d h0; omega⟩

theorem c_X2_isPainted {G : Gx} {σ : Sg} {L : Nat} {x c : Int} (hT : TI σ) (hI : LI σ L) (hL : isLand L) (hx0 : 0 ≤ x) (hx1 : x < 256) (hc0 : 0 ≤ c) (hc1 : c ≤ 4) : Con G 4 mX2_isPainted [.ref (G.2.2.2 + L), .int (iZ x), .int (iZ c)] σ (pI (fun z σ' => (z = 1 ∧ pOk (gTouch (σ.1 3) (σ.1 4) (σ.1 (L + 1))) x c (σ.1 2 2) ∨ z = 0 ∧ ¬ pOk (gTouch (σ.1 3) (σ.1 4) (σ.1 (L + 1))) x c (σ.1 2 2)) ∧ σ' = σ)) := by
  have y0 := ly0 hL
  have y1 := ly1 hL
  have y2 := ly2 hL
  have y3 := ly3 hL
  have y4 := ly4 hL
  obtain ⟨⟨hz0, hz1⟩, -, ⟨hn0, hn1⟩, ⟨hd0, hd1⟩, -⟩ := id hT
  have lp : ∀ (n : Nat) (x4 x5 : Option Value) (i : Int), 0 ≤ i → i + n = (σ.1 2 2) → (∀ a, 0 ≤ a → a < i → ¬ pBad (gTouch (σ.1 3) (σ.1 4) (σ.1 (L + 1))) x c a) → J G 4 mX2_isPainted (pI (fun z σ' => (z = 1 ∧ pOk (gTouch (σ.1 3) (σ.1 4) (σ.1 (L + 1))) x c (σ.1 2 2) ∨ z = 0 ∧ ¬ pOk (gTouch (σ.1 3) (σ.1 4) (σ.1 (L + 1))) x c (σ.1 2 2)) ∧ σ' = σ)) σ 2 [some (.ref (G.2.2.2 + L)), some (.int (iZ x)), some (.int (iZ c)), some (.int (iZ i)), x4, x5] [] := by
    intro n
    induction n with
    | zero =>
      intro x4 x5 i h0 hn hs
      refine e_iload_n (q := 3) (i := 3) dX2_isPainted_2 rfl rfl rfl ?_
      refine e_aload_n (q := 4) (i := 0) dX2_isPainted_3 rfl rfl rfl ?_
      refine e_getR (q := 7) dX2_isPainted_4 rfl fg_X2_9 (by first | assumption | rfl) rfl ?_
      refine e_getI (q := 10) (jz := 2) dX2_isPainted_7 rfl fg_X2_87 rfl (by first | assumption | rfl) rfl ?_
      refine e_icmp_ge (q := 13) (tgt := 76) dX2_isPainted_10 rfl (by decide) (fun c10 => ?_) (fun c10 => absurd (by omega) c10)
      refine e_iconst (q := 77) dX2_isPainted_76 rfl ?_
      exact r_z dX2_isPainted_77 rfl (by first | exact Or.inl rfl | exact Or.inr rfl | omega) ⟨Or.inl ⟨rfl, fun a a0 a1 => hs a a0 (by omega)⟩, rfl⟩
    | succ n ih =>
      intro x4 x5 i h0 hn hs
      refine e_iload_n (q := 3) (i := 3) dX2_isPainted_2 rfl rfl rfl ?_
      refine e_aload_n (q := 4) (i := 0) dX2_isPainted_3 rfl rfl rfl ?_
      refine e_getR (q := 7) dX2_isPainted_4 rfl fg_X2_9 (by first | assumption | rfl) rfl ?_
      refine e_getI (q := 10) (jz := 2) dX2_isPainted_7 rfl fg_X2_87 rfl (by first | assumption | rfl) rfl ?_
      refine e_icmp_ge (q := 13) (tgt := 76) dX2_isPainted_10 rfl (by decide) (fun c10 => absurd c10 (by omega)) (fun c10 => ?_)
      refine e_iload_n (q := 14) (i := 1) dX2_isPainted_13 rfl rfl rfl ?_
      refine e_iconst (q := 15) dX2_isPainted_14 rfl ?_
      refine e_iload_n (q := 16) (i := 3) dX2_isPainted_15 rfl rfl rfl ?_
      refine e_imul (q := 17) dX2_isPainted_16 rfl ?_
      refine e_ishr (q := 18) dX2_isPainted_17 rfl (iZ_shrk hx0 (by omega) (show 0 ≤ 2 * i by omega) (by omega)) ?_
      refine e_iconst (q := 19) dX2_isPainted_18 rfl ?_
      refine e_iand (q := 20) dX2_isPainted_19 rfl (iZ_and3 (dv_in hx0 (by omega) _ (by have := p2_64 (k := i) (by omega) (by omega); omega)).1 (by have := (dv_in hx0 (by omega) (2 ^ (2 * i).toNat) (by have := p2_64 (k := i) (by omega) (by omega); omega)).2; omega)) ?_
      refine e_istore (q := 22) (L' := [_, _, _, _, _, _]) dX2_isPainted_20 rfl (by decide) rfl rfl ?_
      refine e_iload (q := 24) dX2_isPainted_22 rfl rfl ?_
      refine e_iload_n (q := 25) (i := 2) dX2_isPainted_24 rfl rfl rfl ?_
      refine e_icmp_lt (q := 28) (tgt := 30) dX2_isPainted_25 rfl (by decide) (fun c25 => ?_) (fun c25 => ?_) (hx := ⟨by omega, by omega⟩) (hy := ⟨by omega, by omega⟩)
      · refine e_iconst (q := 31) dX2_isPainted_30 rfl ?_
        refine e_istore (q := 33) (L' := [_, _, _, _, _, _]) dX2_isPainted_31 rfl (by decide) rfl rfl ?_
        have lq : ∀ (k : Nat) (j : Int), 0 ≤ j → j + k = i → (∀ b, 0 ≤ b → b < j → ¬ (pCol x i = pCol x b ∧ (gTouch (σ.1 3) (σ.1 4) (σ.1 (L + 1))) i b = 1)) → J G 4 mX2_isPainted (pI (fun z σ' => (z = 1 ∧ pOk (gTouch (σ.1 3) (σ.1 4) (σ.1 (L + 1))) x c (σ.1 2 2) ∨ z = 0 ∧ ¬ pOk (gTouch (σ.1 3) (σ.1 4) (σ.1 (L + 1))) x c (σ.1 2 2)) ∧ σ' = σ)) σ 33 [some (.ref (G.2.2.2 + L)), some (.int (iZ x)), some (.int (iZ c)), some (.int (iZ i)), some (.int (iZ (pCol x i))), some (.int (iZ j))] [] := by
          intro k
          induction k with
          | zero =>
            intro j h3 h4 h5
            refine e_iload (q := 35) dX2_isPainted_33 rfl rfl ?_
            refine e_iload_n (q := 36) (i := 3) dX2_isPainted_35 rfl rfl rfl ?_
            refine e_icmp_ge (q := 39) (tgt := 70) dX2_isPainted_36 rfl (by decide) (fun c36 => ?_) (fun c36 => absurd (by omega) c36)
            refine e_iinc (q := 73) (L' := [_, _, _, _, _, _]) dX2_isPainted_70 rfl rfl (by decide) rfl rfl ?_
            refine e_goto (tgt := 2) dX2_isPainted_73 (by decide) ?_
            refine ih _ _ _ (by omega) (by omega) (fun a a0 a1 => ?_)
            by_cases ea : a = i
            · subst ea
              rintro (hb | ⟨b, b0, b1, b2, b3⟩)
              · unfold pCol at hb; omega
              · exact h5 b b0 (by omega) ⟨b2, b3⟩
            · exact hs a a0 (by omega)
          | succ k ih2 =>
            intro j h3 h4 h5
            refine e_iload (q := 35) dX2_isPainted_33 rfl rfl ?_
            refine e_iload_n (q := 36) (i := 3) dX2_isPainted_35 rfl rfl rfl ?_
            refine e_icmp_ge (q := 39) (tgt := 70) dX2_isPainted_36 rfl (by decide) (fun c36 => absurd c36 (by omega)) (fun c36 => ?_)
            refine e_iload (q := 41) dX2_isPainted_39 rfl rfl ?_
            refine e_iload_n (q := 42) (i := 1) dX2_isPainted_41 rfl rfl rfl ?_
            refine e_iconst (q := 43) dX2_isPainted_42 rfl ?_
            refine e_iload (q := 45) dX2_isPainted_43 rfl rfl ?_
            refine e_imul (q := 46) dX2_isPainted_45 rfl ?_
            refine e_ishr (q := 47) dX2_isPainted_46 rfl (iZ_shrk hx0 (by omega) (show 0 ≤ 2 * j by omega) (by omega)) ?_
            refine e_iconst (q := 48) dX2_isPainted_47 rfl ?_
            refine e_iand (q := 49) dX2_isPainted_48 rfl (iZ_and3 (dv_in hx0 (by omega) _ (by have := p2_64 (k := j) (by omega) (by omega); omega)).1 (by have := (dv_in hx0 (by omega) (2 ^ (2 * j).toNat) (by have := p2_64 (k := j) (by omega) (by omega); omega)).2; omega)) ?_
            refine e_icmp_ne (q := 52) (tgt := 64) dX2_isPainted_49 rfl (by decide) (fun c49 => ?_) (fun c49 => ?_) (hx := ⟨by unfold pCol; omega, by unfold pCol; omega⟩) (hy := ⟨by omega, by omega⟩)
            · refine e_iinc (q := 67) (L' := [_, _, _, _, _, _]) dX2_isPainted_64 rfl rfl (by decide) rfl rfl ?_
              refine e_goto (tgt := 33) dX2_isPainted_67 (by decide) ?_
              refine ih2 _ (by omega) (by omega) (fun b b0 b1 => ?_)
              by_cases eb : b = j
              · subst eb
                rintro ⟨q1, q2⟩
                first | exact c49 q1 | omega
              · exact h5 b b0 (by omega)
            · refine e_aload_n (q := 53) (i := 0) dX2_isPainted_52 rfl rfl rfl ?_
              refine e_iload_n (q := 54) (i := 3) dX2_isPainted_53 rfl rfl rfl ?_
              refine e_iload (q := 56) dX2_isPainted_54 rfl rfl ?_
              refine e_Vip (q := 59) (vs := [_, _]) ok_X2_touch ml_X2_120 dX2_isPainted_56 rfl ⟨_, _, rfl⟩ (by first | assumption | rfl) rfl rfl (Nat.le_of_ble_eq_true rfl) (by decide) (c_X2_touch hT hI hL (by omega) (by omega) (by omega) (by omega)) ?_
              have ht := (show gTouch (σ.1 3) (σ.1 4) (σ.1 (L + 1)) i j = 0 ∨ gTouch (σ.1 3) (σ.1 4) (σ.1 (L + 1)) i j = 1 by unfold gTouch; split <;> simp)
              refine e_if_eq (q := 62) (tgt := 64) dX2_isPainted_59 rfl (by decide) (fun c59 => ?_) (fun c59 => ?_)
              · refine e_iinc (q := 67) (L' := [_, _, _, _, _, _]) dX2_isPainted_64 rfl rfl (by decide) rfl rfl ?_
                refine e_goto (tgt := 33) dX2_isPainted_67 (by decide) ?_
                refine ih2 _ (by omega) (by omega) (fun b b0 b1 => ?_)
                by_cases eb : b = j
                · subst eb
                  rintro ⟨q1, q2⟩
                  first | exact c49 q1 | omega
                · exact h5 b b0 (by omega)
              · refine e_iconst (q := 63) dX2_isPainted_62 rfl ?_
                exact r_z dX2_isPainted_63 rfl (by first | exact Or.inl rfl | exact Or.inr rfl | omega) ⟨Or.inr ⟨rfl, fun q => q i h0 (by omega) (Or.inr ⟨j, h3, by omega, c49, by omega⟩)⟩, rfl⟩
        exact lq i.toNat _ (by omega) (by omega) (fun b b0 b1 => absurd b1 (by omega))
      · refine e_iconst (q := 29) dX2_isPainted_28 rfl ?_
        exact r_z dX2_isPainted_29 rfl (by first | exact Or.inl rfl | exact Or.inr rfl | omega) ⟨Or.inr ⟨rfl, fun q => q i h0 (by omega) (Or.inl (by unfold pCol; omega))⟩, rfl⟩
  refine e_entry om_X2_isPainted (Nat.le_of_ble_eq_true rfl) (L := [some (.ref (G.2.2.2 + L)), some (.int (iZ x)), some (.int (iZ c)), none, none, none]) rfl ?_
  refine e_iconst (q := 1) dX2_isPainted_0 rfl ?_
  refine e_istore_n (q := 2) (i := 3) (L' := [_, _, _, _, _, _]) dX2_isPainted_1 rfl rfl (by decide) rfl rfl ?_
  exact lp ((σ.1 2 2)).toNat _ _ 0 (by omega) (by omega) (fun a a0 a1 => absurd a1 (by omega))

theorem c_X2_fewestColours {G : Gx} {σ : Sg} {L : Nat} (hT : TI σ) (hI : LI σ L) (hL : isLand L) : Con G 5 mX2_fewestColours [.ref (G.2.2.2 + L)] σ (pI (fun z σ' => (0 ≤ z ∧ z ≤ (σ.1 2 2) ∧ (z < (σ.1 2 2) → ∃ x, 0 ≤ x ∧ x < 2 ^ (2 * (σ.1 2 2)).toNat ∧ pOk (gTouch (σ.1 3) (σ.1 4) (σ.1 (L + 1))) x z (σ.1 2 2)) ∧ ∀ c, 0 ≤ c → c < z → ∀ x, 0 ≤ x → x < 2 ^ (2 * (σ.1 2 2)).toNat → ¬ pOk (gTouch (σ.1 3) (σ.1 4) (σ.1 (L + 1))) x c (σ.1 2 2)) ∧ σ' = σ)) := by
  have y0 := ly0 hL
  have y1 := ly1 hL
  have y2 := ly2 hL
  have y3 := ly3 hL
  have y4 := ly4 hL
  obtain ⟨⟨hz0, hz1⟩, -, ⟨hn0, hn1⟩, ⟨hc0, hc1⟩, -⟩ := id hT
  have hp256 := p2_256 hn0 hn1
  have lp : ∀ (n : Nat) (x2 : Option Value) (i : Int), 0 ≤ i → i + n = (σ.1 2 2) → (∀ c, 0 ≤ c → c < i → ∀ x, 0 ≤ x → x < 2 ^ (2 * (σ.1 2 2)).toNat → ¬ pOk (gTouch (σ.1 3) (σ.1 4) (σ.1 (L + 1))) x c (σ.1 2 2)) → J G 5 mX2_fewestColours (pI (fun z σ' => (0 ≤ z ∧ z ≤ (σ.1 2 2) ∧ (z < (σ.1 2 2) → ∃ x, 0 ≤ x ∧ x < 2 ^ (2 * (σ.1 2 2)).toNat ∧ pOk (gTouch (σ.1 3) (σ.1 4) (σ.1 (L + 1))) x z (σ.1 2 2)) ∧ ∀ c, 0 ≤ c → c < z → ∀ x, 0 ≤ x → x < 2 ^ (2 * (σ.1 2 2)).toNat → ¬ pOk (gTouch (σ.1 3) (σ.1 4) (σ.1 (L + 1))) x c (σ.1 2 2)) ∧ σ' = σ)) σ 2 [some (.ref (G.2.2.2 + L)), some (.int (iZ i)), x2] [] := by
    intro n
    induction n with
    | zero =>
      intro x2 i h0 hn hs
      refine e_iload_n (q := 3) (i := 1) dX2_fewestColours_2 rfl rfl rfl ?_
      refine e_aload_n (q := 4) (i := 0) dX2_fewestColours_3 rfl rfl rfl ?_
      refine e_getR (q := 7) dX2_fewestColours_4 rfl fg_X2_9 (by first | assumption | rfl) rfl ?_
      refine e_getI (q := 10) (jz := 2) dX2_fewestColours_7 rfl fg_X2_87 rfl (by first | assumption | rfl) rfl ?_
      refine e_icmp_ge (q := 13) (tgt := 53) dX2_fewestColours_10 rfl (by decide) (fun c10 => ?_) (fun c10 => absurd (by omega) c10)
      refine e_aload_n (q := 54) (i := 0) dX2_fewestColours_53 rfl rfl rfl ?_
      refine e_getR (q := 57) dX2_fewestColours_54 rfl fg_X2_9 (by first | assumption | rfl) rfl ?_
      refine e_getI (q := 60) (jz := 2) dX2_fewestColours_57 rfl fg_X2_87 rfl (by first | assumption | rfl) rfl ?_
      exact r_i dX2_fewestColours_60 rfl ⟨⟨hn0, by omega, fun q => absurd q (by omega), fun c c0 c1 => hs c c0 (by omega)⟩, rfl⟩
    | succ n ih =>
      intro x2 i h0 hn hs
      refine e_iload_n (q := 3) (i := 1) dX2_fewestColours_2 rfl rfl rfl ?_
      refine e_aload_n (q := 4) (i := 0) dX2_fewestColours_3 rfl rfl rfl ?_
      refine e_getR (q := 7) dX2_fewestColours_4 rfl fg_X2_9 (by first | assumption | rfl) rfl ?_
      refine e_getI (q := 10) (jz := 2) dX2_fewestColours_7 rfl fg_X2_87 rfl (by first | assumption | rfl) rfl ?_
      refine e_icmp_ge (q := 13) (tgt := 53) dX2_fewestColours_10 rfl (by decide) (fun c10 => absurd c10 (by omega)) (fun c10 => ?_)
      refine e_iconst (q := 14) dX2_fewestColours_13 rfl ?_
      refine e_istore_n (q := 15) (i := 2) (L' := [_, _, _]) dX2_fewestColours_14 rfl rfl (by decide) rfl rfl ?_
      have lq : ∀ (k : Nat) (j : Int), 0 ≤ j → j + k = 2 ^ (2 * (σ.1 2 2)).toNat → (∀ x, 0 ≤ x → x < j → ¬ pOk (gTouch (σ.1 3) (σ.1 4) (σ.1 (L + 1))) x i (σ.1 2 2)) → J G 5 mX2_fewestColours (pI (fun z σ' => (0 ≤ z ∧ z ≤ (σ.1 2 2) ∧ (z < (σ.1 2 2) → ∃ x, 0 ≤ x ∧ x < 2 ^ (2 * (σ.1 2 2)).toNat ∧ pOk (gTouch (σ.1 3) (σ.1 4) (σ.1 (L + 1))) x z (σ.1 2 2)) ∧ ∀ c, 0 ≤ c → c < z → ∀ x, 0 ≤ x → x < 2 ^ (2 * (σ.1 2 2)).toNat → ¬ pOk (gTouch (σ.1 3) (σ.1 4) (σ.1 (L + 1))) x c (σ.1 2 2)) ∧ σ' = σ)) σ 15 [some (.ref (G.2.2.2 + L)), some (.int (iZ i)), some (.int (iZ j))] [] := by
        intro k
        induction k with
        | zero =>
          intro j h3 h4 h5
          refine e_iload_n (q := 16) (i := 2) dX2_fewestColours_15 rfl rfl rfl ?_
          refine e_iconst (q := 17) dX2_fewestColours_16 rfl ?_
          refine e_iconst (q := 18) dX2_fewestColours_17 rfl ?_
          refine e_aload_n (q := 19) (i := 0) dX2_fewestColours_18 rfl rfl rfl ?_
          refine e_getR (q := 22) dX2_fewestColours_19 rfl fg_X2_9 (by first | assumption | rfl) rfl ?_
          refine e_getI (q := 25) (jz := 2) dX2_fewestColours_22 rfl fg_X2_87 rfl (by first | assumption | rfl) rfl ?_
          refine e_imul (q := 26) dX2_fewestColours_25 rfl ?_
          refine e_ishl (q := 27) dX2_fewestColours_26 rfl (iZ_shl1 (by omega) (by omega)) ?_
          refine e_icmp_ge (q := 30) (tgt := 47) dX2_fewestColours_27 rfl (by decide) (fun c27 => ?_) (fun c27 => absurd (by omega) c27)
          refine e_iinc (q := 50) (L' := [_, _, _]) dX2_fewestColours_47 rfl rfl (by decide) rfl rfl ?_
          refine e_goto (tgt := 2) dX2_fewestColours_50 (by decide) ?_
          refine ih _ _ (by omega) (by omega) (fun a a0 a1 x x0 x1 => ?_)
          by_cases ea : a = i
          · subst ea
            exact h5 x x0 (by omega)
          · exact hs a a0 (by omega) x x0 x1
        | succ k ih2 =>
          intro j h3 h4 h5
          refine e_iload_n (q := 16) (i := 2) dX2_fewestColours_15 rfl rfl rfl ?_
          refine e_iconst (q := 17) dX2_fewestColours_16 rfl ?_
          refine e_iconst (q := 18) dX2_fewestColours_17 rfl ?_
          refine e_aload_n (q := 19) (i := 0) dX2_fewestColours_18 rfl rfl rfl ?_
          refine e_getR (q := 22) dX2_fewestColours_19 rfl fg_X2_9 (by first | assumption | rfl) rfl ?_
          refine e_getI (q := 25) (jz := 2) dX2_fewestColours_22 rfl fg_X2_87 rfl (by first | assumption | rfl) rfl ?_
          refine e_imul (q := 26) dX2_fewestColours_25 rfl ?_
          refine e_ishl (q := 27) dX2_fewestColours_26 rfl (iZ_shl1 (by omega) (by omega)) ?_
          refine e_icmp_ge (q := 30) (tgt := 47) dX2_fewestColours_27 rfl (by decide) (fun c27 => absurd c27 (by omega)) (fun c27 => ?_)
          refine e_aload_n (q := 31) (i := 0) dX2_fewestColours_30 rfl rfl rfl ?_
          refine e_iload_n (q := 32) (i := 2) dX2_fewestColours_31 rfl rfl rfl ?_
          refine e_iload_n (q := 33) (i := 1) dX2_fewestColours_32 rfl rfl rfl ?_
          refine e_Vi (q := 36) (vs := [_, _]) ok_X2_isPainted ml_X2_139 dX2_fewestColours_33 rfl ⟨_, _, rfl⟩ (by first | assumption | rfl) rfl rfl (Nat.le_of_ble_eq_true rfl) (by decide) (c_X2_isPainted hT hI hL (by omega) (by omega) (by omega) (by omega)) (fun z33 s33 h33 => ?_)
          obtain ⟨hz33, hs33⟩ := h33
          subst s33
          refine e_if_eq (q := 39) (tgt := 41) dX2_fewestColours_36 rfl (by decide) (fun c36 => ?_) (fun c36 => ?_) (hx := ⟨by omega, by omega⟩)
          · refine e_iinc (q := 44) (L' := [_, _, _]) dX2_fewestColours_41 rfl rfl (by decide) rfl rfl ?_
            refine e_goto (tgt := 15) dX2_fewestColours_44 (by decide) ?_
            refine ih2 _ (by omega) (by omega) (fun x x0 x1 => ?_)
            by_cases ex : x = j
            · subst ex
              rcases hz33 with q | q
              · omega
              · exact q.2
            · exact h5 x x0 (by omega)
          · refine e_iload_n (q := 40) (i := 1) dX2_fewestColours_39 rfl rfl rfl ?_
            exact r_i dX2_fewestColours_40 rfl ⟨⟨h0, by omega, fun _ => ⟨j, h3, by omega, by rcases hz33 with q | q; exact q.2; omega⟩, fun c c0 c1 x x0 x1 => hs c c0 c1 x x0 x1⟩, rfl⟩
      exact lq ((2 : Int) ^ (2 * (σ.1 2 2)).toNat).toNat _ (by omega) (by omega) (fun b b0 b1 => absurd b1 (by omega))
  refine e_entry om_X2_fewestColours (Nat.le_of_ble_eq_true rfl) (L := [some (.ref (G.2.2.2 + L)), none, none]) rfl ?_
  refine e_iconst (q := 1) dX2_fewestColours_0 rfl ?_
  refine e_istore_n (q := 2) (i := 1) (L' := [_, _, _]) dX2_fewestColours_1 rfl rfl (by decide) rfl rfl ?_
  exact lp ((σ.1 2 2)).toNat _ 0 (by omega) (by omega) (fun c c0 c1 => absurd c1 (by omega))

