theorem c_X2_allAreas {G : Gx} {σ : Sg} {L : Nat} (hT : TI σ) (hI : LI σ L) (hL : isLand L) : Con G 3 mX2_allAreas [.ref (G.2.2.2 + L)] σ (pI (pE σ (zs (fun p => gArea (σ.1 3) (σ.1 4) (σ.1 (L + 1)) p) (σ.1 2 2)))) := by
  have y0 := ly0 hL
  have y1 := ly1 hL
  have y2 := ly2 hL
  have y3 := ly3 hL
  have y4 := ly4 hL
  obtain ⟨⟨hz0, hz1⟩, -, ⟨hn0, hn1⟩, ⟨hc0, hc1⟩, -⟩ := id hT
  have lp : ∀ (n : Nat) (i s : Int), 0 ≤ i → i + n = (σ.1 2 2) → s = zs (fun p => gArea (σ.1 3) (σ.1 4) (σ.1 (L + 1)) p) i → J G 3 mX2_allAreas (pI (pE σ (zs (fun p => gArea (σ.1 3) (σ.1 4) (σ.1 (L + 1)) p) (σ.1 2 2)))) σ 4 [some (.ref (G.2.2.2 + L)), some (.int (iZ s)), some (.int (iZ i))] [] := by
    intro n
    induction n with
    | zero =>
      intro i s h0 hn hs
      refine e_iload_n (q := 5) (i := 2) dX2_allAreas_4 rfl rfl rfl ?_
      refine e_aload_n (q := 6) (i := 0) dX2_allAreas_5 rfl rfl rfl ?_
      refine e_getR (q := 9) dX2_allAreas_6 rfl fg_X2_9 (by first | assumption | rfl) rfl ?_
      refine e_getI (q := 12) (jz := 2) dX2_allAreas_9 rfl fg_X2_87 rfl (by first | assumption | rfl) rfl ?_
      refine e_icmp_ge (q := 15) (tgt := 29) dX2_allAreas_12 rfl (by decide) (fun c12 => ?_) (fun c12 => absurd (by omega) c12)
      refine e_iload_n (q := 30) (i := 1) dX2_allAreas_29 rfl rfl rfl ?_
      exact r_i dX2_allAreas_30 rfl ⟨by rw [hs]; congr 1; omega, rfl⟩
    | succ n ih =>
      intro i s h0 hn hs
      refine e_iload_n (q := 5) (i := 2) dX2_allAreas_4 rfl rfl rfl ?_
      refine e_aload_n (q := 6) (i := 0) dX2_allAreas_5 rfl rfl rfl ?_
      refine e_getR (q := 9) dX2_allAreas_6 rfl fg_X2_9 (by first | assumption | rfl) rfl ?_
      refine e_getI (q := 12) (jz := 2) dX2_allAreas_9 rfl fg_X2_87 rfl (by first | assumption | rfl) rfl ?_
      refine e_icmp_ge (q := 15) (tgt := 29) dX2_allAreas_12 rfl (by decide) (fun c12 => absurd c12 (by omega)) (fun c12 => ?_)
      refine e_iload_n (q := 16) (i := 1) dX2_allAreas_15 rfl rfl rfl ?_
      refine e_aload_n (q := 17) (i := 0) dX2_allAreas_16 rfl rfl rfl ?_
      refine e_iload_n (q := 18) (i := 2) dX2_allAreas_17 rfl rfl rfl ?_
      refine e_Vip (q := 21) (vs := [_]) ok_X2_area ml_X2_124 dX2_allAreas_18 rfl ⟨_, _, rfl⟩ (by first | assumption | rfl) rfl rfl (Nat.le_of_ble_eq_true rfl) (by decide) (c_X2_area hL (by omega) (by omega)) ?_
      refine e_iadd (q := 22) dX2_allAreas_21 rfl ?_
      refine e_istore_n (q := 23) (i := 1) (L' := [_, _, _]) dX2_allAreas_22 rfl rfl (by decide) rfl rfl ?_
      refine e_iinc (q := 26) (L' := [_, _, _]) dX2_allAreas_23 rfl rfl (by decide) rfl rfl ?_
      refine e_goto (tgt := 4) dX2_allAreas_26 (by decide) ?_
      exact ih _ _ (by omega) (by omega) (by rw [hs, zs_succ _ h0])
  refine e_entry om_X2_allAreas (Nat.le_of_ble_eq_true rfl) (L := [some (.ref (G.2.2.2 + L)), none, none]) rfl ?_
  refine e_iconst (q := 1) dX2_allAreas_0 rfl ?_
  refine e_istore_n (q := 2) (i := 1) (L' := [_, _, _]) dX2_allAreas_1 rfl rfl (by decide) rfl rfl ?_
  refine e_iconst (q := 3) dX2_allAreas_2 rfl ?_
  refine e_istore_n (q := 4) (i := 2) (L' := [_, _, _]) dX2_allAreas_3 rfl rfl (by decide) rfl rfl ?_
  exact lp ((σ.1 2 2)).toNat 0 0 (by omega) (by omega) rfl

theorem c_X2_allLegs {G : Gx} {σ : Sg} {L : Nat} (hT : TI σ) (hI : LI σ L) (hL : isLand L) : Con G 1 mX2_allLegs [.ref (G.2.2.2 + L)] σ (pI (pE σ (zs (σ.1 (L + 3)) (σ.1 2 3)))) := by
  have y0 := ly0 hL
  have y1 := ly1 hL
  have y2 := ly2 hL
  have y3 := ly3 hL
  have y4 := ly4 hL
  obtain ⟨⟨hz0, hz1⟩, -, ⟨hn0, hn1⟩, ⟨hc0, hc1⟩, -⟩ := id hT
  have lp : ∀ (n : Nat) (i s : Int), 0 ≤ i → i + n = (σ.1 2 3) → s = zs (σ.1 (L + 3)) i → J G 1 mX2_allLegs (pI (pE σ (zs (σ.1 (L + 3)) (σ.1 2 3)))) σ 4 [some (.ref (G.2.2.2 + L)), some (.int (iZ s)), some (.int (iZ i))] [] := by
    intro n
    induction n with
    | zero =>
      intro i s h0 hn hs
      refine e_iload_n (q := 5) (i := 2) dX2_allLegs_4 rfl rfl rfl ?_
      refine e_aload_n (q := 6) (i := 0) dX2_allLegs_5 rfl rfl rfl ?_
      refine e_getR (q := 9) dX2_allLegs_6 rfl fg_X2_9 (by first | assumption | rfl) rfl ?_
      refine e_getI (q := 12) (jz := 3) dX2_allLegs_9 rfl fg_X2_130 rfl (by first | assumption | rfl) rfl ?_
      refine e_icmp_ge (q := 15) (tgt := 30) dX2_allLegs_12 rfl (by decide) (fun c12 => ?_) (fun c12 => absurd (by omega) c12)
      refine e_iload_n (q := 31) (i := 1) dX2_allLegs_30 rfl rfl rfl ?_
      exact r_i dX2_allLegs_31 rfl ⟨by rw [hs]; congr 1; omega, rfl⟩
    | succ n ih =>
      intro i s h0 hn hs
      refine e_iload_n (q := 5) (i := 2) dX2_allLegs_4 rfl rfl rfl ?_
      refine e_aload_n (q := 6) (i := 0) dX2_allLegs_5 rfl rfl rfl ?_
      refine e_getR (q := 9) dX2_allLegs_6 rfl fg_X2_9 (by first | assumption | rfl) rfl ?_
      refine e_getI (q := 12) (jz := 3) dX2_allLegs_9 rfl fg_X2_130 rfl (by first | assumption | rfl) rfl ?_
      refine e_icmp_ge (q := 15) (tgt := 30) dX2_allLegs_12 rfl (by decide) (fun c12 => absurd c12 (by omega)) (fun c12 => ?_)
      refine e_iload_n (q := 16) (i := 1) dX2_allLegs_15 rfl rfl rfl ?_
      refine e_aload_n (q := 17) (i := 0) dX2_allLegs_16 rfl rfl rfl ?_
      refine e_getR (q := 20) dX2_allLegs_17 rfl fg_X2_22 (by first | assumption | rfl) rfl ?_
      refine e_iload_n (q := 21) (i := 2) dX2_allLegs_20 rfl rfl rfl ?_
      refine e_iald (q := 22) dX2_allLegs_21 rfl (by first | assumption | rfl) ?_
      refine e_iadd (q := 23) dX2_allLegs_22 rfl ?_
      refine e_istore_n (q := 24) (i := 1) (L' := [_, _, _]) dX2_allLegs_23 rfl rfl (by decide) rfl rfl ?_
      refine e_iinc (q := 27) (L' := [_, _, _]) dX2_allLegs_24 rfl rfl (by decide) rfl rfl ?_
      refine e_goto (tgt := 4) dX2_allLegs_27 (by decide) ?_
      exact ih _ _ (by omega) (by omega) (by rw [hs, zs_succ _ h0])
  refine e_entry om_X2_allLegs (Nat.le_of_ble_eq_true rfl) (L := [some (.ref (G.2.2.2 + L)), none, none]) rfl ?_
  refine e_iconst (q := 1) dX2_allLegs_0 rfl ?_
  refine e_istore_n (q := 2) (i := 1) (L' := [_, _, _]) dX2_allLegs_1 rfl rfl (by decide) rfl rfl ?_
  refine e_iconst (q := 3) dX2_allLegs_2 rfl ?_
  refine e_istore_n (q := 4) (i := 2) (L' := [_, _, _]) dX2_allLegs_3 rfl rfl (by decide) rfl rfl ?_
  exact lp ((σ.1 2 3)).toNat 0 0 (by omega) (by omega) rfl

theorem c_X2_holders {G : Gx} {σ : Sg} {L : Nat} {r c : Int} (hT : TI σ) (hI : LI σ L) (hL : isLand L) (hr : R32 r) (hc : R32 c) : Con G 3 mX2_holders [.ref (G.2.2.2 + L), .int (iZ r), .int (iZ c)] σ (pI (pE σ (zb (fun p => gHold (σ.1 3) (σ.1 4) (σ.1 (L + 1)) p r c) (σ.1 2 2)))) := by
  have y0 := ly0 hL
  have y1 := ly1 hL
  have y2 := ly2 hL
  have y3 := ly3 hL
  have y4 := ly4 hL
  obtain ⟨⟨hz0, hz1⟩, -, ⟨hn0, hn1⟩, ⟨hc0, hc1⟩, -⟩ := id hT
  have lp : ∀ (n : Nat) (i s : Int), 0 ≤ i → i + n = (σ.1 2 2) → s = zb (fun p => gHold (σ.1 3) (σ.1 4) (σ.1 (L + 1)) p r c) i → J G 3 mX2_holders (pI (pE σ (zb (fun p => gHold (σ.1 3) (σ.1 4) (σ.1 (L + 1)) p r c) (σ.1 2 2)))) σ 5 [some (.ref (G.2.2.2 + L)), some (.int (iZ r)), some (.int (iZ c)), some (.int (iZ s)), some (.int (iZ i))] [] := by
    intro n
    induction n with
    | zero =>
      intro i s h0 hn hs
      have hf := (show gHold (σ.1 3) (σ.1 4) (σ.1 (L + 1)) i r c = 0 ∨ gHold (σ.1 3) (σ.1 4) (σ.1 (L + 1)) i r c = 1 by unfold gHold; split <;> simp)
      have hb := zb_lt (fun p => gHold (σ.1 3) (σ.1 4) (σ.1 (L + 1)) p r c) (i := i)
      have hp2 := fun h : i.toNat ≤ 30 => p2_le h
      refine e_iload (q := 7) dX2_holders_5 rfl rfl ?_
      refine e_aload_n (q := 8) (i := 0) dX2_holders_7 rfl rfl rfl ?_
      refine e_getR (q := 11) dX2_holders_8 rfl fg_X2_9 (by first | assumption | rfl) rfl ?_
      refine e_getI (q := 14) (jz := 2) dX2_holders_11 rfl fg_X2_87 rfl (by first | assumption | rfl) rfl ?_
      refine e_icmp_ge (q := 17) (tgt := 41) dX2_holders_14 rfl (by decide) (fun c14 => ?_) (fun c14 => absurd (by omega) c14)
      refine e_iload_n (q := 42) (i := 3) dX2_holders_41 rfl rfl rfl ?_
      exact r_i dX2_holders_42 rfl ⟨by rw [hs]; congr 1; omega, rfl⟩
    | succ n ih =>
      intro i s h0 hn hs
      have hf := (show gHold (σ.1 3) (σ.1 4) (σ.1 (L + 1)) i r c = 0 ∨ gHold (σ.1 3) (σ.1 4) (σ.1 (L + 1)) i r c = 1 by unfold gHold; split <;> simp)
      have hb := zb_lt (fun p => gHold (σ.1 3) (σ.1 4) (σ.1 (L + 1)) p r c) (i := i)
      have hp2 := fun h : i.toNat ≤ 30 => p2_le h
      refine e_iload (q := 7) dX2_holders_5 rfl rfl ?_
      refine e_aload_n (q := 8) (i := 0) dX2_holders_7 rfl rfl rfl ?_
      refine e_getR (q := 11) dX2_holders_8 rfl fg_X2_9 (by first | assumption | rfl) rfl ?_
      refine e_getI (q := 14) (jz := 2) dX2_holders_11 rfl fg_X2_87 rfl (by first | assumption | rfl) rfl ?_
      refine e_icmp_ge (q := 17) (tgt := 41) dX2_holders_14 rfl (by decide) (fun c14 => absurd c14 (by omega)) (fun c14 => ?_)
      refine e_aload_n (q := 18) (i := 0) dX2_holders_17 rfl rfl rfl ?_
      refine e_iload (q := 20) dX2_holders_18 rfl rfl ?_
      refine e_iload_n (q := 21) (i := 1) dX2_holders_20 rfl rfl rfl ?_
      refine e_iload_n (q := 22) (i := 2) dX2_holders_21 rfl rfl rfl ?_
      refine e_Vip (q := 25) (vs := [_, _, _]) ok_X2_holds ml_X2_90 dX2_holders_22 rfl ⟨_, _, rfl⟩ (by first | assumption | rfl) rfl rfl (Nat.le_of_ble_eq_true rfl) (by decide) (c_X2_holds hT hI hL (by omega) (by omega) hr hc) ?_
      refine e_if_eq (q := 28) (tgt := 35) dX2_holders_25 rfl (by decide) (fun c25 => ?_) (fun c25 => ?_)
      · refine e_iinc (q := 38) (L' := [_, _, _, _, _]) dX2_holders_35 rfl rfl (by decide) rfl rfl ?_
        refine e_goto (tgt := 5) dX2_holders_38 (by decide) ?_
        exact ih _ _ (by omega) (by omega) (by rw [hs, zb_succ _ h0]; first | rw [if_pos (by omega)] | (rw [if_neg (by omega)]; omega))
      · refine e_iload_n (q := 29) (i := 3) dX2_holders_28 rfl rfl rfl ?_
        refine e_iconst (q := 30) dX2_holders_29 rfl ?_
        refine e_iload (q := 32) dX2_holders_30 rfl rfl ?_
        refine e_ishl (q := 33) dX2_holders_32 rfl (iZ_shl1 (by omega) (by omega)) ?_
        refine e_ior (q := 34) dX2_holders_33 rfl (iZ_orp (by omega) (by rw [hs]; exact hb.2) (by omega)) ?_
        refine e_istore_n (q := 35) (i := 3) (L' := [_, _, _, _, _]) dX2_holders_34 rfl rfl (by decide) rfl rfl ?_
        refine e_iinc (q := 38) (L' := [_, _, _, _, _]) dX2_holders_35 rfl rfl (by decide) rfl rfl ?_
        refine e_goto (tgt := 5) dX2_holders_38 (by decide) ?_
        exact ih _ _ (by omega) (by omega) (by rw [hs, zb_succ _ h0]; first | rw [if_pos (by omega)] | (rw [if_neg (by omega)]; omega))
  refine e_entry om_X2_holders (Nat.le_of_ble_eq_true rfl) (L := [some (.ref (G.2.2.2 + L)), some (.int (iZ r)), some (.int (iZ c)), none, none]) rfl ?_
  refine e_iconst (q := 1) dX2_holders_0 rfl ?_
  refine e_istore_n (q := 2) (i := 3) (L' := [_, _, _, _, _]) dX2_holders_1 rfl rfl (by decide) rfl rfl ?_
  refine e_iconst (q := 3) dX2_holders_2 rfl ?_
  refine e_istore (q := 5) (L' := [_, _, _, _, _]) dX2_holders_3 rfl (by decide) rfl rfl ?_
  exact lp ((σ.1 2 2)).toNat 0 0 (by omega) (by omega) rfl

theorem c_X2_touched {G : Gx} {σ : Sg} {L : Nat} {p : Int} (hT : TI σ) (hI : LI σ L) (hL : isLand L) (hp : 0 ≤ p) (hp4 : p < 4) : Con G 4 mX2_touched [.ref (G.2.2.2 + L), .int (iZ p)] σ (pI (pE σ (zb (fun q => if q ≠ p ∧ gTouch (σ.1 3) (σ.1 4) (σ.1 (L + 1)) p q = 1 then 1 else 0) (σ.1 2 2)))) := by
  have y0 := ly0 hL
  have y1 := ly1 hL
  have y2 := ly2 hL
  have y3 := ly3 hL
  have y4 := ly4 hL
  obtain ⟨⟨hz0, hz1⟩, -, ⟨hn0, hn1⟩, ⟨hc0, hc1⟩, -⟩ := id hT
  have lp : ∀ (n : Nat) (i s : Int), 0 ≤ i → i + n = (σ.1 2 2) → s = zb (fun q => if q ≠ p ∧ gTouch (σ.1 3) (σ.1 4) (σ.1 (L + 1)) p q = 1 then 1 else 0) i → J G 4 mX2_touched (pI (pE σ (zb (fun q => if q ≠ p ∧ gTouch (σ.1 3) (σ.1 4) (σ.1 (L + 1)) p q = 1 then 1 else 0) (σ.1 2 2)))) σ 4 [some (.ref (G.2.2.2 + L)), some (.int (iZ p)), some (.int (iZ s)), some (.int (iZ i))] [] := by
    intro n
    induction n with
    | zero =>
      intro i s h0 hn hs
      have hf := (show gTouch (σ.1 3) (σ.1 4) (σ.1 (L + 1)) p i = 0 ∨ gTouch (σ.1 3) (σ.1 4) (σ.1 (L + 1)) p i = 1 by unfold gTouch; split <;> simp)
      have hb := zb_lt (fun q => if q ≠ p ∧ gTouch (σ.1 3) (σ.1 4) (σ.1 (L + 1)) p q = 1 then 1 else 0) (i := i)
      refine e_iload_n (q := 5) (i := 3) dX2_touched_4 rfl rfl rfl ?_
      refine e_aload_n (q := 6) (i := 0) dX2_touched_5 rfl rfl rfl ?_
      refine e_getR (q := 9) dX2_touched_6 rfl fg_X2_9 (by first | assumption | rfl) rfl ?_
      refine e_getI (q := 12) (jz := 2) dX2_touched_9 rfl fg_X2_87 rfl (by first | assumption | rfl) rfl ?_
      refine e_icmp_ge (q := 15) (tgt := 41) dX2_touched_12 rfl (by decide) (fun c12 => ?_) (fun c12 => absurd (by omega) c12)
      refine e_iload_n (q := 42) (i := 2) dX2_touched_41 rfl rfl rfl ?_
      exact r_i dX2_touched_42 rfl ⟨by rw [hs]; congr 1; omega, rfl⟩
    | succ n ih =>
      intro i s h0 hn hs
      have hf := (show gTouch (σ.1 3) (σ.1 4) (σ.1 (L + 1)) p i = 0 ∨ gTouch (σ.1 3) (σ.1 4) (σ.1 (L + 1)) p i = 1 by unfold gTouch; split <;> simp)
      have hb := zb_lt (fun q => if q ≠ p ∧ gTouch (σ.1 3) (σ.1 4) (σ.1 (L + 1)) p q = 1 then 1 else 0) (i := i)
      refine e_iload_n (q := 5) (i := 3) dX2_touched_4 rfl rfl rfl ?_
      refine e_aload_n (q := 6) (i := 0) dX2_touched_5 rfl rfl rfl ?_
      refine e_getR (q := 9) dX2_touched_6 rfl fg_X2_9 (by first | assumption | rfl) rfl ?_
      refine e_getI (q := 12) (jz := 2) dX2_touched_9 rfl fg_X2_87 rfl (by first | assumption | rfl) rfl ?_
      refine e_icmp_ge (q := 15) (tgt := 41) dX2_touched_12 rfl (by decide) (fun c12 => absurd c12 (by omega)) (fun c12 => ?_)
      refine e_iload_n (q := 16) (i := 3) dX2_touched_15 rfl rfl rfl ?_
      refine e_iload_n (q := 17) (i := 1) dX2_touched_16 rfl rfl rfl ?_
      refine e_icmp_eq (q := 20) (tgt := 35) dX2_touched_17 rfl (by decide) (fun c17 => ?_) (fun c17 => ?_)
      · refine e_iinc (q := 38) (L' := [_, _, _, _]) dX2_touched_35 rfl rfl (by decide) rfl rfl ?_
        refine e_goto (tgt := 4) dX2_touched_38 (by decide) ?_
        refine ih _ _ (by omega) (by omega) ?_
        rw [hs, zb_succ _ h0]
        first | (rw [if_pos (by rw [if_pos ⟨by omega, by omega⟩])]; done) | (rw [if_neg (by rw [if_neg (by omega)]; decide)]; omega)
      · refine e_aload_n (q := 21) (i := 0) dX2_touched_20 rfl rfl rfl ?_
        refine e_iload_n (q := 22) (i := 1) dX2_touched_21 rfl rfl rfl ?_
        refine e_iload_n (q := 23) (i := 3) dX2_touched_22 rfl rfl rfl ?_
        refine e_Vip (q := 26) (vs := [_, _]) ok_X2_touch ml_X2_120 dX2_touched_23 rfl ⟨_, _, rfl⟩ (by first | assumption | rfl) rfl rfl (Nat.le_of_ble_eq_true rfl) (by decide) (c_X2_touch hT hI hL hp hp4 (by omega) (by omega)) ?_
        refine e_if_eq (q := 29) (tgt := 35) dX2_touched_26 rfl (by decide) (fun c26 => ?_) (fun c26 => ?_)
        · refine e_iinc (q := 38) (L' := [_, _, _, _]) dX2_touched_35 rfl rfl (by decide) rfl rfl ?_
          refine e_goto (tgt := 4) dX2_touched_38 (by decide) ?_
          refine ih _ _ (by omega) (by omega) ?_
          rw [hs, zb_succ _ h0]
          first | (rw [if_pos (by rw [if_pos ⟨by omega, by omega⟩])]; done) | (rw [if_neg (by rw [if_neg (by omega)]; decide)]; omega)
        · refine e_iload_n (q := 30) (i := 2) dX2_touched_29 rfl rfl rfl ?_
          refine e_iconst (q := 31) dX2_touched_30 rfl ?_
          refine e_iload_n (q := 32) (i := 3) dX2_touched_31 rfl rfl rfl ?_
          refine e_ishl (q := 33) dX2_touched_32 rfl (iZ_shl1 (by omega) (by omega)) ?_
          refine e_ior (q := 34) dX2_touched_33 rfl (iZ_orp (by omega) (by rw [hs]; exact hb.2) (by omega)) ?_
          refine e_istore_n (q := 35) (i := 2) (L' := [_, _, _, _]) dX2_touched_34 rfl rfl (by decide) rfl rfl ?_
          refine e_iinc (q := 38) (L' := [_, _, _, _]) dX2_touched_35 rfl rfl (by decide) rfl rfl ?_
          refine e_goto (tgt := 4) dX2_touched_38 (by decide) ?_
          refine ih _ _ (by omega) (by omega) ?_
          rw [hs, zb_succ _ h0]
          first | (rw [if_pos (by rw [if_pos ⟨by omega, by omega⟩])]; done) | (rw [if_neg (by rw [if_neg (by omega)]; decide)]; omega)
  refine e_entry om_X2_touched (Nat.le_of_ble_eq_true rfl) (L := [some (.ref (G.2.2.2 + L)), some (.int (iZ p)), none, none]) rfl ?_
  refine e_iconst (q := 1) dX2_touched_0 rfl ?_
  refine e_istore_n (q := 2) (i := 2) (L' := [_, _, _, _]) dX2_touched_1 rfl rfl (by decide) rfl rfl ?_
  refine e_iconst (q := 3) dX2_touched_2 rfl ?_
  refine e_istore_n (q := 4) (i := 3) (L' := [_, _, _, _]) dX2_touched_3 rfl rfl (by decide) rfl rfl ?_
  exact lp ((σ.1 2 2)).toNat 0 0 (by omega) (by omega) rfl

theorem c_X2_allShared {G : Gx} {σ : Sg} {L : Nat} (hT : TI σ) (hI : LI σ L) (hL : isLand L) : Con G 4 mX2_allShared [.ref (G.2.2.2 + L)] σ (pI (pE σ (zs (fun p => zs (fun q => if p < q then gOv (σ.1 3) (σ.1 4) (σ.1 (L + 1)) p q else 0) (σ.1 2 2)) (σ.1 2 2)))) := by
  have y0 := ly0 hL
  have y1 := ly1 hL
  have y2 := ly2 hL
  have y3 := ly3 hL
  have y4 := ly4 hL
  obtain ⟨⟨hz0, hz1⟩, -, ⟨hn0, hn1⟩, ⟨hc0, hc1⟩, -⟩ := id hT
  have lp : ∀ (n : Nat) (x : Option Value) (i s : Int), 0 ≤ i → i + n = (σ.1 2 2) → s = zs (fun p => zs (fun q => if p < q then gOv (σ.1 3) (σ.1 4) (σ.1 (L + 1)) p q else 0) (σ.1 2 2)) i → J G 4 mX2_allShared (pI (pE σ (zs (fun p => zs (fun q => if p < q then gOv (σ.1 3) (σ.1 4) (σ.1 (L + 1)) p q else 0) (σ.1 2 2)) (σ.1 2 2)))) σ 4 [some (.ref (G.2.2.2 + L)), some (.int (iZ s)), some (.int (iZ i)), x] [] := by
    intro n
    induction n with
    | zero =>
      intro x i s h0 hn hs
      refine e_iload_n (q := 5) (i := 2) dX2_allShared_4 rfl rfl rfl ?_
      refine e_aload_n (q := 6) (i := 0) dX2_allShared_5 rfl rfl rfl ?_
      refine e_getR (q := 9) dX2_allShared_6 rfl fg_X2_9 (by first | assumption | rfl) rfl ?_
      refine e_getI (q := 12) (jz := 2) dX2_allShared_9 rfl fg_X2_87 rfl (by first | assumption | rfl) rfl ?_
      refine e_icmp_ge (q := 15) (tgt := 51) dX2_allShared_12 rfl (by decide) (fun c12 => ?_) (fun c12 => absurd (by omega) c12)
      refine e_iload_n (q := 52) (i := 1) dX2_allShared_51 rfl rfl rfl ?_
      exact r_i dX2_allShared_52 rfl ⟨by rw [hs]; congr 1; omega, rfl⟩
    | succ n ih =>
      intro x i s h0 hn hs
      refine e_iload_n (q := 5) (i := 2) dX2_allShared_4 rfl rfl rfl ?_
      refine e_aload_n (q := 6) (i := 0) dX2_allShared_5 rfl rfl rfl ?_
      refine e_getR (q := 9) dX2_allShared_6 rfl fg_X2_9 (by first | assumption | rfl) rfl ?_
      refine e_getI (q := 12) (jz := 2) dX2_allShared_9 rfl fg_X2_87 rfl (by first | assumption | rfl) rfl ?_
      refine e_icmp_ge (q := 15) (tgt := 51) dX2_allShared_12 rfl (by decide) (fun c12 => absurd c12 (by omega)) (fun c12 => ?_)
      refine e_iload_n (q := 16) (i := 2) dX2_allShared_15 rfl rfl rfl ?_
      refine e_iconst (q := 17) dX2_allShared_16 rfl ?_
      refine e_iadd (q := 18) dX2_allShared_17 rfl ?_
      refine e_istore_n (q := 19) (i := 3) (L' := [_, _, _, _]) dX2_allShared_18 rfl rfl (by decide) rfl rfl ?_
      have z0 : ∀ m : Nat, (m : Int) ≤ i + 1 → zsum (fun q => if i < q then gOv (σ.1 3) (σ.1 4) (σ.1 (L + 1)) i q else 0) m = 0 := by
        intro m
        induction m with
        | zero => intro _; rfl
        | succ m im => intro hm; simp only [zsum]; rw [im (by omega), if_neg (by omega)]; rfl
      have lq : ∀ (k : Nat) (j t : Int), i + 1 ≤ j → j + k = (σ.1 2 2) → t = s + zs (fun q => if i < q then gOv (σ.1 3) (σ.1 4) (σ.1 (L + 1)) i q else 0) j → J G 4 mX2_allShared (pI (pE σ (zs (fun p => zs (fun q => if p < q then gOv (σ.1 3) (σ.1 4) (σ.1 (L + 1)) p q else 0) (σ.1 2 2)) (σ.1 2 2)))) σ 19 [some (.ref (G.2.2.2 + L)), some (.int (iZ t)), some (.int (iZ i)), some (.int (iZ j))] [] := by
        intro k
        induction k with
        | zero =>
          intro j t h3 h4 h5
          refine e_iload_n (q := 20) (i := 3) dX2_allShared_19 rfl rfl rfl ?_
          refine e_aload_n (q := 21) (i := 0) dX2_allShared_20 rfl rfl rfl ?_
          refine e_getR (q := 24) dX2_allShared_21 rfl fg_X2_9 (by first | assumption | rfl) rfl ?_
          refine e_getI (q := 27) (jz := 2) dX2_allShared_24 rfl fg_X2_87 rfl (by first | assumption | rfl) rfl ?_
          refine e_icmp_ge (q := 30) (tgt := 45) dX2_allShared_27 rfl (by decide) (fun c27 => ?_) (fun c27 => absurd (by omega) c27)
          refine e_iinc (q := 48) (L' := [_, _, _, _]) dX2_allShared_45 rfl rfl (by decide) rfl rfl ?_
          refine e_goto (tgt := 4) dX2_allShared_48 (by decide) ?_
          exact ih _ _ _ (by omega) (by omega) (by rw [h5, hs, zs_succ _ h0]; congr 2; omega)
        | succ k ih2 =>
          intro j t h3 h4 h5
          refine e_iload_n (q := 20) (i := 3) dX2_allShared_19 rfl rfl rfl ?_
          refine e_aload_n (q := 21) (i := 0) dX2_allShared_20 rfl rfl rfl ?_
          refine e_getR (q := 24) dX2_allShared_21 rfl fg_X2_9 (by first | assumption | rfl) rfl ?_
          refine e_getI (q := 27) (jz := 2) dX2_allShared_24 rfl fg_X2_87 rfl (by first | assumption | rfl) rfl ?_
          refine e_icmp_ge (q := 30) (tgt := 45) dX2_allShared_27 rfl (by decide) (fun c27 => absurd c27 (by omega)) (fun c27 => ?_)
          refine e_iload_n (q := 31) (i := 1) dX2_allShared_30 rfl rfl rfl ?_
          refine e_aload_n (q := 32) (i := 0) dX2_allShared_31 rfl rfl rfl ?_
          refine e_iload_n (q := 33) (i := 2) dX2_allShared_32 rfl rfl rfl ?_
          refine e_iload_n (q := 34) (i := 3) dX2_allShared_33 rfl rfl rfl ?_
          refine e_Vip (q := 37) (vs := [_, _]) ok_X2_shared ml_X2_127 dX2_allShared_34 rfl ⟨_, _, rfl⟩ (by first | assumption | rfl) rfl rfl (Nat.le_of_ble_eq_true rfl) (by decide) (c_X2_shared hT hI hL (by omega) (by omega) (by omega) (by omega)) ?_
          refine e_iadd (q := 38) dX2_allShared_37 rfl ?_
          refine e_istore_n (q := 39) (i := 1) (L' := [_, _, _, _]) dX2_allShared_38 rfl rfl (by decide) rfl rfl ?_
          refine e_iinc (q := 42) (L' := [_, _, _, _]) dX2_allShared_39 rfl rfl (by decide) rfl rfl ?_
          refine e_goto (tgt := 19) dX2_allShared_42 (by decide) ?_
          exact ih2 _ _ (by omega) (by omega) (by rw [h5, zs_succ _ (by omega), if_pos (by omega)]; omega)
      exact lq ((σ.1 2 2) - i - 1).toNat _ _ (by omega) (by omega) (by unfold zs; rw [z0 _ (by omega)]; omega)
  refine e_entry om_X2_allShared (Nat.le_of_ble_eq_true rfl) (L := [some (.ref (G.2.2.2 + L)), none, none, none]) rfl ?_
  refine e_iconst (q := 1) dX2_allShared_0 rfl ?_
  refine e_istore_n (q := 2) (i := 1) (L' := [_, _, _, _]) dX2_allShared_1 rfl rfl (by decide) rfl rfl ?_
  refine e_iconst (q := 3) dX2_allShared_2 rfl ?_
  refine e_istore_n (q := 4) (i := 2) (L' := [_, _, _, _]) dX2_allShared_3 rfl rfl (by decide) rfl rfl ?_
  exact lp ((σ.1 2 2)).toNat _ 0 0 (by omega) (by omega) rfl

