/-- how many cells are of so many lands at least -/
def gCells (rw cl fr : Int → Int) (n z least : Int) : Int := zs (fun r => zs (fun c => if least ≤ (bcF (iZ (zb (fun p => gHold rw cl fr p r c) n))).toInt then 1 else 0) z) z
def gTd (rw cl fr : Int → Int) (n p : Int) : Int := zb (fun q => if q ≠ p ∧ gTouch rw cl fr p q = 1 then 1 else 0) n
def gHang (rw cl fr : Int → Int) (n p : Int) : Int := hOut (gTd rw cl fr n) n n (2 ^ p.toNat)
def gSets (rw cl fr : Int → Int) (n : Int) : Int := zs (fun p => if gHang rw cl fr n p % 2 ^ p.toNat = 0 then 1 else 0) n
theorem gTd_16 {rw cl fr : Int → Int} {n : Int} (hn : n ≤ 4) (p : Int) : 0 ≤ gTd rw cl fr n p ∧ gTd rw cl fr n p < 16 := by
  have h := zb_lt (fun q => if q ≠ p ∧ gTouch rw cl fr p q = 1 then 1 else 0) (i := n)
  have e : ∀ k : Nat, k ≤ 4 → (2 : Int) ^ k ≤ 16 := by decide
  have := e n.toNat (by omega)
  unfold gTd
  omega
theorem p2_16 {p : Int} (h0 : 0 ≤ p) (h1 : p < 4) : (1 : Int) ≤ 2 ^ p.toNat ∧ (2 : Int) ^ p.toNat ≤ 8 := by
  have e : ∀ k : Nat, k < 4 → (1 : Int) ≤ 2 ^ k ∧ (2 : Int) ^ k ≤ 8 := by decide
  exact e p.toNat (by omega)

theorem c_X2_cellsOfAtLeast {G : Gx} {σ : Sg} {L : Nat} {least : Int} (hT : TI σ) (hI : LI σ L) (hL : isLand L) (hl : R32 least) : Con G 4 mX2_cellsOfAtLeast [.ref (G.2.2.2 + L), .int (iZ least)] σ (pI (pE σ (gCells (σ.1 3) (σ.1 4) (σ.1 (L + 1)) (σ.1 2 2) (σ.1 2 0) least))) := by
  have y0 := ly0 hL
  have y1 := ly1 hL
  have y2 := ly2 hL
  have y3 := ly3 hL
  have y4 := ly4 hL
  obtain ⟨⟨hz0, hz1⟩, -, ⟨hn0, hn1⟩, ⟨hc0, hc1⟩, -⟩ := id hT
  have lp : ∀ (n : Nat) (x : Option Value) (i s : Int), 0 ≤ i → i + n = (σ.1 2 0) → s = zs (fun r => zs (fun c => if least ≤ (bcF (iZ (zb (fun p => gHold (σ.1 3) (σ.1 4) (σ.1 (L + 1)) p r c) (σ.1 2 2)))).toInt then 1 else 0) (σ.1 2 0)) i → J G 4 mX2_cellsOfAtLeast (pI (pE σ (gCells (σ.1 3) (σ.1 4) (σ.1 (L + 1)) (σ.1 2 2) (σ.1 2 0) least))) σ 4 [some (.ref (G.2.2.2 + L)), some (.int (iZ least)), some (.int (iZ s)), some (.int (iZ i)), x] [] := by
    intro n
    induction n with
    | zero =>
      intro x i s h0 hn hs
      refine e_iload_n (q := 5) (i := 3) dX2_cellsOfAtLeast_4 rfl rfl rfl ?_
      refine e_aload_n (q := 6) (i := 0) dX2_cellsOfAtLeast_5 rfl rfl rfl ?_
      refine e_getR (q := 9) dX2_cellsOfAtLeast_6 rfl fg_X2_9 (by first | assumption | rfl) rfl ?_
      refine e_getI (q := 12) (jz := 0) dX2_cellsOfAtLeast_9 rfl fg_X2_94 rfl (by first | assumption | rfl) rfl ?_
      refine e_icmp_ge (q := 15) (tgt := 59) dX2_cellsOfAtLeast_12 rfl (by decide) (fun c12 => ?_) (fun c12 => absurd (by omega) c12)
      refine e_iload_n (q := 60) (i := 2) dX2_cellsOfAtLeast_59 rfl rfl rfl ?_
      exact r_i dX2_cellsOfAtLeast_60 rfl ⟨by rw [hs]; unfold gCells; congr 1; omega, rfl⟩
    | succ n ih =>
      intro x i s h0 hn hs
      refine e_iload_n (q := 5) (i := 3) dX2_cellsOfAtLeast_4 rfl rfl rfl ?_
      refine e_aload_n (q := 6) (i := 0) dX2_cellsOfAtLeast_5 rfl rfl rfl ?_
      refine e_getR (q := 9) dX2_cellsOfAtLeast_6 rfl fg_X2_9 (by first | assumption | rfl) rfl ?_
      refine e_getI (q := 12) (jz := 0) dX2_cellsOfAtLeast_9 rfl fg_X2_94 rfl (by first | assumption | rfl) rfl ?_
      refine e_icmp_ge (q := 15) (tgt := 59) dX2_cellsOfAtLeast_12 rfl (by decide) (fun c12 => absurd c12 (by omega)) (fun c12 => ?_)
      refine e_iconst (q := 16) dX2_cellsOfAtLeast_15 rfl ?_
      refine e_istore (q := 18) (L' := [_, _, _, _, _]) dX2_cellsOfAtLeast_16 rfl (by decide) rfl rfl ?_
      have lq : ∀ (k : Nat) (j t : Int), 0 ≤ j → j + k = (σ.1 2 0) → t = s + zs (fun c => if least ≤ (bcF (iZ (zb (fun p => gHold (σ.1 3) (σ.1 4) (σ.1 (L + 1)) p i c) (σ.1 2 2)))).toInt then 1 else 0) j → J G 4 mX2_cellsOfAtLeast (pI (pE σ (gCells (σ.1 3) (σ.1 4) (σ.1 (L + 1)) (σ.1 2 2) (σ.1 2 0) least))) σ 18 [some (.ref (G.2.2.2 + L)), some (.int (iZ least)), some (.int (iZ t)), some (.int (iZ i)), some (.int (iZ j))] [] := by
        intro k
        induction k with
        | zero =>
          intro j t h3 h4 h5
          refine e_iload (q := 20) dX2_cellsOfAtLeast_18 rfl rfl ?_
          refine e_aload_n (q := 21) (i := 0) dX2_cellsOfAtLeast_20 rfl rfl rfl ?_
          refine e_getR (q := 24) dX2_cellsOfAtLeast_21 rfl fg_X2_9 (by first | assumption | rfl) rfl ?_
          refine e_getI (q := 27) (jz := 0) dX2_cellsOfAtLeast_24 rfl fg_X2_94 rfl (by first | assumption | rfl) rfl ?_
          refine e_icmp_ge (q := 30) (tgt := 53) dX2_cellsOfAtLeast_27 rfl (by decide) (fun c27 => ?_) (fun c27 => absurd (by omega) c27)
          refine e_iinc (q := 56) (L' := [_, _, _, _, _]) dX2_cellsOfAtLeast_53 rfl rfl (by decide) rfl rfl ?_
          refine e_goto (tgt := 4) dX2_cellsOfAtLeast_56 (by decide) ?_
          exact ih _ _ _ (by omega) (by omega) (by rw [h5, hs, zs_succ _ h0]; congr 2; omega)
        | succ k ih2 =>
          intro j t h3 h4 h5
          refine e_iload (q := 20) dX2_cellsOfAtLeast_18 rfl rfl ?_
          refine e_aload_n (q := 21) (i := 0) dX2_cellsOfAtLeast_20 rfl rfl rfl ?_
          refine e_getR (q := 24) dX2_cellsOfAtLeast_21 rfl fg_X2_9 (by first | assumption | rfl) rfl ?_
          refine e_getI (q := 27) (jz := 0) dX2_cellsOfAtLeast_24 rfl fg_X2_94 rfl (by first | assumption | rfl) rfl ?_
          refine e_icmp_ge (q := 30) (tgt := 53) dX2_cellsOfAtLeast_27 rfl (by decide) (fun c27 => absurd c27 (by omega)) (fun c27 => ?_)
          refine e_aload_n (q := 31) (i := 0) dX2_cellsOfAtLeast_30 rfl rfl rfl ?_
          refine e_iload_n (q := 32) (i := 3) dX2_cellsOfAtLeast_31 rfl rfl rfl ?_
          refine e_iload (q := 34) dX2_cellsOfAtLeast_32 rfl rfl ?_
          refine e_Vip (q := 37) (vs := [_, _]) ok_X2_holders ml_X2_97 dX2_cellsOfAtLeast_34 rfl ⟨_, _, rfl⟩ (by first | assumption | rfl) rfl rfl (Nat.le_of_ble_eq_true rfl) (by decide) (c_X2_holders hT hI hL ⟨by omega, by omega⟩ ⟨by omega, by omega⟩) ?_
          refine e_Sip (q := 40) (vs := [_]) ok_J6_bitCount_0f7a4 ml_X2_101 dX2_cellsOfAtLeast_37 rfl rfl rfl (Nat.le_of_ble_eq_true rfl) (by decide) (c_bitCount) ?_
          refine e_iload_n (q := 41) (i := 1) dX2_cellsOfAtLeast_40 rfl rfl rfl ?_
          refine e_icmp_lt (q := 44) (tgt := 47) dX2_cellsOfAtLeast_41 rfl (by decide) (fun c41 => ?_) (fun c41 => ?_) (hx := R32_of _) (hy := hl)
          · refine e_iinc (q := 50) (L' := [_, _, _, _, _]) dX2_cellsOfAtLeast_47 rfl rfl (by decide) rfl rfl ?_
            refine e_goto (tgt := 18) dX2_cellsOfAtLeast_50 (by decide) ?_
            exact ih2 _ _ (by omega) (by omega) (by rw [h5, zs_succ _ h3]; first | (rw [if_pos (by omega)]; omega) | (rw [if_neg (by omega)]; omega))
          · refine e_iinc (q := 47) (L' := [_, _, _, _, _]) dX2_cellsOfAtLeast_44 rfl rfl (by decide) rfl rfl ?_
            refine e_iinc (q := 50) (L' := [_, _, _, _, _]) dX2_cellsOfAtLeast_47 rfl rfl (by decide) rfl rfl ?_
            refine e_goto (tgt := 18) dX2_cellsOfAtLeast_50 (by decide) ?_
            exact ih2 _ _ (by omega) (by omega) (by rw [h5, zs_succ _ h3]; first | (rw [if_pos (by omega)]; omega) | (rw [if_neg (by omega)]; omega))
      exact lq ((σ.1 2 0)).toNat _ _ (by omega) (by omega) (by rw [zs_0]; omega)
  refine e_entry om_X2_cellsOfAtLeast (Nat.le_of_ble_eq_true rfl) (L := [some (.ref (G.2.2.2 + L)), some (.int (iZ least)), none, none, none]) rfl ?_
  refine e_iconst (q := 1) dX2_cellsOfAtLeast_0 rfl ?_
  refine e_istore_n (q := 2) (i := 2) (L' := [_, _, _, _, _]) dX2_cellsOfAtLeast_1 rfl rfl (by decide) rfl rfl ?_
  refine e_iconst (q := 3) dX2_cellsOfAtLeast_2 rfl ?_
  refine e_istore_n (q := 4) (i := 3) (L' := [_, _, _, _, _]) dX2_cellsOfAtLeast_3 rfl rfl (by decide) rfl rfl ?_
  exact lp ((σ.1 2 0)).toNat _ 0 0 (by omega) (by omega) rfl

theorem c_X2_hangingWith {G : Gx} {σ : Sg} {L : Nat} {p : Int} (hT : TI σ) (hI : LI σ L) (hL : isLand L) (hp : 0 ≤ p) (hp4 : p < 4) : Con G 5 mX2_hangingWith [.ref (G.2.2.2 + L), .int (iZ p)] σ (pI (pE σ (gHang (σ.1 3) (σ.1 4) (σ.1 (L + 1)) (σ.1 2 2) p))) := by
  have y0 := ly0 hL
  have y1 := ly1 hL
  have y2 := ly2 hL
  have y3 := ly3 hL
  have y4 := ly4 hL
  obtain ⟨⟨hz0, hz1⟩, -, ⟨hn0, hn1⟩, ⟨hc0, hc1⟩, -⟩ := id hT
  have hT16 : ∀ k : Nat, k < 4 → 0 ≤ (gTd (σ.1 3) (σ.1 4) (σ.1 (L + 1)) (σ.1 2 2)) k ∧ (gTd (σ.1 3) (σ.1 4) (σ.1 (L + 1)) (σ.1 2 2)) k < 16 := fun k _ => gTd_16 hn1 k
  have lp : ∀ (n : Nat) (x : Option Value) (i s : Int), 0 ≤ i → i + n = (σ.1 2 2) → s = hOut (gTd (σ.1 3) (σ.1 4) (σ.1 (L + 1)) (σ.1 2 2)) (σ.1 2 2) i (2 ^ p.toNat) → J G 5 mX2_hangingWith (pI (pE σ (gHang (σ.1 3) (σ.1 4) (σ.1 (L + 1)) (σ.1 2 2) p))) σ 6 [some (.ref (G.2.2.2 + L)), some (.int (iZ p)), some (.int (iZ s)), some (.int (iZ i)), x] [] := by
    intro n
    induction n with
    | zero =>
      intro x i s h0 hn hs
      refine e_iload_n (q := 7) (i := 3) dX2_hangingWith_6 rfl rfl rfl ?_
      refine e_aload_n (q := 8) (i := 0) dX2_hangingWith_7 rfl rfl rfl ?_
      refine e_getR (q := 11) dX2_hangingWith_8 rfl fg_X2_9 (by first | assumption | rfl) rfl ?_
      refine e_getI (q := 14) (jz := 2) dX2_hangingWith_11 rfl fg_X2_87 rfl (by first | assumption | rfl) rfl ?_
      refine e_icmp_ge (q := 17) (tgt := 62) dX2_hangingWith_14 rfl (by decide) (fun c14 => ?_) (fun c14 => absurd (by omega) c14)
      refine e_iload_n (q := 63) (i := 2) dX2_hangingWith_62 rfl rfl rfl ?_
      exact r_i dX2_hangingWith_63 rfl ⟨by rw [hs]; unfold gHang; congr 1; omega, rfl⟩
    | succ n ih =>
      intro x i s h0 hn hs
      refine e_iload_n (q := 7) (i := 3) dX2_hangingWith_6 rfl rfl rfl ?_
      refine e_aload_n (q := 8) (i := 0) dX2_hangingWith_7 rfl rfl rfl ?_
      refine e_getR (q := 11) dX2_hangingWith_8 rfl fg_X2_9 (by first | assumption | rfl) rfl ?_
      refine e_getI (q := 14) (jz := 2) dX2_hangingWith_11 rfl fg_X2_87 rfl (by first | assumption | rfl) rfl ?_
      refine e_icmp_ge (q := 17) (tgt := 62) dX2_hangingWith_14 rfl (by decide) (fun c14 => absurd c14 (by omega)) (fun c14 => ?_)
      refine e_iconst (q := 18) dX2_hangingWith_17 rfl ?_
      refine e_istore (q := 20) (L' := [_, _, _, _, _]) dX2_hangingWith_18 rfl (by decide) rfl rfl ?_
      have hs16 : 0 ≤ s ∧ s < 16 := by rw [hs]; exact hOut_16 (by omega) hT16 (by have := p2_16 hp hp4; omega) (by have := p2_16 hp hp4; omega)
      have lq : ∀ (k : Nat) (j t : Int), 0 ≤ j → j + k = (σ.1 2 2) → t = hIn (gTd (σ.1 3) (σ.1 4) (σ.1 (L + 1)) (σ.1 2 2)) j s → J G 5 mX2_hangingWith (pI (pE σ (gHang (σ.1 3) (σ.1 4) (σ.1 (L + 1)) (σ.1 2 2) p))) σ 20 [some (.ref (G.2.2.2 + L)), some (.int (iZ p)), some (.int (iZ t)), some (.int (iZ i)), some (.int (iZ j))] [] := by
        intro k
        induction k with
        | zero =>
          intro j t h3 h4 h5
          have hb := hIn_16 hT16 (k := j) (b := s) (by omega) hs16.1 hs16.2
          rw [← h5] at hb
          refine e_iload (q := 22) dX2_hangingWith_20 rfl rfl ?_
          refine e_aload_n (q := 23) (i := 0) dX2_hangingWith_22 rfl rfl rfl ?_
          refine e_getR (q := 26) dX2_hangingWith_23 rfl fg_X2_9 (by first | assumption | rfl) rfl ?_
          refine e_getI (q := 29) (jz := 2) dX2_hangingWith_26 rfl fg_X2_87 rfl (by first | assumption | rfl) rfl ?_
          refine e_icmp_ge (q := 32) (tgt := 56) dX2_hangingWith_29 rfl (by decide) (fun c29 => ?_) (fun c29 => absurd (by omega) c29)
          refine e_iinc (q := 59) (L' := [_, _, _, _, _]) dX2_hangingWith_56 rfl rfl (by decide) rfl rfl ?_
          refine e_goto (tgt := 6) dX2_hangingWith_59 (by decide) ?_
          exact ih _ _ _ (by omega) (by omega) (by rw [h5, hOut_succ _ _ h0, ← hs]; congr 1; omega)
        | succ k ih2 =>
          intro j t h3 h4 h5
          have hb := hIn_16 hT16 (k := j) (b := s) (by omega) hs16.1 hs16.2
          rw [← h5] at hb
          refine e_iload (q := 22) dX2_hangingWith_20 rfl rfl ?_
          refine e_aload_n (q := 23) (i := 0) dX2_hangingWith_22 rfl rfl rfl ?_
          refine e_getR (q := 26) dX2_hangingWith_23 rfl fg_X2_9 (by first | assumption | rfl) rfl ?_
          refine e_getI (q := 29) (jz := 2) dX2_hangingWith_26 rfl fg_X2_87 rfl (by first | assumption | rfl) rfl ?_
          refine e_icmp_ge (q := 32) (tgt := 56) dX2_hangingWith_29 rfl (by decide) (fun c29 => absurd c29 (by omega)) (fun c29 => ?_)
          refine e_iload_n (q := 33) (i := 2) dX2_hangingWith_32 rfl rfl rfl ?_
          refine e_iload (q := 35) dX2_hangingWith_33 rfl rfl ?_
          refine e_ishr (q := 36) dX2_hangingWith_35 rfl (iZ_shrk (by omega) (by omega) h3 (by omega)) ?_
          refine e_iconst (q := 37) dX2_hangingWith_36 rfl ?_
          refine e_iand (q := 38) dX2_hangingWith_37 rfl (iZ_and1 (Int.ediv_nonneg (by omega) (by have := p2_16 h3 (by omega); omega)) (by have := Int.ediv_le_self (2 ^ j.toNat) (show 0 ≤ t by omega); omega)) ?_
          refine e_if_eq (q := 41) (tgt := 50) dX2_hangingWith_38 rfl (by decide) (fun c38 => ?_) (fun c38 => ?_) (hx := ⟨by omega, by omega⟩)
          · refine e_iinc (q := 53) (L' := [_, _, _, _, _]) dX2_hangingWith_50 rfl rfl (by decide) rfl rfl ?_
            refine e_goto (tgt := 20) dX2_hangingWith_53 (by decide) ?_
            refine ih2 _ _ (by omega) (by omega) ?_
            rw [hIn_succ _ h3, ← h5]
            first | (rw [if_pos (by omega)]; done) | (rw [if_neg (by omega)]; rfl)
          · refine e_iload_n (q := 42) (i := 2) dX2_hangingWith_41 rfl rfl rfl ?_
            refine e_aload_n (q := 43) (i := 0) dX2_hangingWith_42 rfl rfl rfl ?_
            refine e_iload (q := 45) dX2_hangingWith_43 rfl rfl ?_
            refine e_Vip (q := 48) (vs := [_]) ok_X2_touched ml_X2_136 dX2_hangingWith_45 rfl ⟨_, _, rfl⟩ (by first | assumption | rfl) rfl rfl (Nat.le_of_ble_eq_true rfl) (by decide) (c_X2_touched hT hI hL (by omega) (by omega)) ?_
            refine e_ior (q := 49) dX2_hangingWith_48 rfl (zor_eq _ _) ?_
            refine e_istore_n (q := 50) (i := 2) (L' := [_, _, _, _, _]) dX2_hangingWith_49 rfl rfl (by decide) rfl rfl ?_
            refine e_iinc (q := 53) (L' := [_, _, _, _, _]) dX2_hangingWith_50 rfl rfl (by decide) rfl rfl ?_
            refine e_goto (tgt := 20) dX2_hangingWith_53 (by decide) ?_
            refine ih2 _ _ (by omega) (by omega) ?_
            rw [hIn_succ _ h3, ← h5]
            first | (rw [if_pos (by omega)]; done) | (rw [if_neg (by omega)]; rfl)
      exact lq ((σ.1 2 2)).toNat _ _ (by omega) (by omega) rfl
  refine e_entry om_X2_hangingWith (Nat.le_of_ble_eq_true rfl) (L := [some (.ref (G.2.2.2 + L)), some (.int (iZ p)), none, none, none]) rfl ?_
  refine e_iconst (q := 1) dX2_hangingWith_0 rfl ?_
  refine e_iload_n (q := 2) (i := 1) dX2_hangingWith_1 rfl rfl rfl ?_
  refine e_ishl (q := 3) dX2_hangingWith_2 rfl (iZ_shl1 hp (by omega)) ?_
  refine e_istore_n (q := 4) (i := 2) (L' := [_, _, _, _, _]) dX2_hangingWith_3 rfl rfl (by decide) rfl rfl ?_
  refine e_iconst (q := 5) dX2_hangingWith_4 rfl ?_
  refine e_istore_n (q := 6) (i := 3) (L' := [_, _, _, _, _]) dX2_hangingWith_5 rfl rfl (by decide) rfl rfl ?_
  exact lp ((σ.1 2 2)).toNat _ 0 _ (by omega) (by omega) rfl

theorem c_X2_sets {G : Gx} {σ : Sg} {L : Nat} (hT : TI σ) (hI : LI σ L) (hL : isLand L) : Con G 6 mX2_sets [.ref (G.2.2.2 + L)] σ (pI (pE σ (gSets (σ.1 3) (σ.1 4) (σ.1 (L + 1)) (σ.1 2 2)))) := by
  have y0 := ly0 hL
  have y1 := ly1 hL
  have y2 := ly2 hL
  have y3 := ly3 hL
  have y4 := ly4 hL
  obtain ⟨⟨hz0, hz1⟩, -, ⟨hn0, hn1⟩, ⟨hc0, hc1⟩, -⟩ := id hT
  have hT16 : ∀ k : Nat, k < 4 → 0 ≤ (gTd (σ.1 3) (σ.1 4) (σ.1 (L + 1)) (σ.1 2 2)) k ∧ (gTd (σ.1 3) (σ.1 4) (σ.1 (L + 1)) (σ.1 2 2)) k < 16 := fun k _ => gTd_16 hn1 k
  have lp : ∀ (n : Nat) (i s : Int), 0 ≤ i → i + n = (σ.1 2 2) → s = zs (fun p => if gHang (σ.1 3) (σ.1 4) (σ.1 (L + 1)) (σ.1 2 2) p % 2 ^ p.toNat = 0 then 1 else 0) i → J G 6 mX2_sets (pI (pE σ (gSets (σ.1 3) (σ.1 4) (σ.1 (L + 1)) (σ.1 2 2)))) σ 4 [some (.ref (G.2.2.2 + L)), some (.int (iZ s)), some (.int (iZ i))] [] := by
    intro n
    induction n with
    | zero =>
      intro i s h0 hn hs
      refine e_iload_n (q := 5) (i := 2) dX2_sets_4 rfl rfl rfl ?_
      refine e_aload_n (q := 6) (i := 0) dX2_sets_5 rfl rfl rfl ?_
      refine e_getR (q := 9) dX2_sets_6 rfl fg_X2_9 (by first | assumption | rfl) rfl ?_
      refine e_getI (q := 12) (jz := 2) dX2_sets_9 rfl fg_X2_87 rfl (by first | assumption | rfl) rfl ?_
      refine e_icmp_ge (q := 15) (tgt := 38) dX2_sets_12 rfl (by decide) (fun c12 => ?_) (fun c12 => absurd (by omega) c12)
      refine e_iload_n (q := 39) (i := 1) dX2_sets_38 rfl rfl rfl ?_
      exact r_i dX2_sets_39 rfl ⟨by rw [hs]; unfold gSets; congr 1; omega, rfl⟩
    | succ n ih =>
      intro i s h0 hn hs
      refine e_iload_n (q := 5) (i := 2) dX2_sets_4 rfl rfl rfl ?_
      refine e_aload_n (q := 6) (i := 0) dX2_sets_5 rfl rfl rfl ?_
      refine e_getR (q := 9) dX2_sets_6 rfl fg_X2_9 (by first | assumption | rfl) rfl ?_
      refine e_getI (q := 12) (jz := 2) dX2_sets_9 rfl fg_X2_87 rfl (by first | assumption | rfl) rfl ?_
      refine e_icmp_ge (q := 15) (tgt := 38) dX2_sets_12 rfl (by decide) (fun c12 => absurd c12 (by omega)) (fun c12 => ?_)
      have hh : 0 ≤ gHang (σ.1 3) (σ.1 4) (σ.1 (L + 1)) (σ.1 2 2) i ∧ gHang (σ.1 3) (σ.1 4) (σ.1 (L + 1)) (σ.1 2 2) i < 16 := hOut_16 hn1 hT16 (by have := p2_16 h0 (by omega); omega) (by have := p2_16 h0 (by omega); omega)
      have hp2 := p2_16 h0 (show i < 4 by omega)
      refine e_aload_n (q := 16) (i := 0) dX2_sets_15 rfl rfl rfl ?_
      refine e_iload_n (q := 17) (i := 2) dX2_sets_16 rfl rfl rfl ?_
      refine e_Vip (q := 20) (vs := [_]) ok_X2_hangingWith ml_X2_133 dX2_sets_17 rfl ⟨_, _, rfl⟩ (by first | assumption | rfl) rfl rfl (Nat.le_of_ble_eq_true rfl) (by decide) (c_X2_hangingWith hT hI hL (by omega) (by omega)) ?_
      refine e_iconst (q := 21) dX2_sets_20 rfl ?_
      refine e_iload_n (q := 22) (i := 2) dX2_sets_21 rfl rfl rfl ?_
      refine e_ishl (q := 23) dX2_sets_22 rfl (iZ_shl1 h0 (by omega)) ?_
      refine e_iconst (q := 24) dX2_sets_23 rfl ?_
      refine e_isub (q := 25) dX2_sets_24 rfl ?_
      refine e_iand (q := 26) dX2_sets_25 rfl (iZ_andm hh.1 (by omega) (by omega)) ?_
      refine e_if_ne (q := 29) (tgt := 32) dX2_sets_26 rfl (by decide) (fun c26 => ?_) (fun c26 => ?_) (hx := ⟨by have := Int.emod_nonneg (gHang (σ.1 3) (σ.1 4) (σ.1 (L + 1)) (σ.1 2 2) i) (show (2 : Int) ^ i.toNat ≠ 0 by omega); omega, by have := Int.emod_lt_of_pos (gHang (σ.1 3) (σ.1 4) (σ.1 (L + 1)) (σ.1 2 2) i) (show (0 : Int) < 2 ^ i.toNat by omega); omega⟩)
      · refine e_iinc (q := 35) (L' := [_, _, _]) dX2_sets_32 rfl rfl (by decide) rfl rfl ?_
        refine e_goto (tgt := 4) dX2_sets_35 (by decide) ?_
        exact ih _ _ (by omega) (by omega) (by rw [hs, zs_succ _ h0]; first | (rw [if_pos c26]; done) | (rw [if_neg c26]; omega))
      · refine e_iinc (q := 32) (L' := [_, _, _]) dX2_sets_29 rfl rfl (by decide) rfl rfl ?_
        refine e_iinc (q := 35) (L' := [_, _, _]) dX2_sets_32 rfl rfl (by decide) rfl rfl ?_
        refine e_goto (tgt := 4) dX2_sets_35 (by decide) ?_
        exact ih _ _ (by omega) (by omega) (by rw [hs, zs_succ _ h0]; first | (rw [if_pos c26]; done) | (rw [if_neg c26]; omega))
  refine e_entry om_X2_sets (Nat.le_of_ble_eq_true rfl) (L := [some (.ref (G.2.2.2 + L)), none, none]) rfl ?_
  refine e_iconst (q := 1) dX2_sets_0 rfl ?_
  refine e_istore_n (q := 2) (i := 1) (L' := [_, _, _]) dX2_sets_1 rfl rfl (by decide) rfl rfl ?_
  refine e_iconst (q := 3) dX2_sets_2 rfl ?_
  refine e_istore_n (q := 4) (i := 2) (L' := [_, _, _]) dX2_sets_3 rfl rfl (by decide) rfl rfl ?_
  exact lp ((σ.1 2 2)).toNat 0 0 (by omega) (by omega) rfl

