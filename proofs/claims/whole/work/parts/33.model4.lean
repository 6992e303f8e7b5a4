theorem Mp.aside {σ τ τ' : Sg} {s : Int} {y : Yd} (h : Mp σ τ s y) (hF : Fm [100, 101] [34] τ τ') : Mp σ τ' s y := ⟨h.1.tr (hF.mono (by decide) (by decide)), (ydm.fr hF nc_102 s).trans h.2.1, h.2.2.1.fr hF nc_102, h.2.2.2.1.fr hF nc_102, fun _ _ _ _ => trivial⟩
theorem Mp.mt {σ τ : Sg} {s : Int} {y : Yd} (h : Mp σ τ s y) (hT : MT σ) : MT τ := hT.fr h.1 nc_84b
theorem Mp.mw {σ τ : Sg} {s : Int} {y : Yd} (h : Mp σ τ s y) (hT : MW σ) : MW τ := hT.fr h.1 nc_96b
theorem Mp.law {σ τ : Sg} {s : Int} {y : Yd} (h : Mp σ τ s y) : mLaw τ = mLaw σ := mLaw.fr h.1 nc_96b
theorem Mp.c {σ τ : Sg} {s : Int} {y : Yd} (h : Mp σ τ s y) {a : Nat} (h1 : 84 ≤ a) (h2 : a ≤ 95) : τ.1 a = σ.1 a := h.1.c (nc_84b a h1 h2)
theorem Mp.f {σ τ : Sg} {s : Int} {y : Yd} (h : Mp σ τ s y) {j : Int} (hj : j ≠ 34) : τ.1 82 j = σ.1 82 j := h.1.2 j (by simp only [List.mem_cons, List.not_mem_nil, or_false]; exact hj)
theorem Mp.mb {σ τ : Sg} {s : Int} {y : Yd} (h : Mp σ τ s y) (hB : MB σ) : MB τ := by
  unfold MB
  rw [h.c (a := 84) (by decide) (by decide), h.c (a := 92) (by decide) (by decide), h.c (a := 93) (by decide) (by decide)]
  exact hB
theorem Mp.ed {σ τ : Sg} {s : Int} {y : Yd} (h : Mp σ τ s y) : mEd τ = mEd σ := by
  unfold mEd
  rw [h.c (a := 84) (by decide) (by decide), h.c (a := 86) (by decide) (by decide), h.c (a := 87) (by decide) (by decide)]
theorem Mp.ck {σ τ : Sg} {s : Int} {y : Yd} (h : Mp σ τ s y) (u : Int) : mCk τ u = mCk σ u := by
  unfold mCk mK
  rw [h.f (by decide), h.1.c (a := 106) (by decide)]
theorem Mp.tl {σ τ : Sg} {s : Int} {y : Yd} (h : Mp σ τ s y) : mTl τ = mTl σ := by
  unfold mTl
  rw [h.f (by decide)]
theorem uf_self {f : Int → Int} {k v : Int} (h : v = f k) : uf f k v = f := by
  funext i
  unfold uf
  split
  · rename_i q; rw [q, h]
  · rfl
theorem sI_self (σ : Sg) (k : Nat) (j : Int) : sI σ k j (σ.1 k j) = σ := by
  apply Prod.ext
  · funext a i
    rw [sI_1]
    split
    · rename_i q; rw [q.1, q.2]
    · rfl
  · rfl
theorem iZ_and31 (b : Int) : iZ b &&& iZ 2147483647 = iZ (b % 2147483648) := by
  apply iZ_ext
  have h0 : 0 ≤ b % 2147483648 := Int.emod_nonneg _ (by decide)
  have h1 : b % 2147483648 < 2147483648 := Int.emod_lt_of_pos _ (by decide)
  rw [Int32.toBitVec_and, BitVec.toNat_and, iZ_bv h0 (by omega), iZ_bv (x := 2147483647) (by decide) (by decide)]
  have e : (iZ b).toBitVec.toNat = (b % 4294967296).toNat := by
    show (Int32.ofInt b).toBitVec.toNat = _
    rw [Int32.toBitVec_ofInt, BitVec.toNat_ofInt]
    rfl
  rw [e, show ((2147483647 : Int).toNat) = 2 ^ 31 - 1 from rfl, Nat.and_two_pow_sub_one_eq_mod]
  omega

set_option maxHeartbeats 4000000 in
theorem c_X12_leads {G : Gx} {σ : Sg} {s p c w wt : Int} (hT : MT σ) (hW : MW σ) (hI : MI σ s) (hs0 : 0 ≤ s) (hs1 : s < 23) (hp : 0 ≤ p) (hpn : p < σ.1 84 1) (hw0 : 0 ≤ w) (hw4 : w < 4) (hc : 0 ≤ c) (hc6 : c < 6) (hwt : wt = 0 ∨ wt = 1) (hx : R32 (σ.1 82 44)) : Con G 6 mX12_leads [.ref (G.2.2.2 + 82), .int (iZ s), .int (iZ p), .int (iZ c), .int (iZ w), .int (iZ wt)] σ (pV (fun σ' => Mp σ σ' s (yLead (mLaw σ) (σ.1 91) (mCk σ s) (mEd σ) (mTl σ) wt c (4 * p + w) (ydm σ s)))) := by
  obtain ⟨hzz, hnp, hnc, hnb, hrn, hsd, hrw, hrq, hch, hbt, hck⟩ := id hT
  have hckb : 0 ≤ mCk σ s (4 * p + w) ∧ mCk σ s (4 * p + w) ≤ 9 := by
    have q := hI.1 (4 * p + w) (by omega) (by omega)
    unfold mCk
    split <;> omega
  refine e_entry om_X12_leads (Nat.le_of_ble_eq_true rfl) (L := [some (.ref (G.2.2.2 + 82)), some (.int (iZ s)), some (.int (iZ p)), some (.int (iZ c)), some (.int (iZ w)), some (.int (iZ wt))]) rfl ?_
  refine e_aload_n (q := 1) (i := 0) dX12_leads_0 rfl rfl rfl ?_
  refine e_getR (q := 4) dX12_leads_1 rfl fg_X12_81 (by first | assumption | rfl) rfl ?_
  refine e_iload_n (q := 5) (i := 1) dX12_leads_4 rfl rfl rfl ?_
  refine e_iload_n (q := 6) (i := 2) dX12_leads_5 rfl rfl rfl ?_
  refine e_iload (q := 8) dX12_leads_6 rfl rfl ?_
  refine e_Sip (q := 11) (vs := [_, _, _]) ok_X12_slot ml_X12_322 dX12_leads_8 rfl rfl rfl (Nat.le_of_ble_eq_true rfl) (by decide) (c_X12_slot (t := 16 * s + (4 * p + w)) (by omega)) ?_
  refine e_aload_n (q := 12) (i := 0) dX12_leads_11 rfl rfl rfl ?_
  refine e_iload_n (q := 13) (i := 1) dX12_leads_12 rfl rfl rfl ?_
  refine e_iload_n (q := 14) (i := 2) dX12_leads_13 rfl rfl rfl ?_
  refine e_iload_n (q := 15) (i := 3) dX12_leads_14 rfl rfl rfl ?_
  refine e_iload (q := 17) dX12_leads_15 rfl rfl ?_
  refine e_aload_n (q := 18) (i := 0) dX12_leads_17 rfl rfl rfl ?_
  refine e_iload_n (q := 19) (i := 1) dX12_leads_18 rfl rfl rfl ?_
  refine e_iload_n (q := 20) (i := 2) dX12_leads_19 rfl rfl rfl ?_
  refine e_iload (q := 22) dX12_leads_20 rfl rfl ?_
  refine e_Vip (q := 25) (vs := [_, _, _]) ok_X12_cakeIn ml_X12_373 dX12_leads_22 rfl ⟨_, _, rfl⟩ (by first | assumption | rfl) rfl rfl (Nat.le_of_ble_eq_true rfl) (by decide) (c_X12_cakeIn hs0 hs1 hp (by omega) hw0 hw4 hx) ?_
  refine e_iload (q := 27) dX12_leads_25 rfl rfl ?_
  refine e_Vi (q := 30) (vs := [_, _, _, _, _, _]) ok_X12_farBy ml_X12_376 dX12_leads_27 rfl ⟨_, _, rfl⟩ (by first | assumption | rfl) rfl rfl (Nat.le_of_ble_eq_true rfl) (by decide) (c_X12_farBy hT hW hI hs0 hs1 hp (by omega) hpn hw0 hw4 hc hc6 hckb hwt) (fun z27 s27 h27 => ?_)
  have hmp := (Mp.rf hI).aside h27.2
  have hV := gStone_in (law := mLaw σ 0 (nmF (mL σ s c) (σ.1 91 c) (mD σ s c) (mCk σ s (4 * p + w)) wt (mF σ s (4 * p + w)) (σ.1 102 s))) (str := mL σ s c + mCk σ s (4 * p + w) - mD σ s c) (wet := wt) (mEd_in hT (s := 4 * p + w) (by omega) (by omega))
  rw [← h27.1] at hV
  have hmp2 := hmp.far (t := 4 * p + w) (by omega) (by omega) hV
  have e44 : (sI s27 105 (16 * s + (4 * p + w)) z27).1 82 44 = σ.1 82 44 := hmp2.f (by decide)
  have eD : (sI s27 105 (16 * s + (4 * p + w)) z27).1 108 (6 * s + c) = mD σ s c := congrFun (congrArg (fun y : Yd => y.2.2.1) hmp2.2.1) c
  have hb := hI.2.1 c hc hc6
  refine e_iast (q := 31) dX12_leads_30 rfl (by first | assumption | rfl) ?_
  refine e_aload_n (q := 32) (i := 0) dX12_leads_31 rfl rfl rfl ?_
  refine e_getI (q := 35) (jz := 44) dX12_leads_32 rfl fg_X12_370 rfl (by first | assumption | rfl) rfl ?_
  refine e_iconst (q := 36) dX12_leads_35 rfl ?_
  refine e_icmp_eq (q := 39) (tgt := 68) dX12_leads_36 rfl (by decide) (fun c36 => ?_) (fun c36 => ?_) (hx := ⟨by rw [e44]; exact hx.1, by rw [e44]; exact hx.2⟩)
  · exact r_v dX12_leads_68 rfl (by rw [e44] at c36; unfold yLead mTl; rw [if_pos c36, if_neg (by decide)]; rw [h27.1] at hmp2 ⊢; exact hmp2)
  · refine e_aload_n (q := 40) (i := 0) dX12_leads_39 rfl rfl rfl ?_
    refine e_getR (q := 43) dX12_leads_40 rfl fg_X12_90 (by first | assumption | rfl) rfl ?_
    refine e_bipush (q := 45) dX12_leads_43 rfl (by decide) ?_
    refine e_iload_n (q := 46) (i := 1) dX12_leads_45 rfl rfl rfl ?_
    refine e_imul (q := 47) dX12_leads_46 rfl ?_
    refine e_iload_n (q := 48) (i := 3) dX12_leads_47 rfl rfl rfl ?_
    refine e_iadd (q := 49) dX12_leads_48 rfl ?_
    refine e_bipush (q := 51) dX12_leads_49 rfl (by decide) ?_
    refine e_aload_n (q := 52) (i := 0) dX12_leads_51 rfl rfl rfl ?_
    refine e_getR (q := 55) dX12_leads_52 rfl fg_X12_90 (by first | assumption | rfl) rfl ?_
    refine e_bipush (q := 57) dX12_leads_55 rfl (by decide) ?_
    refine e_iload_n (q := 58) (i := 1) dX12_leads_57 rfl rfl rfl ?_
    refine e_imul (q := 59) dX12_leads_58 rfl ?_
    refine e_iload_n (q := 60) (i := 3) dX12_leads_59 rfl rfl rfl ?_
    refine e_iadd (q := 61) dX12_leads_60 rfl ?_
    refine e_iald (q := 62) dX12_leads_61 rfl (by first | assumption | rfl) ?_
    refine e_iconst (q := 63) dX12_leads_62 rfl ?_
    refine e_iadd (q := 64) dX12_leads_63 rfl ?_
    rw [eD]
    refine e_mmin (q := 67) dX12_leads_64 rfl ml_X12_329 mw_min_s mw_min_c mw_init (Nat.le_of_ble_eq_true rfl) (by decide) ?_ (hx := ⟨by decide, by decide⟩) (hy := ⟨by omega, by omega⟩)
    refine e_iast (q := 68) dX12_leads_67 rfl (by first | assumption | rfl) ?_
    exact r_v dX12_leads_68 rfl (by rw [e44] at c36; unfold yLead mTl; rw [if_neg c36, if_pos rfl]; have q := hmp2.tired hc hc6 (V := min 99 (mD σ s c + 1)) ⟨by omega, by omega⟩; rw [h27.1, Int.min_comm 99] at q ⊢; exact q)

theorem c_X12_isWet {G : Gx} {σ : Sg} {s b : Int} (hT : MT σ) (hI : MI σ s) (hs0 : 0 ≤ s) (hs1 : s < 23) (hb : b = 0 ∨ b = 1) (hx : R32 (σ.1 82 44)) : Con G 1 mX12_isWet [.ref (G.2.2.2 + 82), .int (iZ s), .int (iZ b)] σ (pI (fun z σ' => z = (gWet (σ.1 84 4) (σ.1 103 s) (mWt σ b)).1 ∧ σ' = sI σ 103 s (gWet (σ.1 84 4) (σ.1 103 s) (mWt σ b)).2)) := by
  obtain ⟨hzz, hnp, hnc, hnb, hrn, hsd, hrw, hrq, hch, hbt, hck⟩ := id hT
  have hdr : 0 ≤ σ.1 103 s ∧ σ.1 103 s ≤ 2147483647 := hI.2.2.2.2
  refine e_entry om_X12_isWet (Nat.le_of_ble_eq_true rfl) (L := [some (.ref (G.2.2.2 + 82)), some (.int (iZ s)), some (.int (iZ b)), none]) rfl ?_
  refine e_aload_n (q := 1) (i := 0) dX12_isWet_0 rfl rfl rfl ?_
  refine e_getI (q := 4) (jz := 44) dX12_isWet_1 rfl fg_X12_370 rfl (by first | assumption | rfl) rfl ?_
  refine e_iconst (q := 5) dX12_isWet_4 rfl ?_
  refine e_icmp_ne (q := 8) (tgt := 10) dX12_isWet_5 rfl (by decide) (fun c5 => ?_) (fun c5 => ?_) (hx := hx)
  · refine e_aload_n (q := 11) (i := 0) dX12_isWet_10 rfl rfl rfl ?_
    refine e_getI (q := 14) (jz := 44) dX12_isWet_11 rfl fg_X12_370 rfl (by first | assumption | rfl) rfl ?_
    refine e_iconst (q := 15) dX12_isWet_14 rfl ?_
    refine e_icmp_ne (q := 18) (tgt := 20) dX12_isWet_15 rfl (by decide) (fun c15 => ?_) (fun c15 => ?_) (hx := hx)
    · refine e_aload_n (q := 21) (i := 0) dX12_isWet_20 rfl rfl rfl ?_
      refine e_getR (q := 24) dX12_isWet_21 rfl fg_X12_13 (by first | assumption | rfl) rfl ?_
      refine e_iconst (q := 25) dX12_isWet_24 rfl ?_
      refine e_iald (q := 26) dX12_isWet_25 rfl (by first | assumption | rfl) ?_
      refine e_istore_n (q := 27) (i := 3) (L' := [_, _, _, _]) dX12_isWet_26 rfl rfl (by decide) rfl rfl ?_
      refine e_iload_n (q := 28) (i := 2) dX12_isWet_27 rfl rfl rfl ?_
      refine e_if_eq (q := 31) (tgt := 41) dX12_isWet_28 rfl (by decide) (fun c28 => ?_) (fun c28 => ?_) (hx := ⟨by omega, by omega⟩)
      · refine e_iload_n (q := 42) (i := 3) dX12_isWet_41 rfl rfl rfl ?_
        refine e_bipush (q := 44) dX12_isWet_42 rfl (by decide) ?_
        refine e_icmp_lt (q := 47) (tgt := 51) dX12_isWet_44 rfl (by decide) (fun c44 => ?_) (fun c44 => ?_)
        · refine e_iconst (q := 52) dX12_isWet_51 rfl ?_
          have hw52 : (0 : Int) = (gWet (σ.1 84 4) (σ.1 103 s) (mWt σ b)).1 ∧ (gWet (σ.1 84 4) (σ.1 103 s) (mWt σ b)).2 = σ.1 103 s := by
            have hmw : mWt σ b = 0 ∨ mWt σ b = 1 := by unfold mWt; rw [if_neg c5, if_neg c15]; split <;> simp
            unfold gWet
            rcases hmw with q | q
            · rw [q, if_neg (by decide), if_neg (by decide), if_neg (by decide)]
              exact ⟨by first | exact (if_pos (by omega)).symm | exact (if_neg (by omega)).symm, rfl⟩
            · have hb1 : b ≠ 0 := by unfold mWt at q; rw [if_neg c5, if_neg c15] at q; intro z; rw [if_pos z] at q; omega
              rw [q, if_pos rfl]
              by_cases h100 : σ.1 84 4 = 100
              · rw [if_pos h100]; exact ⟨by first | rfl | (exfalso; omega), rfl⟩
              · rw [if_neg h100, if_pos (by omega)]; exact ⟨by first | rfl | (exfalso; omega), rfl⟩
          exact r_z dX12_isWet_52 rfl (by first | exact Or.inl rfl | exact Or.inr rfl | omega) ⟨hw52.1, by rw [hw52.2]; exact (sI_self σ 103 s).symm⟩
        · refine e_iconst (q := 48) dX12_isWet_47 rfl ?_
          refine e_goto (tgt := 52) dX12_isWet_48 (by decide) ?_
          have hw52 : (1 : Int) = (gWet (σ.1 84 4) (σ.1 103 s) (mWt σ b)).1 ∧ (gWet (σ.1 84 4) (σ.1 103 s) (mWt σ b)).2 = σ.1 103 s := by
            have hmw : mWt σ b = 0 ∨ mWt σ b = 1 := by unfold mWt; rw [if_neg c5, if_neg c15]; split <;> simp
            unfold gWet
            rcases hmw with q | q
            · rw [q, if_neg (by decide), if_neg (by decide), if_neg (by decide)]
              exact ⟨by first | exact (if_pos (by omega)).symm | exact (if_neg (by omega)).symm, rfl⟩
            · have hb1 : b ≠ 0 := by unfold mWt at q; rw [if_neg c5, if_neg c15] at q; intro z; rw [if_pos z] at q; omega
              rw [q, if_pos rfl]
              by_cases h100 : σ.1 84 4 = 100
              · rw [if_pos h100]; exact ⟨by first | rfl | (exfalso; omega), rfl⟩
              · rw [if_neg h100, if_pos (by omega)]; exact ⟨by first | rfl | (exfalso; omega), rfl⟩
          exact r_z dX12_isWet_52 rfl (by first | exact Or.inl rfl | exact Or.inr rfl | omega) ⟨hw52.1, by rw [hw52.2]; exact (sI_self σ 103 s).symm⟩
      · refine e_iload_n (q := 32) (i := 3) dX12_isWet_31 rfl rfl rfl ?_
        refine e_if_eq (q := 35) (tgt := 41) dX12_isWet_32 rfl (by decide) (fun c32 => ?_) (fun c32 => ?_)
        · refine e_iload_n (q := 42) (i := 3) dX12_isWet_41 rfl rfl rfl ?_
          refine e_bipush (q := 44) dX12_isWet_42 rfl (by decide) ?_
          refine e_icmp_lt (q := 47) (tgt := 51) dX12_isWet_44 rfl (by decide) (fun c44 => ?_) (fun c44 => ?_)
          · refine e_iconst (q := 52) dX12_isWet_51 rfl ?_
            have hw52 : (0 : Int) = (gWet (σ.1 84 4) (σ.1 103 s) (mWt σ b)).1 ∧ (gWet (σ.1 84 4) (σ.1 103 s) (mWt σ b)).2 = σ.1 103 s := by
              have hmw : mWt σ b = 0 ∨ mWt σ b = 1 := by unfold mWt; rw [if_neg c5, if_neg c15]; split <;> simp
              unfold gWet
              rcases hmw with q | q
              · rw [q, if_neg (by decide), if_neg (by decide), if_neg (by decide)]
                exact ⟨by first | exact (if_pos (by omega)).symm | exact (if_neg (by omega)).symm, rfl⟩
              · have hb1 : b ≠ 0 := by unfold mWt at q; rw [if_neg c5, if_neg c15] at q; intro z; rw [if_pos z] at q; omega
                rw [q, if_pos rfl]
                by_cases h100 : σ.1 84 4 = 100
                · rw [if_pos h100]; exact ⟨by first | rfl | (exfalso; omega), rfl⟩
                · rw [if_neg h100, if_pos (by omega)]; exact ⟨by first | rfl | (exfalso; omega), rfl⟩
            exact r_z dX12_isWet_52 rfl (by first | exact Or.inl rfl | exact Or.inr rfl | omega) ⟨hw52.1, by rw [hw52.2]; exact (sI_self σ 103 s).symm⟩
          · refine e_iconst (q := 48) dX12_isWet_47 rfl ?_
            refine e_goto (tgt := 52) dX12_isWet_48 (by decide) ?_
            have hw52 : (1 : Int) = (gWet (σ.1 84 4) (σ.1 103 s) (mWt σ b)).1 ∧ (gWet (σ.1 84 4) (σ.1 103 s) (mWt σ b)).2 = σ.1 103 s := by
              have hmw : mWt σ b = 0 ∨ mWt σ b = 1 := by unfold mWt; rw [if_neg c5, if_neg c15]; split <;> simp
              unfold gWet
              rcases hmw with q | q
              · rw [q, if_neg (by decide), if_neg (by decide), if_neg (by decide)]
                exact ⟨by first | exact (if_pos (by omega)).symm | exact (if_neg (by omega)).symm, rfl⟩
              · have hb1 : b ≠ 0 := by unfold mWt at q; rw [if_neg c5, if_neg c15] at q; intro z; rw [if_pos z] at q; omega
                rw [q, if_pos rfl]
                by_cases h100 : σ.1 84 4 = 100
                · rw [if_pos h100]; exact ⟨by first | rfl | (exfalso; omega), rfl⟩
                · rw [if_neg h100, if_pos (by omega)]; exact ⟨by first | rfl | (exfalso; omega), rfl⟩
            exact r_z dX12_isWet_52 rfl (by first | exact Or.inl rfl | exact Or.inr rfl | omega) ⟨hw52.1, by rw [hw52.2]; exact (sI_self σ 103 s).symm⟩
        · refine e_iload_n (q := 36) (i := 3) dX12_isWet_35 rfl rfl rfl ?_
          refine e_bipush (q := 38) dX12_isWet_36 rfl (by decide) ?_
          refine e_icmp_ne (q := 41) (tgt := 53) dX12_isWet_38 rfl (by decide) (fun c38 => ?_) (fun c38 => ?_)
          · have hmw : mWt σ b = 1 := by unfold mWt; rw [if_neg c5, if_neg c15, if_neg (by omega)]
            refine e_aload_n (q := 54) (i := 0) dX12_isWet_53 rfl rfl rfl ?_
            refine e_getR (q := 57) dX12_isWet_54 rfl fg_X12_75 (by first | assumption | rfl) rfl ?_
            refine e_iload_n (q := 58) (i := 1) dX12_isWet_57 rfl rfl rfl ?_
            refine e_aload_n (q := 59) (i := 0) dX12_isWet_58 rfl rfl rfl ?_
            refine e_getR (q := 62) dX12_isWet_59 rfl fg_X12_75 (by first | assumption | rfl) rfl ?_
            refine e_iload_n (q := 63) (i := 1) dX12_isWet_62 rfl rfl rfl ?_
            refine e_iald (q := 64) dX12_isWet_63 rfl (by first | assumption | rfl) ?_
            refine e_ldcw (q := 67) (z := 1103515245) dX12_isWet_64 rfl kw_X12_380 (by decide) ?_
            refine e_imul (q := 68) dX12_isWet_67 rfl ?_
            refine e_sipush (q := 71) dX12_isWet_68 rfl (by decide) ?_
            refine e_iadd (q := 72) dX12_isWet_71 rfl ?_
            refine e_ldcw (q := 75) (z := 2147483647) dX12_isWet_72 rfl kw_X12_383 (by decide) ?_
            refine e_iand (q := 76) dX12_isWet_75 rfl (iZ_and31 _) ?_
            refine e_iast (q := 77) dX12_isWet_76 rfl (by first | assumption | rfl) ?_
            refine e_aload_n (q := 78) (i := 0) dX12_isWet_77 rfl rfl rfl ?_
            refine e_getR (q := 81) dX12_isWet_78 rfl fg_X12_75 (by first | assumption | rfl) rfl ?_
            refine e_iload_n (q := 82) (i := 1) dX12_isWet_81 rfl rfl rfl ?_
            refine e_iald (q := 83) dX12_isWet_82 rfl (by first | assumption | rfl) ?_
            refine e_bipush (q := 85) dX12_isWet_83 rfl (by decide) ?_
            have e103 : (sI σ 103 s ((σ.1 103 s * 1103515245 + 12345) % 2147483648)).1 103 s = nx (σ.1 103 s) := by rw [sI_1, if_pos ⟨rfl, rfl⟩]; rfl
            rw [e103]
            have hnx : 0 ≤ nx (σ.1 103 s) ∧ nx (σ.1 103 s) ≤ 2147483647 := by unfold nx; omega
            refine e_ishr (q := 86) dX12_isWet_85 rfl (iZ_shrk (by omega) (by omega) (by decide) (by decide)) ?_
            refine e_bipush (q := 88) dX12_isWet_86 rfl (by decide) ?_
            rw [show (2 : Int) ^ (16 : Int).toNat = 65536 from rfl]
            have hq : 0 ≤ nx (σ.1 103 s) / 65536 ∧ nx (σ.1 103 s) / 65536 ≤ 2147483647 := by omega
            have hq2 : 0 ≤ nx (σ.1 103 s) / 65536 % 100 ∧ nx (σ.1 103 s) / 65536 % 100 < 100 := by omega
            refine e_irem (q := 89) dX12_isWet_88 rfl (by decide) (iZ_rem (by omega) (by omega) (by omega) (by omega)) ?_
            refine e_iload_n (q := 90) (i := 3) dX12_isWet_89 rfl rfl rfl ?_
            refine e_icmp_ge (q := 93) (tgt := 97) dX12_isWet_90 rfl (by decide) (fun c90 => ?_) (fun c90 => ?_)
            · refine e_iconst (q := 98) dX12_isWet_97 rfl ?_
              exact r_z dX12_isWet_98 rfl (by first | exact Or.inl rfl | exact Or.inr rfl | omega) ⟨by unfold gWet; rw [hmw, if_pos rfl, if_neg (by omega), if_neg (by omega)]; first | (exact (if_pos (by omega)).symm) | (exact (if_neg (by omega)).symm), by rw [show (gWet (σ.1 84 4) (σ.1 103 s) (mWt σ b)).2 = nx (σ.1 103 s) from by unfold gWet; rw [hmw, if_pos rfl, if_neg (by omega), if_neg (by omega)]]; rfl⟩
            · refine e_iconst (q := 94) dX12_isWet_93 rfl ?_
              refine e_goto (tgt := 98) dX12_isWet_94 (by decide) ?_
              exact r_z dX12_isWet_98 rfl (by first | exact Or.inl rfl | exact Or.inr rfl | omega) ⟨by unfold gWet; rw [hmw, if_pos rfl, if_neg (by omega), if_neg (by omega)]; first | (exact (if_pos (by omega)).symm) | (exact (if_neg (by omega)).symm), by rw [show (gWet (σ.1 84 4) (σ.1 103 s) (mWt σ b)).2 = nx (σ.1 103 s) from by unfold gWet; rw [hmw, if_pos rfl, if_neg (by omega), if_neg (by omega)]]; rfl⟩
          · refine e_iload_n (q := 42) (i := 3) dX12_isWet_41 rfl rfl rfl ?_
            refine e_bipush (q := 44) dX12_isWet_42 rfl (by decide) ?_
            refine e_icmp_lt (q := 47) (tgt := 51) dX12_isWet_44 rfl (by decide) (fun c44 => ?_) (fun c44 => ?_)
            · refine e_iconst (q := 52) dX12_isWet_51 rfl ?_
              have hw52 : (0 : Int) = (gWet (σ.1 84 4) (σ.1 103 s) (mWt σ b)).1 ∧ (gWet (σ.1 84 4) (σ.1 103 s) (mWt σ b)).2 = σ.1 103 s := by
                have hmw : mWt σ b = 0 ∨ mWt σ b = 1 := by unfold mWt; rw [if_neg c5, if_neg c15]; split <;> simp
                unfold gWet
                rcases hmw with q | q
                · rw [q, if_neg (by decide), if_neg (by decide), if_neg (by decide)]
                  exact ⟨by first | exact (if_pos (by omega)).symm | exact (if_neg (by omega)).symm, rfl⟩
                · have hb1 : b ≠ 0 := by unfold mWt at q; rw [if_neg c5, if_neg c15] at q; intro z; rw [if_pos z] at q; omega
                  rw [q, if_pos rfl]
                  by_cases h100 : σ.1 84 4 = 100
                  · rw [if_pos h100]; exact ⟨by first | rfl | (exfalso; omega), rfl⟩
                  · rw [if_neg h100, if_pos (by omega)]; exact ⟨by first | rfl | (exfalso; omega), rfl⟩
              exact r_z dX12_isWet_52 rfl (by first | exact Or.inl rfl | exact Or.inr rfl | omega) ⟨hw52.1, by rw [hw52.2]; exact (sI_self σ 103 s).symm⟩
            · refine e_iconst (q := 48) dX12_isWet_47 rfl ?_
              refine e_goto (tgt := 52) dX12_isWet_48 (by decide) ?_
              have hw52 : (1 : Int) = (gWet (σ.1 84 4) (σ.1 103 s) (mWt σ b)).1 ∧ (gWet (σ.1 84 4) (σ.1 103 s) (mWt σ b)).2 = σ.1 103 s := by
                have hmw : mWt σ b = 0 ∨ mWt σ b = 1 := by unfold mWt; rw [if_neg c5, if_neg c15]; split <;> simp
                unfold gWet
                rcases hmw with q | q
                · rw [q, if_neg (by decide), if_neg (by decide), if_neg (by decide)]
                  exact ⟨by first | exact (if_pos (by omega)).symm | exact (if_neg (by omega)).symm, rfl⟩
                · have hb1 : b ≠ 0 := by unfold mWt at q; rw [if_neg c5, if_neg c15] at q; intro z; rw [if_pos z] at q; omega
                  rw [q, if_pos rfl]
                  by_cases h100 : σ.1 84 4 = 100
                  · rw [if_pos h100]; exact ⟨by first | rfl | (exfalso; omega), rfl⟩
                  · rw [if_neg h100, if_pos (by omega)]; exact ⟨by first | rfl | (exfalso; omega), rfl⟩
              exact r_z dX12_isWet_52 rfl (by first | exact Or.inl rfl | exact Or.inr rfl | omega) ⟨hw52.1, by rw [hw52.2]; exact (sI_self σ 103 s).symm⟩
    · refine e_iconst (q := 19) dX12_isWet_18 rfl ?_
      exact r_z dX12_isWet_19 rfl (by first | exact Or.inl rfl | exact Or.inr rfl | omega) ⟨by unfold gWet mWt; simp [c15], by rw [show (gWet (σ.1 84 4) (σ.1 103 s) (mWt σ b)).2 = σ.1 103 s from by unfold gWet mWt; simp [c15]]; exact (sI_self σ 103 s).symm⟩
  · refine e_iconst (q := 9) dX12_isWet_8 rfl ?_
    exact r_z dX12_isWet_9 rfl (by first | exact Or.inl rfl | exact Or.inr rfl | omega) ⟨by unfold gWet mWt; simp [c5], by rw [show (gWet (σ.1 84 4) (σ.1 103 s) (mWt σ b)).2 = σ.1 103 s from by unfold gWet mWt; simp [c5]]; exact (sI_self σ 103 s).symm⟩

