def ldm (σ : Sg) (s : Int) : Ld := (msk 16 (mF σ s), msk 16 (mK σ s), msk 6 (mL σ s), msk 6 (mD σ s), σ.1 104 s, σ.1 102 s, σ.1 103 s)
theorem ldm_ext {σ σ' : Sg} {s t : Int} (h1 : ∀ i, 0 ≤ i → i < 16 → mF σ' t i = mF σ s i ∧ mK σ' t i = mK σ s i) (h2 : ∀ i, 0 ≤ i → i < 6 → mL σ' t i = mL σ s i ∧ mD σ' t i = mD σ s i) (h3 : σ'.1 104 t = σ.1 104 s) (h4 : σ'.1 102 t = σ.1 102 s) (h5 : σ'.1 103 t = σ.1 103 s) : ldm σ' t = ldm σ s := by
  unfold ldm
  rw [msk_ext (fun i a b => (h1 i a b).1), msk_ext (fun i a b => (h1 i a b).2), msk_ext (fun i a b => (h2 i a b).1), msk_ext (fun i a b => (h2 i a b).2), h3, h4, h5]
theorem ldm_out {σ σ' : Sg} {s t : Int} (h : ldm σ' t = ldm σ s) : (∀ i, 0 ≤ i → i < 16 → mF σ' t i = mF σ s i ∧ mK σ' t i = mK σ s i) ∧ (∀ i, 0 ≤ i → i < 6 → mL σ' t i = mL σ s i ∧ mD σ' t i = mD σ s i) ∧ σ'.1 104 t = σ.1 104 s ∧ σ'.1 102 t = σ.1 102 s ∧ σ'.1 103 t = σ.1 103 s := by
  unfold ldm at h
  have a1 := congrArg (fun x : Ld => x.1) h
  have a2 := congrArg (fun x : Ld => x.2.1) h
  have a3 := congrArg (fun x : Ld => x.2.2.1) h
  have a4 := congrArg (fun x : Ld => x.2.2.2.1) h
  exact ⟨fun i p q => ⟨msk_eq a1 p q, msk_eq a2 p q⟩, fun i p q => ⟨msk_eq a3 p q, msk_eq a4 p q⟩, congrArg (fun x : Ld => x.2.2.2.2.1) h, congrArg (fun x : Ld => x.2.2.2.2.2.1) h, congrArg (fun x : Ld => x.2.2.2.2.2.2) h⟩
theorem Oth.ld {σ σ' : Sg} {s : Int} (h : Oth σ σ' s) {u : Int} (hu : u ≠ s) : ldm σ' u = ldm σ u := by
  obtain ⟨a, b, c, d, e⟩ := h u hu
  exact ldm_ext a b c d e
theorem MCp.ld {σ σ' : Sg} {to as : Int} (h : MCp σ to as σ') : ldm σ' to = ldm σ as := ldm_ext h.2.2.1 h.2.2.2.1 h.2.2.2.2.1 h.2.2.2.2.2.1 h.2.2.2.2.2.2
theorem MI.ld {σ σ' : Sg} {s t : Int} (hI : MI σ s) (h : ldm σ' t = ldm σ s) : MI σ' t := by
  obtain ⟨a, b, c, d, e⟩ := ldm_out h
  refine ⟨fun i p q => ?_, fun i p q => ?_, ?_, ?_, ?_⟩
  · rw [(a i p q).1, (a i p q).2]; exact hI.1 i p q
  · rw [(b i p q).1, (b i p q).2]; exact hI.2.1 i p q
  · rw [c]; exact hI.2.2.1
  · rw [d]; exact hI.2.2.2.1
  · rw [e]; exact hI.2.2.2.2
theorem ldm_82 (σ : Sg) (j v u : Int) : ldm (sI σ 82 j v) u = ldm σ u := by
  unfold ldm
  rw [mF_ne _ _ (by decide), mK_ne _ _ (by decide), mL_ne _ _ (by decide), mD_ne _ _ (by decide), sI_ne (a := 104) _ (by decide), sI_ne (a := 102) _ (by decide), sI_ne (a := 103) _ (by decide)]
theorem ldm_fr {C : List Nat} {F : List Int} {σ τ : Sg} (hF : Fm C F σ τ) (hC : ∀ a, 102 ≤ a → a ≤ 108 → a ∉ 82 :: C) (u : Int) : ldm τ u = ldm σ u := by
  unfold ldm mF mK mL mD
  rw [hF.c (hC 102 (by decide) (by decide)), hF.c (hC 103 (by decide) (by decide)), hF.c (hC 104 (by decide) (by decide)), hF.c (hC 105 (by decide) (by decide)), hF.c (hC 106 (by decide) (by decide)), hF.c (hC 107 (by decide) (by decide)), hF.c (hC 108 (by decide) (by decide))]
theorem nc_84d : ∀ a, 84 ≤ a → a ≤ 95 → a ∉ 82 :: [102, 103, 104, 105, 106, 107, 108] := by
  intro a h1 h2 h3
  simp only [List.mem_cons, List.not_mem_nil, or_false] at h3
  omega
theorem nc_96d : ∀ a, 96 ≤ a → a ≤ 99 → a ∉ 82 :: [102, 103, 104, 105, 106, 107, 108] := by
  intro a h1 h2 h3
  simp only [List.mem_cons, List.not_mem_nil, or_false] at h3
  omega
/-- what is now is kept as the latest of at most twenty -/
def KN (σ σ' : Sg) : Prop := Fm [102, 103, 104, 105, 106, 107, 108] [43] σ σ' ∧ σ'.1 82 43 = min (σ.1 82 43 + 1) 20 ∧ (∀ j, 0 ≤ j → j < min (σ.1 82 43 + 1) 20 - 1 → ldm σ' (3 + j) = ldm σ (3 + j + (σ.1 82 43 + 1 - min (σ.1 82 43 + 1) 20))) ∧ ldm σ' (3 + (min (σ.1 82 43 + 1) 20 - 1)) = ldm σ 0 ∧ ∀ u, u < 3 → ldm σ' u = ldm σ u

theorem c_X12_keepNow {G : Gx} {σ : Sg} (hk0 : 0 ≤ σ.1 82 43) (hk1 : σ.1 82 43 ≤ 20) : Con G 2 mX12_keepNow [.ref (G.2.2.2 + 82)] σ (pV (KN σ)) := by
  have fin : ∀ (τ : Sg) (L1 : Option Value), Fm [102, 103, 104, 105, 106, 107, 108] [43] σ τ → τ.1 82 43 = min (σ.1 82 43 + 1) 20 - 1 → (∀ j, 0 ≤ j → j < min (σ.1 82 43 + 1) 20 - 1 → ldm τ (3 + j) = ldm σ (3 + j + (σ.1 82 43 + 1 - min (σ.1 82 43 + 1) 20))) → (∀ u, u < 3 → ldm τ u = ldm σ u) → J G 2 mX12_keepNow (pV (KN σ)) τ 45 [some (.ref (G.2.2.2 + 82)), L1] [] := by
    intro τ L1 hF hm hJ hU
    refine e_aload_n (q := 46) (i := 0) dX12_keepNow_45 rfl rfl rfl ?_
    refine e_iconst (q := 47) dX12_keepNow_46 rfl ?_
    refine e_aload_n (q := 48) (i := 0) dX12_keepNow_47 rfl rfl rfl ?_
    refine e_getI (q := 51) (jz := 43) dX12_keepNow_48 rfl fg_X12_296 rfl (by first | assumption | rfl) rfl ?_
    refine e_iadd (q := 52) dX12_keepNow_51 rfl ?_
    refine e_iconst (q := 53) dX12_keepNow_52 rfl ?_
    refine e_Vv (q := 56) (vs := [_, _]) ok_X12_copies ml_X12_431 dX12_keepNow_53 rfl ⟨_, _, rfl⟩ (by first | assumption | rfl) rfl rfl (Nat.le_of_ble_eq_true rfl) (by decide) (c_X12_copies (by omega) (by omega) (by decide) (by decide) (by omega)) (fun s53 h53 => ?_)
    have e43 : s53.1 82 43 = τ.1 82 43 := h53.1.2 43 (by simp)
    refine e_aload_n (q := 57) (i := 0) dX12_keepNow_56 rfl rfl rfl ?_
    refine e_dup (q := 58) dX12_keepNow_57 rfl rfl ?_
    refine e_getI (q := 61) (jz := 43) dX12_keepNow_58 rfl fg_X12_296 rfl (by first | assumption | rfl) rfl ?_
    refine e_iconst (q := 62) dX12_keepNow_61 rfl ?_
    refine e_iadd (q := 63) dX12_keepNow_62 rfl ?_
    refine e_putI (q := 66) (jz := 43) dX12_keepNow_63 rfl fp_X12_296 rfl (by first | assumption | rfl) rfl ?_
    exact r_v dX12_keepNow_66 rfl ⟨(hF.tr (h53.1.mono (by decide) (by simp))).s82 (by decide) _, by rw [sI_1, if_pos ⟨rfl, rfl⟩]; omega, fun j a b => by rw [ldm_82, h53.2.1.ld (by omega)]; exact hJ j a b, by rw [ldm_82, show 3 + (min (σ.1 82 43 + 1) 20 - 1) = 3 + τ.1 82 43 by omega, h53.ld]; exact hU 0 (by decide), fun u hu => by rw [ldm_82, h53.2.1.ld (by omega)]; exact hU u hu⟩
  have lp : ∀ (n : Nat) (τ : Sg) (i : Int), σ.1 82 43 = 20 → 1 ≤ i → i + n = 20 → Fm [102, 103, 104, 105, 106, 107, 108] [43] σ τ → τ.1 82 43 = 20 → (∀ j, 0 ≤ j → j < i - 1 → ldm τ (3 + j) = ldm σ (3 + j + 1)) → (∀ j, i - 1 ≤ j → ldm τ (3 + j) = ldm σ (3 + j)) → (∀ u, u < 3 → ldm τ u = ldm σ u) → J G 2 mX12_keepNow (pV (KN σ)) τ 11 [some (.ref (G.2.2.2 + 82)), some (.int (iZ i))] [] := by
    intro n
    induction n with
    | zero =>
      intro τ i h20 h0 hn hF h43 hA hB hU
      refine e_iload_n (q := 12) (i := 1) dX12_keepNow_11 rfl rfl rfl ?_
      refine e_bipush (q := 14) dX12_keepNow_12 rfl (by decide) ?_
      refine e_icmp_ge (q := 17) (tgt := 35) dX12_keepNow_14 rfl (by decide) (fun c14 => ?_) (fun c14 => absurd (by omega) c14)
      refine e_aload_n (q := 36) (i := 0) dX12_keepNow_35 rfl rfl rfl ?_
      refine e_dup (q := 37) dX12_keepNow_36 rfl rfl ?_
      refine e_getI (q := 40) (jz := 43) dX12_keepNow_37 rfl fg_X12_296 rfl (by first | assumption | rfl) rfl ?_
      refine e_iconst (q := 41) dX12_keepNow_40 rfl ?_
      refine e_isub (q := 42) dX12_keepNow_41 rfl ?_
      refine e_putI (q := 45) (jz := 43) dX12_keepNow_42 rfl fp_X12_296 rfl (by first | assumption | rfl) rfl ?_
      refine fin _ _ (hF.s82 (by decide) _) (by rw [sI_1, if_pos ⟨rfl, rfl⟩]; omega) (fun j a b => ?_) (fun u hu => by rw [ldm_82]; exact hU u hu)
      rw [ldm_82, hA j a (by omega)]
      congr 1
      omega
    | succ n ih =>
      intro τ i h20 h0 hn hF h43 hA hB hU
      refine e_iload_n (q := 12) (i := 1) dX12_keepNow_11 rfl rfl rfl ?_
      refine e_bipush (q := 14) dX12_keepNow_12 rfl (by decide) ?_
      refine e_icmp_ge (q := 17) (tgt := 35) dX12_keepNow_14 rfl (by decide) (fun c14 => absurd c14 (by omega)) (fun c14 => ?_)
      refine e_aload_n (q := 18) (i := 0) dX12_keepNow_17 rfl rfl rfl ?_
      refine e_iconst (q := 19) dX12_keepNow_18 rfl ?_
      refine e_iload_n (q := 20) (i := 1) dX12_keepNow_19 rfl rfl rfl ?_
      refine e_iadd (q := 21) dX12_keepNow_20 rfl ?_
      refine e_iconst (q := 22) dX12_keepNow_21 rfl ?_
      refine e_isub (q := 23) dX12_keepNow_22 rfl ?_
      refine e_iconst (q := 24) dX12_keepNow_23 rfl ?_
      refine e_iload_n (q := 25) (i := 1) dX12_keepNow_24 rfl rfl rfl ?_
      refine e_iadd (q := 26) dX12_keepNow_25 rfl ?_
      refine e_Vv (q := 29) (vs := [_, _]) ok_X12_copies ml_X12_431 dX12_keepNow_26 rfl ⟨_, _, rfl⟩ (by first | assumption | rfl) rfl rfl (Nat.le_of_ble_eq_true rfl) (by decide) (c_X12_copies (by omega) (by omega) (by omega) (by omega) (by omega)) (fun s26 h26 => ?_)
      refine e_iinc (q := 32) (L' := [_, _]) dX12_keepNow_29 rfl rfl (by decide) rfl rfl ?_
      refine e_goto (tgt := 11) dX12_keepNow_32 (by decide) ?_
      have hld := h26.ld
      have hot := h26.2.1
      refine ih _ _ h20 (by omega) (by omega) (hF.tr (h26.1.mono (by decide) (by simp))) (by rw [h26.1.2 43 (by simp)]; exact h43) (fun j a b => ?_) (fun j a => ?_) (fun u hu => by rw [hot.ld (by omega)]; exact hU u hu)
      · by_cases e : j = i - 1
        · subst e
          rw [show 3 + (i - 1) = 3 + i - 1 by omega, hld, show 3 + i - 1 + 1 = 3 + i by omega]
          exact hB i (by omega)
        · rw [hot.ld (by omega)]
          exact hA j a (by omega)
      · rw [hot.ld (by omega)]
        exact hB j (by omega)
  refine e_entry om_X12_keepNow (Nat.le_of_ble_eq_true rfl) (L := [some (.ref (G.2.2.2 + 82)), none]) rfl ?_
  refine e_aload_n (q := 1) (i := 0) dX12_keepNow_0 rfl rfl rfl ?_
  refine e_getI (q := 4) (jz := 43) dX12_keepNow_1 rfl fg_X12_296 rfl (by first | assumption | rfl) rfl ?_
  refine e_bipush (q := 6) dX12_keepNow_4 rfl (by decide) ?_
  refine e_icmp_ne (q := 9) (tgt := 45) dX12_keepNow_6 rfl (by decide) (fun c6 => ?_) (fun c6 => ?_) (hx := ⟨by omega, by omega⟩)
  · exact fin σ _ (Fm.rf _ _ _) (by omega) (fun j a b => by congr 1; omega) (fun _ _ => rfl)
  · refine e_iconst (q := 10) dX12_keepNow_9 rfl ?_
    refine e_istore_n (q := 11) (i := 1) (L' := [_, _]) dX12_keepNow_10 rfl rfl (by decide) rfl rfl ?_
    exact lp 19 σ 1 (by omega) (by decide) (by decide) (Fm.rf _ _ _) (by omega) (fun j a b => absurd b (by omega)) (fun _ _ => rfl) (fun _ _ => rfl)

theorem c_X12_bake {G : Gx} {σ0 σ : Sg} {p w v : Int} (hσ : σ = sI σ0 82 0 0) (hT : MT σ) (hI : MI σ 0) (hk0 : 0 ≤ σ.1 82 43) (hk1 : σ.1 82 43 ≤ 20) (hp : R32 p) (hw : R32 w) (hv : R32 v) : Con G 3 mX12_bake [.ref (G.2.2.2 + 82), .int (iZ p), .int (iZ w), .int (iZ v)] σ0 (pI (fun z σ' => (¬ ((0 ≤ p ∧ p < σ.1 84 1) ∧ (0 ≤ w ∧ w < 4) ∧ 0 ≤ v ∧ v ≤ 9 ∧ mK σ 0 (4 * p + w) ≠ v) ∧ z = 0 ∧ σ' = σ) ∨ (((0 ≤ p ∧ p < σ.1 84 1) ∧ (0 ≤ w ∧ w < 4) ∧ 0 ≤ v ∧ v ≤ 9 ∧ mK σ 0 (4 * p + w) ≠ v) ∧ z = 1 ∧ ∃ τ, KN σ τ ∧ σ' = sI τ 106 (16 * 0 + (4 * p + w)) v))) := by
  obtain ⟨hzz, hnp, hnc, hnb, hrn, hsd, hrw, hrq, hch, hbt, hck⟩ := id hT
  refine e_entry om_X12_bake (Nat.le_of_ble_eq_true rfl) (L := [some (.ref (G.2.2.2 + 82)), some (.int (iZ p)), some (.int (iZ w)), some (.int (iZ v))]) rfl ?_
  refine e_aload_n (q := 1) (i := 0) dX12_bake_0 rfl rfl rfl ?_
  refine e_iconst (q := 2) dX12_bake_1 rfl ?_
  refine e_putI (q := 5) (jz := 0) dX12_bake_2 rfl fp_X12_136 rfl (by first | assumption | rfl) rfl ?_
  rw [← hσ]
  refine e_aload_n (q := 6) (i := 0) dX12_bake_5 rfl rfl rfl ?_
  refine e_iload_n (q := 7) (i := 1) dX12_bake_6 rfl rfl rfl ?_
  refine e_Vip (q := 10) (vs := [_]) ok_X12_isParish ml_X12_396 dX12_bake_7 rfl ⟨_, _, rfl⟩ (by first | assumption | rfl) rfl rfl (Nat.le_of_ble_eq_true rfl) (by decide) (c_X12_isParish hT (by assumption)) ?_
  refine e_if_eq (q := 13) (tgt := 45) dX12_bake_10 rfl (by decide) (fun c10 => ?_) (fun c10 => ?_)
  · refine e_iconst (q := 46) dX12_bake_45 rfl ?_
    exact r_z dX12_bake_46 rfl (by first | exact Or.inl rfl | exact Or.inr rfl | omega) (Or.inl ⟨by omega, rfl, rfl⟩)
  · refine e_iload_n (q := 14) (i := 2) dX12_bake_13 rfl rfl rfl ?_
    refine e_Sip (q := 17) (vs := [_]) ok_X12_isWay ml_X12_405 dX12_bake_14 rfl rfl rfl (Nat.le_of_ble_eq_true rfl) (by decide) (c_X12_isWay (by assumption)) ?_
    refine e_if_eq (q := 20) (tgt := 45) dX12_bake_17 rfl (by decide) (fun c17 => ?_) (fun c17 => ?_)
    · refine e_iconst (q := 46) dX12_bake_45 rfl ?_
      exact r_z dX12_bake_46 rfl (by first | exact Or.inl rfl | exact Or.inr rfl | omega) (Or.inl ⟨by omega, rfl, rfl⟩)
    · refine e_iload_n (q := 21) (i := 3) dX12_bake_20 rfl rfl rfl ?_
      refine e_if_lt (q := 24) (tgt := 45) dX12_bake_21 rfl (by decide) (fun c21 => ?_) (fun c21 => ?_)
      · refine e_iconst (q := 46) dX12_bake_45 rfl ?_
        exact r_z dX12_bake_46 rfl (by first | exact Or.inl rfl | exact Or.inr rfl | omega) (Or.inl ⟨by omega, rfl, rfl⟩)
      · refine e_iload_n (q := 25) (i := 3) dX12_bake_24 rfl rfl rfl ?_
        refine e_bipush (q := 27) dX12_bake_25 rfl (by decide) ?_
        refine e_icmp_gt (q := 30) (tgt := 45) dX12_bake_27 rfl (by decide) (fun c27 => ?_) (fun c27 => ?_)
        · refine e_iconst (q := 46) dX12_bake_45 rfl ?_
          exact r_z dX12_bake_46 rfl (by first | exact Or.inl rfl | exact Or.inr rfl | omega) (Or.inl ⟨by omega, rfl, rfl⟩)
        · refine e_aload_n (q := 31) (i := 0) dX12_bake_30 rfl rfl rfl ?_
          refine e_getR (q := 34) dX12_bake_31 rfl fg_X12_84 (by first | assumption | rfl) rfl ?_
          refine e_iconst (q := 35) dX12_bake_34 rfl ?_
          refine e_iload_n (q := 36) (i := 1) dX12_bake_35 rfl rfl rfl ?_
          refine e_iload_n (q := 37) (i := 2) dX12_bake_36 rfl rfl rfl ?_
          refine e_Sip (q := 40) (vs := [_, _, _]) ok_X12_slot ml_X12_322 dX12_bake_37 rfl rfl rfl (Nat.le_of_ble_eq_true rfl) (by decide) (c_X12_slot (t := 16 * 0 + (4 * p + w)) (by omega)) ?_
          refine e_iald (q := 41) dX12_bake_40 rfl (by first | assumption | rfl) ?_
          refine e_iload_n (q := 42) (i := 3) dX12_bake_41 rfl rfl rfl ?_
          have hc4 := hI.1 (4 * p + w) (by omega) (by omega)
          have e106 : σ.1 106 (16 * 0 + (4 * p + w)) = mK σ 0 (4 * p + w) := rfl
          refine e_icmp_ne (q := 45) (tgt := 47) dX12_bake_42 rfl (by decide) (fun c42 => ?_) (fun c42 => ?_) (hx := ⟨by omega, by omega⟩)
          · refine e_aload_n (q := 48) (i := 0) dX12_bake_47 rfl rfl rfl ?_
            refine e_Vv (q := 51) (vs := []) ok_X12_keepNow ml_X12_434 dX12_bake_48 rfl ⟨_, _, rfl⟩ (by first | assumption | rfl) rfl rfl (Nat.le_of_ble_eq_true rfl) (by decide) (c_X12_keepNow hk0 hk1) (fun s48 h48 => ?_)
            refine e_aload_n (q := 52) (i := 0) dX12_bake_51 rfl rfl rfl ?_
            refine e_getR (q := 55) dX12_bake_52 rfl fg_X12_84 (by first | assumption | rfl) rfl ?_
            refine e_iconst (q := 56) dX12_bake_55 rfl ?_
            refine e_iload_n (q := 57) (i := 1) dX12_bake_56 rfl rfl rfl ?_
            refine e_iload_n (q := 58) (i := 2) dX12_bake_57 rfl rfl rfl ?_
            refine e_Sip (q := 61) (vs := [_, _, _]) ok_X12_slot ml_X12_322 dX12_bake_58 rfl rfl rfl (Nat.le_of_ble_eq_true rfl) (by decide) (c_X12_slot (t := 16 * 0 + (4 * p + w)) (by omega)) ?_
            refine e_iload_n (q := 62) (i := 3) dX12_bake_61 rfl rfl rfl ?_
            refine e_iast (q := 63) dX12_bake_62 rfl (by first | assumption | rfl) ?_
            refine e_iconst (q := 64) dX12_bake_63 rfl ?_
            exact r_z dX12_bake_64 rfl (by first | exact Or.inl rfl | exact Or.inr rfl | omega) (Or.inr ⟨by omega, rfl, s48, h48, rfl⟩)
          · refine e_iconst (q := 46) dX12_bake_45 rfl ?_
            exact r_z dX12_bake_46 rfl (by first | exact Or.inl rfl | exact Or.inr rfl | omega) (Or.inl ⟨by omega, rfl, rfl⟩)

theorem c_X12_carry {G : Gx} {σ0 σ : Sg} {p w v : Int} (hσ : σ = sI σ0 82 0 0) (hT : MT σ) (hI : MI σ 0) (hk0 : 0 ≤ σ.1 82 43) (hk1 : σ.1 82 43 ≤ 20) (hp : R32 p) (hw : R32 w) (hv : R32 v) : Con G 4 mX12_carry [.ref (G.2.2.2 + 82), .int (iZ p), .int (iZ w), .int (iZ v)] σ0 (pI (fun z σ' => (¬ ((0 ≤ p ∧ p < σ.1 84 1) ∧ (0 ≤ w ∧ w < 4) ∧ 0 ≤ v ∧ v ≤ gEdge (σ.1 86) (σ.1 87) (σ.1 84 0) p w ∧ mF σ 0 (4 * p + w) ≠ v) ∧ z = -1 ∧ σ' = σ) ∨ (((0 ≤ p ∧ p < σ.1 84 1) ∧ (0 ≤ w ∧ w < 4) ∧ 0 ≤ v ∧ v ≤ gEdge (σ.1 86) (σ.1 87) (σ.1 84 0) p w ∧ mF σ 0 (4 * p + w) ≠ v) ∧ z = gArea (σ'.1 86) (σ'.1 87) (mF σ' 0) p ∧ ∃ τ, KN σ τ ∧ σ' = sI τ 105 (16 * 0 + (4 * p + w)) v))) := by
  obtain ⟨hzz, hnp, hnc, hnb, hrn, hsd, hrw, hrq, hch, hbt, hck⟩ := id hT
  refine e_entry om_X12_carry (Nat.le_of_ble_eq_true rfl) (L := [some (.ref (G.2.2.2 + 82)), some (.int (iZ p)), some (.int (iZ w)), some (.int (iZ v))]) rfl ?_
  refine e_aload_n (q := 1) (i := 0) dX12_carry_0 rfl rfl rfl ?_
  refine e_iconst (q := 2) dX12_carry_1 rfl ?_
  refine e_putI (q := 5) (jz := 0) dX12_carry_2 rfl fp_X12_136 rfl (by first | assumption | rfl) rfl ?_
  rw [← hσ]
  refine e_aload_n (q := 6) (i := 0) dX12_carry_5 rfl rfl rfl ?_
  refine e_iload_n (q := 7) (i := 1) dX12_carry_6 rfl rfl rfl ?_
  refine e_Vip (q := 10) (vs := [_]) ok_X12_isParish ml_X12_396 dX12_carry_7 rfl ⟨_, _, rfl⟩ (by first | assumption | rfl) rfl rfl (Nat.le_of_ble_eq_true rfl) (by decide) (c_X12_isParish hT (by assumption)) ?_
  refine e_if_eq (q := 13) (tgt := 49) dX12_carry_10 rfl (by decide) (fun c10 => ?_) (fun c10 => ?_)
  · refine e_iconst (q := 50) dX12_carry_49 rfl ?_
    exact r_i dX12_carry_50 rfl (Or.inl ⟨by omega, rfl, rfl⟩)
  · refine e_iload_n (q := 14) (i := 2) dX12_carry_13 rfl rfl rfl ?_
    refine e_Sip (q := 17) (vs := [_]) ok_X12_isWay ml_X12_405 dX12_carry_14 rfl rfl rfl (Nat.le_of_ble_eq_true rfl) (by decide) (c_X12_isWay (by assumption)) ?_
    refine e_if_eq (q := 20) (tgt := 49) dX12_carry_17 rfl (by decide) (fun c17 => ?_) (fun c17 => ?_)
    · refine e_iconst (q := 50) dX12_carry_49 rfl ?_
      exact r_i dX12_carry_50 rfl (Or.inl ⟨by omega, rfl, rfl⟩)
    · refine e_iload_n (q := 21) (i := 3) dX12_carry_20 rfl rfl rfl ?_
      refine e_if_lt (q := 24) (tgt := 49) dX12_carry_21 rfl (by decide) (fun c21 => ?_) (fun c21 => ?_)
      · refine e_iconst (q := 50) dX12_carry_49 rfl ?_
        exact r_i dX12_carry_50 rfl (Or.inl ⟨by omega, rfl, rfl⟩)
      · refine e_iload_n (q := 25) (i := 3) dX12_carry_24 rfl rfl rfl ?_
        refine e_aload_n (q := 26) (i := 0) dX12_carry_25 rfl rfl rfl ?_
        refine e_iload_n (q := 27) (i := 1) dX12_carry_26 rfl rfl rfl ?_
        refine e_iload_n (q := 28) (i := 2) dX12_carry_27 rfl rfl rfl ?_
        refine e_Vip (q := 31) (vs := [_, _]) ok_X12_edge ml_X12_364 dX12_carry_28 rfl ⟨_, _, rfl⟩ (by first | assumption | rfl) rfl rfl (Nat.le_of_ble_eq_true rfl) (by decide) (c_X12_edge (by omega) (by omega) (by omega) (by omega)) ?_
        have hr4 := hrw p (by omega) (by omega)
        have hed : -40 ≤ gEdge (σ.1 86) (σ.1 87) (σ.1 84 0) p w ∧ gEdge (σ.1 86) (σ.1 87) (σ.1 84 0) p w ≤ 40 := by
          unfold gEdge
          split
          · omega
          split
          · omega
          split <;> omega
        refine e_icmp_gt (q := 34) (tgt := 49) dX12_carry_31 rfl (by decide) (fun c31 => ?_) (fun c31 => ?_)
        · refine e_iconst (q := 50) dX12_carry_49 rfl ?_
          exact r_i dX12_carry_50 rfl (Or.inl ⟨by omega, rfl, rfl⟩)
        · refine e_aload_n (q := 35) (i := 0) dX12_carry_34 rfl rfl rfl ?_
          refine e_getR (q := 38) dX12_carry_35 rfl fg_X12_81 (by first | assumption | rfl) rfl ?_
          refine e_iconst (q := 39) dX12_carry_38 rfl ?_
          refine e_iload_n (q := 40) (i := 1) dX12_carry_39 rfl rfl rfl ?_
          refine e_iload_n (q := 41) (i := 2) dX12_carry_40 rfl rfl rfl ?_
          refine e_Sip (q := 44) (vs := [_, _, _]) ok_X12_slot ml_X12_322 dX12_carry_41 rfl rfl rfl (Nat.le_of_ble_eq_true rfl) (by decide) (c_X12_slot (t := 16 * 0 + (4 * p + w)) (by omega)) ?_
          refine e_iald (q := 45) dX12_carry_44 rfl (by first | assumption | rfl) ?_
          refine e_iload_n (q := 46) (i := 3) dX12_carry_45 rfl rfl rfl ?_
          have hc4 := hI.1 (4 * p + w) (by omega) (by omega)
          have e105 : σ.1 105 (16 * 0 + (4 * p + w)) = mF σ 0 (4 * p + w) := rfl
          refine e_icmp_ne (q := 49) (tgt := 51) dX12_carry_46 rfl (by decide) (fun c46 => ?_) (fun c46 => ?_) (hx := ⟨by omega, by omega⟩)
          · refine e_aload_n (q := 52) (i := 0) dX12_carry_51 rfl rfl rfl ?_
            refine e_Vv (q := 55) (vs := []) ok_X12_keepNow ml_X12_434 dX12_carry_52 rfl ⟨_, _, rfl⟩ (by first | assumption | rfl) rfl rfl (Nat.le_of_ble_eq_true rfl) (by decide) (c_X12_keepNow hk0 hk1) (fun s52 h52 => ?_)
            refine e_aload_n (q := 56) (i := 0) dX12_carry_55 rfl rfl rfl ?_
            refine e_getR (q := 59) dX12_carry_56 rfl fg_X12_81 (by first | assumption | rfl) rfl ?_
            refine e_iconst (q := 60) dX12_carry_59 rfl ?_
            refine e_iload_n (q := 61) (i := 1) dX12_carry_60 rfl rfl rfl ?_
            refine e_iload_n (q := 62) (i := 2) dX12_carry_61 rfl rfl rfl ?_
            refine e_Sip (q := 65) (vs := [_, _, _]) ok_X12_slot ml_X12_322 dX12_carry_62 rfl rfl rfl (Nat.le_of_ble_eq_true rfl) (by decide) (c_X12_slot (t := 16 * 0 + (4 * p + w)) (by omega)) ?_
            refine e_iload_n (q := 66) (i := 3) dX12_carry_65 rfl rfl rfl ?_
            refine e_iast (q := 67) dX12_carry_66 rfl (by first | assumption | rfl) ?_
            refine e_aload_n (q := 68) (i := 0) dX12_carry_67 rfl rfl rfl ?_
            refine e_iconst (q := 69) dX12_carry_68 rfl ?_
            refine e_iload_n (q := 70) (i := 1) dX12_carry_69 rfl rfl rfl ?_
            refine e_Vip (q := 73) (vs := [_, _]) ok_X12_areaOf ml_X12_339 dX12_carry_70 rfl ⟨_, _, rfl⟩ (by first | assumption | rfl) rfl rfl (Nat.le_of_ble_eq_true rfl) (by decide) (c_X12_areaOf (by decide) (by decide) (by omega) (by omega)) ?_
            exact r_i dX12_carry_73 rfl (Or.inr ⟨by omega, rfl, s52, h52, rfl⟩)
          · refine e_iconst (q := 50) dX12_carry_49 rfl ?_
            exact r_i dX12_carry_50 rfl (Or.inl ⟨by omega, rfl, rfl⟩)

theorem c_X12_beat {G : Gx} {σ0 σ : Sg} {p c w : Int} (hσ : σ = sI σ0 82 0 0) (hT : MT σ) (hW : MW σ) (hI : MI σ 0) (hx44 : σ.1 82 44 = 0) (hk0 : 0 ≤ σ.1 82 43) (hk1 : σ.1 82 43 ≤ 20) (hp : R32 p) (hc : R32 c) (hw : R32 w) : Con G 7 mX12_beat [.ref (G.2.2.2 + 82), .int (iZ p), .int (iZ c), .int (iZ w)] σ0 (pI (fun z σ' => (¬ ((0 ≤ p ∧ p < σ.1 84 1) ∧ (0 ≤ c ∧ c < σ.1 84 2) ∧ (0 ≤ w ∧ w < 4)) ∧ z = -1 ∧ σ' = σ) ∨ (((0 ≤ p ∧ p < σ.1 84 1) ∧ (0 ≤ c ∧ c < σ.1 84 2) ∧ (0 ≤ w ∧ w < 4)) ∧ z = mF σ' 0 (4 * p + w) ∧ ∃ τ, KN σ τ ∧ Mp τ σ' 0 (yLead (mLaw τ) (τ.1 91) (mCk τ 0) (mEd τ) (mTl τ) (if 50 ≤ τ.1 84 4 then 1 else 0) c (4 * p + w) (ydm τ 0))))) := by
  obtain ⟨hzz, hnp, hnc, hnb, hrn, hsd, hrw, hrq, hch, hbt, hck⟩ := id hT
  refine e_entry om_X12_beat (Nat.le_of_ble_eq_true rfl) (L := [some (.ref (G.2.2.2 + 82)), some (.int (iZ p)), some (.int (iZ c)), some (.int (iZ w))]) rfl ?_
  refine e_aload_n (q := 1) (i := 0) dX12_beat_0 rfl rfl rfl ?_
  refine e_iconst (q := 2) dX12_beat_1 rfl ?_
  refine e_putI (q := 5) (jz := 0) dX12_beat_2 rfl fp_X12_136 rfl (by first | assumption | rfl) rfl ?_
  rw [← hσ]
  refine e_aload_n (q := 6) (i := 0) dX12_beat_5 rfl rfl rfl ?_
  refine e_iload_n (q := 7) (i := 1) dX12_beat_6 rfl rfl rfl ?_
  refine e_Vip (q := 10) (vs := [_]) ok_X12_isParish ml_X12_396 dX12_beat_7 rfl ⟨_, _, rfl⟩ (by first | assumption | rfl) rfl rfl (Nat.le_of_ble_eq_true rfl) (by decide) (c_X12_isParish hT (by assumption)) ?_
  refine e_if_eq (q := 13) (tgt := 28) dX12_beat_10 rfl (by decide) (fun c10 => ?_) (fun c10 => ?_)
  · refine e_iconst (q := 29) dX12_beat_28 rfl ?_
    exact r_i dX12_beat_29 rfl (Or.inl ⟨by omega, rfl, rfl⟩)
  · refine e_aload_n (q := 14) (i := 0) dX12_beat_13 rfl rfl rfl ?_
    refine e_iload_n (q := 15) (i := 2) dX12_beat_14 rfl rfl rfl ?_
    refine e_Vip (q := 18) (vs := [_]) ok_X12_isChild ml_X12_402 dX12_beat_15 rfl ⟨_, _, rfl⟩ (by first | assumption | rfl) rfl rfl (Nat.le_of_ble_eq_true rfl) (by decide) (c_X12_isChild hT (by assumption)) ?_
    refine e_if_eq (q := 21) (tgt := 28) dX12_beat_18 rfl (by decide) (fun c18 => ?_) (fun c18 => ?_)
    · refine e_iconst (q := 29) dX12_beat_28 rfl ?_
      exact r_i dX12_beat_29 rfl (Or.inl ⟨by omega, rfl, rfl⟩)
    · refine e_iload_n (q := 22) (i := 3) dX12_beat_21 rfl rfl rfl ?_
      refine e_Sip (q := 25) (vs := [_]) ok_X12_isWay ml_X12_405 dX12_beat_22 rfl rfl rfl (Nat.le_of_ble_eq_true rfl) (by decide) (c_X12_isWay (by assumption)) ?_
      refine e_if_ne (q := 28) (tgt := 30) dX12_beat_25 rfl (by decide) (fun c25 => ?_) (fun c25 => ?_)
      · refine e_aload_n (q := 31) (i := 0) dX12_beat_30 rfl rfl rfl ?_
        refine e_Vv (q := 34) (vs := []) ok_X12_keepNow ml_X12_434 dX12_beat_31 rfl ⟨_, _, rfl⟩ (by first | assumption | rfl) rfl rfl (Nat.le_of_ble_eq_true rfl) (by decide) (c_X12_keepNow hk0 hk1) (fun s31 h31 => ?_)
        have hT1 := hT.fr h31.1 nc_84d
        have hW1 := hW.fr h31.1 nc_96d
        have hI1 := hI.ld (h31.2.2.2.2 0 (by decide))
        have e44 : s31.1 82 44 = 0 := by rw [h31.1.2 44 (by decide)]; exact hx44
        have e84 : s31.1 84 = σ.1 84 := h31.1.c (by decide)
        have hw01 : (if 50 ≤ s31.1 84 4 then (1 : Int) else 0) = 0 ∨ (if 50 ≤ s31.1 84 4 then (1 : Int) else 0) = 1 := by split <;> simp
        refine e_aload_n (q := 35) (i := 0) dX12_beat_34 rfl rfl rfl ?_
        refine e_iconst (q := 36) dX12_beat_35 rfl ?_
        refine e_iload_n (q := 37) (i := 1) dX12_beat_36 rfl rfl rfl ?_
        refine e_iload_n (q := 38) (i := 2) dX12_beat_37 rfl rfl rfl ?_
        refine e_iload_n (q := 39) (i := 3) dX12_beat_38 rfl rfl rfl ?_
        refine e_aload_n (q := 40) (i := 0) dX12_beat_39 rfl rfl rfl ?_
        refine e_iconst (q := 41) dX12_beat_40 rfl ?_
        refine e_iconst (q := 42) dX12_beat_41 rfl ?_
        refine e_Vip (q := 45) (vs := [_, _]) ok_X12_isWet ml_X12_384 dX12_beat_42 rfl ⟨_, _, rfl⟩ (by first | assumption | rfl) rfl rfl (Nat.le_of_ble_eq_true rfl) (by decide) (c_X12_isWet0 hT1 e44) ?_
        refine e_Vv (q := 48) (vs := [_, _, _, _, _]) ok_X12_leads ml_X12_388 dX12_beat_45 rfl ⟨_, _, rfl⟩ (by first | assumption | rfl) rfl rfl (Nat.le_of_ble_eq_true rfl) (by decide) (c_X12_leads hT1 hW1 hI1 (by decide) (by decide) (by omega) (by rw [e84]; omega) (by omega) (by omega) (by omega) (by omega) hw01 ⟨by omega, by omega⟩) (fun s45 h45 => ?_)
        refine e_aload_n (q := 49) (i := 0) dX12_beat_48 rfl rfl rfl ?_
        refine e_getR (q := 52) dX12_beat_49 rfl fg_X12_81 (by first | assumption | rfl) rfl ?_
        refine e_iconst (q := 53) dX12_beat_52 rfl ?_
        refine e_iload_n (q := 54) (i := 1) dX12_beat_53 rfl rfl rfl ?_
        refine e_iload_n (q := 55) (i := 3) dX12_beat_54 rfl rfl rfl ?_
        refine e_Sip (q := 58) (vs := [_, _, _]) ok_X12_slot ml_X12_322 dX12_beat_55 rfl rfl rfl (Nat.le_of_ble_eq_true rfl) (by decide) (c_X12_slot (t := 16 * 0 + (4 * p + w)) (by omega)) ?_
        refine e_iald (q := 59) dX12_beat_58 rfl (by first | assumption | rfl) ?_
        exact r_i dX12_beat_59 rfl (Or.inr ⟨by omega, rfl, s31, h31, h45⟩)
      · refine e_iconst (q := 29) dX12_beat_28 rfl ?_
        exact r_i dX12_beat_29 rfl (Or.inl ⟨by omega, rfl, rfl⟩)

theorem c_X12_undo {G : Gx} {σ0 σ : Sg} (hσ : σ = sI σ0 82 0 0) (hk0 : 0 ≤ σ.1 82 43) (hk1 : σ.1 82 43 ≤ 20)  : Con G 2 mX12_undo [.ref (G.2.2.2 + 82)] σ0 (pI (fun z σ' => (σ.1 82 43 = 0 ∧ z = -1 ∧ σ' = σ) ∨ (¬ σ.1 82 43 = 0 ∧ z = σ.1 82 43 - 1 ∧ MCp (sI σ 82 43 (σ.1 82 43 - 1)) 0 (3 + (σ.1 82 43 - 1)) σ'))) := by
  refine e_entry om_X12_undo (Nat.le_of_ble_eq_true rfl) (L := [some (.ref (G.2.2.2 + 82))]) rfl ?_
  refine e_aload_n (q := 1) (i := 0) dX12_undo_0 rfl rfl rfl ?_
  refine e_iconst (q := 2) dX12_undo_1 rfl ?_
  refine e_putI (q := 5) (jz := 0) dX12_undo_2 rfl fp_X12_136 rfl (by first | assumption | rfl) rfl ?_
  rw [← hσ]
  refine e_aload_n (q := 6) (i := 0) dX12_undo_5 rfl rfl rfl ?_
  refine e_getI (q := 9) (jz := 43) dX12_undo_6 rfl fg_X12_296 rfl (by first | assumption | rfl) rfl ?_
  refine e_if_ne (q := 12) (tgt := 14) dX12_undo_9 rfl (by decide) (fun c9 => ?_) (fun c9 => ?_) (hx := ⟨by omega, by omega⟩)
  · refine e_aload_n (q := 15) (i := 0) dX12_undo_14 rfl rfl rfl ?_
    refine e_dup (q := 16) dX12_undo_15 rfl rfl ?_
    refine e_getI (q := 19) (jz := 43) dX12_undo_16 rfl fg_X12_296 rfl (by first | assumption | rfl) rfl ?_
    refine e_iconst (q := 20) dX12_undo_19 rfl ?_
    refine e_isub (q := 21) dX12_undo_20 rfl ?_
    refine e_putI (q := 24) (jz := 43) dX12_undo_21 rfl fp_X12_296 rfl (by first | assumption | rfl) rfl ?_
    have e43 : (sI σ 82 43 (σ.1 82 43 - 1)).1 82 43 = σ.1 82 43 - 1 := by rw [sI_1, if_pos ⟨rfl, rfl⟩]
    refine e_aload_n (q := 25) (i := 0) dX12_undo_24 rfl rfl rfl ?_
    refine e_iconst (q := 26) dX12_undo_25 rfl ?_
    refine e_iconst (q := 27) dX12_undo_26 rfl ?_
    refine e_aload_n (q := 28) (i := 0) dX12_undo_27 rfl rfl rfl ?_
    refine e_getI (q := 31) (jz := 43) dX12_undo_28 rfl fg_X12_296 rfl (by first | assumption | rfl) rfl ?_
    refine e_iadd (q := 32) dX12_undo_31 rfl ?_
    rw [e43]
    refine e_Vv (q := 35) (vs := [_, _]) ok_X12_copies ml_X12_431 dX12_undo_32 rfl ⟨_, _, rfl⟩ (by first | assumption | rfl) rfl rfl (Nat.le_of_ble_eq_true rfl) (by decide) (c_X12_copies (by decide) (by decide) (by omega) (by omega) (by omega)) (fun s32 h32 => ?_)
    refine e_aload_n (q := 36) (i := 0) dX12_undo_35 rfl rfl rfl ?_
    refine e_getI (q := 39) (jz := 43) dX12_undo_36 rfl fg_X12_296 rfl (by first | assumption | rfl) rfl ?_
    exact r_i dX12_undo_39 rfl (Or.inr ⟨by omega, by rw [h32.1.2 43 (by simp), e43], h32⟩)
  · refine e_iconst (q := 13) dX12_undo_12 rfl ?_
    exact r_i dX12_undo_13 rfl (Or.inl ⟨by omega, rfl, rfl⟩)

theorem c_X12_keep {G : Gx} {σ0 σ : Sg} (hσ : σ = sI σ0 82 0 0)  : Con G 2 mX12_keep [.ref (G.2.2.2 + 82)] σ0 (pI (fun z σ' => z = σ.1 102 0 ∧ ∃ s, MCp σ 2 0 s ∧ σ' = sI s 82 42 1)) := by
  refine e_entry om_X12_keep (Nat.le_of_ble_eq_true rfl) (L := [some (.ref (G.2.2.2 + 82))]) rfl ?_
  refine e_aload_n (q := 1) (i := 0) dX12_keep_0 rfl rfl rfl ?_
  refine e_iconst (q := 2) dX12_keep_1 rfl ?_
  refine e_putI (q := 5) (jz := 0) dX12_keep_2 rfl fp_X12_136 rfl (by first | assumption | rfl) rfl ?_
  rw [← hσ]
  refine e_aload_n (q := 6) (i := 0) dX12_keep_5 rfl rfl rfl ?_
  refine e_iconst (q := 7) dX12_keep_6 rfl ?_
  refine e_iconst (q := 8) dX12_keep_7 rfl ?_
  refine e_Vv (q := 11) (vs := [_, _]) ok_X12_copies ml_X12_431 dX12_keep_8 rfl ⟨_, _, rfl⟩ (by first | assumption | rfl) rfl rfl (Nat.le_of_ble_eq_true rfl) (by decide) (c_X12_copies (by decide) (by decide) (by decide) (by decide) (by decide)) (fun s8 h8 => ?_)
  refine e_aload_n (q := 12) (i := 0) dX12_keep_11 rfl rfl rfl ?_
  refine e_iconst (q := 13) dX12_keep_12 rfl ?_
  refine e_putZ (q := 16) (jz := 42) dX12_keep_13 rfl fp_X12_292 rfl (by first | assumption | rfl) rfl (by first | exact Or.inl rfl | exact Or.inr rfl | omega) ?_
  refine e_aload_n (q := 17) (i := 0) dX12_keep_16 rfl rfl rfl ?_
  refine e_getR (q := 20) dX12_keep_17 rfl fg_X12_72 (by first | assumption | rfl) rfl ?_
  refine e_iconst (q := 21) dX12_keep_20 rfl ?_
  refine e_iald (q := 22) dX12_keep_21 rfl (by first | assumption | rfl) ?_
  exact r_i dX12_keep_22 rfl ⟨by rw [sI_ne (a := 102) _ (by decide)]; exact (h8.2.1 0 (by decide)).2.2.2.1, s8, h8, rfl⟩

theorem c_X12_back {G : Gx} {σ0 σ : Sg} (hσ : σ = sI σ0 82 0 0) (h42 : σ.1 82 42 = 0 ∨ σ.1 82 42 = 1) : Con G 2 mX12_back [.ref (G.2.2.2 + 82)] σ0 (pI (fun z σ' => (σ.1 82 42 = 0 ∧ z = -1 ∧ σ' = σ) ∨ (¬ σ.1 82 42 = 0 ∧ ∃ s, MCp σ 0 2 s ∧ z = s.1 102 0 ∧ σ' = sI s 82 43 0))) := by
  refine e_entry om_X12_back (Nat.le_of_ble_eq_true rfl) (L := [some (.ref (G.2.2.2 + 82))]) rfl ?_
  refine e_aload_n (q := 1) (i := 0) dX12_back_0 rfl rfl rfl ?_
  refine e_iconst (q := 2) dX12_back_1 rfl ?_
  refine e_putI (q := 5) (jz := 0) dX12_back_2 rfl fp_X12_136 rfl (by first | assumption | rfl) rfl ?_
  rw [← hσ]
  refine e_aload_n (q := 6) (i := 0) dX12_back_5 rfl rfl rfl ?_
  refine e_getI (q := 9) (jz := 42) dX12_back_6 rfl fg_X12_292 rfl (by first | assumption | rfl) rfl ?_
  refine e_if_ne (q := 12) (tgt := 14) dX12_back_9 rfl (by decide) (fun c9 => ?_) (fun c9 => ?_) (hx := ⟨by omega, by omega⟩)
  · refine e_aload_n (q := 15) (i := 0) dX12_back_14 rfl rfl rfl ?_
    refine e_iconst (q := 16) dX12_back_15 rfl ?_
    refine e_iconst (q := 17) dX12_back_16 rfl ?_
    refine e_Vv (q := 20) (vs := [_, _]) ok_X12_copies ml_X12_431 dX12_back_17 rfl ⟨_, _, rfl⟩ (by first | assumption | rfl) rfl rfl (Nat.le_of_ble_eq_true rfl) (by decide) (c_X12_copies (by decide) (by decide) (by decide) (by decide) (by decide)) (fun s17 h17 => ?_)
    refine e_aload_n (q := 21) (i := 0) dX12_back_20 rfl rfl rfl ?_
    refine e_iconst (q := 22) dX12_back_21 rfl ?_
    refine e_putI (q := 25) (jz := 43) dX12_back_22 rfl fp_X12_296 rfl (by first | assumption | rfl) rfl ?_
    refine e_aload_n (q := 26) (i := 0) dX12_back_25 rfl rfl rfl ?_
    refine e_getR (q := 29) dX12_back_26 rfl fg_X12_72 (by first | assumption | rfl) rfl ?_
    refine e_iconst (q := 30) dX12_back_29 rfl ?_
    refine e_iald (q := 31) dX12_back_30 rfl (by first | assumption | rfl) ?_
    exact r_i dX12_back_31 rfl (Or.inr ⟨by omega, s17, h17, by rw [sI_ne (a := 102) _ (by decide)], rfl⟩)
  · refine e_iconst (q := 13) dX12_back_12 rfl ?_
    exact r_i dX12_back_13 rfl (Or.inl ⟨by omega, rfl, rfl⟩)

set_option maxHeartbeats 4000000 in
theorem c_X12_go {G : Gx} {σ0 σ : Sg} {m : Int} (hσ : σ = sI σ0 82 0 0) (hT : MT σ) (hW : MW σ) (hB : MB σ) (hI : MI σ 0) (hx : R32 (σ.1 82 44)) (hx2 : R32 (σ.1 82 45)) (hm : R32 m) : Con G 8 mX12_go [.ref (G.2.2.2 + 82), .int (iZ m)] σ0 (pI (fun z σ' => (¬ (0 ≤ m ∧ m ≤ 200 ∧ σ.1 102 0 + m ≤ 9800) ∧ z = -1 ∧ σ' = σ) ∨ ((0 ≤ m ∧ m ≤ 200 ∧ σ.1 102 0 + m ≤ 9800) ∧ z = σ'.1 102 0 ∧ ∃ τ, ((τ = σ ∧ m ≤ 0) ∨ (τ = sI σ 82 43 0 ∧ 0 < m)) ∧ Mn τ σ' 0 (mPa τ 0 (mWt τ 1) m.toNat (ydm τ 0, τ.1 103 0))))) := by
  have fin : ∀ (υ : Sg) (L2 : Option Value), ((υ = σ ∧ m ≤ 0) ∨ (υ = sI σ 82 43 0 ∧ 0 < m)) → (0 ≤ m ∧ m ≤ 200 ∧ σ.1 102 0 + m ≤ 9800) → J G 8 mX12_go (pI (fun z σ' => (¬ (0 ≤ m ∧ m ≤ 200 ∧ σ.1 102 0 + m ≤ 9800) ∧ z = -1 ∧ σ' = σ) ∨ ((0 ≤ m ∧ m ≤ 200 ∧ σ.1 102 0 + m ≤ 9800) ∧ z = σ'.1 102 0 ∧ ∃ τ, ((τ = σ ∧ m ≤ 0) ∨ (τ = sI σ 82 43 0 ∧ 0 < m)) ∧ Mn τ σ' 0 (mPa τ 0 (mWt τ 1) m.toNat (ydm τ 0, τ.1 103 0))))) υ 41 [some (.ref (G.2.2.2 + 82)), some (.int (iZ m)), L2] [] := by
    intro υ L2 hυ hK
    have hF : Fm [102, 103, 104, 105, 106, 107, 108] [43] σ υ := by
      rcases hυ with q | q
      · rw [q.1]; exact Fm.rf _ _ _
      · rw [q.1]; exact (Fm.rf _ _ σ).s82 (by decide) _
    have hT1 := hT.fr hF nc_84d
    have hW1 := hW.fr hF nc_96d
    have hB1 := hB.fr hF nc_84d
    have hld : ldm υ 0 = ldm σ 0 := by
      rcases hυ with q | q
      · rw [q.1]
      · rw [q.1, ldm_82]
    have hI1 := hI.ld hld
    have hy1 : υ.1 102 0 = σ.1 102 0 := (ldm_out hld).2.2.2.1
    have hx1 : R32 (υ.1 82 44) := by rw [hF.2 44 (by decide)]; exact hx
    have hx21 : R32 (υ.1 82 45) := by rw [hF.2 45 (by decide)]; exact hx2
    have lp : ∀ (n : Nat) (τ : Sg) (i : Int), 0 ≤ i → i + n = m → Mn υ τ 0 (mPa υ 0 (mWt υ 1) i.toNat (ydm υ 0, υ.1 103 0)) → J G 8 mX12_go (pI (fun z σ' => (¬ (0 ≤ m ∧ m ≤ 200 ∧ σ.1 102 0 + m ≤ 9800) ∧ z = -1 ∧ σ' = σ) ∨ ((0 ≤ m ∧ m ≤ 200 ∧ σ.1 102 0 + m ≤ 9800) ∧ z = σ'.1 102 0 ∧ ∃ τ, ((τ = σ ∧ m ≤ 0) ∨ (τ = sI σ 82 43 0 ∧ 0 < m)) ∧ Mn τ σ' 0 (mPa τ 0 (mWt τ 1) m.toNat (ydm τ 0, τ.1 103 0))))) τ 43 [some (.ref (G.2.2.2 + 82)), some (.int (iZ m)), some (.int (iZ i))] [] := by
      intro n
      induction n with
      | zero =>
        intro τ i h0 hn hlp
        refine e_iload_n (q := 44) (i := 2) dX12_go_43 rfl rfl rfl ?_
        refine e_iload_n (q := 45) (i := 1) dX12_go_44 rfl rfl rfl ?_
        refine e_icmp_ge (q := 48) (tgt := 60) dX12_go_45 rfl (by decide) (fun c45 => ?_) (fun c45 => absurd (by omega) c45)
        refine e_aload_n (q := 61) (i := 0) dX12_go_60 rfl rfl rfl ?_
        refine e_getR (q := 64) dX12_go_61 rfl fg_X12_72 (by first | assumption | rfl) rfl ?_
        refine e_iconst (q := 65) dX12_go_64 rfl ?_
        refine e_iald (q := 66) dX12_go_65 rfl (by first | assumption | rfl) ?_
        have ei : i = m := by omega
        subst ei
        exact r_i dX12_go_66 rfl (Or.inr ⟨by omega, rfl, υ, hυ, hlp⟩)
      | succ n ih =>
        intro τ i h0 hn hlp
        refine e_iload_n (q := 44) (i := 2) dX12_go_43 rfl rfl rfl ?_
        refine e_iload_n (q := 45) (i := 1) dX12_go_44 rfl rfl rfl ?_
        refine e_icmp_ge (q := 48) (tgt := 60) dX12_go_45 rfl (by decide) (fun c45 => absurd c45 (by omega)) (fun c45 => ?_)
        refine e_aload_n (q := 49) (i := 0) dX12_go_48 rfl rfl rfl ?_
        refine e_iconst (q := 50) dX12_go_49 rfl ?_
        refine e_iconst (q := 51) dX12_go_50 rfl ?_
        have hYe : τ.1 102 0 = υ.1 102 0 + i := by
          have q : (ydm τ 0).2.2.2.2 = _ := congrArg (fun y : Yd => y.2.2.2.2) hlp.2.1
          rw [mPa_ye] at q
          have e : (ydm τ 0).2.2.2.2 = τ.1 102 0 := rfl
          have e0 : (ydm υ 0).2.2.2.2 = υ.1 102 0 := rfl
          rw [← e, q]
          show (ydm υ 0).2.2.2.2 + _ = _
          rw [e0]
          omega
        refine e_Vv (q := 54) (vs := [_, _]) ok_X12_passes ml_X12_392 dX12_go_51 rfl ⟨_, _, rfl⟩ (by first | assumption | rfl) rfl rfl (Nat.le_of_ble_eq_true rfl) (by decide) (c_X12_passes (hlp.mt hT1) (hlp.mw hW1) hlp.2.2.2.1 (hlp.mb hB1) (by decide) (by decide) (by rw [hlp.f (by decide)]; exact hx1) (by rw [hlp.f (by decide)]; exact hx21) (Or.inr rfl) (by omega)) (fun s51 h51 => ?_)
        refine e_iinc (q := 57) (L' := [_, _, _]) dX12_go_54 rfl rfl (by decide) rfl rfl ?_
        refine e_goto (tgt := 43) dX12_go_57 (by decide) ?_
        refine ih _ _ (by omega) (by omega) ?_
        rw [mPa_succ _ _ _ h0]
        exact Mn_step hlp h51
    refine e_iconst (q := 42) dX12_go_41 rfl ?_
    refine e_istore_n (q := 43) (i := 2) (L' := [_, _, _]) dX12_go_42 rfl rfl (by decide) rfl rfl ?_
    exact lp m.toNat υ 0 (by decide) (by omega) (Mn.rf hI1)
  refine e_entry om_X12_go (Nat.le_of_ble_eq_true rfl) (L := [some (.ref (G.2.2.2 + 82)), some (.int (iZ m)), none]) rfl ?_
  refine e_aload_n (q := 1) (i := 0) dX12_go_0 rfl rfl rfl ?_
  refine e_iconst (q := 2) dX12_go_1 rfl ?_
  refine e_putI (q := 5) (jz := 0) dX12_go_2 rfl fp_X12_136 rfl (by first | assumption | rfl) rfl ?_
  rw [← hσ]
  refine e_iload_n (q := 6) (i := 1) dX12_go_5 rfl rfl rfl ?_
  refine e_if_lt (q := 9) (tgt := 30) dX12_go_6 rfl (by decide) (fun c6 => ?_) (fun c6 => ?_)
  · refine e_iconst (q := 31) dX12_go_30 rfl ?_
    exact r_i dX12_go_31 rfl (Or.inl ⟨by first | omega | (have hye := hI.2.2.2.1; omega), rfl, rfl⟩)
  · refine e_iload_n (q := 10) (i := 1) dX12_go_9 rfl rfl rfl ?_
    refine e_sipush (q := 13) dX12_go_10 rfl (by decide) ?_
    refine e_icmp_gt (q := 16) (tgt := 30) dX12_go_13 rfl (by decide) (fun c13 => ?_) (fun c13 => ?_)
    · refine e_iconst (q := 31) dX12_go_30 rfl ?_
      exact r_i dX12_go_31 rfl (Or.inl ⟨by first | omega | (have hye := hI.2.2.2.1; omega), rfl, rfl⟩)
    · refine e_aload_n (q := 17) (i := 0) dX12_go_16 rfl rfl rfl ?_
      refine e_getR (q := 20) dX12_go_17 rfl fg_X12_72 (by first | assumption | rfl) rfl ?_
      refine e_iconst (q := 21) dX12_go_20 rfl ?_
      refine e_iald (q := 22) dX12_go_21 rfl (by first | assumption | rfl) ?_
      refine e_iload_n (q := 23) (i := 1) dX12_go_22 rfl rfl rfl ?_
      refine e_iadd (q := 24) dX12_go_23 rfl ?_
      refine e_sipush (q := 27) dX12_go_24 rfl (by decide) ?_
      have hye := hI.2.2.2.1
      refine e_icmp_le (q := 30) (tgt := 32) dX12_go_27 rfl (by decide) (fun c27 => ?_) (fun c27 => ?_) (hx := ⟨by omega, by omega⟩)
      · refine e_iload_n (q := 33) (i := 1) dX12_go_32 rfl rfl rfl ?_
        refine e_if_le (q := 36) (tgt := 41) dX12_go_33 rfl (by decide) (fun c33 => ?_) (fun c33 => ?_)
        · exact fin σ _ (Or.inl ⟨rfl, by omega⟩) (by omega)
        · refine e_aload_n (q := 37) (i := 0) dX12_go_36 rfl rfl rfl ?_
          refine e_iconst (q := 38) dX12_go_37 rfl ?_
          refine e_putI (q := 41) (jz := 43) dX12_go_38 rfl fp_X12_296 rfl (by first | assumption | rfl) rfl ?_
          exact fin _ _ (Or.inr ⟨rfl, by omega⟩) (by omega)
      · refine e_iconst (q := 31) dX12_go_30 rfl ?_
        exact r_i dX12_go_31 rfl (Or.inl ⟨by first | omega | (have hye := hI.2.2.2.1; omega), rfl, rfl⟩)

def mKm (σ : Sg) : Int := if σ.1 82 54 = -1 then σ.1 82 53 else σ.1 82 54

theorem c_X12_knownMany {G : Gx} {σ : Sg} (hk : R32 (σ.1 82 54)) : Con G 1 mX12_knownMany [.ref (G.2.2.2 + 82)] σ (pI (pE σ (mKm σ))) := by
  refine e_entry om_X12_knownMany (Nat.le_of_ble_eq_true rfl) (L := [some (.ref (G.2.2.2 + 82))]) rfl ?_
  refine e_aload_n (q := 1) (i := 0) dX12_knownMany_0 rfl rfl rfl ?_
  refine e_getI (q := 4) (jz := 54) dX12_knownMany_1 rfl fg_X12_105 rfl (by first | assumption | rfl) rfl ?_
  refine e_iconst (q := 5) dX12_knownMany_4 rfl ?_
  refine e_icmp_ne (q := 8) (tgt := 15) dX12_knownMany_5 rfl (by decide) (fun c5 => ?_) (fun c5 => ?_) (hx := hk)
  · refine e_aload_n (q := 16) (i := 0) dX12_knownMany_15 rfl rfl rfl ?_
    refine e_getI (q := 19) (jz := 54) dX12_knownMany_16 rfl fg_X12_105 rfl (by first | assumption | rfl) rfl ?_
    exact r_i dX12_knownMany_19 rfl ⟨by unfold mKm; first | (rw [if_pos (by omega)]; done) | (rw [if_neg (by omega)]; done), rfl⟩
  · refine e_aload_n (q := 9) (i := 0) dX12_knownMany_8 rfl rfl rfl ?_
    refine e_getI (q := 12) (jz := 53) dX12_knownMany_9 rfl fg_X12_289 rfl (by first | assumption | rfl) rfl ?_
    refine e_goto (tgt := 19) dX12_knownMany_12 (by decide) ?_
    exact r_i dX12_knownMany_19 rfl ⟨by unfold mKm; first | (rw [if_pos (by omega)]; done) | (rw [if_neg (by omega)]; done), rfl⟩

def mCnt (σ : Sg) (x : Int) : Int := if x = 0 then σ.1 84 1 else if x = 1 then σ.1 84 2 else if x = 2 then σ.1 84 3 else if x = 3 then σ.1 84 0 else if x = 4 then σ.1 84 6 else if x = 5 then σ.1 102 0 else if x = 6 then σ.1 104 0 else if x = 7 then zs (fun p => gArea (σ.1 86) (σ.1 87) (mF σ 0) p) (σ.1 84 1) else if x = 8 then zs (fun p => zs (fun q => if p < q then gOv (σ.1 86) (σ.1 87) (mF σ 0) p q else 0) (σ.1 84 1)) (σ.1 84 1) else if x = 9 then zs (mL σ 0) (σ.1 84 2) else if x = 10 then σ.1 82 53 else if x = 11 then mKm σ else if x = 12 then σ.1 82 43 else -1

theorem c_X12_count {G : Gx} {σ0 σ : Sg} {x : Int} (hσ : σ = sI σ0 82 0 0) (hT : MT σ) (hI : MI σ 0) (hk : R32 (σ.1 82 54)) (hx : R32 x) : Con G 6 mX12_count [.ref (G.2.2.2 + 82), .int (iZ x)] σ0 (pI (pE σ (mCnt σ x))) := by
  refine e_entry om_X12_count (Nat.le_of_ble_eq_true rfl) (L := [some (.ref (G.2.2.2 + 82)), some (.int (iZ x))]) rfl ?_
  refine e_aload_n (q := 1) (i := 0) dX12_count_0 rfl rfl rfl ?_
  refine e_iconst (q := 2) dX12_count_1 rfl ?_
  refine e_putI (q := 5) (jz := 0) dX12_count_2 rfl fp_X12_136 rfl (by first | assumption | rfl) rfl ?_
  rw [← hσ]
  refine e_iload_n (q := 6) (i := 1) dX12_count_5 rfl rfl rfl ?_
  by_cases k6_0 : x = 0
  · refine e_tabIn (tgt := 72) dX12_count_6 hx (by omega) (by omega) (by rw [k6_0]; rfl) (by decide) ?_
    refine e_aload_n (q := 73) (i := 0) dX12_count_72 rfl rfl rfl ?_
    refine e_getR (q := 76) dX12_count_73 rfl fg_X12_13 (by first | assumption | rfl) rfl ?_
    refine e_iconst (q := 77) dX12_count_76 rfl ?_
    refine e_iald (q := 78) dX12_count_77 rfl (by first | assumption | rfl) ?_
    exact r_i dX12_count_78 rfl ⟨by rw [k6_0]; rfl, rfl⟩
  by_cases k6_1 : x = 1
  · refine e_tabIn (tgt := 79) dX12_count_6 hx (by omega) (by omega) (by rw [k6_1]; rfl) (by decide) ?_
    refine e_aload_n (q := 80) (i := 0) dX12_count_79 rfl rfl rfl ?_
    refine e_getR (q := 83) dX12_count_80 rfl fg_X12_13 (by first | assumption | rfl) rfl ?_
    refine e_iconst (q := 84) dX12_count_83 rfl ?_
    refine e_iald (q := 85) dX12_count_84 rfl (by first | assumption | rfl) ?_
    exact r_i dX12_count_85 rfl ⟨by rw [k6_1]; rfl, rfl⟩
  by_cases k6_2 : x = 2
  · refine e_tabIn (tgt := 86) dX12_count_6 hx (by omega) (by omega) (by rw [k6_2]; rfl) (by decide) ?_
    refine e_aload_n (q := 87) (i := 0) dX12_count_86 rfl rfl rfl ?_
    refine e_getR (q := 90) dX12_count_87 rfl fg_X12_13 (by first | assumption | rfl) rfl ?_
    refine e_iconst (q := 91) dX12_count_90 rfl ?_
    refine e_iald (q := 92) dX12_count_91 rfl (by first | assumption | rfl) ?_
    exact r_i dX12_count_92 rfl ⟨by rw [k6_2]; rfl, rfl⟩
  by_cases k6_3 : x = 3
  · refine e_tabIn (tgt := 93) dX12_count_6 hx (by omega) (by omega) (by rw [k6_3]; rfl) (by decide) ?_
    refine e_aload_n (q := 94) (i := 0) dX12_count_93 rfl rfl rfl ?_
    refine e_getR (q := 97) dX12_count_94 rfl fg_X12_13 (by first | assumption | rfl) rfl ?_
    refine e_iconst (q := 98) dX12_count_97 rfl ?_
    refine e_iald (q := 99) dX12_count_98 rfl (by first | assumption | rfl) ?_
    exact r_i dX12_count_99 rfl ⟨by rw [k6_3]; rfl, rfl⟩
  by_cases k6_4 : x = 4
  · refine e_tabIn (tgt := 100) dX12_count_6 hx (by omega) (by omega) (by rw [k6_4]; rfl) (by decide) ?_
    refine e_aload_n (q := 101) (i := 0) dX12_count_100 rfl rfl rfl ?_
    refine e_getR (q := 104) dX12_count_101 rfl fg_X12_13 (by first | assumption | rfl) rfl ?_
    refine e_bipush (q := 106) dX12_count_104 rfl (by decide) ?_
    refine e_iald (q := 107) dX12_count_106 rfl (by first | assumption | rfl) ?_
    exact r_i dX12_count_107 rfl ⟨by rw [k6_4]; rfl, rfl⟩
  by_cases k6_5 : x = 5
  · refine e_tabIn (tgt := 108) dX12_count_6 hx (by omega) (by omega) (by rw [k6_5]; rfl) (by decide) ?_
    refine e_aload_n (q := 109) (i := 0) dX12_count_108 rfl rfl rfl ?_
    refine e_getR (q := 112) dX12_count_109 rfl fg_X12_72 (by first | assumption | rfl) rfl ?_
    refine e_iconst (q := 113) dX12_count_112 rfl ?_
    refine e_iald (q := 114) dX12_count_113 rfl (by first | assumption | rfl) ?_
    exact r_i dX12_count_114 rfl ⟨by rw [k6_5]; rfl, rfl⟩
  by_cases k6_6 : x = 6
  · refine e_tabIn (tgt := 115) dX12_count_6 hx (by omega) (by omega) (by rw [k6_6]; rfl) (by decide) ?_
    refine e_aload_n (q := 116) (i := 0) dX12_count_115 rfl rfl rfl ?_
    refine e_getR (q := 119) dX12_count_116 rfl fg_X12_78 (by first | assumption | rfl) rfl ?_
    refine e_iconst (q := 120) dX12_count_119 rfl ?_
    refine e_iald (q := 121) dX12_count_120 rfl (by first | assumption | rfl) ?_
    exact r_i dX12_count_121 rfl ⟨by rw [k6_6]; rfl, rfl⟩
  by_cases k6_7 : x = 7
  · refine e_tabIn (tgt := 122) dX12_count_6 hx (by omega) (by omega) (by rw [k6_7]; rfl) (by decide) ?_
    refine e_aload_n (q := 123) (i := 0) dX12_count_122 rfl rfl rfl ?_
    refine e_iconst (q := 124) dX12_count_123 rfl ?_
    refine e_Vip (q := 127) (vs := [_]) ok_X12_areas ml_X12_508 dX12_count_124 rfl ⟨_, _, rfl⟩ (by first | assumption | rfl) rfl rfl (Nat.le_of_ble_eq_true rfl) (by decide) (c_X12_areas hT hI (by decide) (by decide)) ?_
    exact r_i dX12_count_127 rfl ⟨by rw [k6_7]; rfl, rfl⟩
  by_cases k6_8 : x = 8
  · refine e_tabIn (tgt := 128) dX12_count_6 hx (by omega) (by omega) (by rw [k6_8]; rfl) (by decide) ?_
    refine e_aload_n (q := 129) (i := 0) dX12_count_128 rfl rfl rfl ?_
    refine e_iconst (q := 130) dX12_count_129 rfl ?_
    refine e_Vip (q := 133) (vs := [_]) ok_X12_overlaps ml_X12_440 dX12_count_130 rfl ⟨_, _, rfl⟩ (by first | assumption | rfl) rfl rfl (Nat.le_of_ble_eq_true rfl) (by decide) (c_X12_overlaps hT hI (by decide) (by decide)) ?_
    exact r_i dX12_count_133 rfl ⟨by rw [k6_8]; rfl, rfl⟩
  by_cases k6_9 : x = 9
  · refine e_tabIn (tgt := 134) dX12_count_6 hx (by omega) (by omega) (by rw [k6_9]; rfl) (by decide) ?_
    refine e_aload_n (q := 135) (i := 0) dX12_count_134 rfl rfl rfl ?_
    refine e_iconst (q := 136) dX12_count_135 rfl ?_
    refine e_Vip (q := 139) (vs := [_]) ok_X12_legsAll ml_X12_511 dX12_count_136 rfl ⟨_, _, rfl⟩ (by first | assumption | rfl) rfl rfl (Nat.le_of_ble_eq_true rfl) (by decide) (c_X12_legsAll hT hI (by decide) (by decide)) ?_
    exact r_i dX12_count_139 rfl ⟨by rw [k6_9]; rfl, rfl⟩
  by_cases k6_10 : x = 10
  · refine e_tabIn (tgt := 140) dX12_count_6 hx (by omega) (by omega) (by rw [k6_10]; rfl) (by decide) ?_
    refine e_aload_n (q := 141) (i := 0) dX12_count_140 rfl rfl rfl ?_
    refine e_getI (q := 144) (jz := 53) dX12_count_141 rfl fg_X12_289 rfl (by first | assumption | rfl) rfl ?_
    exact r_i dX12_count_144 rfl ⟨by rw [k6_10]; rfl, rfl⟩
  by_cases k6_11 : x = 11
  · refine e_tabIn (tgt := 145) dX12_count_6 hx (by omega) (by omega) (by rw [k6_11]; rfl) (by decide) ?_
    refine e_aload_n (q := 146) (i := 0) dX12_count_145 rfl rfl rfl ?_
    refine e_Vip (q := 149) (vs := []) ok_X12_knownMany ml_X12_490 dX12_count_146 rfl ⟨_, _, rfl⟩ (by first | assumption | rfl) rfl rfl (Nat.le_of_ble_eq_true rfl) (by decide) (c_X12_knownMany hk) ?_
    exact r_i dX12_count_149 rfl ⟨by rw [k6_11]; rfl, rfl⟩
  by_cases k6_12 : x = 12
  · refine e_tabIn (tgt := 150) dX12_count_6 hx (by omega) (by omega) (by rw [k6_12]; rfl) (by decide) ?_
    refine e_aload_n (q := 151) (i := 0) dX12_count_150 rfl rfl rfl ?_
    refine e_getI (q := 154) (jz := 43) dX12_count_151 rfl fg_X12_296 rfl (by first | assumption | rfl) rfl ?_
    exact r_i dX12_count_154 rfl ⟨by rw [k6_12]; rfl, rfl⟩
  refine e_tabOut (tgt := 155) dX12_count_6 hx (by omega) (by decide) ?_
  refine e_iconst (q := 156) dX12_count_155 rfl ?_
  exact r_i dX12_count_156 rfl ⟨by unfold mCnt; rw [if_neg k6_0, if_neg k6_1, if_neg k6_2, if_neg k6_3, if_neg k6_4, if_neg k6_5, if_neg k6_6, if_neg k6_7, if_neg k6_8, if_neg k6_9, if_neg k6_10, if_neg k6_11, if_neg k6_12], rfl⟩

theorem c_X12_parish {G : Gx} {σ0 σ : Sg} {p x : Int} (hσ : σ = sI σ0 82 0 0) (hT : MT σ) (hI : MI σ 0) (hp : R32 p) (hx : R32 x) : Con G 6 mX12_parish [.ref (G.2.2.2 + 82), .int (iZ p), .int (iZ x)] σ0 (pI (fun z σ' => (¬ (0 ≤ p ∧ p < σ.1 84 1) ∧ z = 0 ∧ σ' = sI σ0 82 0 1) ∨ ((0 ≤ p ∧ p < σ.1 84 1) ∧ ¬ (0 ≤ x ∧ x ≤ 7) ∧ z = 0 ∧ σ' = sI σ0 82 0 2) ∨ ((0 ≤ p ∧ p < σ.1 84 1) ∧ (0 ≤ x ∧ x ≤ 7) ∧ σ' = σ ∧ z = (if x = 0 then σ.1 86 p else if x = 1 then σ.1 87 p else if x = 6 then gArea (σ.1 86) (σ.1 87) (mF σ 0) p else if x = 7 then gTd (σ.1 86) (σ.1 87) (mF σ 0) (σ.1 84 1) p else mF σ 0 (4 * p + (x - 2)))))) := by
  obtain ⟨hzz, hnp, hnc, hnb, hrn, hsd, hrw, hrq, hch, hbt, hck⟩ := id hT
  have e84 : σ0.1 84 1 = σ.1 84 1 := by rw [hσ, sI_ne _ (by decide)]
  have hT0 : MT σ0 := by
    have hF : Fm [] [0] σ σ0 := ⟨fun a ha => by rw [hσ]; exact ⟨by rw [sI_ne _ (fun q => ha (by rw [q]; exact List.mem_cons_self))], rfl⟩, fun j hj => by rw [hσ, sI_1, if_neg (fun q => hj (by rw [q.2]; exact List.mem_cons_self))]⟩
    exact hT.fr hF (fun a h1 h2 h3 => by simp only [List.mem_cons, List.not_mem_nil, or_false] at h3; omega)
  refine e_entry om_X12_parish (Nat.le_of_ble_eq_true rfl) (L := [some (.ref (G.2.2.2 + 82)), some (.int (iZ p)), some (.int (iZ x))]) rfl ?_
  refine e_aload_n (q := 1) (i := 0) dX12_parish_0 rfl rfl rfl ?_
  refine e_aload_n (q := 2) (i := 0) dX12_parish_1 rfl rfl rfl ?_
  refine e_iload_n (q := 3) (i := 1) dX12_parish_2 rfl rfl rfl ?_
  refine e_Vip (q := 6) (vs := [_]) ok_X12_isParish ml_X12_396 dX12_parish_3 rfl ⟨_, _, rfl⟩ (by first | assumption | rfl) rfl rfl (Nat.le_of_ble_eq_true rfl) (by decide) (c_X12_isParish hT0 hp) ?_
  refine e_if_ne (q := 9) (tgt := 13) dX12_parish_6 rfl (by decide) (fun c6 => ?_) (fun c6 => ?_) (hx := ⟨by split <;> omega, by split <;> omega⟩)
  · refine e_iload_n (q := 14) (i := 2) dX12_parish_13 rfl rfl rfl ?_
    refine e_if_lt (q := 17) (tgt := 23) dX12_parish_14 rfl (by decide) (fun c14 => ?_) (fun c14 => ?_)
    · refine e_iconst (q := 24) dX12_parish_23 rfl ?_
      refine e_goto (tgt := 28) dX12_parish_24 (by decide) ?_
      refine e_putI (q := 31) (jz := 0) dX12_parish_28 rfl fp_X12_136 rfl (by first | assumption | rfl) rfl ?_
      refine e_aload_n (q := 32) (i := 0) dX12_parish_31 rfl rfl rfl ?_
      refine e_getI (q := 35) (jz := 0) dX12_parish_32 rfl fg_X12_136 rfl (by first | assumption | rfl) rfl ?_
      have et : (sI σ0 82 0 2).1 82 0 = 2 := by rw [sI_1, if_pos ⟨rfl, rfl⟩]
      refine e_if_eq (q := 38) (tgt := 40) dX12_parish_35 rfl (by decide) (fun c35 => by exfalso; omega) (fun c35 => ?_) (hx := ⟨by omega, by omega⟩)
      refine e_iconst (q := 39) dX12_parish_38 rfl ?_
      exact r_i dX12_parish_39 rfl (Or.inr (Or.inl ⟨by split at c6 <;> omega, by omega, rfl, rfl⟩))
    · refine e_iload_n (q := 18) (i := 2) dX12_parish_17 rfl rfl rfl ?_
      refine e_bipush (q := 20) dX12_parish_18 rfl (by decide) ?_
      refine e_icmp_le (q := 23) (tgt := 27) dX12_parish_20 rfl (by decide) (fun c20 => ?_) (fun c20 => ?_)
      · refine e_iconst (q := 28) dX12_parish_27 rfl ?_
        refine e_putI (q := 31) (jz := 0) dX12_parish_28 rfl fp_X12_136 rfl (by first | assumption | rfl) rfl ?_
        rw [← hσ]
        have et : σ.1 82 0 = 0 := by rw [hσ, sI_1, if_pos ⟨rfl, rfl⟩]
        refine e_aload_n (q := 32) (i := 0) dX12_parish_31 rfl rfl rfl ?_
        refine e_getI (q := 35) (jz := 0) dX12_parish_32 rfl fg_X12_136 rfl (by first | assumption | rfl) rfl ?_
        refine e_if_eq (q := 38) (tgt := 40) dX12_parish_35 rfl (by decide) (fun c35 => ?_) (fun c35 => by exfalso; omega) (hx := ⟨by omega, by omega⟩)
        have hP : (0 ≤ p ∧ p < σ.1 84 1) := by split at c6 <;> omega
        refine e_iload_n (q := 41) (i := 2) dX12_parish_40 rfl rfl rfl ?_
        by_cases k41_0 : x = 0
        · refine e_tabIn (tgt := 88) dX12_parish_41 hx (by omega) (by omega) (by rw [k41_0]; rfl) (by decide) ?_
          refine e_aload_n (q := 89) (i := 0) dX12_parish_88 rfl rfl rfl ?_
          refine e_getR (q := 92) dX12_parish_89 rfl fg_X12_19 (by first | assumption | rfl) rfl ?_
          refine e_iload_n (q := 93) (i := 1) dX12_parish_92 rfl rfl rfl ?_
          refine e_iald (q := 94) dX12_parish_93 rfl (by first | assumption | rfl) ?_
          exact r_i dX12_parish_94 rfl (Or.inr (Or.inr ⟨by omega, by omega, rfl, by rw [if_pos k41_0]⟩))
        by_cases k41_1 : x = 1
        · refine e_tabIn (tgt := 95) dX12_parish_41 hx (by omega) (by omega) (by rw [k41_1]; rfl) (by decide) ?_
          refine e_aload_n (q := 96) (i := 0) dX12_parish_95 rfl rfl rfl ?_
          refine e_getR (q := 99) dX12_parish_96 rfl fg_X12_22 (by first | assumption | rfl) rfl ?_
          refine e_iload_n (q := 100) (i := 1) dX12_parish_99 rfl rfl rfl ?_
          refine e_iald (q := 101) dX12_parish_100 rfl (by first | assumption | rfl) ?_
          exact r_i dX12_parish_101 rfl (Or.inr (Or.inr ⟨by omega, by omega, rfl, by rw [if_neg k41_0, if_pos k41_1]⟩))
        by_cases k41_6 : x = 6
        · refine e_tabIn (tgt := 102) dX12_parish_41 hx (by omega) (by omega) (by rw [k41_6]; rfl) (by decide) ?_
          refine e_aload_n (q := 103) (i := 0) dX12_parish_102 rfl rfl rfl ?_
          refine e_iconst (q := 104) dX12_parish_103 rfl ?_
          refine e_iload_n (q := 105) (i := 1) dX12_parish_104 rfl rfl rfl ?_
          refine e_Vip (q := 108) (vs := [_, _]) ok_X12_areaOf ml_X12_339 dX12_parish_105 rfl ⟨_, _, rfl⟩ (by first | assumption | rfl) rfl rfl (Nat.le_of_ble_eq_true rfl) (by decide) (c_X12_areaOf (by decide) (by decide) (by omega) (by omega)) ?_
          exact r_i dX12_parish_108 rfl (Or.inr (Or.inr ⟨by omega, by omega, rfl, by rw [if_neg k41_0, if_neg k41_1, if_pos k41_6]⟩))
        by_cases k41_7 : x = 7
        · refine e_tabIn (tgt := 109) dX12_parish_41 hx (by omega) (by omega) (by rw [k41_7]; rfl) (by decide) ?_
          refine e_aload_n (q := 110) (i := 0) dX12_parish_109 rfl rfl rfl ?_
          refine e_iload_n (q := 111) (i := 1) dX12_parish_110 rfl rfl rfl ?_
          refine e_Vip (q := 114) (vs := [_]) ok_X12_touchedBy ml_X12_399 dX12_parish_111 rfl ⟨_, _, rfl⟩ (by first | assumption | rfl) rfl rfl (Nat.le_of_ble_eq_true rfl) (by decide) (c_X12_touchedBy hT hI (by omega) (by omega)) ?_
          exact r_i dX12_parish_114 rfl (Or.inr (Or.inr ⟨by omega, by omega, rfl, by rw [if_neg k41_0, if_neg k41_1, if_neg k41_6, if_pos k41_7]⟩))
        have h25 : x = 2 ∨ x = 3 ∨ x = 4 ∨ x = 5 := by omega
        refine e_tabIn (off := 74) (tgt := 115) dX12_parish_41 hx (by omega) (by omega) (by rcases h25 with q | q | q | q <;> (rw [q]; rfl)) (by decide) ?_
        refine e_aload_n (q := 116) (i := 0) dX12_parish_115 rfl rfl rfl ?_
        refine e_getR (q := 119) dX12_parish_116 rfl fg_X12_81 (by first | assumption | rfl) rfl ?_
        refine e_iconst (q := 120) dX12_parish_119 rfl ?_
        refine e_iload_n (q := 121) (i := 1) dX12_parish_120 rfl rfl rfl ?_
        refine e_iload_n (q := 122) (i := 2) dX12_parish_121 rfl rfl rfl ?_
        refine e_iconst (q := 123) dX12_parish_122 rfl ?_
        refine e_isub (q := 124) dX12_parish_123 rfl ?_
        refine e_Sip (q := 127) (vs := [_, _, _]) ok_X12_slot ml_X12_322 dX12_parish_124 rfl rfl rfl (Nat.le_of_ble_eq_true rfl) (by decide) (c_X12_slot (t := 16 * 0 + (4 * p + (x - 2))) (by omega)) ?_
        refine e_iald (q := 128) dX12_parish_127 rfl (by first | assumption | rfl) ?_
        exact r_i dX12_parish_128 rfl (Or.inr (Or.inr ⟨by omega, by omega, rfl, by rw [if_neg k41_0, if_neg k41_1, if_neg k41_6, if_neg k41_7]; rfl⟩))
      · refine e_iconst (q := 24) dX12_parish_23 rfl ?_
        refine e_goto (tgt := 28) dX12_parish_24 (by decide) ?_
        refine e_putI (q := 31) (jz := 0) dX12_parish_28 rfl fp_X12_136 rfl (by first | assumption | rfl) rfl ?_
        refine e_aload_n (q := 32) (i := 0) dX12_parish_31 rfl rfl rfl ?_
        refine e_getI (q := 35) (jz := 0) dX12_parish_32 rfl fg_X12_136 rfl (by first | assumption | rfl) rfl ?_
        have et : (sI σ0 82 0 2).1 82 0 = 2 := by rw [sI_1, if_pos ⟨rfl, rfl⟩]
        refine e_if_eq (q := 38) (tgt := 40) dX12_parish_35 rfl (by decide) (fun c35 => by exfalso; omega) (fun c35 => ?_) (hx := ⟨by omega, by omega⟩)
        refine e_iconst (q := 39) dX12_parish_38 rfl ?_
        exact r_i dX12_parish_39 rfl (Or.inr (Or.inl ⟨by split at c6 <;> omega, by omega, rfl, rfl⟩))
  · refine e_iconst (q := 10) dX12_parish_9 rfl ?_
    refine e_goto (tgt := 28) dX12_parish_10 (by decide) ?_
    refine e_putI (q := 31) (jz := 0) dX12_parish_28 rfl fp_X12_136 rfl (by first | assumption | rfl) rfl ?_
    refine e_aload_n (q := 32) (i := 0) dX12_parish_31 rfl rfl rfl ?_
    refine e_getI (q := 35) (jz := 0) dX12_parish_32 rfl fg_X12_136 rfl (by first | assumption | rfl) rfl ?_
    have et : (sI σ0 82 0 1).1 82 0 = 1 := by rw [sI_1, if_pos ⟨rfl, rfl⟩]
    refine e_if_eq (q := 38) (tgt := 40) dX12_parish_35 rfl (by decide) (fun c35 => by exfalso; omega) (fun c35 => ?_) (hx := ⟨by omega, by omega⟩)
    refine e_iconst (q := 39) dX12_parish_38 rfl ?_
    exact r_i dX12_parish_39 rfl (Or.inl ⟨by split at c6 <;> omega, rfl, rfl⟩)

