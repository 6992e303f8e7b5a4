def cf0 (known : Int) (g : Int → Int) (k : Int) : Int → Int := fun i => if 0 ≤ i ∧ i < k then (if i < known then 1 else 0) else g i
theorem cf0_succ {known k : Int} {g : Int → Int} (h : 0 ≤ k) : uf (cf0 known g k) k (if k < known then 1 else 0) = cf0 known g (k + 1) := by
  funext i
  unfold uf cf0
  by_cases e : i = k
  · subst e
    rw [if_pos rfl, if_pos (show 0 ≤ i ∧ i < i + 1 from ⟨h, by omega⟩)]
  · rw [if_neg e]
    by_cases q : 0 ≤ i ∧ i < k
    · rw [if_pos q, if_pos (show 0 ≤ i ∧ i < k + 1 from ⟨q.1, by omega⟩)]
    · rw [if_neg q, if_neg (show ¬ (0 ≤ i ∧ i < k + 1) from fun w => q ⟨w.1, by omega⟩)]
theorem cf0_0 (known : Int) (g : Int → Int) : cf0 known g 0 = g := by
  funext i
  exact if_neg (by omega)
/-- from the last one down: what counts strikes what it strikes -/
def stD (sk : Int → Int) : Nat → (Int → Int) → (Int → Int)
  | 0, f => f
  | k + 1, f => stD sk k (if f k ≠ 0 ∧ sk k ≠ -1 then uf f (sk k) 0 else f)
theorem stD_s (sk f : Int → Int) {k : Int} (h : 0 ≤ k) : stD sk (k + 1).toNat f = stD sk k.toNat (if f k ≠ 0 ∧ sk k ≠ -1 then uf f (sk k) 0 else f) := by
  obtain ⟨m, rfl⟩ := Int.eq_ofNat_of_zero_le h
  rfl
def cntF (σ : Sg) : Int → Int := stD (σ.1 63) (knE σ).toNat (cf0 (knE σ) (σ.1 69) 24)
/-- the least year above b of those that count, -1 without -/
def nyF (cn sk yr : Int → Int) (b : Int) : Nat → Int
  | 0 => -1
  | k + 1 => if (cn k ≠ 0 ∧ sk k = -1 ∧ b < yr k) ∧ (nyF cn sk yr b k = -1 ∨ yr k < nyF cn sk yr b k) then yr k else nyF cn sk yr b k
theorem nyF_s (cn sk yr : Int → Int) (b : Int) {k : Int} (h : 0 ≤ k) : nyF cn sk yr b (k + 1).toNat = if (cn k ≠ 0 ∧ sk k = -1 ∧ b < yr k) ∧ (nyF cn sk yr b k.toNat = -1 ∨ yr k < nyF cn sk yr b k.toNat) then yr k else nyF cn sk yr b k.toNat := by
  obtain ⟨m, rfl⟩ := Int.eq_ofNat_of_zero_le h
  rfl
theorem nyF_in {cn sk yr : Int → Int} {b : Int} : ∀ n : Nat, (∀ k : Int, 0 ≤ k → k < n → 0 ≤ yr k ∧ yr k ≤ 60) → -1 ≤ nyF cn sk yr b n ∧ nyF cn sk yr b n ≤ 60
  | 0, _ => ⟨by simp [nyF], by simp [nyF]⟩
  | n + 1, h => by
    have ih := nyF_in (cn := cn) (sk := sk) (b := b) n (fun k a c => h k a (by omega))
    have q := h n (by omega) (by omega)
    simp only [nyF]
    split
    · omega
    · exact ih
/-- what was seen then is so on a land -/
def agR (rw cl fr cn sk yr pa ro co is : Int → Int) (n t : Int) : Prop := ∀ k, 0 ≤ k → k < n → cn k ≠ 0 → sk k = -1 → yr k = t → gHold rw cl fr (pa k) (ro k) (co k) = is k

theorem c_X6_settle {G : Gx} {σ : Sg} (hS : SI σ) : Con G 2 mX6_settle [.ref (G.2.2.2 + 62)] σ (pV (fun σ' => Fr [69] σ σ' ∧ σ'.1 69 = cntF σ ∧ ∀ i, 0 ≤ i → i < 24 → σ'.1 69 i = 0 ∨ σ'.1 69 i = 1)) := by
  obtain ⟨hS0, hS1, hS2, hS3⟩ := id hS
  have hK : 0 ≤ (knE σ) ∧ (knE σ) ≤ 24 := by unfold knE; split <;> omega
  have lq : ∀ (n : Nat) (τ : Sg) (k : Int), k + 1 = n → k < 24 → k < (knE σ) → Fr [69] σ τ → (∀ i, 0 ≤ i → i < 24 → τ.1 69 i = 0 ∨ τ.1 69 i = 1) → stD (σ.1 63) (k + 1).toNat (τ.1 69) = cntF σ → J G 2 mX6_settle (pV (fun σ' => Fr [69] σ σ' ∧ σ'.1 69 = cntF σ ∧ ∀ i, 0 ≤ i → i < 24 → σ'.1 69 i = 0 ∨ σ'.1 69 i = 1)) τ 39 [some (.ref (G.2.2.2 + 62)), some (.int (iZ (knE σ))), some (.int (iZ k))] [] := by
    intro n
    induction n with
    | zero =>
      intro τ k hk1 hk2 hk3 hF h01 hR
      refine e_iload_n (q := 40) (i := 2) dX6_settle_39 rfl rfl rfl ?_
      refine e_if_lt (q := 43) (tgt := 80) dX6_settle_40 rfl (by decide) (fun c40 => ?_) (fun c40 => absurd (by omega) c40)
      exact r_v dX6_settle_80 rfl ⟨hF, by rw [← hR, show k + 1 = 0 by omega]; rfl, h01⟩
    | succ n ih =>
      intro τ k hk1 hk2 hk3 hF h01 hR
      refine e_iload_n (q := 40) (i := 2) dX6_settle_39 rfl rfl rfl ?_
      refine e_if_lt (q := 43) (tgt := 80) dX6_settle_40 rfl (by decide) (fun c40 => absurd c40 (by omega)) (fun c40 => ?_)
      have h9 := h01 k (by omega) hk2
      have h63 := hS2 k (by omega) hk2
      have e63 : τ.1 63 k = σ.1 63 k := hF.e1 (by decide) k
      refine e_aload_n (q := 44) (i := 0) dX6_settle_43 rfl rfl rfl ?_
      refine e_getR (q := 47) dX6_settle_44 rfl fg_X6_31 (by first | assumption | rfl) rfl ?_
      refine e_iload_n (q := 48) (i := 2) dX6_settle_47 rfl rfl rfl ?_
      refine e_zald (q := 49) dX6_settle_48 rfl (by first | assumption | rfl) ?_
      refine e_if_eq (q := 52) (tgt := 74) dX6_settle_49 rfl (by decide) (fun c49 => ?_) (fun c49 => ?_)
      · refine e_iinc (q := 77) (L' := [_, _, _]) dX6_settle_74 rfl rfl (by decide) rfl rfl ?_
        refine e_goto (tgt := 39) dX6_settle_77 (by decide) ?_
        refine ih _ _ (by omega) (by omega) (by omega) hF h01 ?_
        rw [← hR, show k + -1 + 1 = k by omega, stD_s _ _ (by omega), if_neg (fun q => q.1 c49)]
      · refine e_aload_n (q := 53) (i := 0) dX6_settle_52 rfl rfl rfl ?_
        refine e_getR (q := 56) dX6_settle_53 rfl fg_X6_11 (by first | assumption | rfl) rfl ?_
        refine e_iload_n (q := 57) (i := 2) dX6_settle_56 rfl rfl rfl ?_
        refine e_iald (q := 58) dX6_settle_57 rfl (by first | assumption | rfl) ?_
        refine e_iconst (q := 59) dX6_settle_58 rfl ?_
        refine e_icmp_eq (q := 62) (tgt := 74) dX6_settle_59 rfl (by decide) (fun c59 => ?_) (fun c59 => ?_) (hx := ⟨by omega, by omega⟩)
        · refine e_iinc (q := 77) (L' := [_, _, _]) dX6_settle_74 rfl rfl (by decide) rfl rfl ?_
          refine e_goto (tgt := 39) dX6_settle_77 (by decide) ?_
          refine ih _ _ (by omega) (by omega) (by omega) hF h01 ?_
          rw [← hR, show k + -1 + 1 = k by omega, stD_s _ _ (by omega), if_neg (fun q => q.2 (by rw [← e63]; exact c59))]
        · refine e_aload_n (q := 63) (i := 0) dX6_settle_62 rfl rfl rfl ?_
          refine e_getR (q := 66) dX6_settle_63 rfl fg_X6_31 (by first | assumption | rfl) rfl ?_
          refine e_aload_n (q := 67) (i := 0) dX6_settle_66 rfl rfl rfl ?_
          refine e_getR (q := 70) dX6_settle_67 rfl fg_X6_11 (by first | assumption | rfl) rfl ?_
          refine e_iload_n (q := 71) (i := 2) dX6_settle_70 rfl rfl rfl ?_
          refine e_iald (q := 72) dX6_settle_71 rfl (by first | assumption | rfl) ?_
          refine e_iconst (q := 73) dX6_settle_72 rfl ?_
          refine e_zast (q := 74) dX6_settle_73 rfl (by first | assumption | rfl) (Or.inl rfl) ?_ (h0 := by omega) (hi := by omega)
          refine e_iinc (q := 77) (L' := [_, _, _]) dX6_settle_74 rfl rfl (by decide) rfl rfl ?_
          refine e_goto (tgt := 39) dX6_settle_77 (by decide) ?_
          refine ih _ _ (by omega) (by omega) (by omega) (hF.sI (by decide) _ _) (fun i a b => ?_) ?_
          · rw [sI_1]
            split
            · exact Or.inl rfl
            · exact h01 i a b
          · rw [← hR, show k + -1 + 1 = k by omega, stD_s _ _ (by omega), if_pos ⟨c49, by rw [← e63]; exact c59⟩, sI_uf, e63]
  have lp : ∀ (n : Nat) (τ : Sg) (k : Int), 0 ≤ k → k + n = 24 → Fr [69] σ τ → τ.1 69 = cf0 (knE σ) (σ.1 69) k → J G 2 mX6_settle (pV (fun σ' => Fr [69] σ σ' ∧ σ'.1 69 = cntF σ ∧ ∀ i, 0 ≤ i → i < 24 → σ'.1 69 i = 0 ∨ σ'.1 69 i = 1)) τ 7 [some (.ref (G.2.2.2 + 62)), some (.int (iZ (knE σ))), some (.int (iZ k))] [] := by
    intro n
    induction n with
    | zero =>
      intro τ k h0 hn hF hR
      refine e_iload_n (q := 8) (i := 2) dX6_settle_7 rfl rfl rfl ?_
      refine e_bipush (q := 10) dX6_settle_8 rfl (by decide) ?_
      refine e_icmp_ge (q := 13) (tgt := 35) dX6_settle_10 rfl (by decide) (fun c10 => ?_) (fun c10 => absurd (by omega) c10)
      refine e_iload_n (q := 36) (i := 1) dX6_settle_35 rfl rfl rfl ?_
      refine e_iconst (q := 37) dX6_settle_36 rfl ?_
      refine e_isub (q := 38) dX6_settle_37 rfl ?_
      refine e_istore_n (q := 39) (i := 2) (L' := [_, _, _]) dX6_settle_38 rfl rfl (by decide) rfl rfl ?_
      exact lq ((knE σ)).toNat _ _ (by omega) (by omega) (by omega) hF (fun i a b => by rw [hR]; unfold cf0; rw [if_pos ⟨a, by omega⟩]; split <;> simp) (by rw [hR, show k = 24 by omega, show (knE σ) - 1 + 1 = (knE σ) by omega]; rfl)
    | succ n ih =>
      intro τ k h0 hn hF hR
      refine e_iload_n (q := 8) (i := 2) dX6_settle_7 rfl rfl rfl ?_
      refine e_bipush (q := 10) dX6_settle_8 rfl (by decide) ?_
      refine e_icmp_ge (q := 13) (tgt := 35) dX6_settle_10 rfl (by decide) (fun c10 => absurd c10 (by omega)) (fun c10 => ?_)
      refine e_aload_n (q := 14) (i := 0) dX6_settle_13 rfl rfl rfl ?_
      refine e_getR (q := 17) dX6_settle_14 rfl fg_X6_31 (by first | assumption | rfl) rfl ?_
      refine e_iload_n (q := 18) (i := 2) dX6_settle_17 rfl rfl rfl ?_
      refine e_iload_n (q := 19) (i := 2) dX6_settle_18 rfl rfl rfl ?_
      refine e_iload_n (q := 20) (i := 1) dX6_settle_19 rfl rfl rfl ?_
      refine e_icmp_ge (q := 23) (tgt := 27) dX6_settle_20 rfl (by decide) (fun c20 => ?_) (fun c20 => ?_)
      · refine e_iconst (q := 28) dX6_settle_27 rfl ?_
        refine e_zast (q := 29) dX6_settle_28 rfl (by first | assumption | rfl) (by first | exact Or.inl rfl | exact Or.inr rfl | omega) ?_
        refine e_iinc (q := 32) (L' := [_, _, _]) dX6_settle_29 rfl rfl (by decide) rfl rfl ?_
        refine e_goto (tgt := 7) dX6_settle_32 (by decide) ?_
        exact ih _ _ (by omega) (by omega) (hF.sI (by decide) _ _) (by rw [sI_uf, hR, ← cf0_succ h0]; first | (rw [if_pos (by omega)]; done) | (rw [if_neg (by omega)]; done))
      · refine e_iconst (q := 24) dX6_settle_23 rfl ?_
        refine e_goto (tgt := 28) dX6_settle_24 (by decide) ?_
        refine e_zast (q := 29) dX6_settle_28 rfl (by first | assumption | rfl) (by first | exact Or.inl rfl | exact Or.inr rfl | omega) ?_
        refine e_iinc (q := 32) (L' := [_, _, _]) dX6_settle_29 rfl rfl (by decide) rfl rfl ?_
        refine e_goto (tgt := 7) dX6_settle_32 (by decide) ?_
        exact ih _ _ (by omega) (by omega) (hF.sI (by decide) _ _) (by rw [sI_uf, hR, ← cf0_succ h0]; first | (rw [if_pos (by omega)]; done) | (rw [if_neg (by omega)]; done))
  refine e_entry om_X6_settle (Nat.le_of_ble_eq_true rfl) (L := [some (.ref (G.2.2.2 + 62)), none, none]) rfl ?_
  refine e_aload_n (q := 1) (i := 0) dX6_settle_0 rfl rfl rfl ?_
  refine e_Vip (q := 4) (vs := []) ok_X6_knownEntries ml_X6_41 dX6_settle_1 rfl ⟨_, _, rfl⟩ (by first | assumption | rfl) rfl rfl (Nat.le_of_ble_eq_true rfl) (by decide) (c_X6_knownEntries hS) ?_
  refine e_istore_n (q := 5) (i := 1) (L' := [_, _, _]) dX6_settle_4 rfl rfl (by decide) rfl rfl ?_
  refine e_iconst (q := 6) dX6_settle_5 rfl ?_
  refine e_istore_n (q := 7) (i := 2) (L' := [_, _, _]) dX6_settle_6 rfl rfl (by decide) rfl rfl ?_
  exact lp 24 σ 0 (by decide) (by decide) (Fr.rf _ _) (cf0_0 _ _).symm

theorem c_X6_nextYear {G : Gx} {σ : Sg} {b : Int} (hS : SI σ) (hb : -1 ≤ b ∧ b ≤ 100) : Con G 1 mX6_nextYear [.ref (G.2.2.2 + 62), .int (iZ b)] σ (pI (pE σ (nyF (σ.1 69) (σ.1 63) (σ.1 64) b (σ.1 62 7).toNat))) := by
  obtain ⟨hS0, hS1, hS2, hS3⟩ := id hS
  have lp : ∀ (n : Nat) (x : Option Value) (v k : Int), 0 ≤ k → k + n = σ.1 62 7 → v = nyF (σ.1 69) (σ.1 63) (σ.1 64) b k.toNat → J G 1 mX6_nextYear (pI (pE σ (nyF (σ.1 69) (σ.1 63) (σ.1 64) b (σ.1 62 7).toNat))) σ 4 [some (.ref (G.2.2.2 + 62)), some (.int (iZ b)), some (.int (iZ v)), some (.int (iZ k)), x] [] := by
    intro n
    induction n with
    | zero =>
      intro x v k h0 hn hR
      have hv := nyF_in (cn := σ.1 69) (sk := σ.1 63) (b := b) k.toNat (fun j a c => (hS2 j a (by omega)).2.1)
      rw [← hR] at hv
      refine e_iload_n (q := 5) (i := 3) dX6_nextYear_4 rfl rfl rfl ?_
      refine e_aload_n (q := 6) (i := 0) dX6_nextYear_5 rfl rfl rfl ?_
      refine e_getI (q := 9) (jz := 7) dX6_nextYear_6 rfl fg_X6_38 rfl (by first | assumption | rfl) rfl ?_
      refine e_icmp_ge (q := 12) (tgt := 81) dX6_nextYear_9 rfl (by decide) (fun c9 => ?_) (fun c9 => absurd (by omega) c9)
      refine e_iload_n (q := 82) (i := 2) dX6_nextYear_81 rfl rfl rfl ?_
      exact r_i dX6_nextYear_82 rfl ⟨by rw [hR]; congr 1; omega, rfl⟩
    | succ n ih =>
      intro x v k h0 hn hR
      have hv := nyF_in (cn := σ.1 69) (sk := σ.1 63) (b := b) k.toNat (fun j a c => (hS2 j a (by omega)).2.1)
      rw [← hR] at hv
      refine e_iload_n (q := 5) (i := 3) dX6_nextYear_4 rfl rfl rfl ?_
      refine e_aload_n (q := 6) (i := 0) dX6_nextYear_5 rfl rfl rfl ?_
      refine e_getI (q := 9) (jz := 7) dX6_nextYear_6 rfl fg_X6_38 rfl (by first | assumption | rfl) rfl ?_
      refine e_icmp_ge (q := 12) (tgt := 81) dX6_nextYear_9 rfl (by decide) (fun c9 => absurd c9 (by omega)) (fun c9 => ?_)
      have hk := hS2 k h0 (by omega)
      refine e_aload_n (q := 13) (i := 0) dX6_nextYear_12 rfl rfl rfl ?_
      refine e_getR (q := 16) dX6_nextYear_13 rfl fg_X6_31 (by first | assumption | rfl) rfl ?_
      refine e_iload_n (q := 17) (i := 3) dX6_nextYear_16 rfl rfl rfl ?_
      refine e_zald (q := 18) dX6_nextYear_17 rfl (by first | assumption | rfl) ?_
      refine e_if_eq (q := 21) (tgt := 45) dX6_nextYear_18 rfl (by decide) (fun c18 => ?_) (fun c18 => ?_)
      · refine e_iconst (q := 46) dX6_nextYear_45 rfl ?_
        refine e_istore (q := 48) (L' := [_, _, _, _, _]) dX6_nextYear_46 rfl (by decide) rfl rfl ?_
        refine e_iload (q := 50) dX6_nextYear_48 rfl rfl ?_
        refine e_if_eq (q := 53) (tgt := 75) dX6_nextYear_50 rfl (by decide) (fun c50 => ?_) (fun c50 => absurd (by omega) c50)
        refine e_iinc (q := 78) (L' := [_, _, _, _, _]) dX6_nextYear_75 rfl rfl (by decide) rfl rfl ?_
        refine e_goto (tgt := 4) dX6_nextYear_78 (by decide) ?_
        refine ih _ _ _ (by omega) (by omega) ?_
        rw [nyF_s _ _ _ _ h0, ← hR]
        first | (rw [if_neg (by omega)]; done) | (rw [if_pos (by omega)]; done)
      · refine e_aload_n (q := 22) (i := 0) dX6_nextYear_21 rfl rfl rfl ?_
        refine e_getR (q := 25) dX6_nextYear_22 rfl fg_X6_11 (by first | assumption | rfl) rfl ?_
        refine e_iload_n (q := 26) (i := 3) dX6_nextYear_25 rfl rfl rfl ?_
        refine e_iald (q := 27) dX6_nextYear_26 rfl (by first | assumption | rfl) ?_
        refine e_iconst (q := 28) dX6_nextYear_27 rfl ?_
        refine e_icmp_ne (q := 31) (tgt := 45) dX6_nextYear_28 rfl (by decide) (fun c28 => ?_) (fun c28 => ?_) (hx := ⟨by omega, by omega⟩)
        · refine e_iconst (q := 46) dX6_nextYear_45 rfl ?_
          refine e_istore (q := 48) (L' := [_, _, _, _, _]) dX6_nextYear_46 rfl (by decide) rfl rfl ?_
          refine e_iload (q := 50) dX6_nextYear_48 rfl rfl ?_
          refine e_if_eq (q := 53) (tgt := 75) dX6_nextYear_50 rfl (by decide) (fun c50 => ?_) (fun c50 => absurd (by omega) c50)
          refine e_iinc (q := 78) (L' := [_, _, _, _, _]) dX6_nextYear_75 rfl rfl (by decide) rfl rfl ?_
          refine e_goto (tgt := 4) dX6_nextYear_78 (by decide) ?_
          refine ih _ _ _ (by omega) (by omega) ?_
          rw [nyF_s _ _ _ _ h0, ← hR]
          first | (rw [if_neg (by omega)]; done) | (rw [if_pos (by omega)]; done)
        · refine e_aload_n (q := 32) (i := 0) dX6_nextYear_31 rfl rfl rfl ?_
          refine e_getR (q := 35) dX6_nextYear_32 rfl fg_X6_15 (by first | assumption | rfl) rfl ?_
          refine e_iload_n (q := 36) (i := 3) dX6_nextYear_35 rfl rfl rfl ?_
          refine e_iald (q := 37) dX6_nextYear_36 rfl (by first | assumption | rfl) ?_
          refine e_iload_n (q := 38) (i := 1) dX6_nextYear_37 rfl rfl rfl ?_
          refine e_icmp_le (q := 41) (tgt := 45) dX6_nextYear_38 rfl (by decide) (fun c38 => ?_) (fun c38 => ?_) (hx := ⟨by omega, by omega⟩) (hy := ⟨by omega, by omega⟩)
          · refine e_iconst (q := 46) dX6_nextYear_45 rfl ?_
            refine e_istore (q := 48) (L' := [_, _, _, _, _]) dX6_nextYear_46 rfl (by decide) rfl rfl ?_
            refine e_iload (q := 50) dX6_nextYear_48 rfl rfl ?_
            refine e_if_eq (q := 53) (tgt := 75) dX6_nextYear_50 rfl (by decide) (fun c50 => ?_) (fun c50 => absurd (by omega) c50)
            refine e_iinc (q := 78) (L' := [_, _, _, _, _]) dX6_nextYear_75 rfl rfl (by decide) rfl rfl ?_
            refine e_goto (tgt := 4) dX6_nextYear_78 (by decide) ?_
            refine ih _ _ _ (by omega) (by omega) ?_
            rw [nyF_s _ _ _ _ h0, ← hR]
            first | (rw [if_neg (by omega)]; done) | (rw [if_pos (by omega)]; done)
          · refine e_iconst (q := 42) dX6_nextYear_41 rfl ?_
            refine e_goto (tgt := 46) dX6_nextYear_42 (by decide) ?_
            refine e_istore (q := 48) (L' := [_, _, _, _, _]) dX6_nextYear_46 rfl (by decide) rfl rfl ?_
            refine e_iload (q := 50) dX6_nextYear_48 rfl rfl ?_
            refine e_if_eq (q := 53) (tgt := 75) dX6_nextYear_50 rfl (by decide) (fun c50 => absurd c50 (by omega)) (fun c50 => ?_)
            refine e_iload_n (q := 54) (i := 2) dX6_nextYear_53 rfl rfl rfl ?_
            refine e_iconst (q := 55) dX6_nextYear_54 rfl ?_
            refine e_icmp_eq (q := 58) (tgt := 68) dX6_nextYear_55 rfl (by decide) (fun c55 => ?_) (fun c55 => ?_) (hx := ⟨by omega, by omega⟩)
            · refine e_aload_n (q := 69) (i := 0) dX6_nextYear_68 rfl rfl rfl ?_
              refine e_getR (q := 72) dX6_nextYear_69 rfl fg_X6_15 (by first | assumption | rfl) rfl ?_
              refine e_iload_n (q := 73) (i := 3) dX6_nextYear_72 rfl rfl rfl ?_
              refine e_iald (q := 74) dX6_nextYear_73 rfl (by first | assumption | rfl) ?_
              refine e_istore_n (q := 75) (i := 2) (L' := [_, _, _, _, _]) dX6_nextYear_74 rfl rfl (by decide) rfl rfl ?_
              refine e_iinc (q := 78) (L' := [_, _, _, _, _]) dX6_nextYear_75 rfl rfl (by decide) rfl rfl ?_
              refine e_goto (tgt := 4) dX6_nextYear_78 (by decide) ?_
              refine ih _ _ _ (by omega) (by omega) ?_
              rw [nyF_s _ _ _ _ h0, ← hR]
              first | (rw [if_neg (by omega)]; done) | (rw [if_pos (by omega)]; done)
            · refine e_aload_n (q := 59) (i := 0) dX6_nextYear_58 rfl rfl rfl ?_
              refine e_getR (q := 62) dX6_nextYear_59 rfl fg_X6_15 (by first | assumption | rfl) rfl ?_
              refine e_iload_n (q := 63) (i := 3) dX6_nextYear_62 rfl rfl rfl ?_
              refine e_iald (q := 64) dX6_nextYear_63 rfl (by first | assumption | rfl) ?_
              refine e_iload_n (q := 65) (i := 2) dX6_nextYear_64 rfl rfl rfl ?_
              refine e_icmp_ge (q := 68) (tgt := 75) dX6_nextYear_65 rfl (by decide) (fun c65 => ?_) (fun c65 => ?_) (hx := ⟨by omega, by omega⟩) (hy := ⟨by omega, by omega⟩)
              · refine e_iinc (q := 78) (L' := [_, _, _, _, _]) dX6_nextYear_75 rfl rfl (by decide) rfl rfl ?_
                refine e_goto (tgt := 4) dX6_nextYear_78 (by decide) ?_
                refine ih _ _ _ (by omega) (by omega) ?_
                rw [nyF_s _ _ _ _ h0, ← hR]
                first | (rw [if_neg (by omega)]; done) | (rw [if_pos (by omega)]; done)
              · refine e_aload_n (q := 69) (i := 0) dX6_nextYear_68 rfl rfl rfl ?_
                refine e_getR (q := 72) dX6_nextYear_69 rfl fg_X6_15 (by first | assumption | rfl) rfl ?_
                refine e_iload_n (q := 73) (i := 3) dX6_nextYear_72 rfl rfl rfl ?_
                refine e_iald (q := 74) dX6_nextYear_73 rfl (by first | assumption | rfl) ?_
                refine e_istore_n (q := 75) (i := 2) (L' := [_, _, _, _, _]) dX6_nextYear_74 rfl rfl (by decide) rfl rfl ?_
                refine e_iinc (q := 78) (L' := [_, _, _, _, _]) dX6_nextYear_75 rfl rfl (by decide) rfl rfl ?_
                refine e_goto (tgt := 4) dX6_nextYear_78 (by decide) ?_
                refine ih _ _ _ (by omega) (by omega) ?_
                rw [nyF_s _ _ _ _ h0, ← hR]
                first | (rw [if_neg (by omega)]; done) | (rw [if_pos (by omega)]; done)
  refine e_entry om_X6_nextYear (Nat.le_of_ble_eq_true rfl) (L := [some (.ref (G.2.2.2 + 62)), some (.int (iZ b)), none, none, none]) rfl ?_
  refine e_iconst (q := 1) dX6_nextYear_0 rfl ?_
  refine e_istore_n (q := 2) (i := 2) (L' := [_, _, _, _, _]) dX6_nextYear_1 rfl rfl (by decide) rfl rfl ?_
  refine e_iconst (q := 3) dX6_nextYear_2 rfl ?_
  refine e_istore_n (q := 4) (i := 3) (L' := [_, _, _, _, _]) dX6_nextYear_3 rfl rfl (by decide) rfl rfl ?_
  exact lp (σ.1 62 7).toNat _ _ 0 (by omega) (by omega) rfl

theorem c_X6_agrees {G : Gx} {σ : Sg} {L : Nat} (hS : SI σ) (hT : TI σ) (hI : LI σ L) (hL : isLand L) : Con G 3 mX6_agrees [.ref (G.2.2.2 + 62), .ref (G.2.2.2 + L)] σ (pI (fun z σ' => ((z = 1 ∧ agR (σ.1 3) (σ.1 4) (σ.1 (L + 1)) (σ.1 69) (σ.1 63) (σ.1 64) (σ.1 65) (σ.1 66) (σ.1 67) (σ.1 68) (σ.1 62 7) (σ.1 L 6)) ∨ (z = 0 ∧ ¬ agR (σ.1 3) (σ.1 4) (σ.1 (L + 1)) (σ.1 69) (σ.1 63) (σ.1 64) (σ.1 65) (σ.1 66) (σ.1 67) (σ.1 68) (σ.1 62 7) (σ.1 L 6))) ∧ σ' = σ)) := by
  have y0 := ly0 hL
  have y1 := ly1 hL
  have y2 := ly2 hL
  have y3 := ly3 hL
  have y4 := ly4 hL
  obtain ⟨hS0, hS1, hS2, hS3⟩ := id hS
  have hyr := hI.2.2.2.1
  have lp : ∀ (n : Nat) (x : Option Value) (k : Int), 0 ≤ k → k + n = σ.1 62 7 → agR (σ.1 3) (σ.1 4) (σ.1 (L + 1)) (σ.1 69) (σ.1 63) (σ.1 64) (σ.1 65) (σ.1 66) (σ.1 67) (σ.1 68) k (σ.1 L 6) → J G 3 mX6_agrees (pI (fun z σ' => ((z = 1 ∧ agR (σ.1 3) (σ.1 4) (σ.1 (L + 1)) (σ.1 69) (σ.1 63) (σ.1 64) (σ.1 65) (σ.1 66) (σ.1 67) (σ.1 68) (σ.1 62 7) (σ.1 L 6)) ∨ (z = 0 ∧ ¬ agR (σ.1 3) (σ.1 4) (σ.1 (L + 1)) (σ.1 69) (σ.1 63) (σ.1 64) (σ.1 65) (σ.1 66) (σ.1 67) (σ.1 68) (σ.1 62 7) (σ.1 L 6))) ∧ σ' = σ)) σ 2 [some (.ref (G.2.2.2 + 62)), some (.ref (G.2.2.2 + L)), some (.int (iZ k)), x] [] := by
    intro n
    induction n with
    | zero =>
      intro x k h0 hn hR
      refine e_iload_n (q := 3) (i := 2) dX6_agrees_2 rfl rfl rfl ?_
      refine e_aload_n (q := 4) (i := 0) dX6_agrees_3 rfl rfl rfl ?_
      refine e_getI (q := 7) (jz := 7) dX6_agrees_4 rfl fg_X6_38 rfl (by first | assumption | rfl) rfl ?_
      refine e_icmp_ge (q := 10) (tgt := 91) dX6_agrees_7 rfl (by decide) (fun c7 => ?_) (fun c7 => absurd (by omega) c7)
      refine e_iconst (q := 92) dX6_agrees_91 rfl ?_
      exact r_z dX6_agrees_92 rfl (by first | exact Or.inl rfl | exact Or.inr rfl | omega) ⟨Or.inl ⟨rfl, by rw [show σ.1 62 7 = k by omega]; exact hR⟩, rfl⟩
    | succ n ih =>
      intro x k h0 hn hR
      refine e_iload_n (q := 3) (i := 2) dX6_agrees_2 rfl rfl rfl ?_
      refine e_aload_n (q := 4) (i := 0) dX6_agrees_3 rfl rfl rfl ?_
      refine e_getI (q := 7) (jz := 7) dX6_agrees_4 rfl fg_X6_38 rfl (by first | assumption | rfl) rfl ?_
      refine e_icmp_ge (q := 10) (tgt := 91) dX6_agrees_7 rfl (by decide) (fun c7 => absurd c7 (by omega)) (fun c7 => ?_)
      have hk := hS2 k h0 (by omega)
      refine e_aload_n (q := 11) (i := 0) dX6_agrees_10 rfl rfl rfl ?_
      refine e_getR (q := 14) dX6_agrees_11 rfl fg_X6_31 (by first | assumption | rfl) rfl ?_
      refine e_iload_n (q := 15) (i := 2) dX6_agrees_14 rfl rfl rfl ?_
      refine e_zald (q := 16) dX6_agrees_15 rfl (by first | assumption | rfl) ?_
      refine e_if_eq (q := 19) (tgt := 46) dX6_agrees_16 rfl (by decide) (fun c16 => ?_) (fun c16 => ?_)
      · refine e_iconst (q := 47) dX6_agrees_46 rfl ?_
        refine e_istore_n (q := 48) (i := 3) (L' := [_, _, _, _]) dX6_agrees_47 rfl rfl (by decide) rfl rfl ?_
        refine e_iload_n (q := 49) (i := 3) dX6_agrees_48 rfl rfl rfl ?_
        refine e_if_eq (q := 52) (tgt := 85) dX6_agrees_49 rfl (by decide) (fun c49 => ?_) (fun c49 => absurd (by omega) c49)
        refine e_iinc (q := 88) (L' := [_, _, _, _]) dX6_agrees_85 rfl rfl (by decide) rfl rfl ?_
        refine e_goto (tgt := 2) dX6_agrees_88 (by decide) ?_
        refine ih _ _ (by omega) (by omega) (fun j a b c1 c2 c3 => ?_)
        by_cases e : j = k
        · subst e
          exact absurd c16 c1
        · exact hR j a (by omega) c1 c2 c3
      · refine e_aload_n (q := 20) (i := 0) dX6_agrees_19 rfl rfl rfl ?_
        refine e_getR (q := 23) dX6_agrees_20 rfl fg_X6_11 (by first | assumption | rfl) rfl ?_
        refine e_iload_n (q := 24) (i := 2) dX6_agrees_23 rfl rfl rfl ?_
        refine e_iald (q := 25) dX6_agrees_24 rfl (by first | assumption | rfl) ?_
        refine e_iconst (q := 26) dX6_agrees_25 rfl ?_
        refine e_icmp_ne (q := 29) (tgt := 46) dX6_agrees_26 rfl (by decide) (fun c26 => ?_) (fun c26 => ?_) (hx := ⟨by omega, by omega⟩)
        · refine e_iconst (q := 47) dX6_agrees_46 rfl ?_
          refine e_istore_n (q := 48) (i := 3) (L' := [_, _, _, _]) dX6_agrees_47 rfl rfl (by decide) rfl rfl ?_
          refine e_iload_n (q := 49) (i := 3) dX6_agrees_48 rfl rfl rfl ?_
          refine e_if_eq (q := 52) (tgt := 85) dX6_agrees_49 rfl (by decide) (fun c49 => ?_) (fun c49 => absurd (by omega) c49)
          refine e_iinc (q := 88) (L' := [_, _, _, _]) dX6_agrees_85 rfl rfl (by decide) rfl rfl ?_
          refine e_goto (tgt := 2) dX6_agrees_88 (by decide) ?_
          refine ih _ _ (by omega) (by omega) (fun j a b c1 c2 c3 => ?_)
          by_cases e : j = k
          · subst e
            exact absurd c2 c26
          · exact hR j a (by omega) c1 c2 c3
        · refine e_aload_n (q := 30) (i := 0) dX6_agrees_29 rfl rfl rfl ?_
          refine e_getR (q := 33) dX6_agrees_30 rfl fg_X6_15 (by first | assumption | rfl) rfl ?_
          refine e_iload_n (q := 34) (i := 2) dX6_agrees_33 rfl rfl rfl ?_
          refine e_iald (q := 35) dX6_agrees_34 rfl (by first | assumption | rfl) ?_
          refine e_aload_n (q := 36) (i := 1) dX6_agrees_35 rfl rfl rfl ?_
          refine e_getI (q := 39) (jz := 6) dX6_agrees_36 rfl fg_X6_45 rfl (by first | assumption | rfl) rfl ?_
          refine e_icmp_ne (q := 42) (tgt := 46) dX6_agrees_39 rfl (by decide) (fun c39 => ?_) (fun c39 => ?_) (hx := ⟨by omega, by omega⟩) (hy := ⟨by omega, by omega⟩)
          · refine e_iconst (q := 47) dX6_agrees_46 rfl ?_
            refine e_istore_n (q := 48) (i := 3) (L' := [_, _, _, _]) dX6_agrees_47 rfl rfl (by decide) rfl rfl ?_
            refine e_iload_n (q := 49) (i := 3) dX6_agrees_48 rfl rfl rfl ?_
            refine e_if_eq (q := 52) (tgt := 85) dX6_agrees_49 rfl (by decide) (fun c49 => ?_) (fun c49 => absurd (by omega) c49)
            refine e_iinc (q := 88) (L' := [_, _, _, _]) dX6_agrees_85 rfl rfl (by decide) rfl rfl ?_
            refine e_goto (tgt := 2) dX6_agrees_88 (by decide) ?_
            refine ih _ _ (by omega) (by omega) (fun j a b c1 c2 c3 => ?_)
            by_cases e : j = k
            · subst e
              exact absurd c3 c39
            · exact hR j a (by omega) c1 c2 c3
          · refine e_iconst (q := 43) dX6_agrees_42 rfl ?_
            refine e_goto (tgt := 47) dX6_agrees_43 (by decide) ?_
            refine e_istore_n (q := 48) (i := 3) (L' := [_, _, _, _]) dX6_agrees_47 rfl rfl (by decide) rfl rfl ?_
            refine e_iload_n (q := 49) (i := 3) dX6_agrees_48 rfl rfl rfl ?_
            refine e_if_eq (q := 52) (tgt := 85) dX6_agrees_49 rfl (by decide) (fun c49 => absurd c49 (by omega)) (fun c49 => ?_)
            refine e_aload_n (q := 53) (i := 1) dX6_agrees_52 rfl rfl rfl ?_
            refine e_aload_n (q := 54) (i := 0) dX6_agrees_53 rfl rfl rfl ?_
            refine e_getR (q := 57) dX6_agrees_54 rfl fg_X6_18 (by first | assumption | rfl) rfl ?_
            refine e_iload_n (q := 58) (i := 2) dX6_agrees_57 rfl rfl rfl ?_
            refine e_iald (q := 59) dX6_agrees_58 rfl (by first | assumption | rfl) ?_
            refine e_aload_n (q := 60) (i := 0) dX6_agrees_59 rfl rfl rfl ?_
            refine e_getR (q := 63) dX6_agrees_60 rfl fg_X6_21 (by first | assumption | rfl) rfl ?_
            refine e_iload_n (q := 64) (i := 2) dX6_agrees_63 rfl rfl rfl ?_
            refine e_iald (q := 65) dX6_agrees_64 rfl (by first | assumption | rfl) ?_
            refine e_aload_n (q := 66) (i := 0) dX6_agrees_65 rfl rfl rfl ?_
            refine e_getR (q := 69) dX6_agrees_66 rfl fg_X6_24 (by first | assumption | rfl) rfl ?_
            refine e_iload_n (q := 70) (i := 2) dX6_agrees_69 rfl rfl rfl ?_
            refine e_iald (q := 71) dX6_agrees_70 rfl (by first | assumption | rfl) ?_
            refine e_Vip (q := 74) (vs := [_, _, _]) ok_X2_holds ml_X6_49 dX6_agrees_71 rfl ⟨_, _, rfl⟩ (by first | assumption | rfl) rfl rfl (Nat.le_of_ble_eq_true rfl) (by decide) (c_X2_holds hT hI hL (by omega) (by omega) ⟨by omega, by omega⟩ ⟨by omega, by omega⟩) ?_
            have hg := (show gHold (σ.1 3) (σ.1 4) (σ.1 (L + 1)) (σ.1 65 k) (σ.1 66 k) (σ.1 67 k) = 0 ∨ gHold (σ.1 3) (σ.1 4) (σ.1 (L + 1)) (σ.1 65 k) (σ.1 66 k) (σ.1 67 k) = 1 by unfold gHold; split <;> simp)
            refine e_aload_n (q := 75) (i := 0) dX6_agrees_74 rfl rfl rfl ?_
            refine e_getR (q := 78) dX6_agrees_75 rfl fg_X6_27 (by first | assumption | rfl) rfl ?_
            refine e_iload_n (q := 79) (i := 2) dX6_agrees_78 rfl rfl rfl ?_
            refine e_zald (q := 80) dX6_agrees_79 rfl (by first | assumption | rfl) ?_
            refine e_icmp_eq (q := 83) (tgt := 85) dX6_agrees_80 rfl (by decide) (fun c80 => ?_) (fun c80 => ?_) (hx := ⟨by omega, by omega⟩) (hy := ⟨by omega, by omega⟩)
            · refine e_iinc (q := 88) (L' := [_, _, _, _]) dX6_agrees_85 rfl rfl (by decide) rfl rfl ?_
              refine e_goto (tgt := 2) dX6_agrees_88 (by decide) ?_
              refine ih _ _ (by omega) (by omega) (fun j a b c1 c2 c3 => ?_)
              by_cases e : j = k
              · subst e
                exact c80
              · exact hR j a (by omega) c1 c2 c3
            · refine e_iconst (q := 84) dX6_agrees_83 rfl ?_
              exact r_z dX6_agrees_84 rfl (by first | exact Or.inl rfl | exact Or.inr rfl | omega) ⟨Or.inr ⟨rfl, fun q => c80 (q k h0 (by omega) c16 c26 c39)⟩, rfl⟩
  refine e_entry om_X6_agrees (Nat.le_of_ble_eq_true rfl) (L := [some (.ref (G.2.2.2 + 62)), some (.ref (G.2.2.2 + L)), none, none]) rfl ?_
  refine e_iconst (q := 1) dX6_agrees_0 rfl ?_
  refine e_istore_n (q := 2) (i := 2) (L' := [_, _, _, _]) dX6_agrees_1 rfl rfl (by decide) rfl rfl ?_
  exact lp (σ.1 62 7).toNat _ 0 (by omega) (by omega) (fun j a b => absurd b (by omega))

