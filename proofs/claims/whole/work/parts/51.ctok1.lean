/-! ===== the class's tokens: cell 19 (length 2, at 3, kind 4, place 5, value 6, fault 7, its place 8), words 20 ===== -/
def cB (σ : Sg) : Int → Int := fun i => σ.1 1 i % 256
theorem cB_in (σ : Sg) (i : Int) : 0 ≤ cB σ i ∧ cB σ i ≤ 255 := by unfold cB; omega
theorem by0_in {b : Int → Int} {n a : Int} (h : ∀ i, 0 ≤ b i ∧ b i ≤ 255) : 0 ≤ by0 b n a ∧ by0 b n a ≤ 255 := by
  unfold by0
  split
  · exact h a
  · omega
theorem iZ_orA {A B : Int} {k : Nat} (hA : 0 ≤ A) (hB : 0 ≤ B) (hB1 : B < 2 ^ k) (hs : 2 ^ k * A + B ≤ 2147483647) : iZ (2 ^ k * A) ||| iZ B = iZ (2 ^ k * A + B) := by
  have hp : (0 : Int) < 2 ^ k := Int.pow_pos (by decide)
  have hm : 0 ≤ 2 ^ k * A := Int.mul_nonneg (by omega) hA
  apply iZ_ext
  rw [Int32.toBitVec_or, BitVec.toNat_or, iZ_bv hm (by omega), iZ_bv hB (by omega), iZ_bv (by omega) hs]
  obtain ⟨a, rfl⟩ := Int.eq_ofNat_of_zero_le hA
  obtain ⟨b, rfl⟩ := Int.eq_ofNat_of_zero_le hB
  have e2 : ((2 : Int) ^ k) = ((2 ^ k : Nat) : Int) := by simp
  rw [e2] at hB1 ⊢
  have e3 : (((2 ^ k : Nat) : Int) * (a : Int)).toNat = 2 ^ k * a := by
    rw [← Int.natCast_mul]; rfl
  have e4 : (((2 ^ k : Nat) : Int) * (a : Int) + (b : Int)).toNat = 2 ^ k * a + b := by
    rw [← Int.natCast_mul, ← Int.natCast_add]; rfl
  rw [e3, e4, Nat.two_pow_add_eq_or_of_lt (by omega) a]
  rfl
theorem iZ_pack {x q : Int} (hx : 0 ≤ x) (hx1 : x < 32) (hq : 0 ≤ q) (hq1 : q < 6) : iZ x <<< (iZ (5 * (5 - q)) &&& 31) = iZ (x * 32 ^ (5 - q).toNat) := by
  obtain ⟨x, rfl⟩ := Int.eq_ofNat_of_zero_le hx
  obtain ⟨q, rfl⟩ := Int.eq_ofNat_of_zero_le hq
  have : ∀ x : Nat, x < 32 → ∀ q : Nat, q < 6 → iZ x <<< (iZ (5 * (5 - (q : Int))) &&& 31) = iZ ((x : Int) * 32 ^ (5 - (q : Int)).toNat) := by decide +kernel
  exact this x (by omega) q (by omega)
theorem pk_or {f : Int → Int} {j : Int} (h0 : 0 ≤ j) (h6 : j < 6) (hf : ∀ i : Int, 0 ≤ i → i < 6 → 0 ≤ f i ∧ f i < 32) : iZ (hrn f j.toNat * 32 ^ (6 - j).toNat) ||| iZ (f j * 32 ^ (5 - j).toNat) = iZ (hrn f (j + 1).toNat * 32 ^ (6 - (j + 1)).toNat) := by
  have hr := hrn_in (f := f) j.toNat (fun i a b => hf i a (by omega))
  have hj := hf j h0 h6
  have es : hrn f (j + 1).toNat = hrn f j.toNat * 32 + f j := by
    rw [show (j + 1).toNat = j.toNat + 1 by omega]
    show hrn f j.toNat * 32 + f (j.toNat : Int) = _
    rw [Int.toNat_of_nonneg h0]
  rw [es]
  rcases (show j = 0 ∨ j = 1 ∨ j = 2 ∨ j = 3 ∨ j = 4 ∨ j = 5 by omega) with rfl | rfl | rfl | rfl | rfl | rfl
  · have h := iZ_orA (A := hrn f (0 : Int).toNat) (B := f 0 * 33554432) (k := 30) hr.1 (by omega) (by omega) (by have : hrn f (0 : Int).toNat < 1 := hr.2; omega)
    rw [show (32 : Int) ^ (6 - (0 : Int)).toNat = 2 ^ 30 from by decide, show (32 : Int) ^ (5 - (0 : Int)).toNat = 33554432 from by decide, show (32 : Int) ^ (6 - ((0 : Int) + 1)).toNat = 33554432 from by decide, Int.mul_comm, h]
    congr 1
    omega
  · have h := iZ_orA (A := hrn f (1 : Int).toNat) (B := f 1 * 1048576) (k := 25) hr.1 (by omega) (by omega) (by have : hrn f (1 : Int).toNat < 32 := hr.2; omega)
    rw [show (32 : Int) ^ (6 - (1 : Int)).toNat = 2 ^ 25 from by decide, show (32 : Int) ^ (5 - (1 : Int)).toNat = 1048576 from by decide, show (32 : Int) ^ (6 - ((1 : Int) + 1)).toNat = 1048576 from by decide, Int.mul_comm, h]
    congr 1
    omega
  · have h := iZ_orA (A := hrn f (2 : Int).toNat) (B := f 2 * 32768) (k := 20) hr.1 (by omega) (by omega) (by have : hrn f (2 : Int).toNat < 1024 := hr.2; omega)
    rw [show (32 : Int) ^ (6 - (2 : Int)).toNat = 2 ^ 20 from by decide, show (32 : Int) ^ (5 - (2 : Int)).toNat = 32768 from by decide, show (32 : Int) ^ (6 - ((2 : Int) + 1)).toNat = 32768 from by decide, Int.mul_comm, h]
    congr 1
    omega
  · have h := iZ_orA (A := hrn f (3 : Int).toNat) (B := f 3 * 1024) (k := 15) hr.1 (by omega) (by omega) (by have : hrn f (3 : Int).toNat < 32768 := hr.2; omega)
    rw [show (32 : Int) ^ (6 - (3 : Int)).toNat = 2 ^ 15 from by decide, show (32 : Int) ^ (5 - (3 : Int)).toNat = 1024 from by decide, show (32 : Int) ^ (6 - ((3 : Int) + 1)).toNat = 1024 from by decide, Int.mul_comm, h]
    congr 1
    omega
  · have h := iZ_orA (A := hrn f (4 : Int).toNat) (B := f 4 * 32) (k := 10) hr.1 (by omega) (by omega) (by have : hrn f (4 : Int).toNat < 1048576 := hr.2; omega)
    rw [show (32 : Int) ^ (6 - (4 : Int)).toNat = 2 ^ 10 from by decide, show (32 : Int) ^ (5 - (4 : Int)).toNat = 32 from by decide, show (32 : Int) ^ (6 - ((4 : Int) + 1)).toNat = 32 from by decide, Int.mul_comm, h]
    congr 1
    omega
  · have h := iZ_orA (A := hrn f (5 : Int).toNat) (B := f 5 * 1) (k := 5) hr.1 (by omega) (by omega) (by have : hrn f (5 : Int).toNat < 33554432 := hr.2; omega)
    rw [show (32 : Int) ^ (6 - (5 : Int)).toNat = 2 ^ 5 from by decide, show (32 : Int) ^ (5 - (5 : Int)).toNat = 1 from by decide, show (32 : Int) ^ (6 - ((5 : Int) + 1)).toNat = 1 from by decide, Int.mul_comm, h]
    congr 1
    omega
def T19 (σ τ : Sg) : Prop := Fr [19] σ τ ∧ ∀ j, j ≠ 3 → j ≠ 4 → j ≠ 5 → j ≠ 6 → τ.1 19 j = σ.1 19 j
theorem T19.rf (σ : Sg) : T19 σ σ := ⟨Fr.rf _ _, fun _ _ _ _ _ => rfl⟩
theorem T19.tr {σ τ ρ : Sg} (h : T19 σ τ) (h' : T19 τ ρ) : T19 σ ρ := ⟨h.1.tr h'.1, fun j a b c d => (h'.2 j a b c d).trans (h.2 j a b c d)⟩
theorem T19.s {σ τ : Sg} (h : T19 σ τ) {i : Int} (hi : i = 3 ∨ i = 4 ∨ i = 5 ∨ i = 6) (v : Int) : T19 σ (sI τ 19 i v) := ⟨h.1.sI (by decide) _ _, fun j a b c d => by rw [sI_1, if_neg (fun q => by have := q.2; omega)]; exact h.2 j a b c d⟩
theorem T19.b {σ τ : Sg} (h : T19 σ τ) : cB τ = cB σ := by unfold cB; rw [(h.1 1 (by decide)).1]
theorem T19.n {σ τ : Sg} (h : T19 σ τ) : τ.1 19 2 = σ.1 19 2 := h.2 2 (by decide) (by decide) (by decide) (by decide)

theorem c_X8_byteAt {G : Gx} {σ : Sg} {i : Int} (hn0 : 0 ≤ (σ.1 19 2)) (hn1 : (σ.1 19 2) ≤ 700) (hi0 : 0 ≤ i) (hi1 : i ≤ 1000) : Con G 1 mX8_byteAt [.ref (G.2.2.2 + 19), .int (iZ i)] σ (pI (pE σ (by0 (cB σ) (σ.1 19 2) i))) := by
  refine e_entry om_X8_byteAt (Nat.le_of_ble_eq_true rfl) (L := [some (.ref (G.2.2.2 + 19)), some (.int (iZ i))]) rfl ?_
  refine e_iload_n (q := 1) (i := 1) dX8_byteAt_0 rfl rfl rfl ?_
  refine e_if_lt (q := 4) (tgt := 34) dX8_byteAt_1 rfl (by decide) (fun c1 => ?_) (fun c1 => ?_)
  · refine e_iconst (q := 35) dX8_byteAt_34 rfl ?_
    exact r_i dX8_byteAt_35 rfl ⟨by unfold by0 cB; first | (rw [if_pos (by omega)]; done) | (rw [if_neg (by omega)]; done), rfl⟩
  · refine e_iload_n (q := 5) (i := 1) dX8_byteAt_4 rfl rfl rfl ?_
    refine e_aload_n (q := 6) (i := 0) dX8_byteAt_5 rfl rfl rfl ?_
    refine e_getI (q := 9) (jz := 2) dX8_byteAt_6 rfl fg_X8_37 rfl (by first | assumption | rfl) rfl ?_
    refine e_icmp_ge (q := 12) (tgt := 34) dX8_byteAt_9 rfl (by decide) (fun c9 => ?_) (fun c9 => ?_)
    · refine e_iconst (q := 35) dX8_byteAt_34 rfl ?_
      exact r_i dX8_byteAt_35 rfl ⟨by unfold by0 cB; first | (rw [if_pos (by omega)]; done) | (rw [if_neg (by omega)]; done), rfl⟩
    · refine e_iload_n (q := 13) (i := 1) dX8_byteAt_12 rfl rfl rfl ?_
      refine e_aload_n (q := 14) (i := 0) dX8_byteAt_13 rfl rfl rfl ?_
      refine e_getR (q := 17) dX8_byteAt_14 rfl fg_X8_11 (by first | assumption | rfl) rfl ?_
      refine e_alen (q := 18) (nz := 700) dX8_byteAt_17 rfl (by first | assumption | rfl) (by decide) rfl ?_
      refine e_icmp_ge (q := 21) (tgt := 34) dX8_byteAt_18 rfl (by decide) (fun c18 => ?_) (fun c18 => ?_)
      · refine e_iconst (q := 35) dX8_byteAt_34 rfl ?_
        exact r_i dX8_byteAt_35 rfl ⟨by unfold by0 cB; first | (rw [if_pos (by omega)]; done) | (rw [if_neg (by omega)]; done), rfl⟩
      · refine e_aload_n (q := 22) (i := 0) dX8_byteAt_21 rfl rfl rfl ?_
        refine e_getR (q := 25) dX8_byteAt_22 rfl fg_X8_11 (by first | assumption | rfl) rfl ?_
        refine e_iload_n (q := 26) (i := 1) dX8_byteAt_25 rfl rfl rfl ?_
        refine e_bald (q := 27) dX8_byteAt_26 rfl (by first | assumption | rfl) ?_
        refine e_sipush (q := 30) dX8_byteAt_27 rfl (by decide) ?_
        refine e_iand (q := 31) dX8_byteAt_30 rfl (iZ_and255 _) ?_
        refine e_goto (tgt := 35) dX8_byteAt_31 (by decide) ?_
        exact r_i dX8_byteAt_35 rfl ⟨by unfold by0 cB; first | (rw [if_pos (by omega)]; done) | (rw [if_neg (by omega)]; done), rfl⟩

theorem c_X8_isLetter {G : Gx} {σ : Sg} {c : Int} (hc : R32 c) : Con G 1 mX8_isLetter [.int (iZ c)] σ (pI (pE σ (if 97 ≤ c ∧ c ≤ 122 then 1 else 0))) := by
  refine e_entry om_X8_isLetter (Nat.le_of_ble_eq_true rfl) (L := [some (.int (iZ c))]) rfl ?_
  refine e_iload_n (q := 1) (i := 0) dX8_isLetter_0 rfl rfl rfl ?_
  refine e_bipush (q := 3) dX8_isLetter_1 rfl (by decide) ?_
  refine e_icmp_lt (q := 6) (tgt := 16) dX8_isLetter_3 rfl (by decide) (fun c3 => ?_) (fun c3 => ?_)
  · refine e_iconst (q := 17) dX8_isLetter_16 rfl ?_
    exact r_z dX8_isLetter_17 rfl (by first | exact Or.inl rfl | exact Or.inr rfl | omega) ⟨by first | (rw [if_pos (by omega)]; done) | (rw [if_neg (by omega)]; done), rfl⟩
  · refine e_iload_n (q := 7) (i := 0) dX8_isLetter_6 rfl rfl rfl ?_
    refine e_bipush (q := 9) dX8_isLetter_7 rfl (by decide) ?_
    refine e_icmp_gt (q := 12) (tgt := 16) dX8_isLetter_9 rfl (by decide) (fun c9 => ?_) (fun c9 => ?_)
    · refine e_iconst (q := 17) dX8_isLetter_16 rfl ?_
      exact r_z dX8_isLetter_17 rfl (by first | exact Or.inl rfl | exact Or.inr rfl | omega) ⟨by first | (rw [if_pos (by omega)]; done) | (rw [if_neg (by omega)]; done), rfl⟩
    · refine e_iconst (q := 13) dX8_isLetter_12 rfl ?_
      refine e_goto (tgt := 17) dX8_isLetter_13 (by decide) ?_
      exact r_z dX8_isLetter_17 rfl (by first | exact Or.inl rfl | exact Or.inr rfl | omega) ⟨by first | (rw [if_pos (by omega)]; done) | (rw [if_neg (by omega)]; done), rfl⟩

theorem c_X8_isDigit {G : Gx} {σ : Sg} {c : Int} (hc : R32 c) : Con G 1 mX8_isDigit [.int (iZ c)] σ (pI (pE σ (if 48 ≤ c ∧ c ≤ 57 then 1 else 0))) := by
  refine e_entry om_X8_isDigit (Nat.le_of_ble_eq_true rfl) (L := [some (.int (iZ c))]) rfl ?_
  refine e_iload_n (q := 1) (i := 0) dX8_isDigit_0 rfl rfl rfl ?_
  refine e_bipush (q := 3) dX8_isDigit_1 rfl (by decide) ?_
  refine e_icmp_lt (q := 6) (tgt := 16) dX8_isDigit_3 rfl (by decide) (fun c3 => ?_) (fun c3 => ?_)
  · refine e_iconst (q := 17) dX8_isDigit_16 rfl ?_
    exact r_z dX8_isDigit_17 rfl (by first | exact Or.inl rfl | exact Or.inr rfl | omega) ⟨by first | (rw [if_pos (by omega)]; done) | (rw [if_neg (by omega)]; done), rfl⟩
  · refine e_iload_n (q := 7) (i := 0) dX8_isDigit_6 rfl rfl rfl ?_
    refine e_bipush (q := 9) dX8_isDigit_7 rfl (by decide) ?_
    refine e_icmp_gt (q := 12) (tgt := 16) dX8_isDigit_9 rfl (by decide) (fun c9 => ?_) (fun c9 => ?_)
    · refine e_iconst (q := 17) dX8_isDigit_16 rfl ?_
      exact r_z dX8_isDigit_17 rfl (by first | exact Or.inl rfl | exact Or.inr rfl | omega) ⟨by first | (rw [if_pos (by omega)]; done) | (rw [if_neg (by omega)]; done), rfl⟩
    · refine e_iconst (q := 13) dX8_isDigit_12 rfl ?_
      refine e_goto (tgt := 17) dX8_isDigit_13 (by decide) ?_
      exact r_z dX8_isDigit_17 rfl (by first | exact Or.inl rfl | exact Or.inr rfl | omega) ⟨by first | (rw [if_pos (by omega)]; done) | (rw [if_neg (by omega)]; done), rfl⟩

theorem c_X8_packed {G : Gx} {σ : Sg} {l q : Int} (hl0 : 97 ≤ l) (hl1 : l ≤ 122) (hq0 : 0 ≤ q) (hq6 : q < 6) : Con G 1 mX8_packed [.int (iZ l), .int (iZ q)] σ (pI (pE σ ((l - 96) * 32 ^ (5 - q).toNat))) := by
  refine e_entry om_X8_packed (Nat.le_of_ble_eq_true rfl) (L := [some (.int (iZ l)), some (.int (iZ q))]) rfl ?_
  refine e_iload_n (q := 1) (i := 0) dX8_packed_0 rfl rfl rfl ?_
  refine e_bipush (q := 3) dX8_packed_1 rfl (by decide) ?_
  refine e_isub (q := 4) dX8_packed_3 rfl ?_
  refine e_iconst (q := 5) dX8_packed_4 rfl ?_
  refine e_iadd (q := 6) dX8_packed_5 rfl ?_
  refine e_iconst (q := 7) dX8_packed_6 rfl ?_
  refine e_iconst (q := 8) dX8_packed_7 rfl ?_
  refine e_iload_n (q := 9) (i := 1) dX8_packed_8 rfl rfl rfl ?_
  refine e_isub (q := 10) dX8_packed_9 rfl ?_
  refine e_imul (q := 11) dX8_packed_10 rfl ?_
  rw [show l - 97 + 1 = l - 96 by omega]
  refine e_ishl (q := 12) dX8_packed_11 rfl (iZ_pack (by omega) (by omega) hq0 hq6) ?_
  exact r_i dX8_packed_12 rfl ⟨rfl, rfl⟩

theorem c_X8_fail {G : Gx} {σ : Sg} {f : Int} : Con G 1 mX8_fail [.ref (G.2.2.2 + 19), .int (iZ f)] σ (pI (fun z σ' => z = 0 ∧ σ' = sI (sI σ 19 7 f) 19 8 (σ.1 19 5))) := by
  refine e_entry om_X8_fail (Nat.le_of_ble_eq_true rfl) (L := [some (.ref (G.2.2.2 + 19)), some (.int (iZ f))]) rfl ?_
  refine e_aload_n (q := 1) (i := 0) dX8_fail_0 rfl rfl rfl ?_
  refine e_iload_n (q := 2) (i := 1) dX8_fail_1 rfl rfl rfl ?_
  refine e_putI (q := 5) (jz := 7) dX8_fail_2 rfl fp_X8_43 rfl (by first | assumption | rfl) rfl ?_
  refine e_aload_n (q := 6) (i := 0) dX8_fail_5 rfl rfl rfl ?_
  refine e_aload_n (q := 7) (i := 0) dX8_fail_6 rfl rfl rfl ?_
  refine e_getI (q := 10) (jz := 5) dX8_fail_7 rfl fg_X8_49 rfl (by first | assumption | rfl) rfl ?_
  rw [show (sI σ 19 7 f).1 19 5 = σ.1 19 5 from by rw [sI_1, if_neg (by decide)]]
  refine e_putI (q := 13) (jz := 8) dX8_fail_10 rfl fp_X8_27 rfl (by first | assumption | rfl) rfl ?_
  refine e_iconst (q := 14) dX8_fail_13 rfl ?_
  exact r_z dX8_fail_14 rfl (by first | exact Or.inl rfl | exact Or.inr rfl | omega) ⟨rfl, rfl⟩

theorem c_X8_failAt {G : Gx} {σ : Sg} {f p : Int} : Con G 1 mX8_failAt [.ref (G.2.2.2 + 19), .int (iZ f), .int (iZ p)] σ (pI (fun z σ' => z = 0 ∧ σ' = sI (sI σ 19 7 f) 19 8 p)) := by
  refine e_entry om_X8_failAt (Nat.le_of_ble_eq_true rfl) (L := [some (.ref (G.2.2.2 + 19)), some (.int (iZ f)), some (.int (iZ p))]) rfl ?_
  refine e_aload_n (q := 1) (i := 0) dX8_failAt_0 rfl rfl rfl ?_
  refine e_iload_n (q := 2) (i := 1) dX8_failAt_1 rfl rfl rfl ?_
  refine e_putI (q := 5) (jz := 7) dX8_failAt_2 rfl fp_X8_43 rfl (by first | assumption | rfl) rfl ?_
  refine e_aload_n (q := 6) (i := 0) dX8_failAt_5 rfl rfl rfl ?_
  refine e_iload_n (q := 7) (i := 2) dX8_failAt_6 rfl rfl rfl ?_
  refine e_putI (q := 10) (jz := 8) dX8_failAt_7 rfl fp_X8_27 rfl (by first | assumption | rfl) rfl ?_
  refine e_iconst (q := 11) dX8_failAt_10 rfl ?_
  exact r_z dX8_failAt_11 rfl (by first | exact Or.inl rfl | exact Or.inr rfl | omega) ⟨rfl, rfl⟩

theorem hrn_pad {f : Int → Int} {j : Int} (h0 : 0 ≤ j) (h6 : j ≤ 6) (hf : ∀ i : Int, j ≤ i → i < 6 → f i = 0) : hrn f (min j 6).toNat * 32 ^ (6 - min j 6).toNat = hrn f 6 := by
  have key : ∀ (m k : Nat), (∀ i : Int, (k : Int) ≤ i → i < k + m → f i = 0) → hrn f (k + m) = hrn f k * 32 ^ m := by
    intro m
    induction m with
    | zero => intro k _; rw [Int.pow_zero, Int.mul_one]; rfl
    | succ m ih =>
      intro k hz
      rw [show k + (m + 1) = (k + m) + 1 by omega]
      show hrn f (k + m) * 32 + f ((k + m : Nat) : Int) = _
      rw [ih k (fun i a b => hz i a (by omega)), hz _ (by omega) (by omega), Int.add_zero, Int.pow_succ, Int.mul_assoc]
  rw [show min j 6 = j by omega]
  have := key (6 - j).toNat j.toNat (fun i a b => hf i (by omega) (by omega))
  rw [show j.toNat + (6 - j).toNat = 6 by omega] at this
  exact this.symm

set_option maxHeartbeats 8000000 in
theorem c_X8_wordKind {G : Gx} {σ : Sg} {p : Int} (hn0 : 0 ≤ (σ.1 19 2)) (hn1 : (σ.1 19 2) ≤ 700) (hCW : ∀ i, 0 ≤ i → i < 21 → σ.1 20 i = wv i) (hp0 : 0 ≤ p) (hp1 : p < (σ.1 19 2)) (hl : isLt (cB σ p)) (h3 : σ.1 19 3 = p) (h6 : σ.1 19 6 = 0) : Con G 3 mX8_wordKind [.ref (G.2.2.2 + 19)] σ (pI (fun z σ' => z = (if 6 < (sc isLt (cB σ) (σ.1 19 2) p) - p then 36 else if fd wv (pkV (cB σ) p (sc isLt (cB σ) (σ.1 19 2) p)) 21 = -1 then 21 else fd wv (pkV (cB σ) p (sc isLt (cB σ) (σ.1 19 2) p)) 21) ∧ T19 σ σ' ∧ σ'.1 19 3 = (sc isLt (cB σ) (σ.1 19 2) p) ∧ σ'.1 19 4 = σ.1 19 4 ∧ σ'.1 19 5 = σ.1 19 5 ∧ ((sc isLt (cB σ) (σ.1 19 2) p) - p ≤ 6 → σ'.1 19 6 = (pkV (cB σ) p (sc isLt (cB σ) (σ.1 19 2) p))) ∧ R32 (σ'.1 19 6))) := by
  have hsc := sc_in (P := isLt) (b := cB σ) (n := (σ.1 19 2)) (a := p)
  have hsn := hsc.2.1 (by omega)
  have hlt : ∀ j, p ≤ j → j < (sc isLt (cB σ) (σ.1 19 2) p) → 97 ≤ cB σ j ∧ cB σ j ≤ 122 := fun j a b => (hsc.2.2 j a b).2
  have hDin : ∀ i : Int, 0 ≤ i → i < 6 → 0 ≤ (pkD (cB σ) p (sc isLt (cB σ) (σ.1 19 2) p)) i ∧ (pkD (cB σ) p (sc isLt (cB σ) (σ.1 19 2) p)) i < 32 := fun i a _ => pkD_in hlt a
  have lp : ∀ (n : Nat) (τ : Sg) (j : Int) (x2 : Option Value), 0 ≤ j → j + n = (sc isLt (cB σ) (σ.1 19 2) p) - p → T19 σ τ → τ.1 19 3 = p + j → τ.1 19 4 = σ.1 19 4 → τ.1 19 5 = σ.1 19 5 → τ.1 19 6 = hrn (pkD (cB σ) p (sc isLt (cB σ) (σ.1 19 2) p)) (min j 6).toNat * 32 ^ (6 - min j 6).toNat → J G 3 mX8_wordKind (pI (fun z σ' => z = (if 6 < (sc isLt (cB σ) (σ.1 19 2) p) - p then 36 else if fd wv (pkV (cB σ) p (sc isLt (cB σ) (σ.1 19 2) p)) 21 = -1 then 21 else fd wv (pkV (cB σ) p (sc isLt (cB σ) (σ.1 19 2) p)) 21) ∧ T19 σ σ' ∧ σ'.1 19 3 = (sc isLt (cB σ) (σ.1 19 2) p) ∧ σ'.1 19 4 = σ.1 19 4 ∧ σ'.1 19 5 = σ.1 19 5 ∧ ((sc isLt (cB σ) (σ.1 19 2) p) - p ≤ 6 → σ'.1 19 6 = (pkV (cB σ) p (sc isLt (cB σ) (σ.1 19 2) p))) ∧ R32 (σ'.1 19 6))) τ 2 [some (.ref (G.2.2.2 + 19)), some (.int (iZ j)), x2] [] := by
    intro n
    induction n with
    | zero =>
      intro τ j x2 h0 hn hT h3 h4 h5 h6
      have hby0 := by0_in (b := cB σ) (n := (σ.1 19 2)) (a := p + j) (cB_in σ)
      have eby : by0 (cB τ) (τ.1 19 2) (p + j) = by0 (cB σ) (σ.1 19 2) (p + j) := by rw [hT.b, hT.n]
      have hby : R32 (by0 (cB τ) (τ.1 19 2) (p + j)) := by rw [eby]; exact ⟨by omega, by omega⟩
      have etn := hT.n
      refine e_aload_n (q := 3) (i := 0) dX8_wordKind_2 rfl rfl rfl ?_
      refine e_getI (q := 6) (jz := 3) dX8_wordKind_3 rfl fg_X8_40 rfl (by first | assumption | rfl) rfl ?_
      refine e_aload_n (q := 7) (i := 0) dX8_wordKind_6 rfl rfl rfl ?_
      refine e_getI (q := 10) (jz := 2) dX8_wordKind_7 rfl fg_X8_37 rfl (by first | assumption | rfl) rfl ?_
      rw [h3]
      refine e_icmp_ge (q := 13) (tgt := 70) dX8_wordKind_10 rfl (by decide) (fun c10 => ?_) (fun c10 => ?_) (hx := ⟨by omega, by omega⟩) (hy := ⟨by omega, by omega⟩)
      · have hRv : R32 (τ.1 19 6) := by
          have hh := hrn_in (f := (pkD (cB σ) p (sc isLt (cB σ) (σ.1 19 2) p))) 6 (fun i a b => hDin i a b)
          by_cases q : 6 ≤ j
          · rw [h6, show min j 6 = 6 by omega]
            rw [show (6 - (6 : Int)).toNat = 0 from rfl, Int.pow_zero, Int.mul_one]
            have : hrn (pkD (cB σ) p (sc isLt (cB σ) (σ.1 19 2) p)) (6 : Int).toNat < 1073741824 := hh.2
            have : 0 ≤ hrn (pkD (cB σ) p (sc isLt (cB σ) (σ.1 19 2) p)) (6 : Int).toNat := hh.1
            exact ⟨by omega, by omega⟩
          · have := pkV_in hlt
            rw [h6, hrn_pad h0 (by omega) (fun i a b => by unfold pkD; rw [if_neg (by omega)])]
            exact ⟨by have := this.1; unfold pkV at this; omega, by have := this.2; unfold pkV at this; omega⟩
        refine e_iload_n (q := 71) (i := 1) dX8_wordKind_70 rfl rfl rfl ?_
        refine e_bipush (q := 73) dX8_wordKind_71 rfl (by decide) ?_
        refine e_icmp_le (q := 76) (tgt := 79) dX8_wordKind_73 rfl (by decide) (fun c73 => ?_) (fun c73 => ?_)
        · refine e_iconst (q := 80) dX8_wordKind_79 rfl ?_
          refine e_istore_n (q := 81) (i := 2) (L' := [_, _, _]) dX8_wordKind_80 rfl rfl (by decide) rfl rfl ?_
          have hv6 : τ.1 19 6 = (pkV (cB σ) p (sc isLt (cB σ) (σ.1 19 2) p)) := by
            rw [h6]
            exact hrn_pad h0 (by omega) (fun i a b => by unfold pkD; rw [if_neg (by omega)])
          have hvin := pkV_in hlt
          have lb : ∀ (n : Nat) (k : Int), 0 ≤ k → k + n = 21 → fd wv (pkV (cB σ) p (sc isLt (cB σ) (σ.1 19 2) p)) k = -1 → J G 3 mX8_wordKind (pI (fun z σ' => z = (if 6 < (sc isLt (cB σ) (σ.1 19 2) p) - p then 36 else if fd wv (pkV (cB σ) p (sc isLt (cB σ) (σ.1 19 2) p)) 21 = -1 then 21 else fd wv (pkV (cB σ) p (sc isLt (cB σ) (σ.1 19 2) p)) 21) ∧ T19 σ σ' ∧ σ'.1 19 3 = (sc isLt (cB σ) (σ.1 19 2) p) ∧ σ'.1 19 4 = σ.1 19 4 ∧ σ'.1 19 5 = σ.1 19 5 ∧ ((sc isLt (cB σ) (σ.1 19 2) p) - p ≤ 6 → σ'.1 19 6 = (pkV (cB σ) p (sc isLt (cB σ) (σ.1 19 2) p))) ∧ R32 (σ'.1 19 6))) τ 81 [some (.ref (G.2.2.2 + 19)), some (.int (iZ j)), some (.int (iZ k))] [] := by
            intro n
            induction n with
            | zero =>
              intro k h0 hn hf
              refine e_iload_n (q := 82) (i := 2) dX8_wordKind_81 rfl rfl rfl ?_
              refine e_bipush (q := 84) dX8_wordKind_82 rfl (by decide) ?_
              refine e_icmp_ge (q := 87) (tgt := 108) dX8_wordKind_84 rfl (by decide) (fun c84 => ?_) (fun c84 => absurd (by omega) c84)
              refine e_bipush (q := 110) dX8_wordKind_108 rfl (by decide) ?_
              exact r_i dX8_wordKind_110 rfl ⟨by rw [if_neg (by omega), if_pos (by rw [show (21 : Int) = k by omega]; exact hf)], hT, by omega, h4, h5, fun _ => hv6, ⟨by omega, by omega⟩⟩
            | succ n ih =>
              intro k h0 hn hf
              refine e_iload_n (q := 82) (i := 2) dX8_wordKind_81 rfl rfl rfl ?_
              refine e_bipush (q := 84) dX8_wordKind_82 rfl (by decide) ?_
              refine e_icmp_ge (q := 87) (tgt := 108) dX8_wordKind_84 rfl (by decide) (fun c84 => absurd c84 (by omega)) (fun c84 => ?_)
              refine e_aload_n (q := 88) (i := 0) dX8_wordKind_87 rfl rfl rfl ?_
              refine e_getR (q := 91) dX8_wordKind_88 rfl fg_X8_15 (by first | assumption | rfl) rfl ?_
              refine e_iload_n (q := 92) (i := 2) dX8_wordKind_91 rfl rfl rfl ?_
              refine e_iald (q := 93) dX8_wordKind_92 rfl (by first | assumption | rfl) ?_
              refine e_aload_n (q := 94) (i := 0) dX8_wordKind_93 rfl rfl rfl ?_
              refine e_getI (q := 97) (jz := 6) dX8_wordKind_94 rfl fg_X8_56 rfl (by first | assumption | rfl) rfl ?_
              rw [(hT.1 20 (by decide)).1, hCW k h0 (by omega), hv6]
              have hwk := wv_in k h0 (by omega)
              refine e_icmp_ne (q := 100) (tgt := 102) dX8_wordKind_97 rfl (by decide) (fun c97 => ?_) (fun c97 => ?_)
              · refine e_iinc (q := 105) (L' := [_, _, _]) dX8_wordKind_102 rfl rfl (by decide) rfl rfl ?_
                refine e_goto (tgt := 81) dX8_wordKind_105 (by decide) ?_
                refine ih _ (by omega) (by omega) ?_
                rw [fd_succ _ _ h0, if_neg (by rw [hf]; decide), if_neg c97]
              · refine e_iload_n (q := 101) (i := 2) dX8_wordKind_100 rfl rfl rfl ?_
                exact r_i dX8_wordKind_101 rfl ⟨by rw [if_neg (by omega), if_neg (by rw [fd_at h0 hf c97 (by omega)]; omega), fd_at h0 hf c97 (by omega)], hT, by omega, h4, h5, fun _ => hv6, ⟨by omega, by omega⟩⟩
          exact lb 21 0 (by decide) (by decide) (fd_0 _ _)
        · refine e_bipush (q := 78) dX8_wordKind_76 rfl (by decide) ?_
          exact r_i dX8_wordKind_78 rfl ⟨by rw [if_pos (by omega)], hT, by omega, h4, h5, fun q => absurd q (by omega), hRv⟩
      · refine e_aload_n (q := 14) (i := 0) dX8_wordKind_13 rfl rfl rfl ?_
        refine e_aload_n (q := 15) (i := 0) dX8_wordKind_14 rfl rfl rfl ?_
        refine e_getI (q := 18) (jz := 3) dX8_wordKind_15 rfl fg_X8_40 rfl (by first | assumption | rfl) rfl ?_
        rw [h3]
        refine e_Vip (q := 21) (vs := [_]) ok_X8_byteAt ml_X8_52 dX8_wordKind_18 rfl ⟨_, _, rfl⟩ (by first | assumption | rfl) rfl rfl (Nat.le_of_ble_eq_true rfl) (by decide) (c_X8_byteAt (by rw [hT.n]; exact hn0) (by rw [hT.n]; exact hn1) (by omega) (by omega)) ?_
        refine e_Sip (q := 24) (vs := [_]) ok_X8_isLetter ml_X8_62 dX8_wordKind_21 rfl rfl rfl (Nat.le_of_ble_eq_true rfl) (by decide) (c_X8_isLetter hby) ?_
        have eb0 : ¬ (97 ≤ by0 (cB τ) (τ.1 19 2) (p + j) ∧ by0 (cB τ) (τ.1 19 2) (p + j) ≤ 122) := by
          rw [eby, show p + j = (sc isLt (cB σ) (σ.1 19 2) p) by omega]
          unfold by0
          rw [if_pos (by omega)]
          exact fun q => sc_end (P := isLt) (b := cB σ) (n := (σ.1 19 2)) (a := p) ⟨by omega, q⟩
        rw [if_neg eb0]
        refine e_if_eq (q := 27) (tgt := 70) dX8_wordKind_24 rfl (by decide) (fun c24 => ?_) (fun c24 => absurd (by omega) c24)
        have hRv : R32 (τ.1 19 6) := by
          have hh := hrn_in (f := (pkD (cB σ) p (sc isLt (cB σ) (σ.1 19 2) p))) 6 (fun i a b => hDin i a b)
          by_cases q : 6 ≤ j
          · rw [h6, show min j 6 = 6 by omega]
            rw [show (6 - (6 : Int)).toNat = 0 from rfl, Int.pow_zero, Int.mul_one]
            have : hrn (pkD (cB σ) p (sc isLt (cB σ) (σ.1 19 2) p)) (6 : Int).toNat < 1073741824 := hh.2
            have : 0 ≤ hrn (pkD (cB σ) p (sc isLt (cB σ) (σ.1 19 2) p)) (6 : Int).toNat := hh.1
            exact ⟨by omega, by omega⟩
          · have := pkV_in hlt
            rw [h6, hrn_pad h0 (by omega) (fun i a b => by unfold pkD; rw [if_neg (by omega)])]
            exact ⟨by have := this.1; unfold pkV at this; omega, by have := this.2; unfold pkV at this; omega⟩
        refine e_iload_n (q := 71) (i := 1) dX8_wordKind_70 rfl rfl rfl ?_
        refine e_bipush (q := 73) dX8_wordKind_71 rfl (by decide) ?_
        refine e_icmp_le (q := 76) (tgt := 79) dX8_wordKind_73 rfl (by decide) (fun c73 => ?_) (fun c73 => ?_)
        · refine e_iconst (q := 80) dX8_wordKind_79 rfl ?_
          refine e_istore_n (q := 81) (i := 2) (L' := [_, _, _]) dX8_wordKind_80 rfl rfl (by decide) rfl rfl ?_
          have hv6 : τ.1 19 6 = (pkV (cB σ) p (sc isLt (cB σ) (σ.1 19 2) p)) := by
            rw [h6]
            exact hrn_pad h0 (by omega) (fun i a b => by unfold pkD; rw [if_neg (by omega)])
          have hvin := pkV_in hlt
          have lb : ∀ (n : Nat) (k : Int), 0 ≤ k → k + n = 21 → fd wv (pkV (cB σ) p (sc isLt (cB σ) (σ.1 19 2) p)) k = -1 → J G 3 mX8_wordKind (pI (fun z σ' => z = (if 6 < (sc isLt (cB σ) (σ.1 19 2) p) - p then 36 else if fd wv (pkV (cB σ) p (sc isLt (cB σ) (σ.1 19 2) p)) 21 = -1 then 21 else fd wv (pkV (cB σ) p (sc isLt (cB σ) (σ.1 19 2) p)) 21) ∧ T19 σ σ' ∧ σ'.1 19 3 = (sc isLt (cB σ) (σ.1 19 2) p) ∧ σ'.1 19 4 = σ.1 19 4 ∧ σ'.1 19 5 = σ.1 19 5 ∧ ((sc isLt (cB σ) (σ.1 19 2) p) - p ≤ 6 → σ'.1 19 6 = (pkV (cB σ) p (sc isLt (cB σ) (σ.1 19 2) p))) ∧ R32 (σ'.1 19 6))) τ 81 [some (.ref (G.2.2.2 + 19)), some (.int (iZ j)), some (.int (iZ k))] [] := by
            intro n
            induction n with
            | zero =>
              intro k h0 hn hf
              refine e_iload_n (q := 82) (i := 2) dX8_wordKind_81 rfl rfl rfl ?_
              refine e_bipush (q := 84) dX8_wordKind_82 rfl (by decide) ?_
              refine e_icmp_ge (q := 87) (tgt := 108) dX8_wordKind_84 rfl (by decide) (fun c84 => ?_) (fun c84 => absurd (by omega) c84)
              refine e_bipush (q := 110) dX8_wordKind_108 rfl (by decide) ?_
              exact r_i dX8_wordKind_110 rfl ⟨by rw [if_neg (by omega), if_pos (by rw [show (21 : Int) = k by omega]; exact hf)], hT, by omega, h4, h5, fun _ => hv6, ⟨by omega, by omega⟩⟩
            | succ n ih =>
              intro k h0 hn hf
              refine e_iload_n (q := 82) (i := 2) dX8_wordKind_81 rfl rfl rfl ?_
              refine e_bipush (q := 84) dX8_wordKind_82 rfl (by decide) ?_
              refine e_icmp_ge (q := 87) (tgt := 108) dX8_wordKind_84 rfl (by decide) (fun c84 => absurd c84 (by omega)) (fun c84 => ?_)
              refine e_aload_n (q := 88) (i := 0) dX8_wordKind_87 rfl rfl rfl ?_
              refine e_getR (q := 91) dX8_wordKind_88 rfl fg_X8_15 (by first | assumption | rfl) rfl ?_
              refine e_iload_n (q := 92) (i := 2) dX8_wordKind_91 rfl rfl rfl ?_
              refine e_iald (q := 93) dX8_wordKind_92 rfl (by first | assumption | rfl) ?_
              refine e_aload_n (q := 94) (i := 0) dX8_wordKind_93 rfl rfl rfl ?_
              refine e_getI (q := 97) (jz := 6) dX8_wordKind_94 rfl fg_X8_56 rfl (by first | assumption | rfl) rfl ?_
              rw [(hT.1 20 (by decide)).1, hCW k h0 (by omega), hv6]
              have hwk := wv_in k h0 (by omega)
              refine e_icmp_ne (q := 100) (tgt := 102) dX8_wordKind_97 rfl (by decide) (fun c97 => ?_) (fun c97 => ?_)
              · refine e_iinc (q := 105) (L' := [_, _, _]) dX8_wordKind_102 rfl rfl (by decide) rfl rfl ?_
                refine e_goto (tgt := 81) dX8_wordKind_105 (by decide) ?_
                refine ih _ (by omega) (by omega) ?_
                rw [fd_succ _ _ h0, if_neg (by rw [hf]; decide), if_neg c97]
              · refine e_iload_n (q := 101) (i := 2) dX8_wordKind_100 rfl rfl rfl ?_
                exact r_i dX8_wordKind_101 rfl ⟨by rw [if_neg (by omega), if_neg (by rw [fd_at h0 hf c97 (by omega)]; omega), fd_at h0 hf c97 (by omega)], hT, by omega, h4, h5, fun _ => hv6, ⟨by omega, by omega⟩⟩
          exact lb 21 0 (by decide) (by decide) (fd_0 _ _)
        · refine e_bipush (q := 78) dX8_wordKind_76 rfl (by decide) ?_
          exact r_i dX8_wordKind_78 rfl ⟨by rw [if_pos (by omega)], hT, by omega, h4, h5, fun q => absurd q (by omega), hRv⟩
    | succ n ih =>
      intro τ j x2 h0 hn hT h3 h4 h5 h6
      have hby0 := by0_in (b := cB σ) (n := (σ.1 19 2)) (a := p + j) (cB_in σ)
      have eby : by0 (cB τ) (τ.1 19 2) (p + j) = by0 (cB σ) (σ.1 19 2) (p + j) := by rw [hT.b, hT.n]
      have hby : R32 (by0 (cB τ) (τ.1 19 2) (p + j)) := by rw [eby]; exact ⟨by omega, by omega⟩
      have etn := hT.n
      refine e_aload_n (q := 3) (i := 0) dX8_wordKind_2 rfl rfl rfl ?_
      refine e_getI (q := 6) (jz := 3) dX8_wordKind_3 rfl fg_X8_40 rfl (by first | assumption | rfl) rfl ?_
      refine e_aload_n (q := 7) (i := 0) dX8_wordKind_6 rfl rfl rfl ?_
      refine e_getI (q := 10) (jz := 2) dX8_wordKind_7 rfl fg_X8_37 rfl (by first | assumption | rfl) rfl ?_
      rw [h3]
      refine e_icmp_ge (q := 13) (tgt := 70) dX8_wordKind_10 rfl (by decide) (fun c10 => absurd c10 (by omega)) (fun c10 => ?_) (hx := ⟨by omega, by omega⟩) (hy := ⟨by omega, by omega⟩)
      refine e_aload_n (q := 14) (i := 0) dX8_wordKind_13 rfl rfl rfl ?_
      refine e_aload_n (q := 15) (i := 0) dX8_wordKind_14 rfl rfl rfl ?_
      refine e_getI (q := 18) (jz := 3) dX8_wordKind_15 rfl fg_X8_40 rfl (by first | assumption | rfl) rfl ?_
      rw [h3]
      refine e_Vip (q := 21) (vs := [_]) ok_X8_byteAt ml_X8_52 dX8_wordKind_18 rfl ⟨_, _, rfl⟩ (by first | assumption | rfl) rfl rfl (Nat.le_of_ble_eq_true rfl) (by decide) (c_X8_byteAt (by rw [hT.n]; exact hn0) (by rw [hT.n]; exact hn1) (by omega) (by omega)) ?_
      refine e_Sip (q := 24) (vs := [_]) ok_X8_isLetter ml_X8_62 dX8_wordKind_21 rfl rfl rfl (Nat.le_of_ble_eq_true rfl) (by decide) (c_X8_isLetter hby) ?_
      have hbl := hlt (p + j) (by omega) (by omega)
      have eb1 : by0 (cB τ) (τ.1 19 2) (p + j) = cB σ (p + j) := by rw [eby]; unfold by0; rw [if_pos (by omega)]
      rw [eb1, if_pos hbl]
      refine e_if_eq (q := 27) (tgt := 70) dX8_wordKind_24 rfl (by decide) (fun c24 => absurd c24 (by omega)) (fun c24 => ?_)
      refine e_iload_n (q := 28) (i := 1) dX8_wordKind_27 rfl rfl rfl ?_
      refine e_bipush (q := 30) dX8_wordKind_28 rfl (by decide) ?_
      refine e_icmp_ge (q := 33) (tgt := 54) dX8_wordKind_30 rfl (by decide) (fun c30 => ?_) (fun c30 => ?_)
      · refine e_iinc (q := 57) (L' := [_, _, _]) dX8_wordKind_54 rfl rfl (by decide) rfl rfl ?_
        refine e_aload_n (q := 58) (i := 0) dX8_wordKind_57 rfl rfl rfl ?_
        refine e_dup (q := 59) dX8_wordKind_58 rfl rfl ?_
        refine e_getI (q := 62) (jz := 3) dX8_wordKind_59 rfl fg_X8_40 rfl (by first | assumption | rfl) rfl ?_
        rw [h3]
        refine e_iconst (q := 63) dX8_wordKind_62 rfl ?_
        refine e_iadd (q := 64) dX8_wordKind_63 rfl ?_
        refine e_putI (q := 67) (jz := 3) dX8_wordKind_64 rfl fp_X8_40 rfl (by first | assumption | rfl) rfl ?_
        refine e_goto (tgt := 2) dX8_wordKind_67 (by decide) ?_
        refine ih _ _ _ (by omega) (by omega) (hT.s (by decide) _) ?_ ?_ ?_ ?_
        · rw [sI_1, if_pos ⟨rfl, rfl⟩]; omega
        · rw [sI_1, if_neg (by decide)]; exact h4
        · rw [sI_1, if_neg (by decide)]; exact h5
        · rw [sI_1, if_neg (by decide), h6, show min (j + 1) 6 = 6 by omega, show min j 6 = 6 by omega]
      · refine e_aload_n (q := 34) (i := 0) dX8_wordKind_33 rfl rfl rfl ?_
        refine e_dup (q := 35) dX8_wordKind_34 rfl rfl ?_
        refine e_getI (q := 38) (jz := 6) dX8_wordKind_35 rfl fg_X8_56 rfl (by first | assumption | rfl) rfl ?_
        refine e_aload_n (q := 39) (i := 0) dX8_wordKind_38 rfl rfl rfl ?_
        refine e_aload_n (q := 40) (i := 0) dX8_wordKind_39 rfl rfl rfl ?_
        refine e_getI (q := 43) (jz := 3) dX8_wordKind_40 rfl fg_X8_40 rfl (by first | assumption | rfl) rfl ?_
        rw [h3]
        refine e_Vip (q := 46) (vs := [_]) ok_X8_byteAt ml_X8_52 dX8_wordKind_43 rfl ⟨_, _, rfl⟩ (by first | assumption | rfl) rfl rfl (Nat.le_of_ble_eq_true rfl) (by decide) (c_X8_byteAt (by rw [hT.n]; exact hn0) (by rw [hT.n]; exact hn1) (by omega) (by omega)) ?_
        refine e_iload_n (q := 47) (i := 1) dX8_wordKind_46 rfl rfl rfl ?_
        rw [eb1]
        refine e_Sip (q := 50) (vs := [_, _]) ok_X8_packed ml_X8_79 dX8_wordKind_47 rfl rfl rfl (Nat.le_of_ble_eq_true rfl) (by decide) (c_X8_packed hbl.1 hbl.2 h0 (by omega)) ?_
        have eD : (pkD (cB σ) p (sc isLt (cB σ) (σ.1 19 2) p)) j = cB σ (p + j) - 96 := by unfold pkD; rw [if_pos (by omega)]
        rw [h6, show min j 6 = j by omega, ← eD]
        refine e_ior (q := 51) dX8_wordKind_50 rfl (pk_or h0 (by omega) hDin) ?_
        refine e_putI (q := 54) (jz := 6) dX8_wordKind_51 rfl fp_X8_56 rfl (by first | assumption | rfl) rfl ?_
        refine e_iinc (q := 57) (L' := [_, _, _]) dX8_wordKind_54 rfl rfl (by decide) rfl rfl ?_
        refine e_aload_n (q := 58) (i := 0) dX8_wordKind_57 rfl rfl rfl ?_
        refine e_dup (q := 59) dX8_wordKind_58 rfl rfl ?_
        refine e_getI (q := 62) (jz := 3) dX8_wordKind_59 rfl fg_X8_40 rfl (by first | assumption | rfl) rfl ?_
        rw [show (sI τ 19 6 (hrn (pkD (cB σ) p (sc isLt (cB σ) (σ.1 19 2) p)) (j + 1).toNat * 32 ^ (6 - (j + 1)).toNat)).1 19 3 = p + j from by rw [sI_1, if_neg (by decide)]; exact h3]
        refine e_iconst (q := 63) dX8_wordKind_62 rfl ?_
        refine e_iadd (q := 64) dX8_wordKind_63 rfl ?_
        refine e_putI (q := 67) (jz := 3) dX8_wordKind_64 rfl fp_X8_40 rfl (by first | assumption | rfl) rfl ?_
        refine e_goto (tgt := 2) dX8_wordKind_67 (by decide) ?_
        refine ih _ _ _ (by omega) (by omega) ((hT.s (by decide) _).s (by decide) _) ?_ ?_ ?_ ?_
        · rw [sI_1, if_pos ⟨rfl, rfl⟩]; omega
        · rw [sI_1, if_neg (by decide), sI_1, if_neg (by decide)]; exact h4
        · rw [sI_1, if_neg (by decide), sI_1, if_neg (by decide)]; exact h5
        · rw [sI_1, if_neg (by decide), sI_1, if_pos ⟨rfl, rfl⟩, show min (j + 1) 6 = j + 1 by omega]
  refine e_entry om_X8_wordKind (Nat.le_of_ble_eq_true rfl) (L := [some (.ref (G.2.2.2 + 19)), none, none]) rfl ?_
  refine e_iconst (q := 1) dX8_wordKind_0 rfl ?_
  refine e_istore_n (q := 2) (i := 1) (L' := [_, _, _]) dX8_wordKind_1 rfl rfl (by decide) rfl rfl ?_
  exact lp ((sc isLt (cB σ) (σ.1 19 2) p) - p).toNat σ 0 _ (by decide) (by omega) (T19.rf σ) (by omega) rfl rfl (by rw [h6]; rfl)

set_option maxHeartbeats 8000000 in
theorem c_X8_numberKind {G : Gx} {σ : Sg} {p : Int} (hn0 : 0 ≤ (σ.1 19 2)) (hn1 : (σ.1 19 2) ≤ 700) (hp0 : 0 ≤ p) (hp1 : p < (σ.1 19 2)) (hl : isDg (cB σ p)) (h3 : σ.1 19 3 = p) (h6 : σ.1 19 6 = 0) : Con G 3 mX8_numberKind [.ref (G.2.2.2 + 19)] σ (pI (fun z σ' => z = 22 ∧ T19 σ σ' ∧ σ'.1 19 3 = (sc isDg (cB σ) (σ.1 19 2) p) ∧ σ'.1 19 4 = σ.1 19 4 ∧ σ'.1 19 5 = σ.1 19 5 ∧ σ'.1 19 6 = nvF 1000000 (cB σ) ((sc isDg (cB σ) (σ.1 19 2) p) - p).toNat p 0)) := by
  have hsc := sc_in (P := isDg) (b := cB σ) (n := (σ.1 19 2)) (a := p)
  have hsn := hsc.2.1 (by omega)
  have hlt : ∀ j, p ≤ j → j < (sc isDg (cB σ) (σ.1 19 2) p) → 48 ≤ cB σ j ∧ cB σ j ≤ 57 := fun j a b => (hsc.2.2 j a b).2
  have lp : ∀ (n : Nat) (τ : Sg) (j : Int), 0 ≤ j → j + n = (sc isDg (cB σ) (σ.1 19 2) p) - p → T19 σ τ → τ.1 19 3 = p + j → τ.1 19 4 = σ.1 19 4 → τ.1 19 5 = σ.1 19 5 → τ.1 19 6 = nvF 1000000 (cB σ) (j).toNat p 0 → J G 3 mX8_numberKind (pI (fun z σ' => z = 22 ∧ T19 σ σ' ∧ σ'.1 19 3 = (sc isDg (cB σ) (σ.1 19 2) p) ∧ σ'.1 19 4 = σ.1 19 4 ∧ σ'.1 19 5 = σ.1 19 5 ∧ σ'.1 19 6 = nvF 1000000 (cB σ) ((sc isDg (cB σ) (σ.1 19 2) p) - p).toNat p 0)) τ 0 [some (.ref (G.2.2.2 + 19))] [] := by
    intro n
    induction n with
    | zero =>
      intro τ j h0 hn hT h3 h4 h5 h6
      have hby0 := by0_in (b := cB σ) (n := (σ.1 19 2)) (a := p + j) (cB_in σ)
      have eby : by0 (cB τ) (τ.1 19 2) (p + j) = by0 (cB σ) (σ.1 19 2) (p + j) := by rw [hT.b, hT.n]
      have hby : R32 (by0 (cB τ) (τ.1 19 2) (p + j)) := by rw [eby]; exact ⟨by omega, by omega⟩
      have etn := hT.n
      have hnv := nvF_in (cap := 1000000) (b := cB σ) (Int.le_refl _) j.toNat p 0 (by decide) (by decide) (fun i a b => hlt i a (by omega))
      refine e_aload_n (q := 1) (i := 0) dX8_numberKind_0 rfl rfl rfl ?_
      refine e_getI (q := 4) (jz := 3) dX8_numberKind_1 rfl fg_X8_40 rfl (by first | assumption | rfl) rfl ?_
      refine e_aload_n (q := 5) (i := 0) dX8_numberKind_4 rfl rfl rfl ?_
      refine e_getI (q := 8) (jz := 2) dX8_numberKind_5 rfl fg_X8_37 rfl (by first | assumption | rfl) rfl ?_
      rw [h3]
      refine e_icmp_ge (q := 11) (tgt := 70) dX8_numberKind_8 rfl (by decide) (fun c8 => ?_) (fun c8 => ?_) (hx := ⟨by omega, by omega⟩) (hy := ⟨by omega, by omega⟩)
      · refine e_bipush (q := 72) dX8_numberKind_70 rfl (by decide) ?_
        exact r_i dX8_numberKind_72 rfl ⟨rfl, hT, by omega, h4, h5, by rw [h6, show j = (sc isDg (cB σ) (σ.1 19 2) p) - p by omega]⟩
      · refine e_aload_n (q := 12) (i := 0) dX8_numberKind_11 rfl rfl rfl ?_
        refine e_aload_n (q := 13) (i := 0) dX8_numberKind_12 rfl rfl rfl ?_
        refine e_getI (q := 16) (jz := 3) dX8_numberKind_13 rfl fg_X8_40 rfl (by first | assumption | rfl) rfl ?_
        rw [h3]
        refine e_Vip (q := 19) (vs := [_]) ok_X8_byteAt ml_X8_52 dX8_numberKind_16 rfl ⟨_, _, rfl⟩ (by first | assumption | rfl) rfl rfl (Nat.le_of_ble_eq_true rfl) (by decide) (c_X8_byteAt (by rw [hT.n]; exact hn0) (by rw [hT.n]; exact hn1) (by omega) (by omega)) ?_
        refine e_Sip (q := 22) (vs := [_]) ok_X8_isDigit ml_X8_70 dX8_numberKind_19 rfl rfl rfl (Nat.le_of_ble_eq_true rfl) (by decide) (c_X8_isDigit hby) ?_
        have eb0 : ¬ (48 ≤ by0 (cB τ) (τ.1 19 2) (p + j) ∧ by0 (cB τ) (τ.1 19 2) (p + j) ≤ 57) := by
          rw [eby, show p + j = (sc isDg (cB σ) (σ.1 19 2) p) by omega]
          unfold by0
          rw [if_pos (by omega)]
          exact fun q => sc_end (P := isDg) (b := cB σ) (n := (σ.1 19 2)) (a := p) ⟨by omega, q⟩
        rw [if_neg eb0]
        refine e_if_eq (q := 25) (tgt := 70) dX8_numberKind_22 rfl (by decide) (fun c22 => ?_) (fun c22 => absurd (by omega) c22)
        refine e_bipush (q := 72) dX8_numberKind_70 rfl (by decide) ?_
        exact r_i dX8_numberKind_72 rfl ⟨rfl, hT, by omega, h4, h5, by rw [h6, show j = (sc isDg (cB σ) (σ.1 19 2) p) - p by omega]⟩
    | succ n ih =>
      intro τ j h0 hn hT h3 h4 h5 h6
      have hby0 := by0_in (b := cB σ) (n := (σ.1 19 2)) (a := p + j) (cB_in σ)
      have eby : by0 (cB τ) (τ.1 19 2) (p + j) = by0 (cB σ) (σ.1 19 2) (p + j) := by rw [hT.b, hT.n]
      have hby : R32 (by0 (cB τ) (τ.1 19 2) (p + j)) := by rw [eby]; exact ⟨by omega, by omega⟩
      have etn := hT.n
      have hnv := nvF_in (cap := 1000000) (b := cB σ) (Int.le_refl _) j.toNat p 0 (by decide) (by decide) (fun i a b => hlt i a (by omega))
      refine e_aload_n (q := 1) (i := 0) dX8_numberKind_0 rfl rfl rfl ?_
      refine e_getI (q := 4) (jz := 3) dX8_numberKind_1 rfl fg_X8_40 rfl (by first | assumption | rfl) rfl ?_
      refine e_aload_n (q := 5) (i := 0) dX8_numberKind_4 rfl rfl rfl ?_
      refine e_getI (q := 8) (jz := 2) dX8_numberKind_5 rfl fg_X8_37 rfl (by first | assumption | rfl) rfl ?_
      rw [h3]
      refine e_icmp_ge (q := 11) (tgt := 70) dX8_numberKind_8 rfl (by decide) (fun c8 => absurd c8 (by omega)) (fun c8 => ?_) (hx := ⟨by omega, by omega⟩) (hy := ⟨by omega, by omega⟩)
      refine e_aload_n (q := 12) (i := 0) dX8_numberKind_11 rfl rfl rfl ?_
      refine e_aload_n (q := 13) (i := 0) dX8_numberKind_12 rfl rfl rfl ?_
      refine e_getI (q := 16) (jz := 3) dX8_numberKind_13 rfl fg_X8_40 rfl (by first | assumption | rfl) rfl ?_
      rw [h3]
      refine e_Vip (q := 19) (vs := [_]) ok_X8_byteAt ml_X8_52 dX8_numberKind_16 rfl ⟨_, _, rfl⟩ (by first | assumption | rfl) rfl rfl (Nat.le_of_ble_eq_true rfl) (by decide) (c_X8_byteAt (by rw [hT.n]; exact hn0) (by rw [hT.n]; exact hn1) (by omega) (by omega)) ?_
      refine e_Sip (q := 22) (vs := [_]) ok_X8_isDigit ml_X8_70 dX8_numberKind_19 rfl rfl rfl (Nat.le_of_ble_eq_true rfl) (by decide) (c_X8_isDigit hby) ?_
      have hbl := hlt (p + j) (by omega) (by omega)
      have eb1 : by0 (cB τ) (τ.1 19 2) (p + j) = cB σ (p + j) := by rw [eby]; unfold by0; rw [if_pos (by omega)]
      rw [eb1, if_pos hbl]
      refine e_if_eq (q := 25) (tgt := 70) dX8_numberKind_22 rfl (by decide) (fun c22 => absurd c22 (by omega)) (fun c22 => ?_)
      refine e_aload_n (q := 26) (i := 0) dX8_numberKind_25 rfl rfl rfl ?_
      refine e_getI (q := 29) (jz := 6) dX8_numberKind_26 rfl fg_X8_56 rfl (by first | assumption | rfl) rfl ?_
      refine e_ldc (q := 31) (z := 1000000) dX8_numberKind_29 rfl kw_X8_90 (by decide) ?_
      rw [h6]
      refine e_icmp_ge (q := 34) (tgt := 57) dX8_numberKind_31 rfl (by decide) (fun c31 => ?_) (fun c31 => ?_) (hx := ⟨by omega, by omega⟩)
      · refine e_aload_n (q := 58) (i := 0) dX8_numberKind_57 rfl rfl rfl ?_
        refine e_dup (q := 59) dX8_numberKind_58 rfl rfl ?_
        refine e_getI (q := 62) (jz := 3) dX8_numberKind_59 rfl fg_X8_40 rfl (by first | assumption | rfl) rfl ?_
        rw [h3]
        refine e_iconst (q := 63) dX8_numberKind_62 rfl ?_
        refine e_iadd (q := 64) dX8_numberKind_63 rfl ?_
        refine e_putI (q := 67) (jz := 3) dX8_numberKind_64 rfl fp_X8_40 rfl (by first | assumption | rfl) rfl ?_
        refine e_goto (tgt := 0) dX8_numberKind_67 (by decide) ?_
        refine ih _ (j + 1) (by omega) (by omega) (hT.s (by decide) _) ?_ ?_ ?_ ?_
        · rw [sI_1, if_pos ⟨rfl, rfl⟩]; omega
        · rw [sI_1, if_neg (by decide)]; exact h4
        · rw [sI_1, if_neg (by decide)]; exact h5
        · rw [sI_1, if_neg (by decide), h6, show (j + 1).toNat = j.toNat + 1 by omega, nvF_snoc, if_neg (by omega)]
      · refine e_aload_n (q := 35) (i := 0) dX8_numberKind_34 rfl rfl rfl ?_
        refine e_bipush (q := 37) dX8_numberKind_35 rfl (by decide) ?_
        refine e_aload_n (q := 38) (i := 0) dX8_numberKind_37 rfl rfl rfl ?_
        refine e_getI (q := 41) (jz := 6) dX8_numberKind_38 rfl fg_X8_56 rfl (by first | assumption | rfl) rfl ?_
        rw [h6]
        refine e_imul (q := 42) dX8_numberKind_41 rfl ?_
        refine e_aload_n (q := 43) (i := 0) dX8_numberKind_42 rfl rfl rfl ?_
        refine e_aload_n (q := 44) (i := 0) dX8_numberKind_43 rfl rfl rfl ?_
        refine e_getI (q := 47) (jz := 3) dX8_numberKind_44 rfl fg_X8_40 rfl (by first | assumption | rfl) rfl ?_
        rw [h3]
        refine e_Vip (q := 50) (vs := [_]) ok_X8_byteAt ml_X8_52 dX8_numberKind_47 rfl ⟨_, _, rfl⟩ (by first | assumption | rfl) rfl rfl (Nat.le_of_ble_eq_true rfl) (by decide) (c_X8_byteAt (by rw [hT.n]; exact hn0) (by rw [hT.n]; exact hn1) (by omega) (by omega)) ?_
        rw [eb1]
        refine e_iadd (q := 51) dX8_numberKind_50 rfl ?_
        refine e_bipush (q := 53) dX8_numberKind_51 rfl (by decide) ?_
        refine e_isub (q := 54) dX8_numberKind_53 rfl ?_
        refine e_putI (q := 57) (jz := 6) dX8_numberKind_54 rfl fp_X8_56 rfl (by first | assumption | rfl) rfl ?_
        refine e_aload_n (q := 58) (i := 0) dX8_numberKind_57 rfl rfl rfl ?_
        refine e_dup (q := 59) dX8_numberKind_58 rfl rfl ?_
        refine e_getI (q := 62) (jz := 3) dX8_numberKind_59 rfl fg_X8_40 rfl (by first | assumption | rfl) rfl ?_
        rw [show (sI τ 19 6 (10 * nvF 1000000 (cB σ) (j).toNat p 0 + cB σ (p + j) - 48)).1 19 3 = p + j from by rw [sI_1, if_neg (by decide)]; exact h3]
        refine e_iconst (q := 63) dX8_numberKind_62 rfl ?_
        refine e_iadd (q := 64) dX8_numberKind_63 rfl ?_
        refine e_putI (q := 67) (jz := 3) dX8_numberKind_64 rfl fp_X8_40 rfl (by first | assumption | rfl) rfl ?_
        refine e_goto (tgt := 0) dX8_numberKind_67 (by decide) ?_
        refine ih _ (j + 1) (by omega) (by omega) ((hT.s (by decide) _).s (by decide) _) ?_ ?_ ?_ ?_
        · rw [sI_1, if_pos ⟨rfl, rfl⟩]; omega
        · rw [sI_1, if_neg (by decide), sI_1, if_neg (by decide)]; exact h4
        · rw [sI_1, if_neg (by decide), sI_1, if_neg (by decide)]; exact h5
        · rw [sI_1, if_neg (by decide), sI_1, if_pos ⟨rfl, rfl⟩, show (j + 1).toNat = j.toNat + 1 by omega, nvF_snoc, if_pos (by omega), show p + (j.toNat : Int) = p + j by omega, Int.add_sub_assoc]
  refine e_entry om_X8_numberKind (Nat.le_of_ble_eq_true rfl) (L := [some (.ref (G.2.2.2 + 19))]) rfl ?_
  exact lp ((sc isDg (cB σ) (σ.1 19 2) p) - p).toNat σ 0 (by decide) (by omega) (T19.rf σ) (by omega) rfl rfl (by rw [h6]; rfl)

set_option maxHeartbeats 8000000 in
theorem c_X8_signKind {G : Gx} {σ : Sg} {p c : Int} (hn0 : 0 ≤ (σ.1 19 2)) (hn1 : (σ.1 19 2) ≤ 700) (hp0 : 0 ≤ p) (hp1 : p < (σ.1 19 2)) (hc0 : 0 ≤ c) (hc1 : c ≤ 255) (h3 : σ.1 19 3 = p + 1) : Con G 2 mX8_signKind [.ref (G.2.2.2 + 19), .int (iZ c)] σ (pI (fun z σ' => z = sgK c (by0 (cB σ) (σ.1 19 2) (p + 1)) ∧ T19 σ σ' ∧ σ'.1 19 3 = p + sgN c (by0 (cB σ) (σ.1 19 2) (p + 1)) ∧ σ'.1 19 4 = σ.1 19 4 ∧ σ'.1 19 5 = σ.1 19 5 ∧ σ'.1 19 6 = σ.1 19 6)) := by
  have hs2 := by0_in (b := cB σ) (n := (σ.1 19 2)) (a := p + 1) (cB_in σ)
  refine e_entry om_X8_signKind (Nat.le_of_ble_eq_true rfl) (L := [some (.ref (G.2.2.2 + 19)), some (.int (iZ c)), none]) rfl ?_
  refine e_aload_n (q := 1) (i := 0) dX8_signKind_0 rfl rfl rfl ?_
  refine e_aload_n (q := 2) (i := 0) dX8_signKind_1 rfl rfl rfl ?_
  refine e_getI (q := 5) (jz := 3) dX8_signKind_2 rfl fg_X8_40 rfl (by first | assumption | rfl) rfl ?_
  rw [h3]
  refine e_Vip (q := 8) (vs := [_]) ok_X8_byteAt ml_X8_52 dX8_signKind_5 rfl ⟨_, _, rfl⟩ (by first | assumption | rfl) rfl rfl (Nat.le_of_ble_eq_true rfl) (by decide) (c_X8_byteAt hn0 hn1 (by omega) (by omega)) ?_
  refine e_istore_n (q := 9) (i := 2) (L' := [_, _, _]) dX8_signKind_8 rfl rfl (by decide) rfl rfl ?_
  refine e_iload_n (q := 10) (i := 1) dX8_signKind_9 rfl rfl rfl ?_
  by_cases k10_40 : c = 40
  · refine e_tabIn (tgt := 119) dX8_signKind_10 ⟨by omega, by omega⟩ (by omega) (by omega) (by rw [k10_40]; rfl) (by decide) ?_
    refine e_bipush (q := 121) dX8_signKind_119 rfl (by decide) ?_
    exact r_i dX8_signKind_121 rfl ⟨by unfold sgK; rw [if_neg (by omega), if_pos (by omega)], T19.rf σ, by unfold sgN; rw [if_neg (by omega)]; omega, rfl, rfl, rfl⟩
  by_cases k10_41 : c = 41
  · refine e_tabIn (tgt := 122) dX8_signKind_10 ⟨by omega, by omega⟩ (by omega) (by omega) (by rw [k10_41]; rfl) (by decide) ?_
    refine e_bipush (q := 124) dX8_signKind_122 rfl (by decide) ?_
    exact r_i dX8_signKind_124 rfl ⟨by unfold sgK; rw [if_neg (by omega), if_neg (by omega), if_pos (by omega)], T19.rf σ, by unfold sgN; rw [if_neg (by omega)]; omega, rfl, rfl, rfl⟩
  by_cases k10_42 : c = 42
  · refine e_tabIn (tgt := 131) dX8_signKind_10 ⟨by omega, by omega⟩ (by omega) (by omega) (by rw [k10_42]; rfl) (by decide) ?_
    refine e_bipush (q := 133) dX8_signKind_131 rfl (by decide) ?_
    exact r_i dX8_signKind_133 rfl ⟨by unfold sgK; rw [if_neg (by omega), if_neg (by omega), if_neg (by omega), if_neg (by omega), if_neg (by omega), if_pos (by omega)], T19.rf σ, by unfold sgN; rw [if_neg (by omega)]; omega, rfl, rfl, rfl⟩
  by_cases k10_43 : c = 43
  · refine e_tabIn (tgt := 125) dX8_signKind_10 ⟨by omega, by omega⟩ (by omega) (by omega) (by rw [k10_43]; rfl) (by decide) ?_
    refine e_bipush (q := 127) dX8_signKind_125 rfl (by decide) ?_
    exact r_i dX8_signKind_127 rfl ⟨by unfold sgK; rw [if_neg (by omega), if_neg (by omega), if_neg (by omega), if_pos (by omega)], T19.rf σ, by unfold sgN; rw [if_neg (by omega)]; omega, rfl, rfl, rfl⟩
  by_cases k10_44 : c = 44
  · refine e_tabIn (tgt := 201) dX8_signKind_10 ⟨by omega, by omega⟩ (by omega) (by omega) (by rw [k10_44]; rfl) (by decide) ?_
    refine e_bipush (q := 203) dX8_signKind_201 rfl (by decide) ?_
    exact r_i dX8_signKind_203 rfl ⟨by unfold sgK; rw [if_neg (by omega), if_neg (by omega), if_neg (by omega), if_neg (by omega), if_neg (by omega), if_neg (by omega), if_neg (by omega), if_neg (by omega), if_neg (by omega), if_neg (by omega)], T19.rf σ, by unfold sgN; rw [if_neg (by omega)]; omega, rfl, rfl, rfl⟩
  by_cases k10_45 : c = 45
  · refine e_tabIn (tgt := 128) dX8_signKind_10 ⟨by omega, by omega⟩ (by omega) (by omega) (by rw [k10_45]; rfl) (by decide) ?_
    refine e_bipush (q := 130) dX8_signKind_128 rfl (by decide) ?_
    exact r_i dX8_signKind_130 rfl ⟨by unfold sgK; rw [if_neg (by omega), if_neg (by omega), if_neg (by omega), if_neg (by omega), if_pos (by omega)], T19.rf σ, by unfold sgN; rw [if_neg (by omega)]; omega, rfl, rfl, rfl⟩
  by_cases k10_46 : c = 46
  · refine e_tabIn (tgt := 201) dX8_signKind_10 ⟨by omega, by omega⟩ (by omega) (by omega) (by rw [k10_46]; rfl) (by decide) ?_
    refine e_bipush (q := 203) dX8_signKind_201 rfl (by decide) ?_
    exact r_i dX8_signKind_203 rfl ⟨by unfold sgK; rw [if_neg (by omega), if_neg (by omega), if_neg (by omega), if_neg (by omega), if_neg (by omega), if_neg (by omega), if_neg (by omega), if_neg (by omega), if_neg (by omega), if_neg (by omega)], T19.rf σ, by unfold sgN; rw [if_neg (by omega)]; omega, rfl, rfl, rfl⟩
  by_cases k10_47 : c = 47
  · refine e_tabIn (tgt := 134) dX8_signKind_10 ⟨by omega, by omega⟩ (by omega) (by omega) (by rw [k10_47]; rfl) (by decide) ?_
    refine e_bipush (q := 136) dX8_signKind_134 rfl (by decide) ?_
    exact r_i dX8_signKind_136 rfl ⟨by unfold sgK; rw [if_neg (by omega), if_neg (by omega), if_neg (by omega), if_neg (by omega), if_neg (by omega), if_neg (by omega), if_pos (by omega)], T19.rf σ, by unfold sgN; rw [if_neg (by omega)]; omega, rfl, rfl, rfl⟩
  by_cases k10_48 : c = 48
  · refine e_tabIn (tgt := 201) dX8_signKind_10 ⟨by omega, by omega⟩ (by omega) (by omega) (by rw [k10_48]; rfl) (by decide) ?_
    refine e_bipush (q := 203) dX8_signKind_201 rfl (by decide) ?_
    exact r_i dX8_signKind_203 rfl ⟨by unfold sgK; rw [if_neg (by omega), if_neg (by omega), if_neg (by omega), if_neg (by omega), if_neg (by omega), if_neg (by omega), if_neg (by omega), if_neg (by omega), if_neg (by omega), if_neg (by omega)], T19.rf σ, by unfold sgN; rw [if_neg (by omega)]; omega, rfl, rfl, rfl⟩
  by_cases k10_49 : c = 49
  · refine e_tabIn (tgt := 201) dX8_signKind_10 ⟨by omega, by omega⟩ (by omega) (by omega) (by rw [k10_49]; rfl) (by decide) ?_
    refine e_bipush (q := 203) dX8_signKind_201 rfl (by decide) ?_
    exact r_i dX8_signKind_203 rfl ⟨by unfold sgK; rw [if_neg (by omega), if_neg (by omega), if_neg (by omega), if_neg (by omega), if_neg (by omega), if_neg (by omega), if_neg (by omega), if_neg (by omega), if_neg (by omega), if_neg (by omega)], T19.rf σ, by unfold sgN; rw [if_neg (by omega)]; omega, rfl, rfl, rfl⟩
  by_cases k10_50 : c = 50
  · refine e_tabIn (tgt := 201) dX8_signKind_10 ⟨by omega, by omega⟩ (by omega) (by omega) (by rw [k10_50]; rfl) (by decide) ?_
    refine e_bipush (q := 203) dX8_signKind_201 rfl (by decide) ?_
    exact r_i dX8_signKind_203 rfl ⟨by unfold sgK; rw [if_neg (by omega), if_neg (by omega), if_neg (by omega), if_neg (by omega), if_neg (by omega), if_neg (by omega), if_neg (by omega), if_neg (by omega), if_neg (by omega), if_neg (by omega)], T19.rf σ, by unfold sgN; rw [if_neg (by omega)]; omega, rfl, rfl, rfl⟩
  by_cases k10_51 : c = 51
  · refine e_tabIn (tgt := 201) dX8_signKind_10 ⟨by omega, by omega⟩ (by omega) (by omega) (by rw [k10_51]; rfl) (by decide) ?_
    refine e_bipush (q := 203) dX8_signKind_201 rfl (by decide) ?_
    exact r_i dX8_signKind_203 rfl ⟨by unfold sgK; rw [if_neg (by omega), if_neg (by omega), if_neg (by omega), if_neg (by omega), if_neg (by omega), if_neg (by omega), if_neg (by omega), if_neg (by omega), if_neg (by omega), if_neg (by omega)], T19.rf σ, by unfold sgN; rw [if_neg (by omega)]; omega, rfl, rfl, rfl⟩
  by_cases k10_52 : c = 52
  · refine e_tabIn (tgt := 201) dX8_signKind_10 ⟨by omega, by omega⟩ (by omega) (by omega) (by rw [k10_52]; rfl) (by decide) ?_
    refine e_bipush (q := 203) dX8_signKind_201 rfl (by decide) ?_
    exact r_i dX8_signKind_203 rfl ⟨by unfold sgK; rw [if_neg (by omega), if_neg (by omega), if_neg (by omega), if_neg (by omega), if_neg (by omega), if_neg (by omega), if_neg (by omega), if_neg (by omega), if_neg (by omega), if_neg (by omega)], T19.rf σ, by unfold sgN; rw [if_neg (by omega)]; omega, rfl, rfl, rfl⟩
  by_cases k10_53 : c = 53
  · refine e_tabIn (tgt := 201) dX8_signKind_10 ⟨by omega, by omega⟩ (by omega) (by omega) (by rw [k10_53]; rfl) (by decide) ?_
    refine e_bipush (q := 203) dX8_signKind_201 rfl (by decide) ?_
    exact r_i dX8_signKind_203 rfl ⟨by unfold sgK; rw [if_neg (by omega), if_neg (by omega), if_neg (by omega), if_neg (by omega), if_neg (by omega), if_neg (by omega), if_neg (by omega), if_neg (by omega), if_neg (by omega), if_neg (by omega)], T19.rf σ, by unfold sgN; rw [if_neg (by omega)]; omega, rfl, rfl, rfl⟩
  by_cases k10_54 : c = 54
  · refine e_tabIn (tgt := 201) dX8_signKind_10 ⟨by omega, by omega⟩ (by omega) (by omega) (by rw [k10_54]; rfl) (by decide) ?_
    refine e_bipush (q := 203) dX8_signKind_201 rfl (by decide) ?_
    exact r_i dX8_signKind_203 rfl ⟨by unfold sgK; rw [if_neg (by omega), if_neg (by omega), if_neg (by omega), if_neg (by omega), if_neg (by omega), if_neg (by omega), if_neg (by omega), if_neg (by omega), if_neg (by omega), if_neg (by omega)], T19.rf σ, by unfold sgN; rw [if_neg (by omega)]; omega, rfl, rfl, rfl⟩
  by_cases k10_55 : c = 55
  · refine e_tabIn (tgt := 201) dX8_signKind_10 ⟨by omega, by omega⟩ (by omega) (by omega) (by rw [k10_55]; rfl) (by decide) ?_
    refine e_bipush (q := 203) dX8_signKind_201 rfl (by decide) ?_
    exact r_i dX8_signKind_203 rfl ⟨by unfold sgK; rw [if_neg (by omega), if_neg (by omega), if_neg (by omega), if_neg (by omega), if_neg (by omega), if_neg (by omega), if_neg (by omega), if_neg (by omega), if_neg (by omega), if_neg (by omega)], T19.rf σ, by unfold sgN; rw [if_neg (by omega)]; omega, rfl, rfl, rfl⟩
  by_cases k10_56 : c = 56
  · refine e_tabIn (tgt := 201) dX8_signKind_10 ⟨by omega, by omega⟩ (by omega) (by omega) (by rw [k10_56]; rfl) (by decide) ?_
    refine e_bipush (q := 203) dX8_signKind_201 rfl (by decide) ?_
    exact r_i dX8_signKind_203 rfl ⟨by unfold sgK; rw [if_neg (by omega), if_neg (by omega), if_neg (by omega), if_neg (by omega), if_neg (by omega), if_neg (by omega), if_neg (by omega), if_neg (by omega), if_neg (by omega), if_neg (by omega)], T19.rf σ, by unfold sgN; rw [if_neg (by omega)]; omega, rfl, rfl, rfl⟩
  by_cases k10_57 : c = 57
  · refine e_tabIn (tgt := 201) dX8_signKind_10 ⟨by omega, by omega⟩ (by omega) (by omega) (by rw [k10_57]; rfl) (by decide) ?_
    refine e_bipush (q := 203) dX8_signKind_201 rfl (by decide) ?_
    exact r_i dX8_signKind_203 rfl ⟨by unfold sgK; rw [if_neg (by omega), if_neg (by omega), if_neg (by omega), if_neg (by omega), if_neg (by omega), if_neg (by omega), if_neg (by omega), if_neg (by omega), if_neg (by omega), if_neg (by omega)], T19.rf σ, by unfold sgN; rw [if_neg (by omega)]; omega, rfl, rfl, rfl⟩
  by_cases k10_58 : c = 58
  · refine e_tabIn (tgt := 201) dX8_signKind_10 ⟨by omega, by omega⟩ (by omega) (by omega) (by rw [k10_58]; rfl) (by decide) ?_
    refine e_bipush (q := 203) dX8_signKind_201 rfl (by decide) ?_
    exact r_i dX8_signKind_203 rfl ⟨by unfold sgK; rw [if_neg (by omega), if_neg (by omega), if_neg (by omega), if_neg (by omega), if_neg (by omega), if_neg (by omega), if_neg (by omega), if_neg (by omega), if_neg (by omega), if_neg (by omega)], T19.rf σ, by unfold sgN; rw [if_neg (by omega)]; omega, rfl, rfl, rfl⟩
  by_cases k10_59 : c = 59
  · refine e_tabIn (tgt := 116) dX8_signKind_10 ⟨by omega, by omega⟩ (by omega) (by omega) (by rw [k10_59]; rfl) (by decide) ?_
    refine e_bipush (q := 118) dX8_signKind_116 rfl (by decide) ?_
    exact r_i dX8_signKind_118 rfl ⟨by unfold sgK; rw [if_pos (by omega)], T19.rf σ, by unfold sgN; rw [if_neg (by omega)]; omega, rfl, rfl, rfl⟩
  by_cases k10_60 : c = 60
  · refine e_tabIn (tgt := 140) dX8_signKind_10 ⟨by omega, by omega⟩ (by omega) (by omega) (by rw [k10_60]; rfl) (by decide) ?_
    refine e_iload_n (q := 141) (i := 2) dX8_signKind_140 rfl rfl rfl ?_
    refine e_bipush (q := 143) dX8_signKind_141 rfl (by decide) ?_
    refine e_icmp_eq (q := 146) (tgt := 155) dX8_signKind_143 rfl (by decide) (fun c143 => ?_) (fun c143 => ?_)
    · refine e_aload_n (q := 156) (i := 0) dX8_signKind_155 rfl rfl rfl ?_
      refine e_dup (q := 157) dX8_signKind_156 rfl rfl ?_
      refine e_getI (q := 160) (jz := 3) dX8_signKind_157 rfl fg_X8_40 rfl (by first | assumption | rfl) rfl ?_
      rw [h3]
      refine e_iconst (q := 161) dX8_signKind_160 rfl ?_
      refine e_iadd (q := 162) dX8_signKind_161 rfl ?_
      refine e_putI (q := 165) (jz := 3) dX8_signKind_162 rfl fp_X8_40 rfl (by first | assumption | rfl) rfl ?_
      refine e_iload_n (q := 166) (i := 2) dX8_signKind_165 rfl rfl rfl ?_
      refine e_bipush (q := 168) dX8_signKind_166 rfl (by decide) ?_
      refine e_icmp_ne (q := 171) (tgt := 176) dX8_signKind_168 rfl (by decide) (fun c168 => ?_) (fun c168 => ?_)
      · refine e_bipush (q := 178) dX8_signKind_176 rfl (by decide) ?_
        exact r_i dX8_signKind_178 rfl ⟨by unfold sgK; rw [if_neg (by omega), if_neg (by omega), if_neg (by omega), if_neg (by omega), if_neg (by omega), if_neg (by omega), if_neg (by omega), if_neg (by omega), if_pos (by omega), if_neg (by omega), if_pos (by omega)], (T19.rf σ).s (by decide) _, by rw [sI_1, if_pos ⟨rfl, rfl⟩]; unfold sgN; rw [if_pos (by omega)]; omega, by rw [sI_1, if_neg (by decide)], by rw [sI_1, if_neg (by decide)], by rw [sI_1, if_neg (by decide)]⟩
      · refine e_bipush (q := 173) dX8_signKind_171 rfl (by decide) ?_
        refine e_goto (tgt := 178) dX8_signKind_173 (by decide) ?_
        exact r_i dX8_signKind_178 rfl ⟨by unfold sgK; rw [if_neg (by omega), if_neg (by omega), if_neg (by omega), if_neg (by omega), if_neg (by omega), if_neg (by omega), if_neg (by omega), if_neg (by omega), if_pos (by omega), if_pos (by omega)], (T19.rf σ).s (by decide) _, by rw [sI_1, if_pos ⟨rfl, rfl⟩]; unfold sgN; rw [if_pos (by omega)]; omega, by rw [sI_1, if_neg (by decide)], by rw [sI_1, if_neg (by decide)], by rw [sI_1, if_neg (by decide)]⟩
    · refine e_iload_n (q := 147) (i := 2) dX8_signKind_146 rfl rfl rfl ?_
      refine e_bipush (q := 149) dX8_signKind_147 rfl (by decide) ?_
      refine e_icmp_eq (q := 152) (tgt := 155) dX8_signKind_149 rfl (by decide) (fun c149 => ?_) (fun c149 => ?_)
      · refine e_aload_n (q := 156) (i := 0) dX8_signKind_155 rfl rfl rfl ?_
        refine e_dup (q := 157) dX8_signKind_156 rfl rfl ?_
        refine e_getI (q := 160) (jz := 3) dX8_signKind_157 rfl fg_X8_40 rfl (by first | assumption | rfl) rfl ?_
        rw [h3]
        refine e_iconst (q := 161) dX8_signKind_160 rfl ?_
        refine e_iadd (q := 162) dX8_signKind_161 rfl ?_
        refine e_putI (q := 165) (jz := 3) dX8_signKind_162 rfl fp_X8_40 rfl (by first | assumption | rfl) rfl ?_
        refine e_iload_n (q := 166) (i := 2) dX8_signKind_165 rfl rfl rfl ?_
        refine e_bipush (q := 168) dX8_signKind_166 rfl (by decide) ?_
        refine e_icmp_ne (q := 171) (tgt := 176) dX8_signKind_168 rfl (by decide) (fun c168 => ?_) (fun c168 => ?_)
        · refine e_bipush (q := 178) dX8_signKind_176 rfl (by decide) ?_
          exact r_i dX8_signKind_178 rfl ⟨by unfold sgK; rw [if_neg (by omega), if_neg (by omega), if_neg (by omega), if_neg (by omega), if_neg (by omega), if_neg (by omega), if_neg (by omega), if_neg (by omega), if_pos (by omega), if_neg (by omega), if_pos (by omega)], (T19.rf σ).s (by decide) _, by rw [sI_1, if_pos ⟨rfl, rfl⟩]; unfold sgN; rw [if_pos (by omega)]; omega, by rw [sI_1, if_neg (by decide)], by rw [sI_1, if_neg (by decide)], by rw [sI_1, if_neg (by decide)]⟩
        · refine e_bipush (q := 173) dX8_signKind_171 rfl (by decide) ?_
          refine e_goto (tgt := 178) dX8_signKind_173 (by decide) ?_
          exact r_i dX8_signKind_178 rfl ⟨by unfold sgK; rw [if_neg (by omega), if_neg (by omega), if_neg (by omega), if_neg (by omega), if_neg (by omega), if_neg (by omega), if_neg (by omega), if_neg (by omega), if_pos (by omega), if_pos (by omega)], (T19.rf σ).s (by decide) _, by rw [sI_1, if_pos ⟨rfl, rfl⟩]; unfold sgN; rw [if_pos (by omega)]; omega, by rw [sI_1, if_neg (by decide)], by rw [sI_1, if_neg (by decide)], by rw [sI_1, if_neg (by decide)]⟩
      · refine e_bipush (q := 154) dX8_signKind_152 rfl (by decide) ?_
        exact r_i dX8_signKind_154 rfl ⟨by unfold sgK; rw [if_neg (by omega), if_neg (by omega), if_neg (by omega), if_neg (by omega), if_neg (by omega), if_neg (by omega), if_neg (by omega), if_neg (by omega), if_pos (by omega), if_neg (by omega), if_neg (by omega)], T19.rf σ, by unfold sgN; rw [if_neg (by omega)]; omega, rfl, rfl, rfl⟩
  by_cases k10_61 : c = 61
  · refine e_tabIn (tgt := 137) dX8_signKind_10 ⟨by omega, by omega⟩ (by omega) (by omega) (by rw [k10_61]; rfl) (by decide) ?_
    refine e_bipush (q := 139) dX8_signKind_137 rfl (by decide) ?_
    exact r_i dX8_signKind_139 rfl ⟨by unfold sgK; rw [if_neg (by omega), if_neg (by omega), if_neg (by omega), if_neg (by omega), if_neg (by omega), if_neg (by omega), if_neg (by omega), if_pos (by omega)], T19.rf σ, by unfold sgN; rw [if_neg (by omega)]; omega, rfl, rfl, rfl⟩
  by_cases k10_62 : c = 62
  · refine e_tabIn (tgt := 179) dX8_signKind_10 ⟨by omega, by omega⟩ (by omega) (by omega) (by rw [k10_62]; rfl) (by decide) ?_
    refine e_iload_n (q := 180) (i := 2) dX8_signKind_179 rfl rfl rfl ?_
    refine e_bipush (q := 182) dX8_signKind_180 rfl (by decide) ?_
    refine e_icmp_eq (q := 185) (tgt := 188) dX8_signKind_182 rfl (by decide) (fun c182 => ?_) (fun c182 => ?_)
    · refine e_aload_n (q := 189) (i := 0) dX8_signKind_188 rfl rfl rfl ?_
      refine e_dup (q := 190) dX8_signKind_189 rfl rfl ?_
      refine e_getI (q := 193) (jz := 3) dX8_signKind_190 rfl fg_X8_40 rfl (by first | assumption | rfl) rfl ?_
      rw [h3]
      refine e_iconst (q := 194) dX8_signKind_193 rfl ?_
      refine e_iadd (q := 195) dX8_signKind_194 rfl ?_
      refine e_putI (q := 198) (jz := 3) dX8_signKind_195 rfl fp_X8_40 rfl (by first | assumption | rfl) rfl ?_
      refine e_bipush (q := 200) dX8_signKind_198 rfl (by decide) ?_
      exact r_i dX8_signKind_200 rfl ⟨by unfold sgK; rw [if_neg (by omega), if_neg (by omega), if_neg (by omega), if_neg (by omega), if_neg (by omega), if_neg (by omega), if_neg (by omega), if_neg (by omega), if_neg (by omega), if_pos (by omega), if_pos (by omega)], (T19.rf σ).s (by decide) _, by rw [sI_1, if_pos ⟨rfl, rfl⟩]; unfold sgN; rw [if_pos (by omega)]; omega, by rw [sI_1, if_neg (by decide)], by rw [sI_1, if_neg (by decide)], by rw [sI_1, if_neg (by decide)]⟩
    · refine e_bipush (q := 187) dX8_signKind_185 rfl (by decide) ?_
      exact r_i dX8_signKind_187 rfl ⟨by unfold sgK; rw [if_neg (by omega), if_neg (by omega), if_neg (by omega), if_neg (by omega), if_neg (by omega), if_neg (by omega), if_neg (by omega), if_neg (by omega), if_neg (by omega), if_pos (by omega), if_neg (by omega)], T19.rf σ, by unfold sgN; rw [if_neg (by omega)]; omega, rfl, rfl, rfl⟩
  refine e_tabOut (tgt := 201) dX8_signKind_10 ⟨by omega, by omega⟩ (by omega) (by decide) ?_
  refine e_bipush (q := 203) dX8_signKind_201 rfl (by decide) ?_
  exact r_i dX8_signKind_203 rfl ⟨by unfold sgK; rw [if_neg (by omega), if_neg (by omega), if_neg (by omega), if_neg (by omega), if_neg (by omega), if_neg (by omega), if_neg (by omega), if_neg (by omega), if_neg (by omega), if_neg (by omega)], T19.rf σ, by unfold sgN; rw [if_neg (by omega)]; omega, rfl, rfl, rfl⟩

