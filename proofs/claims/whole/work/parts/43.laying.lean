/-! ===== children matched with ways: codes of four digits, way 0 the highest; the first best one ===== -/
def lyA (F : Int → Int → Int) (d : Int → Int) : Int := (1 + F 0 (d 0) + F 2 (d 2)) * (1 + F 1 (d 1) + F 3 (d 3))
def dg (n x w : Int) : Int := x / n ^ (3 - w).toNat % n
def lyV (n x : Int) : Prop := ∀ i j, 0 ≤ i → i < j → j < 4 → dg n x i = dg n x j → dg n x i = n - 1
def lyB (F : Int → Int → Int) (n K b : Int) : Prop := 0 ≤ b ∧ b < K ∧ lyV n b ∧ (∀ c, 0 ≤ c → c < b → lyV n c → lyA F (dg n c) < lyA F (dg n b)) ∧ (∀ c, 0 ≤ c → c < K → lyV n c → lyA F (dg n c) ≤ lyA F (dg n b))
def lyW (n x w : Int) : Int := if dg n x w < n - 1 then dg n x w else -2
def LyS (F : Int → Int → Int) (n K ini ar : Int) (bs : Int → Int) : Prop := ((∀ c, 0 ≤ c → c < K → ¬ lyV n c) ∧ ar = ini) ∨ ∃ b, lyB F n K b ∧ ar = lyA F (dg n b) ∧ ∀ w, 0 ≤ w → w < 4 → bs w = lyW n b w
theorem LyS_0 (F : Int → Int → Int) (n ini : Int) (bs : Int → Int) : LyS F n 0 ini ini bs := Or.inl ⟨fun c a b => absurd b (by omega), rfl⟩
theorem LyS_no {F : Int → Int → Int} {n K K' ini ar : Int} {bs : Int → Int} (h : LyS F n K ini ar bs) (hK : K ≤ K') (hv : ∀ c, K ≤ c → c < K' → ¬ lyV n c) : LyS F n K' ini ar bs := by
  rcases h with ⟨h1, h2⟩ | ⟨b, ⟨b0, b1, b2, b3, b4⟩, h2, h3⟩
  · refine Or.inl ⟨fun c a e => ?_, h2⟩
    by_cases q : c < K
    · exact h1 c a q
    · exact hv c (by omega) e
  · refine Or.inr ⟨b, ⟨b0, by omega, b2, b3, fun c a e v => ?_⟩, h2, h3⟩
    by_cases q : c < K
    · exact b4 c a q v
    · exact absurd v (hv c (by omega) e)
theorem LyS_le {F : Int → Int → Int} {n K ini ar : Int} {bs : Int → Int} (h : LyS F n K ini ar bs) (hi : ini < lyA F (dg n K)) (hl : lyA F (dg n K) ≤ ar) : LyS F n (K + 1) ini ar bs := by
  rcases h with ⟨h1, h2⟩ | ⟨b, ⟨b0, b1, b2, b3, b4⟩, h2, h3⟩
  · exact absurd hl (by omega)
  · refine Or.inr ⟨b, ⟨b0, by omega, b2, b3, fun c a e v => ?_⟩, h2, h3⟩
    by_cases q : c = K
    · rw [q]; omega
    · exact b4 c a (by omega) v
theorem LyS_up {F : Int → Int → Int} {n K ini ar : Int} {bs bs' : Int → Int} (h : LyS F n K ini ar bs) (h0 : 0 ≤ K) (hv : lyV n K) (hl : ar < lyA F (dg n K)) (hb : ∀ w, 0 ≤ w → w < 4 → bs' w = lyW n K w) : LyS F n (K + 1) ini (lyA F (dg n K)) bs' := by
  refine Or.inr ⟨K, ⟨h0, by omega, hv, fun c a e v => ?_, fun c a e v => ?_⟩, rfl, hb⟩
  · rcases h with ⟨h1, h2⟩ | ⟨b, ⟨b0, b1, b2, b3, b4⟩, h2, h3⟩
    · exact absurd v (h1 c a e)
    · have := b4 c a e v; omega
  · by_cases q : c = K
    · rw [q]; omega
    · rcases h with ⟨h1, h2⟩ | ⟨b, ⟨b0, b1, b2, b3, b4⟩, h2, h3⟩
      · exact absurd v (h1 c a (by omega))
      · have := b4 c a (by omega) v; omega
theorem lyB_un {F : Int → Int → Int} {n K b b' : Int} (h : lyB F n K b) (h' : lyB F n K b') : b = b' := by
  obtain ⟨a0, a1, a2, a3, a4⟩ := h
  obtain ⟨c0, c1, c2, c3, c4⟩ := h'
  by_cases q : b < b'
  · have := c3 b a0 q a2
    have := a4 b' c0 c1 c2
    omega
  · by_cases r : b' < b
    · have := a3 b' c0 r c2
      have := c4 b a0 a1 a2
      omega
    · omega
theorem n4_in {n : Int} (h1 : 1 ≤ n) (h7 : n ≤ 7) {k : Int} (k4 : k ≤ 4) : 1 ≤ n ^ k.toNat ∧ n ^ k.toNat ≤ 2401 := by
  obtain ⟨n, rfl⟩ := Int.eq_ofNat_of_zero_le (show 0 ≤ n by omega)
  have : ∀ c : Nat, c < 8 → ∀ k : Nat, k < 5 → 1 ≤ (c : Int) → 1 ≤ (c : Int) ^ k ∧ (c : Int) ^ k ≤ 2401 := by decide +kernel
  exact this n (by omega) k.toNat (by omega) h1
theorem dg_in {n x w : Int} (h1 : 1 ≤ n) : 0 ≤ dg n x w ∧ dg n x w ≤ n - 1 := by
  have a := Int.emod_nonneg (x / n ^ (3 - w).toNat) (show n ≠ 0 by omega)
  have b := Int.emod_lt_of_pos (x / n ^ (3 - w).toNat) (show 0 < n by omega)
  unfold dg
  omega
theorem last_V {n : Int} (h1 : 1 ≤ n) (h7 : n ≤ 7) : lyV n (n ^ 4 - 1) := by
  have e : ∀ w, 0 ≤ w → w < 4 → dg n (n ^ 4 - 1) w = n - 1 := by
    intro w a b
    obtain ⟨n, rfl⟩ := Int.eq_ofNat_of_zero_le (show 0 ≤ n by omega)
    obtain ⟨w, rfl⟩ := Int.eq_ofNat_of_zero_le a
    have : ∀ c : Nat, c < 8 → ∀ k : Nat, k < 4 → 1 ≤ (c : Int) → ((c : Int) ^ 4 - 1) / (c : Int) ^ (3 - (k : Int)).toNat % (c : Int) = (c : Int) - 1 := by decide +kernel
    exact this n (by omega) w (by omega) h1
  intro i j h0 h2 h3 h4
  rw [e i h0 (by omega)]
theorem LyS_end {F : Int → Int → Int} {n ini ar : Int} {bs : Int → Int} (h1 : 1 ≤ n) (h7 : n ≤ 7) (h : LyS F n (n ^ 4) ini ar bs) : ∃ b, lyB F n (n ^ 4) b ∧ ar = lyA F (dg n b) ∧ ∀ w, 0 ≤ w → w < 4 → bs w = lyW n b w := by
  rcases h with ⟨h2, -⟩ | h
  · have := n4_in h1 h7 (k := 4) (by decide)
    rw [show (4 : Int).toNat = 4 from rfl] at this
    exact absurd (last_V h1 h7) (h2 _ (by omega) (by omega))
  · exact h
theorem lyA_in {F : Int → Int → Int} {d : Int → Int} (h : ∀ w, 0 ≤ w → w < 4 → 0 ≤ F w (d w) ∧ F w (d w) ≤ 39) : 1 ≤ lyA F d ∧ lyA F d ≤ 6400 := by
  have a := h 0 (by decide) (by decide)
  have b := h 1 (by decide) (by decide)
  have c := h 2 (by decide) (by decide)
  have e := h 3 (by decide) (by decide)
  unfold lyA
  have h1 := Int.mul_le_mul (show 1 + F 0 (d 0) + F 2 (d 2) ≤ 80 by omega) (show 1 + F 1 (d 1) + F 3 (d 3) ≤ 80 by omega) (by omega) (by decide)
  have h2 := Int.mul_pos (show 0 < 1 + F 0 (d 0) + F 2 (d 2) by omega) (show 0 < 1 + F 1 (d 1) + F 3 (d 3) by omega)
  omega
theorem lyA_c {F F' : Int → Int → Int} {d d' : Int → Int} (h : ∀ w, 0 ≤ w → w < 4 → F w (d w) = F' w (d' w)) : lyA F d = lyA F' d' := by
  unfold lyA
  rw [h 0 (by decide) (by decide), h 1 (by decide) (by decide), h 2 (by decide) (by decide), h 3 (by decide) (by decide)]
/-- sets of children as bits -/
theorem bt_and {x c : Int} (x0 : 0 ≤ x) (x1 : x < 64) (c0 : 0 ≤ c) (c1 : c < 6) : iZ x &&& iZ (2 ^ c.toNat) = iZ (x / 2 ^ c.toNat % 2 * 2 ^ c.toNat) := by
  obtain ⟨x, rfl⟩ := Int.eq_ofNat_of_zero_le x0
  obtain ⟨c, rfl⟩ := Int.eq_ofNat_of_zero_le c0
  have : ∀ x : Nat, x < 64 → ∀ c : Nat, c < 6 → iZ x &&& iZ (2 ^ c) = iZ ((x : Int) / 2 ^ c % 2 * 2 ^ c) := by decide +kernel
  exact this x (by omega) c (by omega)
theorem bt_or {x c : Int} (x0 : 0 ≤ x) (x1 : x < 64) (c0 : 0 ≤ c) (c1 : c < 6) (h : x / 2 ^ c.toNat % 2 = 0) : iZ x ||| iZ (2 ^ c.toNat) = iZ (x + 2 ^ c.toNat) ∧ x + 2 ^ c.toNat < 64 ∧ ∀ e : Int, 0 ≤ e → e < 6 → (x + 2 ^ c.toNat) / 2 ^ e.toNat % 2 = if e = c then 1 else x / 2 ^ e.toNat % 2 := by
  obtain ⟨x, rfl⟩ := Int.eq_ofNat_of_zero_le x0
  obtain ⟨c, rfl⟩ := Int.eq_ofNat_of_zero_le c0
  have h1 : ∀ x : Nat, x < 64 → ∀ c : Nat, c < 6 → (x : Int) / 2 ^ c % 2 = 0 → iZ x ||| iZ (2 ^ c) = iZ ((x : Int) + 2 ^ c) ∧ (x : Int) + 2 ^ c < 64 := by decide +kernel
  have h2 : ∀ x : Nat, x < 64 → ∀ c : Nat, c < 6 → ∀ e : Nat, e < 6 → (x : Int) / 2 ^ c % 2 = 0 → ((x : Int) + 2 ^ c) / 2 ^ e % 2 = if e = c then 1 else (x : Int) / 2 ^ e % 2 := by decide +kernel
  refine ⟨(h1 x (by omega) c (by omega) h).1, (h1 x (by omega) c (by omega) h).2, fun e e0 e1 => ?_⟩
  obtain ⟨e, rfl⟩ := Int.eq_ofNat_of_zero_le e0
  have := h2 x (by omega) c (by omega) e (by omega) h
  by_cases q : e = c
  · rw [if_pos q] at this; rw [if_pos (by omega)]; exact this
  · rw [if_neg q] at this; rw [if_neg (by omega)]; exact this
theorem p2_32 {c : Int} (c1 : c < 6) : (1 : Int) ≤ 2 ^ c.toNat ∧ (2 : Int) ^ c.toNat ≤ 32 := by
  have : ∀ k : Nat, k < 6 → (1 : Int) ≤ 2 ^ k ∧ (2 : Int) ^ k ≤ 32 := by decide +kernel
  exact this c.toNat (by omega)
def cFr (σ : Sg) (p w c : Int) : Int := if c < σ.1 2 3 then wkF σ c (4 * p + w) (σ.1 41 (4 * p + w)) else σ.1 40 (4 * p + w)
theorem wkF_in {σ : Sg} (hT : TI σ) {c s sw : Int} (h0 : 0 ≤ s) (h1 : s < 4 * σ.1 2 2) : 0 ≤ wkF σ c s sw ∧ wkF σ c s sw ≤ 39 := gStone_in (edS_in hT h0 h1)
theorem cFr_in {σ : Sg} (hT : TI σ) (hI : LI σ 39) {p w c : Int} (hp : 0 ≤ p) (hp1 : p < σ.1 2 2) (hw : 0 ≤ w) (hw4 : w < 4) : 0 ≤ cFr σ p w c ∧ cFr σ p w c ≤ 39 := by
  unfold cFr
  split
  · exact wkF_in hT (by omega) (by omega)
  · have := hI.1 (4 * p + w) (by omega) (by have := hT.2.2.1; omega)
    exact ⟨this.1, this.2.1⟩

theorem c_X4_farOf {G : Gx} {σ : Sg} {x : Int} (hx0 : 0 ≤ x) (hx4 : x < 4) (h0 : 0 ≤ σ.1 80 x) (h6 : σ.1 80 x ≤ 6) : Con G 1 mX4_farOf [.ref (G.2.2.2 + 78), .int (iZ x)] σ (pI (pE σ (σ.1 79 (7 * x + σ.1 80 x)))) := by
  refine e_entry om_X4_farOf (Nat.le_of_ble_eq_true rfl) (L := [some (.ref (G.2.2.2 + 78)), some (.int (iZ x))]) rfl ?_
  refine e_aload_n (q := 1) (i := 0) dX4_farOf_0 rfl rfl rfl ?_
  refine e_getR (q := 4) dX4_farOf_1 rfl fg_X4_19 (by first | assumption | rfl) rfl ?_
  refine e_bipush (q := 6) dX4_farOf_4 rfl (by decide) ?_
  refine e_iload_n (q := 7) (i := 1) dX4_farOf_6 rfl rfl rfl ?_
  refine e_imul (q := 8) dX4_farOf_7 rfl ?_
  refine e_aload_n (q := 9) (i := 0) dX4_farOf_8 rfl rfl rfl ?_
  refine e_getR (q := 12) dX4_farOf_9 rfl fg_X4_23 (by first | assumption | rfl) rfl ?_
  refine e_iload_n (q := 13) (i := 1) dX4_farOf_12 rfl rfl rfl ?_
  refine e_iald (q := 14) dX4_farOf_13 rfl (by first | assumption | rfl) ?_
  refine e_iadd (q := 15) dX4_farOf_14 rfl ?_
  refine e_iald (q := 16) dX4_farOf_15 rfl (by first | assumption | rfl) ?_
  exact r_i dX4_farOf_16 rfl ⟨rfl, rfl⟩

theorem c_X4_keepPicked {G : Gx} {σ : Sg} (hn0 : 0 ≤ (σ.1 2 3)) (hn1 : (σ.1 2 3) ≤ 6) (hP : ∀ i, 0 ≤ i → i < 4 → 0 ≤ σ.1 80 i ∧ σ.1 80 i ≤ (σ.1 2 3)) : Con G 1 mX4_keepPicked [.ref (G.2.2.2 + 78)] σ (pV (fun σ' => Fr [81] σ σ' ∧ ∀ i, 0 ≤ i → i < 4 → σ'.1 81 i = if σ.1 80 i < (σ.1 2 3) then σ.1 80 i else -2)) := by
  have lp : ∀ (n : Nat) (τ : Sg) (k : Int), 0 ≤ k → k + n = 4 → Fr [81] σ τ → (∀ j, 0 ≤ j → j < k → τ.1 81 j = if σ.1 80 j < (σ.1 2 3) then σ.1 80 j else -2) → J G 1 mX4_keepPicked (pV (fun σ' => Fr [81] σ σ' ∧ ∀ i, 0 ≤ i → i < 4 → σ'.1 81 i = if σ.1 80 i < (σ.1 2 3) then σ.1 80 i else -2)) τ 2 [some (.ref (G.2.2.2 + 78)), some (.int (iZ k))] [] := by
    intro n
    induction n with
    | zero =>
      intro τ k h0 hn hF hb
      have e80 : τ.1 80 = σ.1 80 := (hF 80 (by decide)).1
      have e2 : τ.1 2 = σ.1 2 := (hF 2 (by decide)).1
      refine e_iload_n (q := 3) (i := 1) dX4_keepPicked_2 rfl rfl rfl ?_
      refine e_iconst (q := 4) dX4_keepPicked_3 rfl ?_
      refine e_icmp_ge (q := 7) (tgt := 46) dX4_keepPicked_4 rfl (by decide) (fun c4 => ?_) (fun c4 => absurd (by omega) c4)
      exact r_v dX4_keepPicked_46 rfl ⟨hF, fun i a b => hb i a (by omega)⟩
    | succ n ih =>
      intro τ k h0 hn hF hb
      have e80 : τ.1 80 = σ.1 80 := (hF 80 (by decide)).1
      have e2 : τ.1 2 = σ.1 2 := (hF 2 (by decide)).1
      refine e_iload_n (q := 3) (i := 1) dX4_keepPicked_2 rfl rfl rfl ?_
      refine e_iconst (q := 4) dX4_keepPicked_3 rfl ?_
      refine e_icmp_ge (q := 7) (tgt := 46) dX4_keepPicked_4 rfl (by decide) (fun c4 => absurd c4 (by omega)) (fun c4 => ?_)
      have hk := hP k h0 (by omega)
      refine e_aload_n (q := 8) (i := 0) dX4_keepPicked_7 rfl rfl rfl ?_
      refine e_getR (q := 11) dX4_keepPicked_8 rfl fg_X4_26 (by first | assumption | rfl) rfl ?_
      refine e_iload_n (q := 12) (i := 1) dX4_keepPicked_11 rfl rfl rfl ?_
      refine e_aload_n (q := 13) (i := 0) dX4_keepPicked_12 rfl rfl rfl ?_
      refine e_getR (q := 16) dX4_keepPicked_13 rfl fg_X4_23 (by first | assumption | rfl) rfl ?_
      refine e_iload_n (q := 17) (i := 1) dX4_keepPicked_16 rfl rfl rfl ?_
      refine e_iald (q := 18) dX4_keepPicked_17 rfl (by first | assumption | rfl) ?_
      refine e_aload_n (q := 19) (i := 0) dX4_keepPicked_18 rfl rfl rfl ?_
      refine e_getR (q := 22) dX4_keepPicked_19 rfl fg_X4_9 (by first | assumption | rfl) rfl ?_
      refine e_getI (q := 25) (jz := 3) dX4_keepPicked_22 rfl fg_X4_33 rfl (by first | assumption | rfl) rfl ?_
      rw [e80, e2]
      refine e_icmp_ge (q := 28) (tgt := 37) dX4_keepPicked_25 rfl (by decide) (fun c25 => ?_) (fun c25 => ?_)
      · refine e_bipush (q := 39) dX4_keepPicked_37 rfl (by decide) ?_
        refine e_iast (q := 40) dX4_keepPicked_39 rfl (by first | assumption | rfl) ?_
        refine e_iinc (q := 43) (L' := [_, _]) dX4_keepPicked_40 rfl rfl (by decide) rfl rfl ?_
        refine e_goto (tgt := 2) dX4_keepPicked_43 (by decide) ?_
        refine ih _ _ (by omega) (by omega) (hF.sI (by decide) _ _) (fun j a b => ?_)
        rw [sI_1]
        by_cases e : j = k
        · rw [if_pos ⟨rfl, e⟩, e]
          first | (rw [if_pos (by omega)]; done) | (rw [if_neg (by omega)]; done)
        · rw [if_neg (fun q => e q.2)]
          exact hb j a (by omega)
      · refine e_aload_n (q := 29) (i := 0) dX4_keepPicked_28 rfl rfl rfl ?_
        refine e_getR (q := 32) dX4_keepPicked_29 rfl fg_X4_23 (by first | assumption | rfl) rfl ?_
        refine e_iload_n (q := 33) (i := 1) dX4_keepPicked_32 rfl rfl rfl ?_
        refine e_iald (q := 34) dX4_keepPicked_33 rfl (by first | assumption | rfl) ?_
        refine e_goto (tgt := 39) dX4_keepPicked_34 (by decide) ?_
        rw [e80]
        refine e_iast (q := 40) dX4_keepPicked_39 rfl (by first | assumption | rfl) ?_
        refine e_iinc (q := 43) (L' := [_, _]) dX4_keepPicked_40 rfl rfl (by decide) rfl rfl ?_
        refine e_goto (tgt := 2) dX4_keepPicked_43 (by decide) ?_
        refine ih _ _ (by omega) (by omega) (hF.sI (by decide) _ _) (fun j a b => ?_)
        rw [sI_1]
        by_cases e : j = k
        · rw [if_pos ⟨rfl, e⟩, e]
          first | (rw [if_pos (by omega)]; done) | (rw [if_neg (by omega)]; done)
        · rw [if_neg (fun q => e q.2)]
          exact hb j a (by omega)
  refine e_entry om_X4_keepPicked (Nat.le_of_ble_eq_true rfl) (L := [some (.ref (G.2.2.2 + 78)), none]) rfl ?_
  refine e_iconst (q := 1) dX4_keepPicked_0 rfl ?_
  refine e_istore_n (q := 2) (i := 1) (L' := [_, _]) dX4_keepPicked_1 rfl rfl (by decide) rfl rfl ?_
  exact lp 4 σ 0 (by decide) (by decide) (Fr.rf _ _) (fun j a b => absurd b (by omega))

theorem c_X4_pick {G : Gx} {σ : Sg} {x m : Int} (hx0 : 0 ≤ x) (hx1 : x ≤ 2401) (hm1 : 1 ≤ m) (hm7 : m ≤ 7) : Con G 1 mX4_pick [.ref (G.2.2.2 + 78), .int (iZ x), .int (iZ m)] σ (pV (fun σ' => Fr [80] σ σ' ∧ ∀ i, 0 ≤ i → i < 4 → σ'.1 80 i = dg m x i)) := by
  have lp : ∀ (n : Nat) (τ : Sg) (k z : Int), -1 ≤ k → k + 1 = n → k ≤ 3 → z = x / m ^ (3 - k).toNat → Fr [80] σ τ → (∀ j, k < j → j < 4 → τ.1 80 j = dg m x j) → J G 1 mX4_pick (pV (fun σ' => Fr [80] σ σ' ∧ ∀ i, 0 ≤ i → i < 4 → σ'.1 80 i = dg m x i)) τ 5 [some (.ref (G.2.2.2 + 78)), some (.int (iZ x)), some (.int (iZ m)), some (.int (iZ z)), some (.int (iZ k))] [] := by
    intro n
    induction n with
    | zero =>
      intro τ k z h0 hn hk3 hz hF hb
      refine e_iload (q := 7) dX4_pick_5 rfl rfl ?_
      refine e_if_lt (q := 10) (tgt := 34) dX4_pick_7 rfl (by decide) (fun c7 => ?_) (fun c7 => absurd (by omega) c7)
      exact r_v dX4_pick_34 rfl ⟨hF, fun i a b => hb i (by omega) b⟩
    | succ n ih =>
      intro τ k z h0 hn hk3 hz hF hb
      refine e_iload (q := 7) dX4_pick_5 rfl rfl ?_
      refine e_if_lt (q := 10) (tgt := 34) dX4_pick_7 rfl (by decide) (fun c7 => absurd c7 (by omega)) (fun c7 => ?_)
      refine e_iload_n (q := 11) (i := 2) dX4_pick_10 rfl rfl rfl ?_
      refine e_if_le (q := 14) (tgt := 34) dX4_pick_11 rfl (by decide) (fun c11 => absurd c11 (by omega)) (fun c11 => ?_)
      have hq := n4_in hm1 hm7 (show 3 - k ≤ 4 by omega)
      have hz0 := Int.ediv_nonneg hx0 (show 0 ≤ m ^ (3 - k).toNat by omega)
      have hz1 := Int.ediv_le_self (m ^ (3 - k).toNat) hx0
      refine e_aload_n (q := 15) (i := 0) dX4_pick_14 rfl rfl rfl ?_
      refine e_getR (q := 18) dX4_pick_15 rfl fg_X4_23 (by first | assumption | rfl) rfl ?_
      refine e_iload (q := 20) dX4_pick_18 rfl rfl ?_
      refine e_iload_n (q := 21) (i := 3) dX4_pick_20 rfl rfl rfl ?_
      refine e_iload_n (q := 22) (i := 2) dX4_pick_21 rfl rfl rfl ?_
      refine e_irem (q := 23) dX4_pick_22 rfl (iZ_ne0 ⟨by omega, by omega⟩ (by omega)) (iZ_rem (by omega) (by omega) (by omega) (by omega)) ?_
      refine e_iast (q := 24) dX4_pick_23 rfl (by first | assumption | rfl) ?_
      refine e_iload_n (q := 25) (i := 3) dX4_pick_24 rfl rfl rfl ?_
      refine e_iload_n (q := 26) (i := 2) dX4_pick_25 rfl rfl rfl ?_
      refine e_idiv (q := 27) dX4_pick_26 rfl (iZ_ne0 ⟨by omega, by omega⟩ (by omega)) (iZ_div (by omega) (by omega) (by omega) (by omega)) ?_
      refine e_istore_n (q := 28) (i := 3) (L' := [_, _, _, _, _]) dX4_pick_27 rfl rfl (by decide) rfl rfl ?_
      refine e_iinc (q := 31) (L' := [_, _, _, _, _]) dX4_pick_28 rfl rfl (by decide) rfl rfl ?_
      refine e_goto (tgt := 5) dX4_pick_31 (by decide) ?_
      refine ih _ _ _ (by omega) (by omega) (by omega) (by rw [hz, show (3 - (k + -1)).toNat = (3 - k).toNat + 1 by omega, Int.pow_succ, Int.ediv_ediv_of_nonneg (by omega)]) (hF.sI (by decide) _ _) (fun j a b => ?_)
      rw [sI_1]
      by_cases e : j = k
      · rw [if_pos ⟨rfl, e⟩, e, hz]; rfl
      · rw [if_neg (fun q => e q.2)]
        exact hb j (by omega) b
  refine e_entry om_X4_pick (Nat.le_of_ble_eq_true rfl) (L := [some (.ref (G.2.2.2 + 78)), some (.int (iZ x)), some (.int (iZ m)), none, none]) rfl ?_
  refine e_iload_n (q := 1) (i := 1) dX4_pick_0 rfl rfl rfl ?_
  refine e_istore_n (q := 2) (i := 3) (L' := [_, _, _, _, _]) dX4_pick_1 rfl rfl (by decide) rfl rfl ?_
  refine e_iconst (q := 3) dX4_pick_2 rfl ?_
  refine e_istore (q := 5) (L' := [_, _, _, _, _]) dX4_pick_3 rfl (by decide) rfl rfl ?_
  exact lp 4 σ 3 x (by decide) (by decide) (by decide) (by rw [show (3 - (3 : Int)).toNat = 0 from rfl, Int.pow_zero, Int.ediv_one]) (Fr.rf _ _) (fun j a b => absurd b (by omega))

theorem iZ_or0c (x : Int) : iZ x ||| iZ 0 = iZ x := by
  have : iZ 0 = 0 := by decide
  rw [this, Int32.or_zero]
set_option maxHeartbeats 4000000 in
theorem c_X4_nobodyTwice {G : Gx} {σ : Sg} (hn0 : 0 ≤ (σ.1 2 3)) (hn1 : (σ.1 2 3) ≤ 6) (hP : ∀ i, 0 ≤ i → i < 4 → 0 ≤ σ.1 80 i ∧ σ.1 80 i ≤ (σ.1 2 3)) : Con G 1 mX4_nobodyTwice [.ref (G.2.2.2 + 78)] σ (pI (fun z σ' => ((z = 1 ∧ (∀ i j, 0 ≤ i → i < j → j < 4 → σ.1 80 i = σ.1 80 j → σ.1 80 i = (σ.1 2 3))) ∨ (z = 0 ∧ ¬ (∀ i j, 0 ≤ i → i < j → j < 4 → σ.1 80 i = σ.1 80 j → σ.1 80 i = (σ.1 2 3)))) ∧ σ' = σ)) := by
  have lp : ∀ (n : Nat) (k x : Int) (x3 : Option Value), 0 ≤ k → k + n = 4 → 0 ≤ x → x < 64 → (∀ c, 0 ≤ c → c < 6 → (x / 2 ^ c.toNat % 2 = 1 ↔ c < (σ.1 2 3) ∧ ∃ i, 0 ≤ i ∧ i < k ∧ σ.1 80 i = c)) → (∀ i j, 0 ≤ i → i < j → j < k → σ.1 80 i = σ.1 80 j → σ.1 80 i = (σ.1 2 3)) → J G 1 mX4_nobodyTwice (pI (fun z σ' => ((z = 1 ∧ (∀ i j, 0 ≤ i → i < j → j < 4 → σ.1 80 i = σ.1 80 j → σ.1 80 i = (σ.1 2 3))) ∨ (z = 0 ∧ ¬ (∀ i j, 0 ≤ i → i < j → j < 4 → σ.1 80 i = σ.1 80 j → σ.1 80 i = (σ.1 2 3)))) ∧ σ' = σ)) σ 4 [some (.ref (G.2.2.2 + 78)), some (.int (iZ x)), some (.int (iZ k)), x3] [] := by
    intro n
    induction n with
    | zero =>
      intro k x x3 h0 hn hx0 hx1 hb hv
      refine e_iload_n (q := 5) (i := 2) dX4_nobodyTwice_4 rfl rfl rfl ?_
      refine e_iconst (q := 6) dX4_nobodyTwice_5 rfl ?_
      refine e_icmp_ge (q := 9) (tgt := 56) dX4_nobodyTwice_6 rfl (by decide) (fun c6 => ?_) (fun c6 => absurd (by omega) c6)
      refine e_iconst (q := 57) dX4_nobodyTwice_56 rfl ?_
      exact r_z dX4_nobodyTwice_57 rfl (by first | exact Or.inl rfl | exact Or.inr rfl | omega) ⟨Or.inl ⟨rfl, fun i j a b c => hv i j a b (by omega)⟩, rfl⟩
    | succ n ih =>
      intro k x x3 h0 hn hx0 hx1 hb hv
      refine e_iload_n (q := 5) (i := 2) dX4_nobodyTwice_4 rfl rfl rfl ?_
      refine e_iconst (q := 6) dX4_nobodyTwice_5 rfl ?_
      refine e_icmp_ge (q := 9) (tgt := 56) dX4_nobodyTwice_6 rfl (by decide) (fun c6 => absurd c6 (by omega)) (fun c6 => ?_)
      have hk := hP k h0 (by omega)
      refine e_aload_n (q := 10) (i := 0) dX4_nobodyTwice_9 rfl rfl rfl ?_
      refine e_getR (q := 13) dX4_nobodyTwice_10 rfl fg_X4_23 (by first | assumption | rfl) rfl ?_
      refine e_iload_n (q := 14) (i := 2) dX4_nobodyTwice_13 rfl rfl rfl ?_
      refine e_iald (q := 15) dX4_nobodyTwice_14 rfl (by first | assumption | rfl) ?_
      refine e_aload_n (q := 16) (i := 0) dX4_nobodyTwice_15 rfl rfl rfl ?_
      refine e_getR (q := 19) dX4_nobodyTwice_16 rfl fg_X4_9 (by first | assumption | rfl) rfl ?_
      refine e_getI (q := 22) (jz := 3) dX4_nobodyTwice_19 rfl fg_X4_33 rfl (by first | assumption | rfl) rfl ?_
      refine e_icmp_ge (q := 25) (tgt := 36) dX4_nobodyTwice_22 rfl (by decide) (fun c22 => ?_) (fun c22 => ?_)
      · refine e_iconst (q := 37) dX4_nobodyTwice_36 rfl ?_
        refine e_istore_n (q := 38) (i := 3) (L' := [_, _, _, _]) dX4_nobodyTwice_37 rfl rfl (by decide) rfl rfl ?_
        refine e_iload_n (q := 39) (i := 1) dX4_nobodyTwice_38 rfl rfl rfl ?_
        refine e_iload_n (q := 40) (i := 3) dX4_nobodyTwice_39 rfl rfl rfl ?_
        refine e_iand (q := 41) dX4_nobodyTwice_40 rfl (show iZ x &&& iZ 0 = iZ 0 from by rw [show iZ 0 = 0 from rfl, Int32.and_zero]) ?_
        refine e_if_eq (q := 44) (tgt := 46) dX4_nobodyTwice_41 rfl (by decide) (fun c41 => ?_) (fun c41 => absurd (by omega) c41)
        refine e_iload_n (q := 47) (i := 1) dX4_nobodyTwice_46 rfl rfl rfl ?_
        refine e_iload_n (q := 48) (i := 3) dX4_nobodyTwice_47 rfl rfl rfl ?_
        refine e_ior (q := 49) dX4_nobodyTwice_48 rfl (iZ_or0c x) ?_
        refine e_istore_n (q := 50) (i := 1) (L' := [_, _, _, _]) dX4_nobodyTwice_49 rfl rfl (by decide) rfl rfl ?_
        refine e_iinc (q := 53) (L' := [_, _, _, _]) dX4_nobodyTwice_50 rfl rfl (by decide) rfl rfl ?_
        refine e_goto (tgt := 4) dX4_nobodyTwice_53 (by decide) ?_
        refine ih _ _ _ (by omega) (by omega) hx0 hx1 (fun c a b => ?_) (fun i j a b c e => ?_)
        · rw [hb c a b]
          exact ⟨fun ⟨u, i, i0, i1, i2⟩ => ⟨u, i, i0, by omega, i2⟩, fun ⟨u, i, i0, i1, i2⟩ => ⟨u, i, i0, by
            by_cases r : i = k
            · rw [r] at i2; omega
            · omega, i2⟩⟩
        · by_cases r : j = k
          · subst r; omega
          · exact hv i j a b (by omega) e
      · have hq := p2_32 (c := σ.1 80 k) (by omega)
        have hbk := hb (σ.1 80 k) hk.1 (by omega)
        have hbd : x / 2 ^ (σ.1 80 k).toNat % 2 = 0 ∨ x / 2 ^ (σ.1 80 k).toNat % 2 = 1 := by omega
        refine e_iconst (q := 26) dX4_nobodyTwice_25 rfl ?_
        refine e_aload_n (q := 27) (i := 0) dX4_nobodyTwice_26 rfl rfl rfl ?_
        refine e_getR (q := 30) dX4_nobodyTwice_27 rfl fg_X4_23 (by first | assumption | rfl) rfl ?_
        refine e_iload_n (q := 31) (i := 2) dX4_nobodyTwice_30 rfl rfl rfl ?_
        refine e_iald (q := 32) dX4_nobodyTwice_31 rfl (by first | assumption | rfl) ?_
        refine e_ishl (q := 33) dX4_nobodyTwice_32 rfl (iZ_shl1 (by omega) (by omega)) ?_
        refine e_goto (tgt := 37) dX4_nobodyTwice_33 (by decide) ?_
        refine e_istore_n (q := 38) (i := 3) (L' := [_, _, _, _]) dX4_nobodyTwice_37 rfl rfl (by decide) rfl rfl ?_
        refine e_iload_n (q := 39) (i := 1) dX4_nobodyTwice_38 rfl rfl rfl ?_
        refine e_iload_n (q := 40) (i := 3) dX4_nobodyTwice_39 rfl rfl rfl ?_
        refine e_iand (q := 41) dX4_nobodyTwice_40 rfl (bt_and hx0 hx1 hk.1 (by omega)) ?_
        refine e_if_eq (q := 44) (tgt := 46) dX4_nobodyTwice_41 rfl (by decide) (fun c41 => ?_) (fun c41 => ?_) (hx := by rcases hbd with q | q <;> rw [q] <;> exact ⟨by omega, by omega⟩)
        · refine e_iload_n (q := 47) (i := 1) dX4_nobodyTwice_46 rfl rfl rfl ?_
          refine e_iload_n (q := 48) (i := 3) dX4_nobodyTwice_47 rfl rfl rfl ?_
          have h1 : x / 2 ^ (σ.1 80 k).toNat % 2 = 0 := by
            rcases hbd with q | q
            · exact q
            · rw [q] at c41; omega
          have hor := bt_or hx0 hx1 hk.1 (by omega) h1
          refine e_ior (q := 49) dX4_nobodyTwice_48 rfl hor.1 ?_
          refine e_istore_n (q := 50) (i := 1) (L' := [_, _, _, _]) dX4_nobodyTwice_49 rfl rfl (by decide) rfl rfl ?_
          refine e_iinc (q := 53) (L' := [_, _, _, _]) dX4_nobodyTwice_50 rfl rfl (by decide) rfl rfl ?_
          refine e_goto (tgt := 4) dX4_nobodyTwice_53 (by decide) ?_
          refine ih _ _ _ (by omega) (by omega) (by omega) hor.2.1 (fun c a b => ?_) (fun i j a b c e => ?_)
          · rw [hor.2.2 c a b]
            by_cases q : c = σ.1 80 k
            · rw [if_pos q]
              exact ⟨fun _ => ⟨by omega, k, h0, by omega, q.symm⟩, fun _ => rfl⟩
            · rw [if_neg q, hb c a b]
              exact ⟨fun ⟨u, i, i0, i1, i2⟩ => ⟨u, i, i0, by omega, i2⟩, fun ⟨u, i, i0, i1, i2⟩ => ⟨u, i, i0, by
                by_cases r : i = k
                · rw [r] at i2; exact absurd i2.symm q
                · omega, i2⟩⟩
          · by_cases r : j = k
            · subst r
              exfalso
              have := hbk.mpr ⟨by omega, i, a, b, e⟩
              omega
            · exact hv i j a b (by omega) e
        · refine e_iconst (q := 45) dX4_nobodyTwice_44 rfl ?_
          have h1 : x / 2 ^ (σ.1 80 k).toNat % 2 = 1 := by
            rcases hbd with q | q
            · rw [q] at c41; omega
            · exact q
          obtain ⟨hc, i, i0, i1, i2⟩ := hbk.mp h1
          exact r_z dX4_nobodyTwice_45 rfl (by first | exact Or.inl rfl | exact Or.inr rfl | omega) ⟨Or.inr ⟨rfl, fun q => by have := q i k i0 i1 (by omega) i2; omega⟩, rfl⟩
  refine e_entry om_X4_nobodyTwice (Nat.le_of_ble_eq_true rfl) (L := [some (.ref (G.2.2.2 + 78)), none, none, none]) rfl ?_
  refine e_iconst (q := 1) dX4_nobodyTwice_0 rfl ?_
  refine e_istore_n (q := 2) (i := 1) (L' := [_, _, _, _]) dX4_nobodyTwice_1 rfl rfl (by decide) rfl rfl ?_
  refine e_iconst (q := 3) dX4_nobodyTwice_2 rfl ?_
  refine e_istore_n (q := 4) (i := 2) (L' := [_, _, _, _]) dX4_nobodyTwice_3 rfl rfl (by decide) rfl rfl ?_
  exact lp 4 0 0 _ (by decide) (by decide) (by decide) (by decide) (fun c a b => ⟨fun q => by rw [Int.zero_ediv] at q; omega, fun ⟨_, i, i0, i1, _⟩ => by omega⟩) (fun i j a b c => absurd c (by omega))

set_option maxHeartbeats 4000000 in
theorem c_X4_walkAll {G : Gx} {σ : Sg} {p : Int} (hT : TI σ) (hW : LW σ) (hI : LI σ 39) (hp : 0 ≤ p) (hp4 : p < σ.1 2 2) : Con G 5 mX4_walkAll [.ref (G.2.2.2 + 78), .ref (G.2.2.2 + 39), .int (iZ p)] σ (pV (fun σ' => Fr [17, 55, 79] σ σ' ∧ ∀ w c, 0 ≤ w → w < 4 → 0 ≤ c → c ≤ (σ.1 2 3) → σ'.1 79 (7 * w + c) = cFr σ p w c)) := by
  obtain ⟨hzz, -, hnp, hnc, hnb, hlb, hrn, hsd, hrw, hrq, hch, hbt, hck⟩ := id hT
  have lp : ∀ (n : Nat) (τ : Sg) (i : Int) (x4 x5 x6 : Option Value), 0 ≤ i → i + n = 4 → Fr [17, 55, 79] σ τ → (∀ w e, 0 ≤ w → w < i → 0 ≤ e → e ≤ (σ.1 2 3) → τ.1 79 (7 * w + e) = cFr σ p w e) → J G 5 mX4_walkAll (pV (fun σ' => Fr [17, 55, 79] σ σ' ∧ ∀ w c, 0 ≤ w → w < 4 → 0 ≤ c → c ≤ (σ.1 2 3) → σ'.1 79 (7 * w + c) = cFr σ p w c)) τ 2 [some (.ref (G.2.2.2 + 78)), some (.ref (G.2.2.2 + 39)), some (.int (iZ p)), some (.int (iZ i)), x4, x5, x6] [] := by
    intro n
    induction n with
    | zero =>
      intro τ i x4 x5 x6 h0 hn hF h5
      refine e_iload_n (q := 3) (i := 3) dX4_walkAll_2 rfl rfl rfl ?_
      refine e_iconst (q := 4) dX4_walkAll_3 rfl ?_
      refine e_icmp_ge (q := 7) (tgt := 98) dX4_walkAll_4 rfl (by decide) (fun c4 => ?_) (fun c4 => absurd (by omega) c4)
      exact r_v dX4_walkAll_98 rfl ⟨hF, fun w c a b d f => h5 w c a (by omega) d f⟩
    | succ n ih =>
      intro τ i x4 x5 x6 h0 hn hF h5
      refine e_iload_n (q := 3) (i := 3) dX4_walkAll_2 rfl rfl rfl ?_
      refine e_iconst (q := 4) dX4_walkAll_3 rfl ?_
      refine e_icmp_ge (q := 7) (tgt := 98) dX4_walkAll_4 rfl (by decide) (fun c4 => absurd c4 (by omega)) (fun c4 => ?_)
      refine e_iconst (q := 8) dX4_walkAll_7 rfl ?_
      refine e_iload_n (q := 9) (i := 2) dX4_walkAll_8 rfl rfl rfl ?_
      refine e_imul (q := 10) dX4_walkAll_9 rfl ?_
      refine e_iload_n (q := 11) (i := 3) dX4_walkAll_10 rfl rfl rfl ?_
      refine e_iadd (q := 12) dX4_walkAll_11 rfl ?_
      refine e_istore (q := 14) (L' := [_, _, _, _, _, _, _]) dX4_walkAll_12 rfl (by decide) rfl rfl ?_
      refine e_bipush (q := 16) dX4_walkAll_14 rfl (by decide) ?_
      refine e_iload_n (q := 17) (i := 3) dX4_walkAll_16 rfl rfl rfl ?_
      refine e_imul (q := 18) dX4_walkAll_17 rfl ?_
      refine e_istore (q := 20) (L' := [_, _, _, _, _, _, _]) dX4_walkAll_18 rfl (by decide) rfl rfl ?_
      refine e_iconst (q := 21) dX4_walkAll_20 rfl ?_
      refine e_istore (q := 23) (L' := [_, _, _, _, _, _, _]) dX4_walkAll_21 rfl (by decide) rfl rfl ?_
      have lq : ∀ (k : Nat) (τ : Sg) (c : Int), 0 ≤ c → c + k = (σ.1 2 3) → Fr [17, 55, 79] σ τ → (∀ w e, 0 ≤ w → w < i → 0 ≤ e → e ≤ (σ.1 2 3) → τ.1 79 (7 * w + e) = cFr σ p w e) → (∀ e, 0 ≤ e → e < c → τ.1 79 (7 * i + e) = cFr σ p i e) → J G 5 mX4_walkAll (pV (fun σ' => Fr [17, 55, 79] σ σ' ∧ ∀ w c, 0 ≤ w → w < 4 → 0 ≤ c → c ≤ (σ.1 2 3) → σ'.1 79 (7 * w + c) = cFr σ p w c)) τ 23 [some (.ref (G.2.2.2 + 78)), some (.ref (G.2.2.2 + 39)), some (.int (iZ p)), some (.int (iZ i)), some (.int (iZ (4 * p + i))), some (.int (iZ (7 * i))), some (.int (iZ c))] [] := by
        intro k
        induction k with
        | zero =>
          intro τ c h3 h4 hF h5 h6
          have hTt : TI τ := hT.fr hF (fun a h1 h2 h3 => by simp only [List.mem_cons, List.not_mem_nil, or_false] at h3; omega)
          have hWt : LW τ := hW.fr hF (by decide) (by decide) (by decide)
          have hIt : LI τ 39 := hI.fr hF (fun a h1 h2 h3 => by simp only [List.mem_cons, List.not_mem_nil, or_false] at h3; omega)
          have e2 : τ.1 2 = σ.1 2 := (hF 2 (by decide)).1
          have e41 : τ.1 41 = σ.1 41 := (hF 41 (by decide)).1
          have e40 : τ.1 40 = σ.1 40 := (hF 40 (by decide)).1
          refine e_iload (q := 25) dX4_walkAll_23 rfl rfl ?_
          refine e_aload_n (q := 26) (i := 0) dX4_walkAll_25 rfl rfl rfl ?_
          refine e_getR (q := 29) dX4_walkAll_26 rfl fg_X4_9 (by first | assumption | rfl) rfl ?_
          refine e_getI (q := 32) (jz := 3) dX4_walkAll_29 rfl fg_X4_33 rfl (by first | assumption | rfl) rfl ?_
          rw [e2]
          refine e_icmp_ge (q := 35) (tgt := 70) dX4_walkAll_32 rfl (by decide) (fun c32 => ?_) (fun c32 => absurd (by omega) c32)
          refine e_aload_n (q := 71) (i := 0) dX4_walkAll_70 rfl rfl rfl ?_
          refine e_getR (q := 74) dX4_walkAll_71 rfl fg_X4_19 (by first | assumption | rfl) rfl ?_
          refine e_iload (q := 76) dX4_walkAll_74 rfl rfl ?_
          refine e_aload_n (q := 77) (i := 0) dX4_walkAll_76 rfl rfl rfl ?_
          refine e_getR (q := 80) dX4_walkAll_77 rfl fg_X4_9 (by first | assumption | rfl) rfl ?_
          refine e_getI (q := 83) (jz := 3) dX4_walkAll_80 rfl fg_X4_33 rfl (by first | assumption | rfl) rfl ?_
          rw [e2]
          refine e_iadd (q := 84) dX4_walkAll_83 rfl ?_
          refine e_aload_n (q := 85) (i := 1) dX4_walkAll_84 rfl rfl rfl ?_
          refine e_getR (q := 88) dX4_walkAll_85 rfl fg_X4_68 (by first | assumption | rfl) rfl ?_
          refine e_iload (q := 90) dX4_walkAll_88 rfl rfl ?_
          refine e_iald (q := 91) dX4_walkAll_90 rfl (by first | assumption | rfl) ?_
          rw [e40]
          refine e_iast (q := 92) dX4_walkAll_91 rfl (by first | assumption | rfl) ?_
          refine e_iinc (q := 95) (L' := [_, _, _, _, _, _, _]) dX4_walkAll_92 rfl rfl (by decide) rfl rfl ?_
          refine e_goto (tgt := 2) dX4_walkAll_95 (by decide) ?_
          refine ih _ _ _ _ _ (by omega) (by omega) (hF.sI (by decide) _ _) (fun w e a b d f => ?_)
          rw [sI_1]
          by_cases q : 7 * w + e = 7 * i + (σ.1 2 3)
          · rw [if_pos ⟨rfl, q⟩, show w = i by omega, show e = (σ.1 2 3) by omega]
            unfold cFr
            rw [if_neg (by omega)]
          · rw [if_neg (fun r => q r.2)]
            by_cases r : w = i
            · subst r
              exact h6 e d (by omega)
            · exact h5 w e a (by omega) d f
        | succ k ih2 =>
          intro τ c h3 h4 hF h5 h6
          have hTt : TI τ := hT.fr hF (fun a h1 h2 h3 => by simp only [List.mem_cons, List.not_mem_nil, or_false] at h3; omega)
          have hWt : LW τ := hW.fr hF (by decide) (by decide) (by decide)
          have hIt : LI τ 39 := hI.fr hF (fun a h1 h2 h3 => by simp only [List.mem_cons, List.not_mem_nil, or_false] at h3; omega)
          have e2 : τ.1 2 = σ.1 2 := (hF 2 (by decide)).1
          have e41 : τ.1 41 = σ.1 41 := (hF 41 (by decide)).1
          have e40 : τ.1 40 = σ.1 40 := (hF 40 (by decide)).1
          refine e_iload (q := 25) dX4_walkAll_23 rfl rfl ?_
          refine e_aload_n (q := 26) (i := 0) dX4_walkAll_25 rfl rfl rfl ?_
          refine e_getR (q := 29) dX4_walkAll_26 rfl fg_X4_9 (by first | assumption | rfl) rfl ?_
          refine e_getI (q := 32) (jz := 3) dX4_walkAll_29 rfl fg_X4_33 rfl (by first | assumption | rfl) rfl ?_
          rw [e2]
          refine e_icmp_ge (q := 35) (tgt := 70) dX4_walkAll_32 rfl (by decide) (fun c32 => absurd c32 (by omega)) (fun c32 => ?_)
          refine e_aload_n (q := 36) (i := 0) dX4_walkAll_35 rfl rfl rfl ?_
          refine e_getR (q := 39) dX4_walkAll_36 rfl fg_X4_19 (by first | assumption | rfl) rfl ?_
          refine e_iload (q := 41) dX4_walkAll_39 rfl rfl ?_
          refine e_iload (q := 43) dX4_walkAll_41 rfl rfl ?_
          refine e_iadd (q := 44) dX4_walkAll_43 rfl ?_
          refine e_aload_n (q := 45) (i := 0) dX4_walkAll_44 rfl rfl rfl ?_
          refine e_getR (q := 48) dX4_walkAll_45 rfl fg_X4_15 (by first | assumption | rfl) rfl ?_
          refine e_aload_n (q := 49) (i := 1) dX4_walkAll_48 rfl rfl rfl ?_
          refine e_iload (q := 51) dX4_walkAll_49 rfl rfl ?_
          refine e_iload (q := 53) dX4_walkAll_51 rfl rfl ?_
          refine e_aload_n (q := 54) (i := 1) dX4_walkAll_53 rfl rfl rfl ?_
          refine e_getR (q := 57) dX4_walkAll_54 rfl fg_X4_57 (by first | assumption | rfl) rfl ?_
          refine e_iload (q := 59) dX4_walkAll_57 rfl rfl ?_
          refine e_iald (q := 60) dX4_walkAll_59 rfl (by first | assumption | rfl) ?_
          refine e_Vi (q := 63) (vs := [_, _, _, _]) ok_X10_walkedFar ml_X4_62 dX4_walkAll_60 rfl ⟨_, _, rfl⟩ (by first | assumption | rfl) rfl rfl (Nat.le_of_ble_eq_true rfl) (by decide) (c_X10_walkedFar (L := 39) hTt hWt hIt (Or.inl rfl) (by omega) (by omega) (by omega) (by omega) ⟨by rw [e41]; exact (hI.1 _ (by omega) (by omega)).2.2.1, by rw [e41]; exact (hI.1 _ (by omega) (by omega)).2.2.2⟩) (fun z60 s60 h60 => ?_)
          obtain ⟨hz, hF2⟩ := h60
          refine e_iast (q := 64) dX4_walkAll_63 rfl (by first | assumption | rfl) ?_
          refine e_iinc (q := 67) (L' := [_, _, _, _, _, _, _]) dX4_walkAll_64 rfl rfl (by decide) rfl rfl ?_
          refine e_goto (tgt := 23) dX4_walkAll_67 (by decide) ?_
          have hF3 : Fr [17, 55, 79] σ s60 := hF.tr (hF2.mono (by decide))
          have ez : z60 = cFr σ p i c := by
            have ew := wkF_fr hF (fun a h1 h2 h3 => by simp only [List.mem_cons, List.not_mem_nil, or_false] at h3; omega) (fun a h1 h2 h3 => by simp only [List.mem_cons, List.not_mem_nil, or_false] at h3; omega) c (4 * p + i) (σ.1 41 (4 * p + i))
            rw [hz, e41, show cFr σ p i c = wkF σ c (4 * p + i) (σ.1 41 (4 * p + i)) from if_pos (by omega), ← ew]
            rfl
          refine ih2 _ _ (by omega) (by omega) (hF3.sI (by decide) _ _) (fun w e a b d f => ?_) (fun e a b => ?_)
          · rw [sI_1, if_neg (by omega), hF2.e1 (by decide)]
            exact h5 w e a b d f
          · rw [sI_1]
            by_cases q : e = c
            · rw [if_pos ⟨rfl, by omega⟩, q, ez]
            · rw [if_neg (by omega), hF2.e1 (by decide)]
              exact h6 e a (by omega)
      exact lq ((σ.1 2 3)).toNat τ 0 (by decide) (by omega) hF h5 (fun e a b => absurd b (by omega))
  refine e_entry om_X4_walkAll (Nat.le_of_ble_eq_true rfl) (L := [some (.ref (G.2.2.2 + 78)), some (.ref (G.2.2.2 + 39)), some (.int (iZ p)), none, none, none, none]) rfl ?_
  refine e_iconst (q := 1) dX4_walkAll_0 rfl ?_
  refine e_istore_n (q := 2) (i := 3) (L' := [_, _, _, _, _, _, _]) dX4_walkAll_1 rfl rfl (by decide) rfl rfl ?_
  exact lp 4 σ 0 _ _ _ (by decide) (by decide) (Fr.rf _ _) (fun w e a b => absurd b (by omega))

set_option maxHeartbeats 8000000 in
theorem c_X4_match {G : Gx} {σ : Sg} {p : Int} (hT : TI σ) (hW : LW σ) (hI : LI σ 39) (hp : 0 ≤ p) (hp4 : p < σ.1 2 2) : Con G 6 mX4_match [.ref (G.2.2.2 + 78), .ref (G.2.2.2 + 39), .int (iZ p)] σ (pV (fun σ' => Fr [17, 55, 78, 79, 80, 81] σ σ' ∧ (∀ j, j ≠ 5 → σ'.1 78 j = σ.1 78 j) ∧ ∃ b, lyB (cFr σ p) ((σ.1 2 3) + 1) (((σ.1 2 3) + 1) ^ 4) b ∧ σ'.1 78 5 = lyA (cFr σ p) (dg ((σ.1 2 3) + 1) b) ∧ ∀ w, 0 ≤ w → w < 4 → σ'.1 81 w = lyW ((σ.1 2 3) + 1) b w)) := by
  obtain ⟨hzz, -, hnp, hnc, hnb, hlb, hrn, hsd, hrw, hrq, hch, hbt, hck⟩ := id hT
  refine e_entry om_X4_match (Nat.le_of_ble_eq_true rfl) (L := [some (.ref (G.2.2.2 + 78)), some (.ref (G.2.2.2 + 39)), some (.int (iZ p)), none, none, none, none]) rfl ?_
  refine e_aload_n (q := 1) (i := 0) dX4_match_0 rfl rfl rfl ?_
  refine e_aload_n (q := 2) (i := 1) dX4_match_1 rfl rfl rfl ?_
  refine e_iload_n (q := 3) (i := 2) dX4_match_2 rfl rfl rfl ?_
  refine e_Vv (q := 6) (vs := [_, _]) ok_X4_walkAll ml_X4_29 dX4_match_3 rfl ⟨_, _, rfl⟩ (by first | assumption | rfl) rfl rfl (Nat.le_of_ble_eq_true rfl) (by decide) (c_X4_walkAll hT hW hI hp hp4) (fun s3 h3 => ?_)
  obtain ⟨hF0, hf0⟩ := h3
  have e2 : s3.1 2 = σ.1 2 := (hF0 2 (by decide)).1
  have hn4 := n4_in (n := ((σ.1 2 3) + 1)) (by omega) (by omega) (k := 4) (by decide)
  rw [show (4 : Int).toNat = 4 from rfl] at hn4
  refine e_aload_n (q := 7) (i := 0) dX4_match_6 rfl rfl rfl ?_
  refine e_getR (q := 10) dX4_match_7 rfl fg_X4_9 (by first | assumption | rfl) rfl ?_
  refine e_getI (q := 13) (jz := 3) dX4_match_10 rfl fg_X4_33 rfl (by first | assumption | rfl) rfl ?_
  rw [e2]
  refine e_iconst (q := 14) dX4_match_13 rfl ?_
  refine e_iadd (q := 15) dX4_match_14 rfl ?_
  refine e_istore_n (q := 16) (i := 3) (L' := [_, _, _, _, _, _, _]) dX4_match_15 rfl rfl (by decide) rfl rfl ?_
  refine e_iload_n (q := 17) (i := 3) dX4_match_16 rfl rfl rfl ?_
  refine e_iload_n (q := 18) (i := 3) dX4_match_17 rfl rfl rfl ?_
  refine e_imul (q := 19) dX4_match_18 rfl ?_
  refine e_iload_n (q := 20) (i := 3) dX4_match_19 rfl rfl rfl ?_
  refine e_imul (q := 21) dX4_match_20 rfl ?_
  refine e_iload_n (q := 22) (i := 3) dX4_match_21 rfl rfl rfl ?_
  refine e_imul (q := 23) dX4_match_22 rfl ?_
  have e4 : ((σ.1 2 3) + 1) * ((σ.1 2 3) + 1) * ((σ.1 2 3) + 1) * ((σ.1 2 3) + 1) = ((σ.1 2 3) + 1) ^ 4 := by rw [show (4 : Nat) = 1 + 1 + 1 + 1 from rfl, Int.pow_succ, Int.pow_succ, Int.pow_succ, Int.pow_succ, Int.pow_zero, Int.one_mul]
  rw [e4]
  refine e_istore (q := 25) (L' := [_, _, _, _, _, _, _]) dX4_match_23 rfl (by decide) rfl rfl ?_
  refine e_aload_n (q := 26) (i := 0) dX4_match_25 rfl rfl rfl ?_
  refine e_iconst (q := 27) dX4_match_26 rfl ?_
  refine e_putI (q := 30) (jz := 5) dX4_match_27 rfl fp_X4_39 rfl (by first | assumption | rfl) rfl ?_
  refine e_iconst (q := 31) dX4_match_30 rfl ?_
  refine e_istore (q := 33) (L' := [_, _, _, _, _, _, _]) dX4_match_31 rfl (by decide) rfl rfl ?_
  have lp : ∀ (n : Nat) (τ : Sg) (x : Int) (x6 : Option Value), 0 ≤ x → x + n = ((σ.1 2 3) + 1) ^ 4 → Fr [17, 55, 78, 79, 80, 81] σ τ → (∀ j, j ≠ 5 → τ.1 78 j = σ.1 78 j) → (∀ w c, 0 ≤ w → w < 4 → 0 ≤ c → c ≤ (σ.1 2 3) → τ.1 79 (7 * w + c) = cFr σ p w c) → LyS (cFr σ p) ((σ.1 2 3) + 1) x 0 (τ.1 78 5) (τ.1 81) → J G 6 mX4_match (pV (fun σ' => Fr [17, 55, 78, 79, 80, 81] σ σ' ∧ (∀ j, j ≠ 5 → σ'.1 78 j = σ.1 78 j) ∧ ∃ b, lyB (cFr σ p) ((σ.1 2 3) + 1) (((σ.1 2 3) + 1) ^ 4) b ∧ σ'.1 78 5 = lyA (cFr σ p) (dg ((σ.1 2 3) + 1) b) ∧ ∀ w, 0 ≤ w → w < 4 → σ'.1 81 w = lyW ((σ.1 2 3) + 1) b w)) τ 33 [some (.ref (G.2.2.2 + 78)), some (.ref (G.2.2.2 + 39)), some (.int (iZ p)), some (.int (iZ ((σ.1 2 3) + 1))), some (.int (iZ (((σ.1 2 3) + 1) ^ 4))), some (.int (iZ x)), x6] [] := by
    intro n
    induction n with
    | zero =>
      intro τ x x6 h0 hn hF hj hf hL
      refine e_iload (q := 35) dX4_match_33 rfl rfl ?_
      refine e_iload (q := 37) dX4_match_35 rfl rfl ?_
      refine e_icmp_ge (q := 40) (tgt := 108) dX4_match_37 rfl (by decide) (fun c37 => ?_) (fun c37 => absurd (by omega) c37)
      exact r_v dX4_match_108 rfl ⟨hF, hj, LyS_end (by omega) (by omega) (by rw [← show x = ((σ.1 2 3) + 1) ^ 4 by omega]; exact hL)⟩
    | succ n ih =>
      intro τ x x6 h0 hn hF hj hf hL
      refine e_iload (q := 35) dX4_match_33 rfl rfl ?_
      refine e_iload (q := 37) dX4_match_35 rfl rfl ?_
      refine e_icmp_ge (q := 40) (tgt := 108) dX4_match_37 rfl (by decide) (fun c37 => absurd c37 (by omega)) (fun c37 => ?_)
      refine e_aload_n (q := 41) (i := 0) dX4_match_40 rfl rfl rfl ?_
      refine e_iload (q := 43) dX4_match_41 rfl rfl ?_
      refine e_iload_n (q := 44) (i := 3) dX4_match_43 rfl rfl rfl ?_
      refine e_Vv (q := 47) (vs := [_, _]) ok_X4_pick ml_X4_42 dX4_match_44 rfl ⟨_, _, rfl⟩ (by first | assumption | rfl) rfl rfl (Nat.le_of_ble_eq_true rfl) (by decide) (c_X4_pick h0 (by omega) (by omega) (by omega)) (fun s44 h44 => ?_)
      obtain ⟨hF2, hd⟩ := h44
      have hdi : ∀ i, 0 ≤ i → i < 4 → 0 ≤ s44.1 80 i ∧ s44.1 80 i ≤ (σ.1 2 3) := fun i a b => by
        have := dg_in (n := ((σ.1 2 3) + 1)) (x := x) (w := i) (by omega)
        rw [hd i a b]
        omega
      have e79 : ∀ i, 0 ≤ i → i < 4 → s44.1 79 (7 * i + s44.1 80 i) = cFr σ p i (dg ((σ.1 2 3) + 1) x i) := fun i a b => by
        have := dg_in (n := ((σ.1 2 3) + 1)) (x := x) (w := i) (by omega)
        rw [hF2.e1 (by decide), hf i _ a b (hdi i a b).1 (hdi i a b).2, hd i a b]
      have e78 : s44.1 78 = τ.1 78 := (hF2 78 (by decide)).1
      have e81 : s44.1 81 = τ.1 81 := (hF2 81 (by decide)).1
      have e2 : s44.1 2 = σ.1 2 := by rw [(hF2 2 (by decide)).1, (hF 2 (by decide)).1]
      have hF3 : Fr [17, 55, 78, 79, 80, 81] σ s44 := hF.tr (hF2.mono (by decide))
      have har : 1 ≤ lyA (cFr σ p) (dg ((σ.1 2 3) + 1) x) ∧ lyA (cFr σ p) (dg ((σ.1 2 3) + 1) x) ≤ 6400 := lyA_in (fun w a b => cFr_in hT hI hp hp4 a b)
      have hl5 : 0 ≤ τ.1 78 5 ∧ τ.1 78 5 ≤ 6400 := by
        rcases hL with ⟨_, q⟩ | ⟨b, _, q, _⟩
        · omega
        · have := lyA_in (F := (cFr σ p)) (d := dg ((σ.1 2 3) + 1) b) (fun w a b => cFr_in hT hI hp hp4 a b)
          omega
      refine e_iconst (q := 48) dX4_match_47 rfl ?_
      refine e_aload_n (q := 49) (i := 0) dX4_match_48 rfl rfl rfl ?_
      refine e_iconst (q := 50) dX4_match_49 rfl ?_
      refine e_Vip (q := 53) (vs := [_]) ok_X4_farOf ml_X4_46 dX4_match_50 rfl ⟨_, _, rfl⟩ (by first | assumption | rfl) rfl rfl (Nat.le_of_ble_eq_true rfl) (by decide) (c_X4_farOf (by decide) (by decide) (hdi _ (by decide) (by decide)).1 (by have := (hdi 0 (by decide) (by decide)).2; omega)) ?_
      refine e_iadd (q := 54) dX4_match_53 rfl ?_
      refine e_aload_n (q := 55) (i := 0) dX4_match_54 rfl rfl rfl ?_
      refine e_iconst (q := 56) dX4_match_55 rfl ?_
      refine e_Vip (q := 59) (vs := [_]) ok_X4_farOf ml_X4_46 dX4_match_56 rfl ⟨_, _, rfl⟩ (by first | assumption | rfl) rfl rfl (Nat.le_of_ble_eq_true rfl) (by decide) (c_X4_farOf (by decide) (by decide) (hdi _ (by decide) (by decide)).1 (by have := (hdi 2 (by decide) (by decide)).2; omega)) ?_
      refine e_iadd (q := 60) dX4_match_59 rfl ?_
      refine e_iconst (q := 61) dX4_match_60 rfl ?_
      refine e_aload_n (q := 62) (i := 0) dX4_match_61 rfl rfl rfl ?_
      refine e_iconst (q := 63) dX4_match_62 rfl ?_
      refine e_Vip (q := 66) (vs := [_]) ok_X4_farOf ml_X4_46 dX4_match_63 rfl ⟨_, _, rfl⟩ (by first | assumption | rfl) rfl rfl (Nat.le_of_ble_eq_true rfl) (by decide) (c_X4_farOf (by decide) (by decide) (hdi _ (by decide) (by decide)).1 (by have := (hdi 1 (by decide) (by decide)).2; omega)) ?_
      refine e_iadd (q := 67) dX4_match_66 rfl ?_
      refine e_aload_n (q := 68) (i := 0) dX4_match_67 rfl rfl rfl ?_
      refine e_iconst (q := 69) dX4_match_68 rfl ?_
      refine e_Vip (q := 72) (vs := [_]) ok_X4_farOf ml_X4_46 dX4_match_69 rfl ⟨_, _, rfl⟩ (by first | assumption | rfl) rfl rfl (Nat.le_of_ble_eq_true rfl) (by decide) (c_X4_farOf (by decide) (by decide) (hdi _ (by decide) (by decide)).1 (by have := (hdi 3 (by decide) (by decide)).2; omega)) ?_
      refine e_iadd (q := 73) dX4_match_72 rfl ?_
      refine e_imul (q := 74) dX4_match_73 rfl ?_
      have ea : (1 + s44.1 79 (7 * 0 + s44.1 80 0) + s44.1 79 (7 * 2 + s44.1 80 2)) * (1 + s44.1 79 (7 * 1 + s44.1 80 1) + s44.1 79 (7 * 3 + s44.1 80 3)) = lyA (cFr σ p) (dg ((σ.1 2 3) + 1) x) := by
        rw [e79 0 (by decide) (by decide), e79 1 (by decide) (by decide), e79 2 (by decide) (by decide), e79 3 (by decide) (by decide)]
        rfl
      rw [ea]
      refine e_istore (q := 76) (L' := [_, _, _, _, _, _, _]) dX4_match_74 rfl (by decide) rfl rfl ?_
      refine e_iload (q := 78) dX4_match_76 rfl rfl ?_
      refine e_aload_n (q := 79) (i := 0) dX4_match_78 rfl rfl rfl ?_
      refine e_getI (q := 82) (jz := 5) dX4_match_79 rfl fg_X4_39 rfl (by first | assumption | rfl) rfl ?_
      rw [e78]
      refine e_icmp_le (q := 85) (tgt := 102) dX4_match_82 rfl (by decide) (fun c82 => ?_) (fun c82 => ?_)
      · refine e_iinc (q := 105) (L' := [_, _, _, _, _, _, _]) dX4_match_102 rfl rfl (by decide) rfl rfl ?_
        refine e_goto (tgt := 33) dX4_match_105 (by decide) ?_
        refine ih _ _ _ (by omega) (by omega) hF3 (by rw [e78]; exact hj) (fun w c a b d f => by rw [hF2.e1 (by decide)]; exact hf w c a b d f) (by rw [e78, e81]; exact LyS_le hL (by omega) (by omega))
      · refine e_aload_n (q := 86) (i := 0) dX4_match_85 rfl rfl rfl ?_
        refine e_Vi (q := 89) (vs := []) ok_X4_nobodyTwice ml_X4_50 dX4_match_86 rfl ⟨_, _, rfl⟩ (by first | assumption | rfl) rfl rfl (Nat.le_of_ble_eq_true rfl) (by decide) (c_X4_nobodyTwice (by rw [e2]; omega) (by rw [e2]; omega) (fun i a b => by rw [e2]; exact hdi i a b)) (fun z86 s86 h86 => ?_)
        obtain ⟨hv, es⟩ := h86
        subst es
        rw [show (∀ i j, 0 ≤ i → i < j → j < 4 → s86.1 80 i = s86.1 80 j → s86.1 80 i = s86.1 2 3) = lyV ((σ.1 2 3) + 1) x from propext ⟨fun q i j a b c e => by have := q i j a b c (by rw [hd i a (by omega), hd j (by omega) c]; exact e); rw [hd i a (by omega), e2] at this; omega, fun q i j a b c e => by rw [hd i a (by omega), hd j (by omega) c] at e; have := q i j a b c e; rw [hd i a (by omega), e2]; omega⟩] at hv
        refine e_if_eq (q := 92) (tgt := 102) dX4_match_89 rfl (by decide) (fun c89 => ?_) (fun c89 => ?_) (hx := ⟨by omega, by omega⟩)
        · refine e_iinc (q := 105) (L' := [_, _, _, _, _, _, _]) dX4_match_102 rfl rfl (by decide) rfl rfl ?_
          refine e_goto (tgt := 33) dX4_match_105 (by decide) ?_
          refine ih _ _ _ (by omega) (by omega) hF3 (by rw [e78]; exact hj) (fun w c a b d f => by rw [hF2.e1 (by decide)]; exact hf w c a b d f) (by rw [e78, e81]; exact LyS_no hL (by omega) (fun c a b => by rw [show c = x by omega]; rcases hv with q | q; omega; exact q.2))
        · refine e_aload_n (q := 93) (i := 0) dX4_match_92 rfl rfl rfl ?_
          refine e_iload (q := 95) dX4_match_93 rfl rfl ?_
          refine e_putI (q := 98) (jz := 5) dX4_match_95 rfl fp_X4_39 rfl (by first | assumption | rfl) rfl ?_
          refine e_aload_n (q := 99) (i := 0) dX4_match_98 rfl rfl rfl ?_
          refine e_Vv (q := 102) (vs := []) ok_X4_keepPicked ml_X4_54 dX4_match_99 rfl ⟨_, _, rfl⟩ (by first | assumption | rfl) rfl rfl (Nat.le_of_ble_eq_true rfl) (by decide) (c_X4_keepPicked (by rw [sI_ne _ (by decide), e2]; omega) (by rw [sI_ne _ (by decide), e2]; omega) (fun i a b => by rw [sI_ne _ (by decide), sI_ne _ (by decide), e2]; exact hdi i a b)) (fun s99 h99 => ?_)
          refine e_iinc (q := 105) (L' := [_, _, _, _, _, _, _]) dX4_match_102 rfl rfl (by decide) rfl rfl ?_
          refine e_goto (tgt := 33) dX4_match_105 (by decide) ?_
          obtain ⟨hF4, hb⟩ := h99
          have h78 : s99.1 78 = (sI s86 78 5 (lyA (cFr σ p) (dg ((σ.1 2 3) + 1) x))).1 78 := (hF4 78 (by decide)).1
          have hV : lyV ((σ.1 2 3) + 1) x := by
            rcases hv with q | q
            · exact q.2
            · exact absurd q.1 c89
          refine ih _ _ _ (by omega) (by omega) (((hF3.sI (by decide) _ _)).tr (hF4.mono (by decide))) (fun j q => ?_) (fun w c a b d f => ?_) ?_
          · rw [h78, sI_1, if_neg (fun r => q r.2), e78]; exact hj j q
          · rw [hF4.e1 (by decide), sI_ne _ (by decide), hF2.e1 (by decide)]; exact hf w c a b d f
          · rw [h78, sI_1, if_pos ⟨rfl, rfl⟩]
            refine LyS_up hL h0 hV (by omega) (fun w a b => ?_)
            rw [hb w a b, sI_ne _ (by decide), sI_ne _ (by decide), hd w a b, e2]
            unfold lyW
            rw [show ((σ.1 2 3) + 1) - 1 = (σ.1 2 3) by omega]
  exact lp (((σ.1 2 3) + 1) ^ 4).toNat _ 0 _ (by decide) (by omega) ((hF0.mono (by decide)).sI (by decide) _ _) (fun j q => by rw [sI_1, if_neg (fun r => q r.2), hF0.e1 (by decide)]) (fun w c a b d f => by rw [sI_ne _ (by decide)]; exact hf0 w c a b d f) (by rw [sI_1, if_pos ⟨rfl, rfl⟩]; exact LyS_0 _ _ _ _)

set_option maxHeartbeats 4000000 in
theorem c_X11_laid {G : Gx} {σ : Sg} {p x : Int} (hT : TI σ) (hW : LW σ) (hI : LI σ 39) (hp : R32 p) (hx : R32 x) : Con G 7 mX11_laid [.ref (G.2.2.2 + 0), .int (iZ p), .int (iZ x)] σ (pI (fun z σ' => (¬ ((0 ≤ p ∧ p < σ.1 2 2) ∧ 0 ≤ x ∧ x ≤ 4) ∧ z = -1 ∧ σ' = σ) ∨ (((0 ≤ p ∧ p < σ.1 2 2) ∧ 0 ≤ x ∧ x ≤ 4) ∧ (∃ b, lyB (cFr σ p) ((σ.1 2 3) + 1) (((σ.1 2 3) + 1) ^ 4) b ∧ z = if x = 4 then lyA (cFr σ p) (dg ((σ.1 2 3) + 1) b) else lyW ((σ.1 2 3) + 1) b x) ∧ Fr [17, 55, 78, 79, 80, 81] σ σ'))) := by
  obtain ⟨hzz, -, hnp, hnc, hnb, hlb, hrn, hsd, hrw, hrq, hch, hbt, hck⟩ := id hT
  refine e_entry om_X11_laid (Nat.le_of_ble_eq_true rfl) (L := [some (.ref (G.2.2.2 + 0)), some (.int (iZ p)), some (.int (iZ x))]) rfl ?_
  refine e_aload_n (q := 1) (i := 0) dX11_laid_0 rfl rfl rfl ?_
  refine e_iload_n (q := 2) (i := 1) dX11_laid_1 rfl rfl rfl ?_
  refine e_Vip (q := 5) (vs := [_]) ok_X11_isParish ml_X11_136 dX11_laid_2 rfl ⟨_, _, rfl⟩ (by first | assumption | rfl) rfl rfl (Nat.le_of_ble_eq_true rfl) (by decide) (c_X11_isParish hT (by assumption)) ?_
  refine e_if_eq (q := 8) (tgt := 17) dX11_laid_5 rfl (by decide) (fun c5 => ?_) (fun c5 => ?_)
  · refine e_iconst (q := 18) dX11_laid_17 rfl ?_
    exact r_i dX11_laid_18 rfl (Or.inl ⟨by omega, rfl, rfl⟩)
  · refine e_iload_n (q := 9) (i := 2) dX11_laid_8 rfl rfl rfl ?_
    refine e_if_lt (q := 12) (tgt := 17) dX11_laid_9 rfl (by decide) (fun c9 => ?_) (fun c9 => ?_)
    · refine e_iconst (q := 18) dX11_laid_17 rfl ?_
      exact r_i dX11_laid_18 rfl (Or.inl ⟨by omega, rfl, rfl⟩)
    · refine e_iload_n (q := 13) (i := 2) dX11_laid_12 rfl rfl rfl ?_
      refine e_iconst (q := 14) dX11_laid_13 rfl ?_
      refine e_icmp_le (q := 17) (tgt := 19) dX11_laid_14 rfl (by decide) (fun c14 => ?_) (fun c14 => ?_)
      · refine e_aload_n (q := 20) (i := 0) dX11_laid_19 rfl rfl rfl ?_
        refine e_getR (q := 23) dX11_laid_20 rfl fg_X11_81 (by first | assumption | rfl) rfl ?_
        refine e_aload_n (q := 24) (i := 0) dX11_laid_23 rfl rfl rfl ?_
        refine e_getR (q := 27) dX11_laid_24 rfl fg_X11_36 (by first | assumption | rfl) rfl ?_
        refine e_iload_n (q := 28) (i := 1) dX11_laid_27 rfl rfl rfl ?_
        refine e_Vv (q := 31) (vs := [_, _]) ok_X4_match ml_X11_254 dX11_laid_28 rfl ⟨_, _, rfl⟩ (by first | assumption | rfl) rfl rfl (Nat.le_of_ble_eq_true rfl) (by decide) (c_X4_match hT hW hI (by omega) (by omega)) (fun s28 h28 => ?_)
        obtain ⟨hF, hj, b, hb, hA, hW4⟩ := h28
        refine e_iload_n (q := 32) (i := 2) dX11_laid_31 rfl rfl rfl ?_
        refine e_iconst (q := 33) dX11_laid_32 rfl ?_
        refine e_icmp_ne (q := 36) (tgt := 46) dX11_laid_33 rfl (by decide) (fun c33 => ?_) (fun c33 => ?_)
        · refine e_aload_n (q := 47) (i := 0) dX11_laid_46 rfl rfl rfl ?_
          refine e_getR (q := 50) dX11_laid_47 rfl fg_X11_81 (by first | assumption | rfl) rfl ?_
          refine e_getR (q := 53) dX11_laid_50 rfl fg_X11_261 (by first | assumption | rfl) rfl ?_
          refine e_iload_n (q := 54) (i := 2) dX11_laid_53 rfl rfl rfl ?_
          refine e_iald (q := 55) dX11_laid_54 rfl (by first | assumption | rfl) ?_
          exact r_i dX11_laid_55 rfl (Or.inr ⟨by omega, ⟨b, hb, by rw [if_neg c33, hW4 x (by omega) (by omega)]⟩, hF⟩)
        · refine e_aload_n (q := 37) (i := 0) dX11_laid_36 rfl rfl rfl ?_
          refine e_getR (q := 40) dX11_laid_37 rfl fg_X11_81 (by first | assumption | rfl) rfl ?_
          refine e_getI (q := 43) (jz := 5) dX11_laid_40 rfl fg_X11_258 rfl (by first | assumption | rfl) rfl ?_
          refine e_goto (tgt := 55) dX11_laid_43 (by decide) ?_
          exact r_i dX11_laid_55 rfl (Or.inr ⟨by omega, ⟨b, hb, by rw [if_pos c33, hA]⟩, hF⟩)
      · refine e_iconst (q := 18) dX11_laid_17 rfl ?_
        exact r_i dX11_laid_18 rfl (Or.inl ⟨by omega, rfl, rfl⟩)

