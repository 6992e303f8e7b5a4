def mFr (σ : Sg) (p w c : Int) : Int := if c < σ.1 84 2 then mWk σ (if 50 ≤ σ.1 84 4 then 1 else 0) c (4 * p + w) (mK σ 0 (4 * p + w)) else mF σ 0 (4 * p + w)
theorem mFr_in {σ : Sg} (hT : MT σ) (hI : MI σ 0) {p w c : Int} (hp : 0 ≤ p) (hp1 : p < σ.1 84 1) (hw : 0 ≤ w) (hw4 : w < 4) : 0 ≤ mFr σ p w c ∧ mFr σ p w c ≤ 39 := by
  unfold mFr
  split
  · exact gStone_in (mEd_in hT (by omega) (by omega))
  · have := hI.1 (4 * p + w) (by omega) (by have := hT.2.1; omega)
    exact ⟨this.1, this.2.1⟩
def lyD (σ : Sg) (w : Int) : Int := if σ.1 109 w < 0 then σ.1 84 2 else σ.1 109 w
theorem lyA_area {rw cl f : Int → Int} {p : Int} {F : Int → Int → Int} {d : Int → Int} (h : ∀ w, 0 ≤ w → w < 4 → f (4 * p + w) = F w (d w)) : gArea rw cl f p = lyA F d := by
  have h0 := h 0 (by decide) (by decide)
  have h1 := h 1 (by decide) (by decide)
  have h2 := h 2 (by decide) (by decide)
  have h3 := h 3 (by decide) (by decide)
  rw [show 4 * p + 0 = 4 * p by omega] at h0
  unfold gArea gBot gTop gRgt gLft lyA
  rw [h0, h1, h2, h3]
  congr 1 <;> omega
def Ql (σ τ : Sg) : Prop := Fm [100, 101, 102, 103, 104, 105, 106, 107, 108, 109, 110] [34, 48] σ τ ∧ ∀ u, u ≠ 1 → ldm τ u = ldm σ u
theorem nc_84f : ∀ a, 84 ≤ a → a ≤ 95 → a ∉ 82 :: [100, 101, 102, 103, 104, 105, 106, 107, 108, 109, 110] := by
  intro a h1 h2 h3; simp only [List.mem_cons, List.not_mem_nil, or_false] at h3; omega
theorem nc_96f : ∀ a, 96 ≤ a → a ≤ 99 → a ∉ 82 :: [100, 101, 102, 103, 104, 105, 106, 107, 108, 109, 110] := by
  intro a h1 h2 h3; simp only [List.mem_cons, List.not_mem_nil, or_false] at h3; omega
theorem Ql.rf (σ : Sg) : Ql σ σ := ⟨Fm.rf _ _ _, fun _ _ => rfl⟩
theorem Ql.mt {σ τ : Sg} (h : Ql σ τ) (hT : MT σ) : MT τ := hT.fr h.1 nc_84f
theorem Ql.mw {σ τ : Sg} (h : Ql σ τ) (hT : MW σ) : MW τ := hT.fr h.1 nc_96f
theorem Ql.mi {σ τ : Sg} (h : Ql σ τ) (hI : MI σ 0) : MI τ 0 := hI.ld (h.2 0 (by decide))
theorem Ql.c {σ τ : Sg} (h : Ql σ τ) {a : Nat} (h1 : 84 ≤ a) (h2 : a ≤ 95) : τ.1 a = σ.1 a := h.1.c (nc_84f a h1 h2)
theorem Ql.f {σ τ : Sg} (h : Ql σ τ) {j : Int} (hj : j ≠ 34) (hk : j ≠ 48) : τ.1 82 j = σ.1 82 j := h.1.2 j (by simp only [List.mem_cons, List.not_mem_nil, or_false]; omega)
theorem Ql.qr {σ τ τ' : Sg} (h : Ql σ τ) (h' : Qr τ τ') : Ql σ τ' := ⟨h.1.tr (h'.1.mono (by decide) (by decide)), fun u hu => (h'.2 u hu).trans (h.2 u hu)⟩
theorem Ql.qm {σ τ : Sg} (h : Ql σ τ) : Qm σ τ := ⟨h.1.mono (by decide) (by decide), h.2⟩
theorem ldm_ne {σ : Sg} {a : Nat} (h : ¬ (102 ≤ a ∧ a ≤ 108)) (j v u : Int) : ldm (sI σ a j v) u = ldm σ u := by
  unfold ldm mF mK mL mD
  rw [sI_ne _ (by omega), sI_ne _ (by omega), sI_ne _ (by omega), sI_ne _ (by omega), sI_ne _ (by omega), sI_ne _ (by omega), sI_ne _ (by omega)]
theorem Ql.s {σ τ : Sg} (h : Ql σ τ) {a : Nat} (ha : a = 109 ∨ a = 110) (j v : Int) : Ql σ (sI τ a j v) := ⟨h.1.si (by rcases ha with rfl | rfl <;> decide) (by omega) j v, fun u hu => (ldm_ne (by omega) j v u).trans (h.2 u hu)⟩
theorem Ql.s48 {σ τ : Sg} (h : Ql σ τ) (v : Int) : Ql σ (sI τ 82 48 v) := ⟨h.1.s82 (by decide) v, fun u hu => (ldm_ne (by omega) 48 v u).trans (h.2 u hu)⟩
theorem Ql.wk {σ τ : Sg} (h : Ql σ τ) {wt c s sw : Int} (c0 : 0 ≤ c) (c6 : c < 6) (s0 : 0 ≤ s) (s16 : s < 16) : mWk τ wt c s sw = mWk σ wt c s sw := by
  obtain ⟨h1, h2, h3, h4, h5⟩ := ldm_out (h.2 0 (by decide))
  unfold mWk
  rw [(h2 c c0 c6).1, (h2 c c0 c6).2, (h1 s s0 s16).1, h4, h.c (a := 91) (by decide) (by decide), mLaw.fr h.1 nc_96f]
  congr 1
  unfold mEd
  rw [h.c (a := 86) (by decide) (by decide), h.c (a := 87) (by decide) (by decide), h.c (a := 84) (by decide) (by decide)]
theorem Ql.fr {σ τ : Sg} (h : Ql σ τ) {p w c : Int} (c0 : 0 ≤ c) (c6 : c ≤ 6) (hp : 0 ≤ p) (hp4 : p < 4) (w0 : 0 ≤ w) (w4 : w < 4) (hn : σ.1 84 2 ≤ 6) : mFr τ p w c = mFr σ p w c := by
  obtain ⟨h1, -⟩ := ldm_out (h.2 0 (by decide))
  unfold mFr
  rw [h.c (a := 84) (by decide) (by decide), (h1 (4 * p + w) (by omega) (by omega)).1, (h1 (4 * p + w) (by omega) (by omega)).2]
  by_cases q : c < σ.1 84 2
  · rw [if_pos q, if_pos q, h.wk c0 (by omega) (by omega) (by omega)]
  · rw [if_neg q, if_neg q]
/-- the first w digits -/
def pd (n q w i : Int) : Int := q / n ^ (w - 1 - i).toNat % n
def lyE (n d : Int) : Int := if d < n - 1 then d else -2
theorem pd_in {n q w i : Int} (h1 : 1 ≤ n) : 0 ≤ pd n q w i ∧ pd n q w i ≤ n - 1 := by
  have a := Int.emod_nonneg (q / n ^ (w - 1 - i).toNat) (show n ≠ 0 by omega)
  have b := Int.emod_lt_of_pos (q / n ^ (w - 1 - i).toNat) (show 0 < n by omega)
  unfold pd
  omega
theorem qn_div {n q c : Int} (h1 : 1 ≤ n) (c0 : 0 ≤ c) (c1 : c < n) : (q * n + c) / n = q := by
  rw [Int.add_comm, Int.add_mul_ediv_right _ _ (by omega), Int.ediv_eq_zero_of_lt c0 c1, Int.zero_add]
theorem pd_old {n q w i c : Int} (h1 : 1 ≤ n) (c0 : 0 ≤ c) (c1 : c < n) (hi : i < w) : pd n (q * n + c) (w + 1) i = pd n q w i := by
  unfold pd
  rw [show (w + 1 - 1 - i).toNat = (w - 1 - i).toNat + 1 by omega, Int.pow_succ', ← Int.ediv_ediv_of_nonneg (by omega), qn_div h1 c0 c1]
theorem pd_new {n q w c : Int} (c0 : 0 ≤ c) (c1 : c < n) : pd n (q * n + c) (w + 1) w = c := by
  unfold pd
  rw [show (w + 1 - 1 - w).toNat = 0 by omega, Int.pow_zero, Int.ediv_one, Int.mul_comm, Int.mul_add_emod_self_left, Int.emod_eq_of_lt c0 c1]
theorem dg_pre {n x q w i : Int} {m : Nat} (h1 : 1 ≤ n) (hw : w + m = 4) (hi : i < w) (h0 : q * n ^ m ≤ x) (h2 : x < (q + 1) * n ^ m) : dg n x i = pd n q w i := by
  have hp : 0 < n ^ m := Int.pow_pos (by omega)
  have e : x / n ^ m = q := by
    rw [show x / n ^ m = ((x - q * n ^ m) + q * n ^ m) / n ^ m by congr 1; omega, Int.add_mul_ediv_right _ _ (by omega), Int.ediv_eq_zero_of_lt (by omega) (by rw [Int.add_mul] at h2; omega), Int.zero_add]
  unfold dg pd
  rw [show (3 - i).toNat = m + (w - 1 - i).toNat by omega, Int.pow_add, ← Int.ediv_ediv_of_nonneg (by omega), e]
def LyP (σ : Sg) (p : Int) (m : Nat) (τ : Sg) (w x q : Int) : Prop :=
  Ql σ τ ∧ w + m = 4 ∧ 0 ≤ q ∧ (0 ≤ x ∧ x < 64) ∧ (∀ c, 0 ≤ c → c < 6 → (x / 2 ^ c.toNat % 2 = 1 ↔ c < σ.1 84 2 ∧ ∃ i, 0 ≤ i ∧ i < w ∧ pd (σ.1 84 2 + 1) q w i = c)) ∧ (∀ i, 0 ≤ i → i < w → τ.1 109 i = lyE (σ.1 84 2 + 1) (pd (σ.1 84 2 + 1) q w i)) ∧ (∀ i j, 0 ≤ i → i < j → j < w → pd (σ.1 84 2 + 1) q w i = pd (σ.1 84 2 + 1) q w j → pd (σ.1 84 2 + 1) q w i = (σ.1 84 2 + 1) - 1) ∧ LyS (mFr σ p) (σ.1 84 2 + 1) (q * (σ.1 84 2 + 1) ^ m) (-1) (τ.1 82 48) (τ.1 110)
def LyQ (σ : Sg) (p : Int) (m : Nat) (τ : Sg) (w q : Int) (τ' : Sg) : Prop := Ql σ τ' ∧ (∀ i, 0 ≤ i → i < w → τ'.1 109 i = τ.1 109 i) ∧ LyS (mFr σ p) (σ.1 84 2 + 1) ((q + 1) * (σ.1 84 2 + 1) ^ m) (-1) (τ'.1 82 48) (τ'.1 110)
theorem LyP_in {σ τ ρ : Sg} {p w x q c : Int} {m : Nat} (hn0 : 0 ≤ σ.1 84 2) (hn6 : σ.1 84 2 ≤ 6) (h : LyP σ p (m + 1) τ w x q) (hw : 0 ≤ w) (hQ : Ql σ ρ) (h9 : ∀ i, 0 ≤ i → i < w → ρ.1 109 i = τ.1 109 i) (hL : LyS (mFr σ p) (σ.1 84 2 + 1) ((q * (σ.1 84 2 + 1) + c) * (σ.1 84 2 + 1) ^ m) (-1) (ρ.1 82 48) (ρ.1 110)) (c0 : 0 ≤ c) (c1 : c < σ.1 84 2) (hb : x / 2 ^ c.toNat % 2 = 0) : LyP σ p m (sI ρ 109 w c) (w + 1) (x + 2 ^ c.toNat) (q * (σ.1 84 2 + 1) + c) := by
  obtain ⟨-, b, q0, ⟨x0, x1⟩, e, f, g, -⟩ := h
  have hor := bt_or x0 x1 c0 (by omega) hb
  have hp := p2_32 (c := c) (by omega)
  refine ⟨hQ.s (Or.inl rfl) _ _, by omega, Int.add_nonneg (Int.mul_nonneg q0 (by omega)) c0, ⟨by omega, hor.2.1⟩, fun k k0 k6 => ?_, fun i i0 i1 => ?_, fun i j i0 i1 j1 ij => ?_, by rw [sI_ne _ (by decide), sI_ne _ (by decide)]; exact hL⟩
  · rw [hor.2.2 k k0 k6]
    by_cases r : k = c
    · rw [if_pos r]
      exact ⟨fun _ => ⟨by omega, w, hw, by omega, by rw [pd_new c0 (by omega), r]⟩, fun _ => rfl⟩
    · rw [if_neg r, e k k0 k6]
      exact ⟨fun ⟨u, i, i0, i1, i2⟩ => ⟨u, i, i0, by omega, by rw [pd_old (by omega) c0 (by omega) i1]; exact i2⟩, fun ⟨u, i, i0, i1, i2⟩ => ⟨u, by
        by_cases s : i = w
        · rw [s, pd_new c0 (by omega)] at i2; exact absurd i2.symm r
        · exact ⟨i, i0, by omega, by rw [pd_old (by omega) c0 (by omega) (by omega)] at i2; exact i2⟩⟩⟩
  · rw [sI_1]
    by_cases s : i = w
    · rw [if_pos ⟨rfl, s⟩, s, pd_new c0 (by omega)]
      unfold lyE
      rw [if_pos (by omega)]
    · rw [if_neg (fun r => s r.2), h9 i i0 (by omega), pd_old (by omega) c0 (by omega) (by omega)]
      exact f i i0 (by omega)
  · rw [pd_old (by omega) c0 (by omega) (by omega)] at ij ⊢
    by_cases s : j = w
    · rw [s, pd_new c0 (by omega)] at ij
      have := (e c c0 (by omega)).mpr ⟨c1, i, i0, by omega, ij⟩
      omega
    · rw [pd_old (by omega) c0 (by omega) (by omega)] at ij
      exact g i j i0 i1 (by omega) ij
theorem LyP_no {σ τ ρ : Sg} {p w x q : Int} {m : Nat} (hn0 : 0 ≤ σ.1 84 2) (h : LyP σ p (m + 1) τ w x q) (hw : 0 ≤ w) (hQ : Ql σ ρ) (h9 : ∀ i, 0 ≤ i → i < w → ρ.1 109 i = τ.1 109 i) (hL : LyS (mFr σ p) (σ.1 84 2 + 1) ((q * (σ.1 84 2 + 1) + σ.1 84 2) * (σ.1 84 2 + 1) ^ m) (-1) (ρ.1 82 48) (ρ.1 110)) : LyP σ p m (sI ρ 109 w (-2)) (w + 1) x (q * (σ.1 84 2 + 1) + σ.1 84 2) := by
  obtain ⟨-, b, q0, hx, e, f, g, -⟩ := h
  refine ⟨hQ.s (Or.inl rfl) _ _, by omega, Int.add_nonneg (Int.mul_nonneg q0 (by omega)) hn0, hx, fun k k0 k6 => ?_, fun i i0 i1 => ?_, fun i j i0 i1 j1 ij => ?_, by rw [sI_ne _ (by decide), sI_ne _ (by decide)]; exact hL⟩
  · rw [e k k0 k6]
    exact ⟨fun ⟨u, i, i0, i1, i2⟩ => ⟨u, i, i0, by omega, by rw [pd_old (by omega) hn0 (by omega) i1]; exact i2⟩, fun ⟨u, i, i0, i1, i2⟩ => ⟨u, by
      by_cases s : i = w
      · rw [s, pd_new hn0 (by omega)] at i2; omega
      · exact ⟨i, i0, by omega, by rw [pd_old (by omega) hn0 (by omega) (by omega)] at i2; exact i2⟩⟩⟩
  · rw [sI_1]
    by_cases s : i = w
    · rw [if_pos ⟨rfl, s⟩, s, pd_new hn0 (by omega)]
      unfold lyE
      rw [if_neg (by omega)]
    · rw [if_neg (fun r => s r.2), h9 i i0 (by omega), pd_old (by omega) hn0 (by omega) (by omega)]
      exact f i i0 (by omega)
  · rw [pd_old (by omega) hn0 (by omega) (by omega)] at ij ⊢
    by_cases s : j = w
    · rw [s, pd_new hn0 (by omega)] at ij
      omega
    · rw [pd_old (by omega) hn0 (by omega) (by omega)] at ij
      exact g i j i0 i1 (by omega) ij
theorem LyS_skip {σ τ : Sg} {p w x q c ar : Int} {bs : Int → Int} {m : Nat} (hn0 : 0 ≤ σ.1 84 2) (hn6 : σ.1 84 2 ≤ 6) (h : LyP σ p (m + 1) τ w x q) (hw : 0 ≤ w) (c0 : 0 ≤ c) (c1 : c < σ.1 84 2) (hb : x / 2 ^ c.toNat % 2 = 1) (hL : LyS (mFr σ p) (σ.1 84 2 + 1) ((q * (σ.1 84 2 + 1) + c) * (σ.1 84 2 + 1) ^ m) (-1) ar bs) : LyS (mFr σ p) (σ.1 84 2 + 1) ((q * (σ.1 84 2 + 1) + (c + 1)) * (σ.1 84 2 + 1) ^ m) (-1) ar bs := by
  obtain ⟨-, b, q0, hx, e, f, g, -⟩ := h
  have hp : 0 < (σ.1 84 2 + 1) ^ m := Int.pow_pos (by omega)
  have e1 : (q * (σ.1 84 2 + 1) + (c + 1)) * (σ.1 84 2 + 1) ^ m = (q * (σ.1 84 2 + 1) + c) * (σ.1 84 2 + 1) ^ m + (σ.1 84 2 + 1) ^ m := by
    rw [show q * (σ.1 84 2 + 1) + (c + 1) = q * (σ.1 84 2 + 1) + c + 1 by omega, Int.add_mul (q * (σ.1 84 2 + 1) + c) 1, Int.one_mul]
  refine LyS_no hL (by omega) (fun y y0 y1 hv => ?_)
  obtain ⟨-, i, i0, i1, i2⟩ := (e c c0 (by omega)).mp hb
  have y2 : y < (q * (σ.1 84 2 + 1) + c + 1) * (σ.1 84 2 + 1) ^ m := by rw [Int.add_mul (q * (σ.1 84 2 + 1) + c) 1, Int.one_mul]; omega
  have d1 := dg_pre (i := i) (n := σ.1 84 2 + 1) (w := w + 1) (m := m) (by omega) (by omega) (by omega) y0 y2
  have d2 := dg_pre (i := w) (n := σ.1 84 2 + 1) (w := w + 1) (m := m) (by omega) (by omega) (by omega) y0 y2
  rw [pd_old (by omega) c0 (by omega) i1, i2] at d1
  rw [pd_new c0 (by omega)] at d2
  have := hv i w i0 i1 (by omega) (by omega)
  omega

set_option maxHeartbeats 8000000 in
theorem c_X12_areaBy {G : Gx} {σ : Sg} {p : Int} (hT : MT σ) (hW : MW σ) (hI : MI σ 0) (hx44 : σ.1 82 44 = 0) (hp : 0 ≤ p) (hpn : p < σ.1 84 1) (h9 : ∀ i, 0 ≤ i → i < 4 → -2 ≤ σ.1 109 i ∧ σ.1 109 i < σ.1 84 2) : Con G 6 mX12_areaBy [.ref (G.2.2.2 + 82), .int (iZ p)] σ (pI (fun z σ' => z = lyA (mFr σ p) (lyD σ) ∧ Qr σ σ')) := by
  obtain ⟨hzz, hnp, hnc, hnb, hrn, hsd, hrw, hrq, hch, hbt, hck⟩ := id hT
  have hw01 : (if 50 ≤ σ.1 84 4 then (1 : Int) else 0) = 0 ∨ (if 50 ≤ σ.1 84 4 then (1 : Int) else 0) = 1 := by split <;> simp
  have lp : ∀ (n : Nat) (τ : Sg) (k : Int), 0 ≤ k → k + n = 4 → Qr σ τ → MI τ 1 → (∀ j, 0 ≤ j → j < 16 → mF τ 1 j = (if 0 ≤ j - 4 * p ∧ j - 4 * p < k then mFr σ p (j - 4 * p) (lyD σ (j - 4 * p)) else mF σ 0 j)) → J G 6 mX12_areaBy (pI (fun z σ' => z = lyA (mFr σ p) (lyD σ) ∧ Qr σ σ')) τ 15 [some (.ref (G.2.2.2 + 82)), some (.int (iZ p)), some (.int (iZ (if 50 ≤ σ.1 84 4 then 1 else 0))), some (.int (iZ k))] [] := by
    intro n
    induction n with
    | zero =>
      intro τ k h0 hn hq hI1 hf
      have n1 : τ.1 84 1 = σ.1 84 1 := by rw [hq.c (by decide) (by decide)]
      have e109 : τ.1 109 = σ.1 109 := hq.1.c (by decide)
      refine e_iload_n (q := 16) (i := 3) dX12_areaBy_15 rfl rfl rfl ?_
      refine e_iconst (q := 17) dX12_areaBy_16 rfl ?_
      refine e_icmp_ge (q := 20) (tgt := 71) dX12_areaBy_17 rfl (by decide) (fun c17 => ?_) (fun c17 => absurd (by omega) c17)
      refine e_aload_n (q := 72) (i := 0) dX12_areaBy_71 rfl rfl rfl ?_
      refine e_iconst (q := 73) dX12_areaBy_72 rfl ?_
      refine e_iload_n (q := 74) (i := 1) dX12_areaBy_73 rfl rfl rfl ?_
      refine e_Vip (q := 77) (vs := [_, _]) ok_X12_areaOf ml_X12_339 dX12_areaBy_74 rfl ⟨_, _, rfl⟩ (by first | assumption | rfl) rfl rfl (Nat.le_of_ble_eq_true rfl) (by decide) (c_X12_areaOf (by decide) (by decide) (by omega) (by omega)) ?_
      exact r_i dX12_areaBy_77 rfl ⟨by
    rw [hq.c (a := 86) (by decide) (by decide), hq.c (a := 87) (by decide) (by decide)]
    refine lyA_area (fun w a b => ?_)
    rw [hf _ (by omega) (by omega), if_pos (by omega), show 4 * p + w - 4 * p = w by omega], hq⟩
    | succ n ih =>
      intro τ k h0 hn hq hI1 hf
      have n1 : τ.1 84 1 = σ.1 84 1 := by rw [hq.c (by decide) (by decide)]
      have e109 : τ.1 109 = σ.1 109 := hq.1.c (by decide)
      refine e_iload_n (q := 16) (i := 3) dX12_areaBy_15 rfl rfl rfl ?_
      refine e_iconst (q := 17) dX12_areaBy_16 rfl ?_
      refine e_icmp_ge (q := 20) (tgt := 71) dX12_areaBy_17 rfl (by decide) (fun c17 => absurd c17 (by omega)) (fun c17 => ?_)
      refine e_aload_n (q := 21) (i := 0) dX12_areaBy_20 rfl rfl rfl ?_
      refine e_getR (q := 24) dX12_areaBy_21 rfl fg_X12_96 (by first | assumption | rfl) rfl ?_
      refine e_iload_n (q := 25) (i := 3) dX12_areaBy_24 rfl rfl rfl ?_
      refine e_iald (q := 26) dX12_areaBy_25 rfl (by first | assumption | rfl) ?_
      have hk := h9 k h0 (by omega)
      rw [e109]
      refine e_if_lt (q := 29) (tgt := 65) dX12_areaBy_26 rfl (by decide) (fun c26 => ?_) (fun c26 => ?_) (hx := ⟨by omega, by omega⟩)
      · refine e_iinc (q := 68) (L' := [_, _, _, _]) dX12_areaBy_65 rfl rfl (by decide) rfl rfl ?_
        refine e_goto (tgt := 15) dX12_areaBy_68 (by decide) ?_
        refine ih _ _ (by omega) (by omega) hq hI1 (fun j a b => ?_)
        rw [hf j a b]
        by_cases e : j = 4 * p + k
        · rw [if_neg (by omega), if_pos (by omega), e, show 4 * p + k - 4 * p = k by omega]
          have e1 : lyD σ k = σ.1 84 2 := if_pos (by omega)
          rw [e1]
          exact (if_neg (by omega)).symm
        · by_cases q : 0 ≤ j - 4 * p ∧ j - 4 * p < k
          · rw [if_pos q, if_pos ⟨q.1, by omega⟩]
          · rw [if_neg q, if_neg (by omega)]
      · refine e_aload_n (q := 30) (i := 0) dX12_areaBy_29 rfl rfl rfl ?_
        refine e_getR (q := 33) dX12_areaBy_30 rfl fg_X12_81 (by first | assumption | rfl) rfl ?_
        refine e_iconst (q := 34) dX12_areaBy_33 rfl ?_
        refine e_iload_n (q := 35) (i := 1) dX12_areaBy_34 rfl rfl rfl ?_
        refine e_iload_n (q := 36) (i := 3) dX12_areaBy_35 rfl rfl rfl ?_
        refine e_Sip (q := 39) (vs := [_, _, _]) ok_X12_slot ml_X12_322 dX12_areaBy_36 rfl rfl rfl (Nat.le_of_ble_eq_true rfl) (by decide) (c_X12_slot (t := 16 * 1 + (4 * p + k)) (by omega)) ?_
        refine e_aload_n (q := 40) (i := 0) dX12_areaBy_39 rfl rfl rfl ?_
        refine e_iconst (q := 41) dX12_areaBy_40 rfl ?_
        refine e_iload_n (q := 42) (i := 1) dX12_areaBy_41 rfl rfl rfl ?_
        refine e_aload_n (q := 43) (i := 0) dX12_areaBy_42 rfl rfl rfl ?_
        refine e_getR (q := 46) dX12_areaBy_43 rfl fg_X12_96 (by first | assumption | rfl) rfl ?_
        refine e_iload_n (q := 47) (i := 3) dX12_areaBy_46 rfl rfl rfl ?_
        refine e_iald (q := 48) dX12_areaBy_47 rfl (by first | assumption | rfl) ?_
        refine e_iload_n (q := 49) (i := 3) dX12_areaBy_48 rfl rfl rfl ?_
        refine e_aload_n (q := 50) (i := 0) dX12_areaBy_49 rfl rfl rfl ?_
        refine e_getR (q := 53) dX12_areaBy_50 rfl fg_X12_84 (by first | assumption | rfl) rfl ?_
        refine e_iconst (q := 54) dX12_areaBy_53 rfl ?_
        refine e_iload_n (q := 55) (i := 1) dX12_areaBy_54 rfl rfl rfl ?_
        refine e_iload_n (q := 56) (i := 3) dX12_areaBy_55 rfl rfl rfl ?_
        refine e_Sip (q := 59) (vs := [_, _, _]) ok_X12_slot ml_X12_322 dX12_areaBy_56 rfl rfl rfl (Nat.le_of_ble_eq_true rfl) (by decide) (c_X12_slot (t := 16 * 0 + (4 * p + k)) (by omega)) ?_
        refine e_iald (q := 60) dX12_areaBy_59 rfl (by first | assumption | rfl) ?_
        rw [e109]
        obtain ⟨hl1, -⟩ := ldm_out (hq.2 0 (by decide))
        have eK : τ.1 106 (16 * 0 + (4 * p + k)) = mK σ 0 (4 * p + k) := (hl1 (4 * p + k) (by omega) (by omega)).2
        rw [eK]
        have hKb := (hI.1 (4 * p + k) (by omega) (by omega)).2.2
        refine e_iload_n (q := 61) (i := 2) dX12_areaBy_60 rfl rfl rfl ?_
        refine e_Vi (q := 64) (vs := [_, _, _, _, _, _]) ok_X12_farBy ml_X12_376 dX12_areaBy_61 rfl ⟨_, _, rfl⟩ (by first | assumption | rfl) rfl rfl (Nat.le_of_ble_eq_true rfl) (by decide) (c_X12_farBy (hq.mt hT) (hq.mw hW) (hq.mi hI) (by decide) (by decide) (by omega) (by omega) (by omega) (by omega) (by omega) (by omega) (by omega) hKb hw01) (fun z61 s61 h61 => ?_)
        have ez : z61 = mFr σ p k (lyD σ k) := by
          rw [h61.1]
          have e1 : lyD σ k = σ.1 109 k := if_neg (by omega)
          rw [e1, show mFr σ p k (σ.1 109 k) = mWk σ (if 50 ≤ σ.1 84 4 then 1 else 0) (σ.1 109 k) (4 * p + k) (mK σ 0 (4 * p + k)) from if_pos (by omega)]
          exact hq.wk (by omega) (by omega) (by omega) (by omega)
        have hzb : 0 ≤ z61 ∧ z61 ≤ 39 := by rw [ez]; exact mFr_in hT hI hp hpn h0 (by omega)
        have hq1 : Qr σ s61 := ⟨hq.1.tr (h61.2.mono (by decide) (by decide)), fun u hu => (ldm_fr h61.2 nc_102 u).trans (hq.2 u hu)⟩
        have hI2 : MI s61 1 := hI1.fr h61.2 nc_102
        have hmp := (Mp.rf hI2).far (t := (4 * p + k)) (by omega) (by omega) hzb
        have hq2 : Qr σ (sI s61 105 (16 * 1 + (4 * p + k)) z61) := ⟨hq1.1.si (by decide) (by decide) _ _, fun u hu => (hmp.2.2.1.ld hu).trans (hq1.2 u hu)⟩
        refine e_iast (q := 65) dX12_areaBy_64 rfl (by first | assumption | rfl) ?_
        refine e_iinc (q := 68) (L' := [_, _, _, _]) dX12_areaBy_65 rfl rfl (by decide) rfl rfl ?_
        refine e_goto (tgt := 15) dX12_areaBy_68 (by decide) ?_
        refine ih _ _ (by omega) (by omega) hq2 hmp.2.2.2.1 (fun j a b => ?_)
        rw [mF_uf]
        unfold uf
        by_cases e : j = 4 * p + k
        · rw [if_pos e, if_pos (by omega), ez, show j - 4 * p = k by omega]
        · rw [if_neg e, show mF s61 1 j = mF τ 1 j from h61.2.e1 (by decide) _, hf j a b]
          by_cases q : 0 ≤ j - 4 * p ∧ j - 4 * p < k
          · rw [if_pos q, if_pos ⟨q.1, by omega⟩]
          · rw [if_neg q, if_neg (by omega)]
  refine e_entry om_X12_areaBy (Nat.le_of_ble_eq_true rfl) (L := [some (.ref (G.2.2.2 + 82)), some (.int (iZ p)), none, none]) rfl ?_
  refine e_aload_n (q := 1) (i := 0) dX12_areaBy_0 rfl rfl rfl ?_
  refine e_iconst (q := 2) dX12_areaBy_1 rfl ?_
  refine e_iconst (q := 3) dX12_areaBy_2 rfl ?_
  refine e_Vip (q := 6) (vs := [_, _]) ok_X12_isWet ml_X12_384 dX12_areaBy_3 rfl ⟨_, _, rfl⟩ (by first | assumption | rfl) rfl rfl (Nat.le_of_ble_eq_true rfl) (by decide) (c_X12_isWet0 hT hx44) ?_
  refine e_istore_n (q := 7) (i := 2) (L' := [_, _, _, _]) dX12_areaBy_6 rfl rfl (by decide) rfl rfl ?_
  refine e_aload_n (q := 8) (i := 0) dX12_areaBy_7 rfl rfl rfl ?_
  refine e_iconst (q := 9) dX12_areaBy_8 rfl ?_
  refine e_iconst (q := 10) dX12_areaBy_9 rfl ?_
  refine e_Vv (q := 13) (vs := [_, _]) ok_X12_copies ml_X12_431 dX12_areaBy_10 rfl ⟨_, _, rfl⟩ (by first | assumption | rfl) rfl rfl (Nat.le_of_ble_eq_true rfl) (by decide) (c_X12_copies (by decide) (by decide) (by decide) (by decide) (by decide)) (fun s10 h10 => ?_)
  refine e_iconst (q := 14) dX12_areaBy_13 rfl ?_
  refine e_istore_n (q := 15) (i := 3) (L' := [_, _, _, _]) dX12_areaBy_14 rfl rfl (by decide) rfl rfl ?_
  exact lp 4 s10 0 (by decide) (by decide) ⟨h10.1.mono (by decide) (by simp), fun u hu => h10.2.1.ld hu⟩ (hI.ld h10.ld) (fun j a b => by rw [if_neg (by omega)]; exact (h10.2.2.1 j a b).1)

set_option maxHeartbeats 8000000 in
theorem c_X12_lays {G : Gx} {σ : Sg} {p : Int} (hT : MT σ) (hW : MW σ) (hI : MI σ 0) (hx44 : σ.1 82 44 = 0) (hp : 0 ≤ p) (hpn : p < σ.1 84 1) : ∀ (m : Nat), m ≤ 4 → ∀ (τ : Sg) (w x q : Int), LyP σ p m τ w x q → Con G (7 + m) mX12_lays [.ref (G.2.2.2 + 82), .int (iZ p), .int (iZ w), .int (iZ x)] τ (pV (LyQ σ p m τ w q)) := by
  obtain ⟨hzz, hnp, hnc, hnb, hrn, hsd, hrw, hrq, hch, hbt, hck⟩ := id hT
  intro m
  induction m with
  | zero =>
    intro _ τ w x q hP
    obtain ⟨hQ, hw, hq0, hx, hbt2, h9, hv, hL⟩ := id hP
    have n1 : τ.1 84 1 = σ.1 84 1 := by rw [hQ.c (by decide) (by decide)]
    have n2 : τ.1 84 2 = σ.1 84 2 := by rw [hQ.c (by decide) (by decide)]
    have ew : w = 4 := by omega
    subst ew
    refine e_entry om_X12_lays (Nat.le_of_ble_eq_true rfl) (L := [some (.ref (G.2.2.2 + 82)), some (.int (iZ p)), some (.int (iZ 4)), some (.int (iZ x)), none, none]) rfl ?_
    refine e_iload_n (q := 1) (i := 2) dX12_lays_0 rfl rfl rfl ?_
    refine e_iconst (q := 2) dX12_lays_1 rfl ?_
    refine e_icmp_ge (q := 5) (tgt := 78) dX12_lays_2 rfl (by decide) (fun c2 => ?_) (fun c2 => absurd (by omega) c2)
    have hd9 : ∀ i, 0 ≤ i → i < 4 → -2 ≤ τ.1 109 i ∧ τ.1 109 i < τ.1 84 2 := fun i a b => by
      have := pd_in (n := (σ.1 84 2 + 1)) (q := q) (w := 4) (i := i) (by omega)
      rw [h9 i a b, n2]
      unfold lyE
      split <;> omega
    have ea : lyA (mFr τ p) (lyD τ) = lyA (mFr σ p) (dg (σ.1 84 2 + 1) q) := lyA_c (fun w a b => by
      have hpd := pd_in (n := (σ.1 84 2 + 1)) (q := q) (w := 4) (i := w) (by omega)
      have hdg : dg (σ.1 84 2 + 1) q w = pd (σ.1 84 2 + 1) q 4 w := by unfold dg pd; rw [show (4 : Int) - 1 - w = 3 - w by omega]
      have e1 : lyD τ w = pd (σ.1 84 2 + 1) q 4 w := by
        unfold lyD
        rw [h9 w a b, n2]
        unfold lyE
        by_cases r : pd (σ.1 84 2 + 1) q 4 w < (σ.1 84 2 + 1) - 1
        · rw [if_pos r, if_neg (by omega)]
        · rw [if_neg r, if_pos (by decide)]; omega
      rw [hdg, e1]
      exact hQ.fr (by omega) (by omega) hp (by omega) a b (by omega))
    have har : 1 ≤ lyA (mFr σ p) (dg (σ.1 84 2 + 1) q) ∧ lyA (mFr σ p) (dg (σ.1 84 2 + 1) q) ≤ 6400 := lyA_in (fun w a b => mFr_in hT hI hp hpn a b)
    have hl5 : -1 ≤ τ.1 82 48 ∧ τ.1 82 48 ≤ 6400 := by
      rcases hL with ⟨_, q⟩ | ⟨b, _, q, _⟩
      · omega
      · have := lyA_in (F := (mFr σ p)) (d := dg (σ.1 84 2 + 1) b) (fun w a b => mFr_in hT hI hp hpn a b)
        omega
    have hL1 : LyS (mFr σ p) (σ.1 84 2 + 1) q (-1) (τ.1 82 48) (τ.1 110) := by rw [Int.pow_zero, Int.mul_one] at hL; exact hL
    have hV : lyV (σ.1 84 2 + 1) q := fun i j i0 i1 i2 i3 => by
      have e1 : ∀ k, dg (σ.1 84 2 + 1) q k = pd (σ.1 84 2 + 1) q 4 k := fun k => by unfold dg pd; rw [show (4 : Int) - 1 - k = 3 - k by omega]
      rw [e1 i, e1 j] at i3
      rw [e1 i]
      exact hv i j i0 i1 i2 i3
    refine e_aload_n (q := 79) (i := 0) dX12_lays_78 rfl rfl rfl ?_
    refine e_iload_n (q := 80) (i := 1) dX12_lays_79 rfl rfl rfl ?_
    refine e_Vi (q := 83) (vs := [_]) ok_X12_areaBy ml_X12_447 dX12_lays_80 rfl ⟨_, _, rfl⟩ (by first | assumption | rfl) rfl rfl (Nat.le_of_ble_eq_true rfl) (by decide) (c_X12_areaBy (hQ.mt hT) (hQ.mw hW) (hQ.mi hI) (by rw [hQ.f (by decide) (by decide)]; exact hx44) hp (by omega) hd9) (fun z80 s80 h80 => ?_)
    obtain ⟨hz, hq2⟩ := h80
    rw [ea] at hz
    subst hz
    have e48 : s80.1 82 48 = τ.1 82 48 := hq2.f (by decide)
    refine e_istore (q := 85) (L' := [_, _, _, _, _, _]) dX12_lays_83 rfl (by decide) rfl rfl ?_
    refine e_iload (q := 87) dX12_lays_85 rfl rfl ?_
    refine e_aload_n (q := 88) (i := 0) dX12_lays_87 rfl rfl rfl ?_
    refine e_getI (q := 91) (jz := 48) dX12_lays_88 rfl fg_X12_450 rfl (by first | assumption | rfl) rfl ?_
    rw [e48]
    refine e_icmp_gt (q := 94) (tgt := 95) dX12_lays_91 rfl (by decide) (fun c91 => ?_) (fun c91 => ?_)
    · refine e_aload_n (q := 96) (i := 0) dX12_lays_95 rfl rfl rfl ?_
      refine e_iload (q := 98) dX12_lays_96 rfl rfl ?_
      refine e_putI (q := 101) (jz := 48) dX12_lays_98 rfl fp_X12_450 rfl (by first | assumption | rfl) rfl ?_
      refine e_iconst (q := 102) dX12_lays_101 rfl ?_
      refine e_istore (q := 104) (L' := [_, _, _, _, _, _]) dX12_lays_102 rfl (by decide) rfl rfl ?_
      have lp : ∀ (n : Nat) (ρ : Sg) (k : Int), 0 ≤ k → k + n = 4 → Ql σ ρ → ρ.1 109 = τ.1 109 → ρ.1 82 48 = lyA (mFr σ p) (dg (σ.1 84 2 + 1) q) → (∀ i, 0 ≤ i → i < k → ρ.1 110 i = τ.1 109 i) → J G 7 mX12_lays (pV (LyQ σ p 0 τ 4 q)) ρ 104 [some (.ref (G.2.2.2 + 82)), some (.int (iZ p)), some (.int (iZ 4)), some (.int (iZ x)), some (.int (iZ (lyA (mFr σ p) (dg (σ.1 84 2 + 1) q)))), some (.int (iZ k))] [] := by
        intro n
        induction n with
        | zero =>
          intro ρ k h0 hn hQ2 e9 e48 hb
          refine e_iload (q := 106) dX12_lays_104 rfl rfl ?_
          refine e_iconst (q := 107) dX12_lays_106 rfl ?_
          refine e_icmp_ge (q := 110) (tgt := 130) dX12_lays_107 rfl (by decide) (fun c107 => ?_) (fun c107 => absurd (by omega) c107)
          exact r_v dX12_lays_130 rfl ⟨hQ2, fun i a b => by rw [e9], by
            rw [Int.pow_zero, Int.mul_one, e48]
            refine LyS_up hL1 hq0 hV (by omega) (fun w a b => ?_)
            rw [hb w a (by omega), h9 w a b]
            unfold lyW lyE dg pd
            rw [show (4 : Int) - 1 - w = 3 - w by omega]⟩
        | succ n ih =>
          intro ρ k h0 hn hQ2 e9 e48 hb
          refine e_iload (q := 106) dX12_lays_104 rfl rfl ?_
          refine e_iconst (q := 107) dX12_lays_106 rfl ?_
          refine e_icmp_ge (q := 110) (tgt := 130) dX12_lays_107 rfl (by decide) (fun c107 => absurd c107 (by omega)) (fun c107 => ?_)
          refine e_aload_n (q := 111) (i := 0) dX12_lays_110 rfl rfl rfl ?_
          refine e_getR (q := 114) dX12_lays_111 rfl fg_X12_99 (by first | assumption | rfl) rfl ?_
          refine e_iload (q := 116) dX12_lays_114 rfl rfl ?_
          refine e_aload_n (q := 117) (i := 0) dX12_lays_116 rfl rfl rfl ?_
          refine e_getR (q := 120) dX12_lays_117 rfl fg_X12_96 (by first | assumption | rfl) rfl ?_
          refine e_iload (q := 122) dX12_lays_120 rfl rfl ?_
          refine e_iald (q := 123) dX12_lays_122 rfl (by first | assumption | rfl) ?_
          rw [e9]
          refine e_iast (q := 124) dX12_lays_123 rfl (by first | assumption | rfl) ?_
          refine e_iinc (q := 127) (L' := [_, _, _, _, _, _]) dX12_lays_124 rfl rfl (by decide) rfl rfl ?_
          refine e_goto (tgt := 104) dX12_lays_127 (by decide) ?_
          refine ih _ _ (by omega) (by omega) (hQ2.s (Or.inr rfl) _ _) (by rw [sI_ne _ (by decide)]; exact e9) (by rw [sI_ne _ (by decide)]; exact e48) (fun i a b => ?_)
          rw [sI_1]
          by_cases e : i = k
          · rw [if_pos ⟨rfl, e⟩, e]
          · rw [if_neg (fun r => e r.2)]
            exact hb i a (by omega)
      exact lp 4 _ 0 (by decide) (by decide) ((hQ.qr hq2).s48 _) (by rw [sI_ne _ (by decide)]; exact hq2.1.c (by decide)) (by rw [sI_1, if_pos ⟨rfl, rfl⟩]) (fun i a b => absurd b (by omega))
    · exact r_v dX12_lays_94 rfl ⟨hQ.qr hq2, fun i a b => hq2.1.e1 (by decide) i, by rw [Int.pow_zero, Int.mul_one, e48, hq2.1.c (a := 110) (by decide)]; exact LyS_le hL1 (by omega) (by omega)⟩
  | succ m IH =>
    intro hm τ w x q hP
    obtain ⟨hQ, hw, hq0, hx, hbt2, h9, hv, hL⟩ := id hP
    refine e_entry om_X12_lays (Nat.le_of_ble_eq_true rfl) (L := [some (.ref (G.2.2.2 + 82)), some (.int (iZ p)), some (.int (iZ w)), some (.int (iZ x)), none, none]) rfl ?_
    refine e_iload_n (q := 1) (i := 2) dX12_lays_0 rfl rfl rfl ?_
    refine e_iconst (q := 2) dX12_lays_1 rfl ?_
    refine e_icmp_ge (q := 5) (tgt := 78) dX12_lays_2 rfl (by decide) (fun c2 => absurd c2 (by omega)) (fun c2 => ?_)
    refine e_iconst (q := 6) dX12_lays_5 rfl ?_
    refine e_istore (q := 8) (L' := [_, _, _, _, _, _]) dX12_lays_6 rfl (by decide) rfl rfl ?_
    have lp : ∀ (n : Nat) (ρ : Sg) (c : Int), 0 ≤ c → c + n = (σ.1 84 2) → Ql σ ρ → (∀ i, 0 ≤ i → i < w → ρ.1 109 i = τ.1 109 i) → LyS (mFr σ p) (σ.1 84 2 + 1) ((q * (σ.1 84 2 + 1) + c) * (σ.1 84 2 + 1) ^ m) (-1) (ρ.1 82 48) (ρ.1 110) → J G (7 + (m + 1)) mX12_lays (pV (LyQ σ p (m + 1) τ w q)) ρ 8 [some (.ref (G.2.2.2 + 82)), some (.int (iZ p)), some (.int (iZ w)), some (.int (iZ x)), some (.int (iZ c)), none] [] := by
      intro n
      induction n with
      | zero =>
        intro ρ c h0 hn hQ2 hp9 hL2
        have n2 : ρ.1 84 2 = σ.1 84 2 := by rw [hQ2.c (by decide) (by decide)]
        refine e_iload (q := 10) dX12_lays_8 rfl rfl ?_
        refine e_aload_n (q := 11) (i := 0) dX12_lays_10 rfl rfl rfl ?_
        refine e_getR (q := 14) dX12_lays_11 rfl fg_X12_13 (by first | assumption | rfl) rfl ?_
        refine e_iconst (q := 15) dX12_lays_14 rfl ?_
        refine e_iald (q := 16) dX12_lays_15 rfl (by first | assumption | rfl) ?_
        refine e_icmp_ge (q := 19) (tgt := 60) dX12_lays_16 rfl (by decide) (fun c16 => ?_) (fun c16 => absurd (by omega) c16)
        refine e_aload_n (q := 61) (i := 0) dX12_lays_60 rfl rfl rfl ?_
        refine e_getR (q := 64) dX12_lays_61 rfl fg_X12_96 (by first | assumption | rfl) rfl ?_
        refine e_iload_n (q := 65) (i := 2) dX12_lays_64 rfl rfl rfl ?_
        refine e_bipush (q := 67) dX12_lays_65 rfl (by decide) ?_
        refine e_iast (q := 68) dX12_lays_67 rfl (by first | assumption | rfl) ?_
        have ec : c = (σ.1 84 2) := by omega
        subst ec
        refine e_aload_n (q := 69) (i := 0) dX12_lays_68 rfl rfl rfl ?_
        refine e_iload_n (q := 70) (i := 1) dX12_lays_69 rfl rfl rfl ?_
        refine e_iload_n (q := 71) (i := 2) dX12_lays_70 rfl rfl rfl ?_
        refine e_iconst (q := 72) dX12_lays_71 rfl ?_
        refine e_iadd (q := 73) dX12_lays_72 rfl ?_
        refine e_iload_n (q := 74) (i := 3) dX12_lays_73 rfl rfl rfl ?_
        refine e_Vv (q := 77) (vs := [_, _, _]) ok_X12_lays ml_X12_443 dX12_lays_74 rfl ⟨_, _, rfl⟩ (by first | assumption | rfl) rfl rfl (Nat.le_of_ble_eq_true rfl) (by omega) (IH (by omega) _ (w + 1) x (q * (σ.1 84 2 + 1) + (σ.1 84 2)) (LyP_no hnc.1 hP (by omega) hQ2 hp9 hL2)) (fun s74 h74 => ?_)
        exact r_v dX12_lays_77 rfl ⟨h74.1, fun i a b => by rw [h74.2.1 i a (by omega), sI_1, if_neg (fun r => by have := r.2; omega)]; exact hp9 i a b, by
          have hz := h74.2.2
          rw [show q * (σ.1 84 2 + 1) + (σ.1 84 2) + 1 = (q + 1) * (σ.1 84 2 + 1) by rw [Int.add_mul q 1, Int.one_mul]; omega, Int.mul_assoc, ← Int.pow_succ'] at hz
          exact hz⟩
      | succ n ih =>
        intro ρ c h0 hn hQ2 hp9 hL2
        have n2 : ρ.1 84 2 = σ.1 84 2 := by rw [hQ2.c (by decide) (by decide)]
        refine e_iload (q := 10) dX12_lays_8 rfl rfl ?_
        refine e_aload_n (q := 11) (i := 0) dX12_lays_10 rfl rfl rfl ?_
        refine e_getR (q := 14) dX12_lays_11 rfl fg_X12_13 (by first | assumption | rfl) rfl ?_
        refine e_iconst (q := 15) dX12_lays_14 rfl ?_
        refine e_iald (q := 16) dX12_lays_15 rfl (by first | assumption | rfl) ?_
        refine e_icmp_ge (q := 19) (tgt := 60) dX12_lays_16 rfl (by decide) (fun c16 => absurd c16 (by omega)) (fun c16 => ?_)
        refine e_iload_n (q := 20) (i := 3) dX12_lays_19 rfl rfl rfl ?_
        refine e_iload (q := 22) dX12_lays_20 rfl rfl ?_
        have hp2 := p2_32 (c := c) (by omega)
        refine e_ishr (q := 23) dX12_lays_22 rfl (iZ_shrk hx.1 (by omega) h0 (by omega)) ?_
        refine e_iconst (q := 24) dX12_lays_23 rfl ?_
        refine e_iand (q := 25) dX12_lays_24 rfl (iZ_and1 (Int.ediv_nonneg hx.1 (by omega)) (by have := Int.ediv_le_self (2 ^ c.toNat) hx.1; omega)) ?_
        refine e_iconst (q := 26) dX12_lays_25 rfl ?_
        refine e_icmp_ne (q := 29) (tgt := 32) dX12_lays_26 rfl (by decide) (fun c26 => ?_) (fun c26 => ?_) (hx := ⟨by omega, by omega⟩)
        · have hbz : x / 2 ^ c.toNat % 2 = 0 := by omega
          refine e_aload_n (q := 33) (i := 0) dX12_lays_32 rfl rfl rfl ?_
          refine e_getR (q := 36) dX12_lays_33 rfl fg_X12_96 (by first | assumption | rfl) rfl ?_
          refine e_iload_n (q := 37) (i := 2) dX12_lays_36 rfl rfl rfl ?_
          refine e_iload (q := 39) dX12_lays_37 rfl rfl ?_
          refine e_iast (q := 40) dX12_lays_39 rfl (by first | assumption | rfl) ?_
          refine e_aload_n (q := 41) (i := 0) dX12_lays_40 rfl rfl rfl ?_
          refine e_iload_n (q := 42) (i := 1) dX12_lays_41 rfl rfl rfl ?_
          refine e_iload_n (q := 43) (i := 2) dX12_lays_42 rfl rfl rfl ?_
          refine e_iconst (q := 44) dX12_lays_43 rfl ?_
          refine e_iadd (q := 45) dX12_lays_44 rfl ?_
          refine e_iload_n (q := 46) (i := 3) dX12_lays_45 rfl rfl rfl ?_
          refine e_iconst (q := 47) dX12_lays_46 rfl ?_
          refine e_iload (q := 49) dX12_lays_47 rfl rfl ?_
          refine e_ishl (q := 50) dX12_lays_49 rfl (iZ_shl1 h0 (by omega)) ?_
          refine e_ior (q := 51) dX12_lays_50 rfl (bt_or hx.1 hx.2 h0 (by omega) hbz).1 ?_
          refine e_Vv (q := 54) (vs := [_, _, _]) ok_X12_lays ml_X12_443 dX12_lays_51 rfl ⟨_, _, rfl⟩ (by first | assumption | rfl) rfl rfl (Nat.le_of_ble_eq_true rfl) (by omega) (IH (by omega) _ (w + 1) (x + 2 ^ c.toNat) (q * (σ.1 84 2 + 1) + c) (LyP_in hnc.1 (by omega) hP (by omega) hQ2 hp9 hL2 h0 (by omega) hbz)) (fun s51 h51 => ?_)
          refine e_iinc (q := 57) (L' := [_, _, _, _, _, _]) dX12_lays_54 rfl rfl (by decide) rfl rfl ?_
          refine e_goto (tgt := 8) dX12_lays_57 (by decide) ?_
          refine ih _ _ (by omega) (by omega) h51.1 (fun i a b => by rw [h51.2.1 i a (by omega), sI_1, if_neg (fun r => by have := r.2; omega)]; exact hp9 i a b) ?_
          have hz := h51.2.2
          rw [show q * (σ.1 84 2 + 1) + c + 1 = q * (σ.1 84 2 + 1) + (c + 1) by omega] at hz
          exact hz
        · refine e_goto (tgt := 54) dX12_lays_29 (by decide) ?_
          refine e_iinc (q := 57) (L' := [_, _, _, _, _, _]) dX12_lays_54 rfl rfl (by decide) rfl rfl ?_
          refine e_goto (tgt := 8) dX12_lays_57 (by decide) ?_
          exact ih _ _ (by omega) (by omega) hQ2 hp9 (LyS_skip hnc.1 (by omega) hP (by omega) h0 (by omega) (by omega) hL2)
    exact lp ((σ.1 84 2)).toNat τ 0 (by decide) (by omega) hQ (fun i a b => rfl) (by rw [Int.add_zero, Int.mul_assoc, ← Int.pow_succ']; exact hL)

set_option maxHeartbeats 4000000 in
theorem c_X12_laid {G : Gx} {σ0 σ : Sg} {p x : Int} (hσ : σ = sI σ0 82 0 0) (hT : MT σ) (hW : MW σ) (hI : MI σ 0) (hx44 : σ.1 82 44 = 0) (hp : R32 p) (hx : R32 x) : Con G 12 mX12_laid [.ref (G.2.2.2 + 82), .int (iZ p), .int (iZ x)] σ0 (pI (fun z σ' => (¬ ((0 ≤ p ∧ p < σ.1 84 1) ∧ 0 ≤ x ∧ x ≤ 4) ∧ z = -1 ∧ σ' = σ) ∨ (((0 ≤ p ∧ p < σ.1 84 1) ∧ 0 ≤ x ∧ x ≤ 4) ∧ (∃ b, lyB (mFr σ p) (σ.1 84 2 + 1) ((σ.1 84 2 + 1) ^ 4) b ∧ z = if x = 4 then lyA (mFr σ p) (dg (σ.1 84 2 + 1) b) else lyW (σ.1 84 2 + 1) b x) ∧ Qm σ σ'))) := by
  obtain ⟨hzz, hnp, hnc, hnb, hrn, hsd, hrw, hrq, hch, hbt, hck⟩ := id hT
  refine e_entry om_X12_laid (Nat.le_of_ble_eq_true rfl) (L := [some (.ref (G.2.2.2 + 82)), some (.int (iZ p)), some (.int (iZ x))]) rfl ?_
  refine e_aload_n (q := 1) (i := 0) dX12_laid_0 rfl rfl rfl ?_
  refine e_iconst (q := 2) dX12_laid_1 rfl ?_
  refine e_putI (q := 5) (jz := 0) dX12_laid_2 rfl fp_X12_136 rfl (by first | assumption | rfl) rfl ?_
  rw [← hσ]
  refine e_aload_n (q := 6) (i := 0) dX12_laid_5 rfl rfl rfl ?_
  refine e_iload_n (q := 7) (i := 1) dX12_laid_6 rfl rfl rfl ?_
  refine e_Vip (q := 10) (vs := [_]) ok_X12_isParish ml_X12_396 dX12_laid_7 rfl ⟨_, _, rfl⟩ (by first | assumption | rfl) rfl rfl (Nat.le_of_ble_eq_true rfl) (by decide) (c_X12_isParish hT (by assumption)) ?_
  refine e_if_eq (q := 13) (tgt := 22) dX12_laid_10 rfl (by decide) (fun c10 => ?_) (fun c10 => ?_)
  · refine e_iconst (q := 23) dX12_laid_22 rfl ?_
    exact r_i dX12_laid_23 rfl (Or.inl ⟨by omega, rfl, rfl⟩)
  · refine e_iload_n (q := 14) (i := 2) dX12_laid_13 rfl rfl rfl ?_
    refine e_if_lt (q := 17) (tgt := 22) dX12_laid_14 rfl (by decide) (fun c14 => ?_) (fun c14 => ?_)
    · refine e_iconst (q := 23) dX12_laid_22 rfl ?_
      exact r_i dX12_laid_23 rfl (Or.inl ⟨by omega, rfl, rfl⟩)
    · refine e_iload_n (q := 18) (i := 2) dX12_laid_17 rfl rfl rfl ?_
      refine e_iconst (q := 19) dX12_laid_18 rfl ?_
      refine e_icmp_le (q := 22) (tgt := 24) dX12_laid_19 rfl (by decide) (fun c19 => ?_) (fun c19 => ?_)
      · refine e_aload_n (q := 25) (i := 0) dX12_laid_24 rfl rfl rfl ?_
        refine e_iconst (q := 26) dX12_laid_25 rfl ?_
        refine e_putI (q := 29) (jz := 48) dX12_laid_26 rfl fp_X12_450 rfl (by first | assumption | rfl) rfl ?_
        refine e_aload_n (q := 30) (i := 0) dX12_laid_29 rfl rfl rfl ?_
        refine e_iload_n (q := 31) (i := 1) dX12_laid_30 rfl rfl rfl ?_
        refine e_iconst (q := 32) dX12_laid_31 rfl ?_
        refine e_iconst (q := 33) dX12_laid_32 rfl ?_
        refine e_Vv (q := 36) (vs := [_, _, _]) ok_X12_lays ml_X12_443 dX12_laid_33 rfl ⟨_, _, rfl⟩ (by first | assumption | rfl) rfl rfl (Nat.le_of_ble_eq_true rfl) (by decide) (c_X12_lays hT hW hI hx44 (by omega) (by omega) 4 (by decide) _ 0 0 0 ⟨(Ql.rf σ).s48 _, by decide, by decide, ⟨by decide, by decide⟩, fun c a b => ⟨fun r => by rw [Int.zero_ediv] at r; omega, fun ⟨_, i, i0, i1, _⟩ => by omega⟩, fun i a b => by omega, fun i j a b c => by omega, by rw [Int.zero_mul, sI_1, if_pos ⟨rfl, rfl⟩]; exact LyS_0 _ _ _ _⟩) (fun s33 h33 => ?_)
        obtain ⟨hQ, -, hE⟩ := h33
        rw [show ((0 : Int) + 1) * (σ.1 84 2 + 1) ^ 4 = (σ.1 84 2 + 1) ^ 4 by rw [Int.zero_add, Int.one_mul]] at hE
        obtain ⟨b, hb, hA, hW4⟩ := LyS_end (by omega) (by omega) hE
        refine e_iload_n (q := 37) (i := 2) dX12_laid_36 rfl rfl rfl ?_
        refine e_iconst (q := 38) dX12_laid_37 rfl ?_
        refine e_icmp_ne (q := 41) (tgt := 48) dX12_laid_38 rfl (by decide) (fun c38 => ?_) (fun c38 => ?_)
        · refine e_aload_n (q := 49) (i := 0) dX12_laid_48 rfl rfl rfl ?_
          refine e_getR (q := 52) dX12_laid_49 rfl fg_X12_99 (by first | assumption | rfl) rfl ?_
          refine e_iload_n (q := 53) (i := 2) dX12_laid_52 rfl rfl rfl ?_
          refine e_iald (q := 54) dX12_laid_53 rfl (by first | assumption | rfl) ?_
          exact r_i dX12_laid_54 rfl (Or.inr ⟨by omega, ⟨b, hb, by rw [if_neg c38, hW4 x (by omega) (by omega)]⟩, hQ.qm⟩)
        · refine e_aload_n (q := 42) (i := 0) dX12_laid_41 rfl rfl rfl ?_
          refine e_getI (q := 45) (jz := 48) dX12_laid_42 rfl fg_X12_450 rfl (by first | assumption | rfl) rfl ?_
          refine e_goto (tgt := 54) dX12_laid_45 (by decide) ?_
          exact r_i dX12_laid_54 rfl (Or.inr ⟨by omega, ⟨b, hb, by rw [if_pos c38, hA]⟩, hQ.qm⟩)
      · refine e_iconst (q := 23) dX12_laid_22 rfl ?_
        exact r_i dX12_laid_23 rfl (Or.inl ⟨by omega, rfl, rfl⟩)

