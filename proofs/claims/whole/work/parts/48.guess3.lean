/-! ===== the reference's guesses ===== -/
def MN (σ : Sg) : Prop := (0 ≤ σ.1 82 53 ∧ σ.1 82 53 ≤ 24) ∧ (-1 ≤ σ.1 82 54 ∧ σ.1 82 54 ≤ σ.1 82 53) ∧ (∀ k, 0 ≤ k → k < 24 → (0 ≤ σ.1 112 k ∧ σ.1 112 k ≤ 60) ∧ (0 ≤ σ.1 113 k ∧ σ.1 113 k < 4) ∧ (0 ≤ σ.1 114 k ∧ σ.1 114 k < 40) ∧ (0 ≤ σ.1 115 k ∧ σ.1 115 k < 40) ∧ (σ.1 116 k = 0 ∨ σ.1 116 k = 1) ∧ (-1 ≤ σ.1 117 k ∧ σ.1 117 k < 24) ∧ (σ.1 118 k = 0 ∨ σ.1 118 k = 1)) ∧ (∀ k, 0 ≤ k → k < σ.1 82 53 → σ.1 117 k < k) ∧ ∀ k, 0 ≤ k → k < σ.1 82 53 → σ.1 117 k = -1 → σ.1 113 k < σ.1 84 1 ∧ 1 ≤ σ.1 112 k
def Qg (σ τ : Sg) : Prop := Fm [100, 101, 102, 103, 104, 105, 106, 107, 108, 118, 119] [34] σ τ ∧ ∀ u, u ≠ 1 → ldm τ u = ldm σ u
theorem nc_84g : ∀ a, 84 ≤ a → a ≤ 95 → a ∉ 82 :: [100, 101, 102, 103, 104, 105, 106, 107, 108, 118, 119] := by
  intro a h1 h2 h3; simp only [List.mem_cons, List.not_mem_nil, or_false] at h3; omega
theorem nc_96g : ∀ a, 96 ≤ a → a ≤ 99 → a ∉ 82 :: [100, 101, 102, 103, 104, 105, 106, 107, 108, 118, 119] := by
  intro a h1 h2 h3; simp only [List.mem_cons, List.not_mem_nil, or_false] at h3; omega
theorem Qg.rf (σ : Sg) : Qg σ σ := ⟨Fm.rf _ _ _, fun _ _ => rfl⟩
theorem Qg.tr {σ τ σ' : Sg} (h : Qg σ τ) (h' : Qg τ σ') : Qg σ σ' := ⟨h.1.tr h'.1, fun u hu => (h'.2 u hu).trans (h.2 u hu)⟩
theorem Qg.mt {σ τ : Sg} (h : Qg σ τ) (hT : MT σ) : MT τ := hT.fr h.1 nc_84g
theorem Qg.mb {σ τ : Sg} (h : Qg σ τ) (hT : MB σ) : MB τ := hT.fr h.1 nc_84g
theorem Qg.mw {σ τ : Sg} (h : Qg σ τ) (hT : MW σ) : MW τ := hT.fr h.1 nc_96g
theorem Qg.c {σ τ : Sg} (h : Qg σ τ) {a : Nat} (h1 : 84 ≤ a) (h2 : a ≤ 95) : τ.1 a = σ.1 a := h.1.c (nc_84g a h1 h2)
theorem Qg.n {σ τ : Sg} (h : Qg σ τ) {a : Nat} (h1 : 112 ≤ a) (h2 : a ≤ 117) : τ.1 a = σ.1 a := h.1.c (by intro h3; simp only [List.mem_cons, List.not_mem_nil, or_false] at h3; omega)
theorem Qg.f {σ τ : Sg} (h : Qg σ τ) {j : Int} (hj : j ≠ 34) : τ.1 82 j = σ.1 82 j := h.1.2 j (by simp only [List.mem_cons, List.not_mem_nil, or_false]; exact hj)
def Qn (σ σ' : Sg) : Prop := Fm [100, 101, 102, 103, 104, 105, 106, 107, 108, 109, 110, 111, 118, 119] [0, 34, 48, 49, 50, 51] σ σ' ∧ ∀ u, u ≠ 1 → ldm σ' u = ldm σ u
theorem Qg.qn {σ τ : Sg} (h : Qg σ τ) : Qn σ τ := ⟨h.1.mono (by decide) (by decide), h.2⟩
theorem Qg.s {σ τ : Sg} (h : Qg σ τ) {a : Nat} (ha : a = 118 ∨ a = 119) (j v : Int) : Qg σ (sI τ a j v) := ⟨h.1.si (by rcases ha with rfl | rfl <;> decide) (by omega) j v, fun u hu => (ldm_ne (by omega) j v u).trans (h.2 u hu)⟩
theorem Qg.mn {σ τ : Sg} (h : Qg σ τ) (hN : MN σ) (h8 : ∀ k, 0 ≤ k → k < 24 → τ.1 118 k = 0 ∨ τ.1 118 k = 1) : MN τ := by
  obtain ⟨a, b, c, d, e⟩ := hN
  unfold MN
  rw [h.f (j := 53) (by decide), h.f (j := 54) (by decide), h.n (a := 112) (by decide) (by decide), h.n (a := 113) (by decide) (by decide), h.n (a := 114) (by decide) (by decide), h.n (a := 115) (by decide) (by decide), h.n (a := 116) (by decide) (by decide), h.n (a := 117) (by decide) (by decide), h.c (a := 84) (by decide) (by decide)]
  exact ⟨a, b, fun k k0 k1 => by
    obtain ⟨c1, c2, c3, c4, c5, c6, -⟩ := c k k0 k1
    exact ⟨c1, c2, c3, c4, c5, c6, h8 k k0 k1⟩, d, e⟩
theorem MR.qg {σ υ τ : Sg} {ck : Int → Int} {un tl w b : Int} {y : Yd} {n : Int} {k : Nat} (hq : Qg σ υ) (h : MR υ ck un tl w b y n k τ) (h44 : τ.1 82 44 = υ.1 82 44) (h45 : τ.1 82 45 = υ.1 82 45) : Qg σ τ := by
  refine hq.tr ⟨⟨h.1.1.mono (by decide), fun j q => ?_⟩, h.2.1⟩
  by_cases e : j = 44
  · rw [e]; exact h44
  · by_cases e2 : j = 45
    · rw [e2]; exact h45
    · exact h.1.2 j (by simp only [List.mem_cons, List.not_mem_nil, or_false] at q ⊢; omega)
def mYS (σ : Sg) (c g : Int) : Yd := ((fun _ => 0), uf (σ.1 90) c g, (fun _ => 0), 0, 0)
def mGn (σ : Sg) (c g : Int) (t : Nat) : Yd × Int := mRn σ (σ.1 88) (-1) 0 0 t (mYS σ c g, σ.1 84 5)
theorem mGn_qg {σ υ : Sg} (h : Qg σ υ) (c g : Int) (t : Nat) : mRn υ (υ.1 88) (-1) 0 0 t (mYS υ c g, υ.1 84 5) = mGn σ c g t := by
  have eE : mEd υ = mEd σ := by
    unfold mEd
    rw [h.c (a := 84) (by decide) (by decide), h.c (a := 86) (by decide) (by decide), h.c (a := 87) (by decide) (by decide)]
  have eB : mBs υ = mBs σ := by
    unfold mBs
    rw [h.c (a := 92) (by decide) (by decide), h.c (a := 94) (by decide) (by decide)]
  have eS : mYS υ c g = mYS σ c g := by
    unfold mYS
    rw [h.c (a := 90) (by decide) (by decide)]
  unfold mGn mRn
  rw [mLaw.fr h.1 nc_96g, eE, eB, eS, h.c (a := 84) (by decide) (by decide), h.c (a := 86) (by decide) (by decide), h.c (a := 87) (by decide) (by decide), h.c (a := 88) (by decide) (by decide), h.c (a := 91) (by decide) (by decide), h.c (a := 93) (by decide) (by decide), h.c (a := 95) (by decide) (by decide)]
def mcn (σ : Sg) : Int → Int := stD (σ.1 117) (mKm σ).toNat (cf0 (mKm σ) (fun _ => 0) 24)
def mctS (σ : Sg) (k : Int) : Prop := 0 ≤ k ∧ k < mKm σ ∧ mcn σ k ≠ 0 ∧ σ.1 117 k = -1
def mhoS (σ : Sg) (c g k : Int) : Prop := gHold (σ.1 86) (σ.1 87) (mGn σ c g (σ.1 112 k).toNat).1.1 (σ.1 113 k) (σ.1 114 k) (σ.1 115 k) = σ.1 116 k
def fitM (σ : Sg) (c g : Int) : Prop := ∀ k, mctS σ k → mhoS σ c g k
theorem mKm_in {σ : Sg} (h : MN σ) : 0 ≤ mKm σ ∧ mKm σ ≤ σ.1 82 53 ∧ mKm σ ≤ 24 := by
  have a := h.1
  have b := h.2.1
  unfold mKm
  split <;> omega
theorem mKm_qg {σ τ : Sg} (h : Qg σ τ) : mKm τ = mKm σ := by unfold mKm; rw [h.f (j := 53) (by decide), h.f (j := 54) (by decide)]
theorem MSt_MI {σ s : Sg} {u : Int} (hT : MT σ) (h : MSt σ u s) : MI s u := by
  obtain ⟨-, -, -, -, -, hsd, -, -, hch, -, hck⟩ := hT
  obtain ⟨-, -, h1, h2, h3, h4, h5⟩ := h
  refine ⟨fun i a b => ?_, fun i a b => ?_, by omega, by omega, by omega⟩
  · obtain ⟨p, q⟩ := h1 i a b
    have := hck i a b
    rw [p, q]
    split <;> omega
  · obtain ⟨p, q⟩ := h2 i a b
    have := hch i a b
    rw [p, q]
    split <;> omega

set_option maxHeartbeats 4000000 in
theorem c_X12_startsWith {G : Gx} {σ : Sg} {c g : Int} (hT : MT σ) (h44 : σ.1 82 44 = 0) (h45 : R32 (σ.1 82 45)) (hc0 : 0 ≤ c) (hc6 : c < 6) (hg0 : 1 ≤ g) (hg30 : g ≤ 30) : Con G 2 mX12_startsWith [.ref (G.2.2.2 + 82), .int (iZ c), .int (iZ g)] σ (pV (fun τ => MR σ (σ.1 88) (-1) 0 0 0 (mYS σ c g) (σ.1 84 5) 0 τ ∧ τ.1 82 44 = σ.1 82 44 ∧ τ.1 82 45 = σ.1 82 45)) := by
  obtain ⟨hzz, hnp, hnc, hnb, hrn, hsd, hrw, hrq, hch, hbt, hck⟩ := id hT
  refine e_entry om_X12_startsWith (Nat.le_of_ble_eq_true rfl) (L := [some (.ref (G.2.2.2 + 82)), some (.int (iZ c)), some (.int (iZ g))]) rfl ?_
  refine e_aload_n (q := 1) (i := 0) dX12_startsWith_0 rfl rfl rfl ?_
  refine e_iconst (q := 2) dX12_startsWith_1 rfl ?_
  refine e_Vv (q := 5) (vs := [_]) ok_X12_starts ml_X12_319 dX12_startsWith_2 rfl ⟨_, _, rfl⟩ (by first | assumption | rfl) rfl rfl (Nat.le_of_ble_eq_true rfl) (by decide) (c_X12_starts hT (by decide) (by decide)) (fun s2 h2 => ?_)
  refine e_aload_n (q := 6) (i := 0) dX12_startsWith_5 rfl rfl rfl ?_
  refine e_getR (q := 9) dX12_startsWith_6 rfl fg_X12_87 (by first | assumption | rfl) rfl ?_
  refine e_bipush (q := 11) dX12_startsWith_9 rfl (by decide) ?_
  refine e_iload_n (q := 12) (i := 1) dX12_startsWith_11 rfl rfl rfl ?_
  refine e_iadd (q := 13) dX12_startsWith_12 rfl ?_
  rw [show 6 + c = 6 * 1 + c by omega]
  refine e_iload_n (q := 14) (i := 2) dX12_startsWith_13 rfl rfl rfl ?_
  refine e_iast (q := 15) dX12_startsWith_14 rfl (by first | assumption | rfl) ?_
  have hI2 : MI s2 1 := MSt_MI hT h2
  obtain ⟨f1, f2, f3, f4, f5, f6, f7⟩ := id h2
  have hmp := (Mp.rf hI2).legs (t := c) (V := g) hc0 hc6 ⟨by omega, by omega⟩
  have g44 : (sI s2 107 (6 * 1 + c) g).1 82 44 = σ.1 82 44 := by rw [sI_ne _ (by decide)]; exact f1.2 44 (by simp)
  have g45 : (sI s2 107 (6 * 1 + c) g).1 82 45 = σ.1 82 45 := by rw [sI_ne _ (by decide)]; exact f1.2 45 (by simp)
  refine r_v dX12_startsWith_15 rfl ⟨⟨(f1.mono (by decide) (by simp)).si (by decide) (by decide) _ _, fun u hu => (hmp.2.2.1.ld hu).trans (f2.ld hu), ⟨?_, ?_, ?_⟩, fun i a b => ?_, ⟨fun i a b => ?_, fun i a b => ⟨?_, ?_⟩, ?_, ?_⟩, ?_, hmp.2.2.2.1, ?_, ?_, ?_⟩, g44, g45⟩
  · unfold mUn; rw [g44, h44, if_neg (by decide)]
  · unfold mTl; rw [g44, h44, if_neg (by decide)]
  · unfold mWt; rw [g44, h44, if_neg (by decide), if_neg (by decide), if_pos rfl]
  · unfold mCk
    rw [g44, h44, if_neg (by decide), mK_ne _ _ (by decide), (f3 i a (by omega)).2, if_pos b]
  · show mF (sI s2 107 (6 * 1 + c) g) 1 i = 0
    rw [mF_ne _ _ (by decide)]; exact (f3 i a (by omega)).1
  · show mL (sI s2 107 (6 * 1 + c) g) 1 i = uf (σ.1 90) c g i
    rw [mL_uf]
    refine uf_eq ?_ rfl
    rw [(f4 i a (by omega)).1, if_pos b]
  · show mD (sI s2 107 (6 * 1 + c) g) 1 i = 0
    rw [mD_ne _ _ (by decide)]; exact (f4 i a (by omega)).2
  · show (sI s2 107 (6 * 1 + c) g).1 104 1 = 0
    rw [sI_ne _ (by decide)]; exact f5
  · show (sI s2 107 (6 * 1 + c) g).1 102 1 = 0
    rw [sI_ne _ (by decide)]; exact f6
  · show (sI s2 107 (6 * 1 + c) g).1 103 1 = σ.1 84 5
    rw [sI_ne _ (by decide)]; exact f7
  · show (sI s2 107 (6 * 1 + c) g).1 102 1 = (0 : Int) + ((0 : Nat) : Int)
    rw [sI_ne _ (by decide), f6]; rfl
  · rw [g44, h44]; exact ⟨by decide, by decide⟩
  · rw [g45]; exact h45

set_option maxHeartbeats 4000000 in
theorem c_X12_isSo {G : Gx} {σ : Sg} {t : Int} (hT : MT σ) (hI : MI σ 1) (hM : MN σ) (ht : R32 t) : Con G 4 mX12_isSo [.ref (G.2.2.2 + 82), .int (iZ t)] σ (pI (fun z σ' => ((z = 1 ∧ (∀ k, 0 ≤ k → k < mKm σ → σ.1 118 k = 0 → σ.1 117 k = -1 → σ.1 112 k = t → gHold (σ.1 86) (σ.1 87) (mF σ 1) (σ.1 113 k) (σ.1 114 k) (σ.1 115 k) = σ.1 116 k)) ∨ (z = 0 ∧ ¬ (∀ k, 0 ≤ k → k < mKm σ → σ.1 118 k = 0 → σ.1 117 k = -1 → σ.1 112 k = t → gHold (σ.1 86) (σ.1 87) (mF σ 1) (σ.1 113 k) (σ.1 114 k) (σ.1 115 k) = σ.1 116 k))) ∧ σ' = σ)) := by
  have hkm := mKm_in hM
  have hk54 : R32 (σ.1 82 54) := by have := hM.2.1; have := hM.1; exact ⟨by omega, by omega⟩
  have lp : ∀ (n : Nat) (i : Int), 0 ≤ i → i + n = mKm σ → (∀ k, 0 ≤ k → k < i → σ.1 118 k = 0 → σ.1 117 k = -1 → σ.1 112 k = t → gHold (σ.1 86) (σ.1 87) (mF σ 1) (σ.1 113 k) (σ.1 114 k) (σ.1 115 k) = σ.1 116 k) → J G 4 mX12_isSo (pI (fun z σ' => ((z = 1 ∧ (∀ k, 0 ≤ k → k < mKm σ → σ.1 118 k = 0 → σ.1 117 k = -1 → σ.1 112 k = t → gHold (σ.1 86) (σ.1 87) (mF σ 1) (σ.1 113 k) (σ.1 114 k) (σ.1 115 k) = σ.1 116 k)) ∨ (z = 0 ∧ ¬ (∀ k, 0 ≤ k → k < mKm σ → σ.1 118 k = 0 → σ.1 117 k = -1 → σ.1 112 k = t → gHold (σ.1 86) (σ.1 87) (mF σ 1) (σ.1 113 k) (σ.1 114 k) (σ.1 115 k) = σ.1 116 k))) ∧ σ' = σ)) σ 2 [some (.ref (G.2.2.2 + 82)), some (.int (iZ t)), some (.int (iZ i))] [] := by
    intro n
    induction n with
    | zero =>
      intro i h0 hn hN
      refine e_iload_n (q := 3) (i := 2) dX12_isSo_2 rfl rfl rfl ?_
      refine e_aload_n (q := 4) (i := 0) dX12_isSo_3 rfl rfl rfl ?_
      refine e_Vip (q := 7) (vs := []) ok_X12_knownMany ml_X12_490 dX12_isSo_4 rfl ⟨_, _, rfl⟩ (by first | assumption | rfl) rfl rfl (Nat.le_of_ble_eq_true rfl) (by decide) (c_X12_knownMany hk54) ?_
      refine e_icmp_ge (q := 10) (tgt := 82) dX12_isSo_7 rfl (by decide) (fun c7 => ?_) (fun c7 => absurd (by omega) c7)
      refine e_iconst (q := 83) dX12_isSo_82 rfl ?_
      exact r_z dX12_isSo_83 rfl (by first | exact Or.inl rfl | exact Or.inr rfl | omega) ⟨Or.inl ⟨rfl, fun k a b => hN k a (by omega)⟩, rfl⟩
    | succ n ih =>
      intro i h0 hn hN
      refine e_iload_n (q := 3) (i := 2) dX12_isSo_2 rfl rfl rfl ?_
      refine e_aload_n (q := 4) (i := 0) dX12_isSo_3 rfl rfl rfl ?_
      refine e_Vip (q := 7) (vs := []) ok_X12_knownMany ml_X12_490 dX12_isSo_4 rfl ⟨_, _, rfl⟩ (by first | assumption | rfl) rfl rfl (Nat.le_of_ble_eq_true rfl) (by decide) (c_X12_knownMany hk54) ?_
      refine e_icmp_ge (q := 10) (tgt := 82) dX12_isSo_7 rfl (by decide) (fun c7 => absurd c7 (by omega)) (fun c7 => ?_)
      obtain ⟨c1, c2, c3, c4, c5, c6, c7⟩ := hM.2.2.1 i h0 (by omega)
      have hg01 := gHold_01 (σ.1 86) (σ.1 87) (mF σ 1) (σ.1 113 i) (σ.1 114 i) (σ.1 115 i)
      refine e_aload_n (q := 11) (i := 0) dX12_isSo_10 rfl rfl rfl ?_
      refine e_getR (q := 14) dX12_isSo_11 rfl fg_X12_127 (by first | assumption | rfl) rfl ?_
      refine e_iload_n (q := 15) (i := 2) dX12_isSo_14 rfl rfl rfl ?_
      refine e_zald (q := 16) dX12_isSo_15 rfl (by first | assumption | rfl) ?_
      refine e_if_ne (q := 19) (tgt := 76) dX12_isSo_16 rfl (by decide) (fun c16 => ?_) (fun c16 => ?_) (hx := ⟨by omega, by omega⟩)
      · refine e_iinc (q := 79) (L' := [_, _, _]) dX12_isSo_76 rfl rfl (by decide) rfl rfl ?_
        refine e_goto (tgt := 2) dX12_isSo_79 (by decide) ?_
        refine ih _ (by omega) (by omega) (fun k a b e1 e2 e3 => ?_)
        by_cases e : k = i
        · subst e
          exact absurd e1 c16
        · exact hN k a (by omega) e1 e2 e3
      · refine e_aload_n (q := 20) (i := 0) dX12_isSo_19 rfl rfl rfl ?_
        refine e_getR (q := 23) dX12_isSo_20 rfl fg_X12_124 (by first | assumption | rfl) rfl ?_
        refine e_iload_n (q := 24) (i := 2) dX12_isSo_23 rfl rfl rfl ?_
        refine e_iald (q := 25) dX12_isSo_24 rfl (by first | assumption | rfl) ?_
        refine e_iconst (q := 26) dX12_isSo_25 rfl ?_
        refine e_icmp_ne (q := 29) (tgt := 76) dX12_isSo_26 rfl (by decide) (fun c26 => ?_) (fun c26 => ?_) (hx := ⟨by omega, by omega⟩)
        · refine e_iinc (q := 79) (L' := [_, _, _]) dX12_isSo_76 rfl rfl (by decide) rfl rfl ?_
          refine e_goto (tgt := 2) dX12_isSo_79 (by decide) ?_
          refine ih _ (by omega) (by omega) (fun k a b e1 e2 e3 => ?_)
          by_cases e : k = i
          · subst e
            exact absurd e2 c26
          · exact hN k a (by omega) e1 e2 e3
        · refine e_aload_n (q := 30) (i := 0) dX12_isSo_29 rfl rfl rfl ?_
          refine e_getR (q := 33) dX12_isSo_30 rfl fg_X12_108 (by first | assumption | rfl) rfl ?_
          refine e_iload_n (q := 34) (i := 2) dX12_isSo_33 rfl rfl rfl ?_
          refine e_iald (q := 35) dX12_isSo_34 rfl (by first | assumption | rfl) ?_
          refine e_iload_n (q := 36) (i := 1) dX12_isSo_35 rfl rfl rfl ?_
          refine e_icmp_eq (q := 39) (tgt := 42) dX12_isSo_36 rfl (by decide) (fun c36 => ?_) (fun c36 => ?_) (hx := ⟨by omega, by omega⟩) (hy := ht)
          · refine e_aload_n (q := 43) (i := 0) dX12_isSo_42 rfl rfl rfl ?_
            refine e_iconst (q := 44) dX12_isSo_43 rfl ?_
            refine e_aload_n (q := 45) (i := 0) dX12_isSo_44 rfl rfl rfl ?_
            refine e_getR (q := 48) dX12_isSo_45 rfl fg_X12_111 (by first | assumption | rfl) rfl ?_
            refine e_iload_n (q := 49) (i := 2) dX12_isSo_48 rfl rfl rfl ?_
            refine e_iald (q := 50) dX12_isSo_49 rfl (by first | assumption | rfl) ?_
            refine e_aload_n (q := 51) (i := 0) dX12_isSo_50 rfl rfl rfl ?_
            refine e_getR (q := 54) dX12_isSo_51 rfl fg_X12_114 (by first | assumption | rfl) rfl ?_
            refine e_iload_n (q := 55) (i := 2) dX12_isSo_54 rfl rfl rfl ?_
            refine e_iald (q := 56) dX12_isSo_55 rfl (by first | assumption | rfl) ?_
            refine e_aload_n (q := 57) (i := 0) dX12_isSo_56 rfl rfl rfl ?_
            refine e_getR (q := 60) dX12_isSo_57 rfl fg_X12_117 (by first | assumption | rfl) rfl ?_
            refine e_iload_n (q := 61) (i := 2) dX12_isSo_60 rfl rfl rfl ?_
            refine e_iald (q := 62) dX12_isSo_61 rfl (by first | assumption | rfl) ?_
            refine e_Vip (q := 65) (vs := [_, _, _, _]) ok_X12_isOf ml_X12_408 dX12_isSo_62 rfl ⟨_, _, rfl⟩ (by first | assumption | rfl) rfl rfl (Nat.le_of_ble_eq_true rfl) (by decide) (c_X12_isOf hT hI (by decide) (by decide) c2.1 (by omega) ⟨by omega, by omega⟩ ⟨by omega, by omega⟩) ?_
            refine e_aload_n (q := 66) (i := 0) dX12_isSo_65 rfl rfl rfl ?_
            refine e_getR (q := 69) dX12_isSo_66 rfl fg_X12_120 (by first | assumption | rfl) rfl ?_
            refine e_iload_n (q := 70) (i := 2) dX12_isSo_69 rfl rfl rfl ?_
            refine e_zald (q := 71) dX12_isSo_70 rfl (by first | assumption | rfl) ?_
            refine e_icmp_eq (q := 74) (tgt := 76) dX12_isSo_71 rfl (by decide) (fun c71 => ?_) (fun c71 => ?_) (hx := ⟨by omega, by omega⟩) (hy := ⟨by omega, by omega⟩)
            · refine e_iinc (q := 79) (L' := [_, _, _]) dX12_isSo_76 rfl rfl (by decide) rfl rfl ?_
              refine e_goto (tgt := 2) dX12_isSo_79 (by decide) ?_
              refine ih _ (by omega) (by omega) (fun k a b e1 e2 e3 => ?_)
              by_cases e : k = i
              · subst e
                exact c71
              · exact hN k a (by omega) e1 e2 e3
            · refine e_iconst (q := 75) dX12_isSo_74 rfl ?_
              exact r_z dX12_isSo_75 rfl (by first | exact Or.inl rfl | exact Or.inr rfl | omega) ⟨Or.inr ⟨rfl, fun q => c71 (q i h0 (by omega) (by omega) (by omega) c36)⟩, rfl⟩
          · refine e_goto (tgt := 76) dX12_isSo_39 (by decide) ?_
            refine e_iinc (q := 79) (L' := [_, _, _]) dX12_isSo_76 rfl rfl (by decide) rfl rfl ?_
            refine e_goto (tgt := 2) dX12_isSo_79 (by decide) ?_
            refine ih _ (by omega) (by omega) (fun k a b e1 e2 e3 => ?_)
            by_cases e : k = i
            · subst e
              exact absurd e3 c36
            · exact hN k a (by omega) e1 e2 e3
  refine e_entry om_X12_isSo (Nat.le_of_ble_eq_true rfl) (L := [some (.ref (G.2.2.2 + 82)), some (.int (iZ t)), none]) rfl ?_
  refine e_iconst (q := 1) dX12_isSo_0 rfl ?_
  refine e_istore_n (q := 2) (i := 2) (L' := [_, _, _]) dX12_isSo_1 rfl rfl (by decide) rfl rfl ?_
  exact lp (mKm σ).toNat 0 (by decide) (by omega) (fun k a b => absurd b (by omega))

set_option maxHeartbeats 8000000 in
theorem c_X12_fitsLegs {G : Gx} {σ : Sg} {c g l : Int} (hT : MT σ) (hB : MB σ) (hW : MW σ) (hM : MN σ) (h44 : σ.1 82 44 = 0) (h45 : R32 (σ.1 82 45)) (hc0 : 0 ≤ c) (hc6 : c < 6) (hg0 : 1 ≤ g) (hg30 : g ≤ 30) (hl0 : 0 ≤ l) (hl1 : l ≤ 60) : Con G 8 mX12_fitsLegs [.ref (G.2.2.2 + 82), .int (iZ c), .int (iZ g), .int (iZ l)] σ (pI (fun z τ => ((z = 1 ∧ (∀ s, 1 ≤ s → s ≤ l → (∀ k, 0 ≤ k → k < mKm σ → σ.1 118 k = 0 → σ.1 117 k = -1 → σ.1 112 k = s → gHold (σ.1 86) (σ.1 87) (mGn σ c g s.toNat).1.1 (σ.1 113 k) (σ.1 114 k) (σ.1 115 k) = σ.1 116 k))) ∨ (z = 0 ∧ ¬ (∀ s, 1 ≤ s → s ≤ l → (∀ k, 0 ≤ k → k < mKm σ → σ.1 118 k = 0 → σ.1 117 k = -1 → σ.1 112 k = s → gHold (σ.1 86) (σ.1 87) (mGn σ c g s.toNat).1.1 (σ.1 113 k) (σ.1 114 k) (σ.1 115 k) = σ.1 116 k)))) ∧ Qg σ τ ∧ τ.1 118 = σ.1 118 ∧ τ.1 119 = σ.1 119)) := by
  obtain ⟨hzz, hnp, hnc, hnb, hrn, hsd, hrw, hrq, hch, hbt, hck⟩ := id hT
  have hkm := mKm_in hM
  refine e_entry om_X12_fitsLegs (Nat.le_of_ble_eq_true rfl) (L := [some (.ref (G.2.2.2 + 82)), some (.int (iZ c)), some (.int (iZ g)), some (.int (iZ l)), none]) rfl ?_
  refine e_aload_n (q := 1) (i := 0) dX12_fitsLegs_0 rfl rfl rfl ?_
  refine e_iload_n (q := 2) (i := 1) dX12_fitsLegs_1 rfl rfl rfl ?_
  refine e_iload_n (q := 3) (i := 2) dX12_fitsLegs_2 rfl rfl rfl ?_
  refine e_Vv (q := 6) (vs := [_, _]) ok_X12_startsWith ml_X12_493 dX12_fitsLegs_3 rfl ⟨_, _, rfl⟩ (by first | assumption | rfl) rfl rfl (Nat.le_of_ble_eq_true rfl) (by decide) (c_X12_startsWith hT h44 h45 hc0 hc6 hg0 hg30) (fun s3 h3 => ?_)
  refine e_iconst (q := 7) dX12_fitsLegs_6 rfl ?_
  refine e_istore (q := 9) (L' := [_, _, _, _, _]) dX12_fitsLegs_7 rfl (by decide) rfl rfl ?_
  have lp : ∀ (n : Nat) (τ : Sg) (t : Int), 1 ≤ t → t + n = l + 1 → MR σ (σ.1 88) (-1) 0 0 0 (mYS σ c g) (σ.1 84 5) (t - 1).toNat τ → τ.1 82 44 = σ.1 82 44 → τ.1 82 45 = σ.1 82 45 → (∀ s, 1 ≤ s → s ≤ t - 1 → (∀ k, 0 ≤ k → k < mKm σ → σ.1 118 k = 0 → σ.1 117 k = -1 → σ.1 112 k = s → gHold (σ.1 86) (σ.1 87) (mGn σ c g s.toNat).1.1 (σ.1 113 k) (σ.1 114 k) (σ.1 115 k) = σ.1 116 k)) → J G 8 mX12_fitsLegs (pI (fun z τ => ((z = 1 ∧ (∀ s, 1 ≤ s → s ≤ l → (∀ k, 0 ≤ k → k < mKm σ → σ.1 118 k = 0 → σ.1 117 k = -1 → σ.1 112 k = s → gHold (σ.1 86) (σ.1 87) (mGn σ c g s.toNat).1.1 (σ.1 113 k) (σ.1 114 k) (σ.1 115 k) = σ.1 116 k))) ∨ (z = 0 ∧ ¬ (∀ s, 1 ≤ s → s ≤ l → (∀ k, 0 ≤ k → k < mKm σ → σ.1 118 k = 0 → σ.1 117 k = -1 → σ.1 112 k = s → gHold (σ.1 86) (σ.1 87) (mGn σ c g s.toNat).1.1 (σ.1 113 k) (σ.1 114 k) (σ.1 115 k) = σ.1 116 k)))) ∧ Qg σ τ ∧ τ.1 118 = σ.1 118 ∧ τ.1 119 = σ.1 119)) τ 9 [some (.ref (G.2.2.2 + 82)), some (.int (iZ c)), some (.int (iZ g)), some (.int (iZ l)), some (.int (iZ t))] [] := by
    intro n
    induction n with
    | zero =>
      intro τ t h0 hn hR g44 g45 hN
      refine e_iload (q := 11) dX12_fitsLegs_9 rfl rfl ?_
      refine e_iload_n (q := 12) (i := 3) dX12_fitsLegs_11 rfl rfl rfl ?_
      refine e_icmp_gt (q := 15) (tgt := 38) dX12_fitsLegs_12 rfl (by decide) (fun c12 => ?_) (fun c12 => absurd (by omega) c12)
      refine e_iconst (q := 39) dX12_fitsLegs_38 rfl ?_
      exact r_z dX12_fitsLegs_39 rfl (by first | exact Or.inl rfl | exact Or.inr rfl | omega) ⟨Or.inl ⟨rfl, fun s a b => hN s a (by omega)⟩, MR.qg (Qg.rf σ) hR g44 g45, hR.1.c (by decide), hR.1.c (by decide)⟩
    | succ n ih =>
      intro τ t h0 hn hR g44 g45 hN
      refine e_iload (q := 11) dX12_fitsLegs_9 rfl rfl ?_
      refine e_iload_n (q := 12) (i := 3) dX12_fitsLegs_11 rfl rfl rfl ?_
      refine e_icmp_gt (q := 15) (tgt := 38) dX12_fitsLegs_12 rfl (by decide) (fun c12 => absurd c12 (by omega)) (fun c12 => ?_)
      obtain ⟨-, -, -, -, -, -, mi, hYe, m44, m45⟩ := id hR
      have hYe2 : τ.1 102 1 = t - 1 := by rw [hYe]; show (0 : Int) + (((t - 1).toNat : Nat) : Int) = t - 1; omega
      refine e_aload_n (q := 16) (i := 0) dX12_fitsLegs_15 rfl rfl rfl ?_
      refine e_iconst (q := 17) dX12_fitsLegs_16 rfl ?_
      refine e_iconst (q := 18) dX12_fitsLegs_17 rfl ?_
      refine e_Vv (q := 21) (vs := [_, _]) ok_X12_passes ml_X12_392 dX12_fitsLegs_18 rfl ⟨_, _, rfl⟩ (by first | assumption | rfl) rfl rfl (Nat.le_of_ble_eq_true rfl) (by decide) (c_X12_passes (hR.mt hT) (hR.mw hW) mi (hR.mb hB) (by decide) (by decide) m44 m45 (Or.inl rfl) (by omega)) (fun s18 h18 => ?_)
      have hR2 : MR σ (σ.1 88) (-1) 0 0 0 (mYS σ c g) (σ.1 84 5) t.toNat s18 := by
        have := MR_step hT hB hR h18
        rw [show (t - 1).toNat + 1 = t.toNat by omega] at this
        exact this
      have q44 : s18.1 82 44 = σ.1 82 44 := by rw [h18.f (by decide)]; exact g44
      have q45 : s18.1 82 45 = σ.1 82 45 := by rw [h18.f (by decide)]; exact g45
      have hq2 : Qg σ s18 := MR.qg (Qg.rf σ) hR2 q44 q45
      have e118 : s18.1 118 = σ.1 118 := hR2.1.c (by decide)
      have hM2 : MN s18 := hq2.mn hM (fun k a b => by rw [e118]; exact (hM.2.2.1 k a b).2.2.2.2.2.2)
      refine e_aload_n (q := 22) (i := 0) dX12_fitsLegs_21 rfl rfl rfl ?_
      refine e_iload (q := 24) dX12_fitsLegs_22 rfl rfl ?_
      refine e_Vi (q := 27) (vs := [_]) ok_X12_isSo ml_X12_496 dX12_fitsLegs_24 rfl ⟨_, _, rfl⟩ (by first | assumption | rfl) rfl rfl (Nat.le_of_ble_eq_true rfl) (by decide) (c_X12_isSo (hq2.mt hT) hR2.2.2.2.2.2.2.1 hM2 ⟨by omega, by omega⟩) (fun z24 s24 h24 => ?_)
      obtain ⟨hso, es⟩ := h24
      subst es
      have hiff : (∀ k, 0 ≤ k → k < mKm s24 → s24.1 118 k = 0 → s24.1 117 k = -1 → s24.1 112 k = t → gHold (s24.1 86) (s24.1 87) (mF s24 1) (s24.1 113 k) (s24.1 114 k) (s24.1 115 k) = s24.1 116 k) = (∀ k, 0 ≤ k → k < mKm σ → σ.1 118 k = 0 → σ.1 117 k = -1 → σ.1 112 k = t → gHold (σ.1 86) (σ.1 87) (mGn σ c g t.toNat).1.1 (σ.1 113 k) (σ.1 114 k) (σ.1 115 k) = σ.1 116 k) := by
        rw [mKm_qg hq2, e118, hq2.n (a := 117) (by decide) (by decide), hq2.n (a := 112) (by decide) (by decide), hq2.n (a := 113) (by decide) (by decide), hq2.n (a := 114) (by decide) (by decide), hq2.n (a := 115) (by decide) (by decide), hq2.n (a := 116) (by decide) (by decide), hq2.c (a := 86) (by decide) (by decide), hq2.c (a := 87) (by decide) (by decide)]
        have hyy := hR2.2.2.2.2.1.1
        have key : ∀ k, 0 ≤ k → k < mKm σ → σ.1 117 k = -1 → gHold (σ.1 86) (σ.1 87) (mF s24 1) (σ.1 113 k) (σ.1 114 k) (σ.1 115 k) = gHold (σ.1 86) (σ.1 87) (mGn σ c g t.toNat).1.1 (σ.1 113 k) (σ.1 114 k) (σ.1 115 k) := fun k a b e => by
          have hp := hM.2.2.2.2 k a (by omega) e
          have hp0 := (hM.2.2.1 k a (by omega)).2.1
          refine gHold_c ⟨rfl, rfl⟩ (fun j u v => ?_) _ _
          exact hyy j (by omega) (by omega)
        exact propext ⟨fun q k a b e1 e2 e3 => by rw [← key k a b e2]; exact q k a b e1 e2 e3, fun q k a b e1 e2 e3 => by rw [key k a b e2]; exact q k a b e1 e2 e3⟩
      rw [hiff] at hso
      refine e_if_ne (q := 30) (tgt := 32) dX12_fitsLegs_27 rfl (by decide) (fun c27 => ?_) (fun c27 => ?_) (hx := ⟨by omega, by omega⟩)
      · refine e_iinc (q := 35) (L' := [_, _, _, _, _]) dX12_fitsLegs_32 rfl rfl (by decide) rfl rfl ?_
        refine e_goto (tgt := 9) dX12_fitsLegs_35 (by decide) ?_
        refine ih _ _ (by omega) (by omega) (by rw [show t + 1 - 1 = t by omega]; exact hR2) q44 q45 (fun s a b => ?_)
        by_cases e : s = t
        · subst e
          rcases hso with w | w
          · exact w.2
          · exact absurd w.1 c27
        · exact hN s a (by omega)
      · refine e_iconst (q := 31) dX12_fitsLegs_30 rfl ?_
        exact r_z dX12_fitsLegs_31 rfl (by first | exact Or.inl rfl | exact Or.inr rfl | omega) ⟨Or.inr ⟨rfl, fun q => by rcases hso with w | w; omega; exact w.2 (q t h0 (by omega))⟩, hq2, e118, hR2.1.c (by decide)⟩
  exact lp l.toNat s3 1 (by decide) (by omega) h3.1 h3.2.1 h3.2.2 (fun s a b => absurd b (by omega))

set_option maxHeartbeats 8000000 in
theorem c_X12_legsFor {G : Gx} {σ : Sg} {c : Int} (hT : MT σ) (hB : MB σ) (hW : MW σ) (hM : MN σ) (h44 : σ.1 82 44 = 0) (h45 : R32 (σ.1 82 45)) (hc0 : 0 ≤ c) (hc6 : c < 6) : Con G 9 mX12_legsFor [.ref (G.2.2.2 + 82), .int (iZ c)] σ (pI (fun z τ => z = zb (fun k => fitB (fitM σ c (k + 1))) 30 ∧ Qg σ τ ∧ (∀ k, 0 ≤ k → k < 24 → τ.1 118 k = 0 ∨ τ.1 118 k = 1))) := by
  obtain ⟨hzz, hnp, hnc, hnb, hrn, hsd, hrw, hrq, hch, hbt, hck⟩ := id hT
  have hkm := mKm_in hM
  have hk54 : R32 (σ.1 82 54) := by have := hM.2.1; have := hM.1; exact ⟨by omega, by omega⟩
  have la : ∀ (n : Nat) (τ : Sg) (i : Int), 0 ≤ i → i + n = mKm σ → Qg σ τ → (∀ k, 0 ≤ k → k < 24 → τ.1 118 k = 0 ∨ τ.1 118 k = 1) → (∀ k, 0 ≤ k → k < i → τ.1 118 k = 0) → J G 9 mX12_legsFor (pI (fun z τ => z = zb (fun k => fitB (fitM σ c (k + 1))) 30 ∧ Qg σ τ ∧ (∀ k, 0 ≤ k → k < 24 → τ.1 118 k = 0 ∨ τ.1 118 k = 1))) τ 4 [some (.ref (G.2.2.2 + 82)), some (.int (iZ c)), some (.int (iZ 0)), some (.int (iZ i)), none] [] := by
    intro n
    induction n with
    | zero =>
      intro τ i h0 hn hq h01 hz
      have ek : mKm τ = mKm σ := mKm_qg hq
      have hk5 : R32 (τ.1 82 54) := by rw [hq.f (by decide)]; exact hk54
      refine e_iload_n (q := 5) (i := 3) dX12_legsFor_4 rfl rfl rfl ?_
      refine e_aload_n (q := 6) (i := 0) dX12_legsFor_5 rfl rfl rfl ?_
      refine e_Vip (q := 9) (vs := []) ok_X12_knownMany ml_X12_490 dX12_legsFor_6 rfl ⟨_, _, rfl⟩ (by first | assumption | rfl) rfl rfl (Nat.le_of_ble_eq_true rfl) (by decide) (c_X12_knownMany (σ := τ) hk5) ?_
      rw [ek]
      refine e_icmp_ge (q := 12) (tgt := 25) dX12_legsFor_9 rfl (by decide) (fun c9 => ?_) (fun c9 => absurd (by omega) c9)
      refine e_aload_n (q := 26) (i := 0) dX12_legsFor_25 rfl rfl rfl ?_
      refine e_Vip (q := 29) (vs := []) ok_X12_knownMany ml_X12_490 dX12_legsFor_26 rfl ⟨_, _, rfl⟩ (by first | assumption | rfl) rfl rfl (Nat.le_of_ble_eq_true rfl) (by decide) (c_X12_knownMany (σ := τ) hk5) ?_
      refine e_iconst (q := 30) dX12_legsFor_29 rfl ?_
      refine e_isub (q := 31) dX12_legsFor_30 rfl ?_
      rw [ek]
      refine e_istore_n (q := 32) (i := 3) (L' := [_, _, _, _, _]) dX12_legsFor_31 rfl rfl (by decide) rfl rfl ?_
      have lb : ∀ (n : Nat) (τ : Sg) (k : Int) (f : Int → Int), k + 1 = n → k < mKm σ → Qg σ τ → (∀ k, 0 ≤ k → k < 24 → τ.1 118 k = 0 ∨ τ.1 118 k = 1) → (∀ k, 0 ≤ k → k < mKm σ → τ.1 118 k = 1 - f k) → (∀ k, 0 ≤ k → k < mKm σ → f k = 0 ∨ f k = 1) → stD (σ.1 117) (k + 1).toNat f = mcn σ → J G 9 mX12_legsFor (pI (fun z τ => z = zb (fun k => fitB (fitM σ c (k + 1))) 30 ∧ Qg σ τ ∧ (∀ k, 0 ≤ k → k < 24 → τ.1 118 k = 0 ∨ τ.1 118 k = 1))) τ 32 [some (.ref (G.2.2.2 + 82)), some (.int (iZ c)), some (.int (iZ 0)), some (.int (iZ k)), none] [] := by
        intro n
        induction n with
        | zero =>
          intro τ k f hn hk hq h01 hf hf01 hS
          refine e_iload_n (q := 33) (i := 3) dX12_legsFor_32 rfl rfl rfl ?_
          refine e_if_lt (q := 36) (tgt := 73) dX12_legsFor_33 rfl (by decide) (fun c33 => ?_) (fun c33 => absurd (by omega) c33)
          refine e_iconst (q := 74) dX12_legsFor_73 rfl ?_
          refine e_istore_n (q := 75) (i := 3) (L' := [_, _, _, _, _]) dX12_legsFor_74 rfl rfl (by decide) rfl rfl ?_
          have hr : (∀ k, 0 ≤ k → k < mKm σ → τ.1 118 k = 1 - mcn σ k) := fun j a b => by rw [← hS, show k + 1 = 0 by omega]; exact hf j a b
          have ek : mKm τ = mKm σ := mKm_qg hq
          have hk5 : R32 (τ.1 82 54) := by rw [hq.f (by decide)]; exact hk54
          have lc : ∀ (n : Nat) (i l : Int), 0 ≤ i → i + n = mKm σ → 0 ≤ l ∧ l ≤ 60 → (∀ k, mctS σ k → k < i → σ.1 112 k ≤ l) → J G 9 mX12_legsFor (pI (fun z τ => z = zb (fun k => fitB (fitM σ c (k + 1))) 30 ∧ Qg σ τ ∧ (∀ k, 0 ≤ k → k < 24 → τ.1 118 k = 0 ∨ τ.1 118 k = 1))) τ 75 [some (.ref (G.2.2.2 + 82)), some (.int (iZ c)), some (.int (iZ l)), some (.int (iZ i)), none] [] := by
            intro n
            induction n with
            | zero =>
              intro i l h0 hn hl hla
              refine e_iload_n (q := 76) (i := 3) dX12_legsFor_75 rfl rfl rfl ?_
              refine e_aload_n (q := 77) (i := 0) dX12_legsFor_76 rfl rfl rfl ?_
              refine e_Vip (q := 80) (vs := []) ok_X12_knownMany ml_X12_490 dX12_legsFor_77 rfl ⟨_, _, rfl⟩ (by first | assumption | rfl) rfl rfl (Nat.le_of_ble_eq_true rfl) (by decide) (c_X12_knownMany (σ := τ) hk5) ?_
              rw [ek]
              refine e_icmp_ge (q := 83) (tgt := 119) dX12_legsFor_80 rfl (by decide) (fun c80 => ?_) (fun c80 => absurd (by omega) c80)
              refine e_iconst (q := 120) dX12_legsFor_119 rfl ?_
              refine e_istore_n (q := 121) (i := 3) (L' := [_, _, _, _, _]) dX12_legsFor_120 rfl rfl (by decide) rfl rfl ?_
              refine e_iconst (q := 122) dX12_legsFor_121 rfl ?_
              refine e_istore (q := 124) (L' := [_, _, _, _, _]) dX12_legsFor_122 rfl (by decide) rfl rfl ?_
              have hl0 := hl.1
              have hl1 := hl.2
              have hla : ∀ k, mctS σ k → σ.1 112 k ≤ l := fun k hk => hla k hk (by have := hk.2.1; omega)
              have ld : ∀ (n : Nat) (τ : Sg) (i v : Int), 0 ≤ i → i + n = 30 → Qg σ τ → (∀ k, 0 ≤ k → k < 24 → τ.1 118 k = 0 ∨ τ.1 118 k = 1) → (∀ k, 0 ≤ k → k < mKm σ → τ.1 118 k = 1 - mcn σ k) → v = zb (fun k => fitB (fitM σ c (k + 1))) i → J G 9 mX12_legsFor (pI (fun z τ => z = zb (fun k => fitB (fitM σ c (k + 1))) 30 ∧ Qg σ τ ∧ (∀ k, 0 ≤ k → k < 24 → τ.1 118 k = 0 ∨ τ.1 118 k = 1))) τ 124 [some (.ref (G.2.2.2 + 82)), some (.int (iZ c)), some (.int (iZ l)), some (.int (iZ v)), some (.int (iZ i))] [] := by
                intro n
                induction n with
                | zero =>
                  intro τ i v h0 hn hq h01 hr hv
                  refine e_iload (q := 126) dX12_legsFor_124 rfl rfl ?_
                  refine e_bipush (q := 128) dX12_legsFor_126 rfl (by decide) ?_
                  refine e_icmp_ge (q := 131) (tgt := 161) dX12_legsFor_128 rfl (by decide) (fun c128 => ?_) (fun c128 => absurd (by omega) c128)
                  refine e_iload_n (q := 162) (i := 3) dX12_legsFor_161 rfl rfl rfl ?_
                  exact r_i dX12_legsFor_162 rfl ⟨by rw [hv]; congr 1; omega, hq, h01⟩
                | succ n ih =>
                  intro τ i v h0 hn hq h01 hr hv
                  refine e_iload (q := 126) dX12_legsFor_124 rfl rfl ?_
                  refine e_bipush (q := 128) dX12_legsFor_126 rfl (by decide) ?_
                  refine e_icmp_ge (q := 131) (tgt := 161) dX12_legsFor_128 rfl (by decide) (fun c128 => absurd c128 (by omega)) (fun c128 => ?_)
                  refine e_iload_n (q := 132) (i := 3) dX12_legsFor_131 rfl rfl rfl ?_
                  refine e_aload_n (q := 133) (i := 0) dX12_legsFor_132 rfl rfl rfl ?_
                  refine e_iload_n (q := 134) (i := 1) dX12_legsFor_133 rfl rfl rfl ?_
                  refine e_iload (q := 136) dX12_legsFor_134 rfl rfl ?_
                  refine e_iconst (q := 137) dX12_legsFor_136 rfl ?_
                  refine e_iadd (q := 138) dX12_legsFor_137 rfl ?_
                  refine e_iload_n (q := 139) (i := 2) dX12_legsFor_138 rfl rfl rfl ?_
                  refine e_Vi (q := 142) (vs := [_, _, _]) ok_X12_fitsLegs ml_X12_499 dX12_legsFor_139 rfl ⟨_, _, rfl⟩ (by first | assumption | rfl) rfl rfl (Nat.le_of_ble_eq_true rfl) (by decide) (c_X12_fitsLegs (hq.mt hT) (hq.mb hB) (hq.mw hW) (hq.mn hM h01) (by rw [hq.f (by decide)]; exact h44) (by rw [hq.f (by decide)]; exact h45) hc0 hc6 (by omega) (by omega) hl0 hl1) (fun z139 s139 h139 => ?_)
                  obtain ⟨hfit, hq2, e118, -⟩ := h139
                  have hq3 : Qg σ s139 := hq.tr hq2
                  have hif : (∀ s, 1 ≤ s → s ≤ l → (∀ k, 0 ≤ k → k < mKm τ → τ.1 118 k = 0 → τ.1 117 k = -1 → τ.1 112 k = s → gHold (τ.1 86) (τ.1 87) (mGn τ c (i + 1) s.toNat).1.1 (τ.1 113 k) (τ.1 114 k) (τ.1 115 k) = τ.1 116 k)) = fitM σ c (i + 1) := by
                    have eg : ∀ t, mGn τ c (i + 1) t = mGn σ c (i + 1) t := fun t => mGn_qg hq c (i + 1) t
                    rw [mKm_qg hq, hq.n (a := 117) (by decide) (by decide), hq.n (a := 112) (by decide) (by decide), hq.n (a := 113) (by decide) (by decide), hq.n (a := 114) (by decide) (by decide), hq.n (a := 115) (by decide) (by decide), hq.n (a := 116) (by decide) (by decide), hq.c (a := 86) (by decide) (by decide), hq.c (a := 87) (by decide) (by decide)]
                    refine propext ⟨fun q k hk => ?_, fun q s a b k k0 k1 k2 k3 k4 => ?_⟩
                    · have hy := hM.2.2.2.2 k hk.1 (by have := hk.2.1; omega) hk.2.2.2
                      have hz := hr k hk.1 hk.2.1
                      have h1 := h01 k hk.1 (by have := hk.2.1; omega)
                      have hn0 := hk.2.2.1
                      have := q (σ.1 112 k) hy.2 (hla k hk) k hk.1 hk.2.1 (by omega) hk.2.2.2 rfl
                      rw [eg] at this
                      exact this
                    · have hz := hr k k0 k1
                      have := q k ⟨k0, k1, by omega, k3⟩
                      unfold mhoS at this
                      rw [k4] at this
                      rw [eg]
                      exact this
                  rw [hif] at hfit
                  refine e_if_eq (q := 145) (tgt := 152) dX12_legsFor_142 rfl (by decide) (fun c142 => ?_) (fun c142 => ?_) (hx := ⟨by omega, by omega⟩)
                  · refine e_iconst (q := 153) dX12_legsFor_152 rfl ?_
                    refine e_ior (q := 154) dX12_legsFor_153 rfl (iZ_or0 v) ?_
                    refine e_istore_n (q := 155) (i := 3) (L' := [_, _, _, _, _]) dX12_legsFor_154 rfl rfl (by decide) rfl rfl ?_
                    refine e_iinc (q := 158) (L' := [_, _, _, _, _]) dX12_legsFor_155 rfl rfl (by decide) rfl rfl ?_
                    refine e_goto (tgt := 124) dX12_legsFor_158 (by decide) ?_
                    refine ih _ _ _ (by omega) (by omega) hq3 (fun k a b => by rw [e118]; exact h01 k a b) (fun k a b => by rw [e118]; exact hr k a b) ?_
                    rw [zb_succ _ h0, if_neg (by rw [fitB_n (by rcases hfit with q | q; omega; exact q.2)]; decide), Int.add_zero]
                    exact hv
                  · refine e_iconst (q := 146) dX12_legsFor_145 rfl ?_
                    refine e_iload (q := 148) dX12_legsFor_146 rfl rfl ?_
                    refine e_ishl (q := 149) dX12_legsFor_148 rfl (iZ_shl1 h0 (by omega)) ?_
                    refine e_goto (tgt := 153) dX12_legsFor_149 (by decide) ?_
                    refine e_ior (q := 154) dX12_legsFor_153 rfl (by rw [hv]; exact iZ_orp (zb_lt _).1 (zb_lt _).2 (by omega)) ?_
                    refine e_istore_n (q := 155) (i := 3) (L' := [_, _, _, _, _]) dX12_legsFor_154 rfl rfl (by decide) rfl rfl ?_
                    refine e_iinc (q := 158) (L' := [_, _, _, _, _]) dX12_legsFor_155 rfl rfl (by decide) rfl rfl ?_
                    refine e_goto (tgt := 124) dX12_legsFor_158 (by decide) ?_
                    refine ih _ _ _ (by omega) (by omega) hq3 (fun k a b => by rw [e118]; exact h01 k a b) (fun k a b => by rw [e118]; exact hr k a b) ?_
                    rw [zb_succ _ h0, if_pos (fitB_p (by rcases hfit with q | q; exact q.2; exact absurd q.1 c142))]
              exact ld 30 τ 0 0 (by decide) (by decide) hq h01 hr rfl
            | succ n ih =>
              intro i l h0 hn hl hla
              refine e_iload_n (q := 76) (i := 3) dX12_legsFor_75 rfl rfl rfl ?_
              refine e_aload_n (q := 77) (i := 0) dX12_legsFor_76 rfl rfl rfl ?_
              refine e_Vip (q := 80) (vs := []) ok_X12_knownMany ml_X12_490 dX12_legsFor_77 rfl ⟨_, _, rfl⟩ (by first | assumption | rfl) rfl rfl (Nat.le_of_ble_eq_true rfl) (by decide) (c_X12_knownMany (σ := τ) hk5) ?_
              rw [ek]
              refine e_icmp_ge (q := 83) (tgt := 119) dX12_legsFor_80 rfl (by decide) (fun c80 => absurd c80 (by omega)) (fun c80 => ?_)
              obtain ⟨c1, c2, c3, c4, c5, c6, -⟩ := hM.2.2.1 i h0 (by omega)
              have h1 := h01 i h0 (by omega)
              have hri := hr i h0 (by omega)
              have e117 : τ.1 117 = σ.1 117 := hq.n (by decide) (by decide)
              have e112 : τ.1 112 = σ.1 112 := hq.n (by decide) (by decide)
              refine e_aload_n (q := 84) (i := 0) dX12_legsFor_83 rfl rfl rfl ?_
              refine e_getR (q := 87) dX12_legsFor_84 rfl fg_X12_127 (by first | assumption | rfl) rfl ?_
              refine e_iload_n (q := 88) (i := 3) dX12_legsFor_87 rfl rfl rfl ?_
              refine e_zald (q := 89) dX12_legsFor_88 rfl (by first | assumption | rfl) ?_
              refine e_if_ne (q := 92) (tgt := 113) dX12_legsFor_89 rfl (by decide) (fun c89 => ?_) (fun c89 => ?_) (hx := ⟨by omega, by omega⟩)
              · refine e_iinc (q := 116) (L' := [_, _, _, _, _]) dX12_legsFor_113 rfl rfl (by decide) rfl rfl ?_
                refine e_goto (tgt := 75) dX12_legsFor_116 (by decide) ?_
                refine ih _ _ (by omega) (by omega) hl (fun k hk hki => ?_)
                by_cases e : k = i
                · subst e
                  exact absurd (by have := hk.2.2.1; omega) c89
                · have := hla k hk (by omega)
                  omega
              · refine e_aload_n (q := 93) (i := 0) dX12_legsFor_92 rfl rfl rfl ?_
                refine e_getR (q := 96) dX12_legsFor_93 rfl fg_X12_124 (by first | assumption | rfl) rfl ?_
                refine e_iload_n (q := 97) (i := 3) dX12_legsFor_96 rfl rfl rfl ?_
                refine e_iald (q := 98) dX12_legsFor_97 rfl (by first | assumption | rfl) ?_
                refine e_iconst (q := 99) dX12_legsFor_98 rfl ?_
                rw [e117]
                refine e_icmp_ne (q := 102) (tgt := 113) dX12_legsFor_99 rfl (by decide) (fun c99 => ?_) (fun c99 => ?_) (hx := ⟨by omega, by omega⟩)
                · refine e_iinc (q := 116) (L' := [_, _, _, _, _]) dX12_legsFor_113 rfl rfl (by decide) rfl rfl ?_
                  refine e_goto (tgt := 75) dX12_legsFor_116 (by decide) ?_
                  refine ih _ _ (by omega) (by omega) hl (fun k hk hki => ?_)
                  by_cases e : k = i
                  · subst e
                    exact absurd hk.2.2.2 c99
                  · have := hla k hk (by omega)
                    omega
                · refine e_iload_n (q := 103) (i := 2) dX12_legsFor_102 rfl rfl rfl ?_
                  refine e_aload_n (q := 104) (i := 0) dX12_legsFor_103 rfl rfl rfl ?_
                  refine e_getR (q := 107) dX12_legsFor_104 rfl fg_X12_108 (by first | assumption | rfl) rfl ?_
                  refine e_iload_n (q := 108) (i := 3) dX12_legsFor_107 rfl rfl rfl ?_
                  refine e_iald (q := 109) dX12_legsFor_108 rfl (by first | assumption | rfl) ?_
                  rw [e112]
                  refine e_mmax (q := 112) dX12_legsFor_109 rfl ml_X12_332 mw_max_s mw_max_c mw_init (Nat.le_of_ble_eq_true rfl) (by decide) ?_
                  refine e_istore_n (q := 113) (i := 2) (L' := [_, _, _, _, _]) dX12_legsFor_112 rfl rfl (by decide) rfl rfl ?_
                  refine e_iinc (q := 116) (L' := [_, _, _, _, _]) dX12_legsFor_113 rfl rfl (by decide) rfl rfl ?_
                  refine e_goto (tgt := 75) dX12_legsFor_116 (by decide) ?_
                  refine ih _ _ (by omega) (by omega) ⟨by omega, by omega⟩ (fun k hk hki => ?_)
                  by_cases e : k = i
                  · subst e
                    omega
                  · have := hla k hk (by omega)
                    omega
          exact lc (mKm σ).toNat 0 0 (by decide) (by omega) ⟨by decide, by decide⟩ (fun j hj a => absurd a (by have := hj.1; omega))
        | succ n ih =>
          intro τ k f hn hk hq h01 hf hf01 hS
          refine e_iload_n (q := 33) (i := 3) dX12_legsFor_32 rfl rfl rfl ?_
          refine e_if_lt (q := 36) (tgt := 73) dX12_legsFor_33 rfl (by decide) (fun c33 => absurd c33 (by omega)) (fun c33 => ?_)
          obtain ⟨c1, c2, c3, c4, c5, c6, -⟩ := hM.2.2.1 k (by omega) (by omega)
          have h1 := h01 k (by omega) (by omega)
          have hfk := hf k (by omega) hk
          have hlt := hM.2.2.2.1 k (by omega) (by omega)
          have e117 : τ.1 117 = σ.1 117 := hq.n (by decide) (by decide)
          have hsd2 := stD_s (σ.1 117) f (show 0 ≤ k by omega)
          refine e_aload_n (q := 37) (i := 0) dX12_legsFor_36 rfl rfl rfl ?_
          refine e_getR (q := 40) dX12_legsFor_37 rfl fg_X12_127 (by first | assumption | rfl) rfl ?_
          refine e_iload_n (q := 41) (i := 3) dX12_legsFor_40 rfl rfl rfl ?_
          refine e_zald (q := 42) dX12_legsFor_41 rfl (by first | assumption | rfl) ?_
          refine e_if_ne (q := 45) (tgt := 67) dX12_legsFor_42 rfl (by decide) (fun c42 => ?_) (fun c42 => ?_) (hx := ⟨by omega, by omega⟩)
          · refine e_iinc (q := 70) (L' := [_, _, _, _, _]) dX12_legsFor_67 rfl rfl (by decide) rfl rfl ?_
            refine e_goto (tgt := 32) dX12_legsFor_70 (by decide) ?_
            refine ih _ _ f (by omega) (by omega) hq h01 hf hf01 ?_
            rw [show k + -1 + 1 = k by omega, ← hS, hsd2, if_neg (fun q => q.1 (by omega))]
          · refine e_aload_n (q := 46) (i := 0) dX12_legsFor_45 rfl rfl rfl ?_
            refine e_getR (q := 49) dX12_legsFor_46 rfl fg_X12_124 (by first | assumption | rfl) rfl ?_
            refine e_iload_n (q := 50) (i := 3) dX12_legsFor_49 rfl rfl rfl ?_
            refine e_iald (q := 51) dX12_legsFor_50 rfl (by first | assumption | rfl) ?_
            refine e_iconst (q := 52) dX12_legsFor_51 rfl ?_
            rw [e117]
            refine e_icmp_eq (q := 55) (tgt := 67) dX12_legsFor_52 rfl (by decide) (fun c52 => ?_) (fun c52 => ?_) (hx := ⟨by omega, by omega⟩)
            · refine e_iinc (q := 70) (L' := [_, _, _, _, _]) dX12_legsFor_67 rfl rfl (by decide) rfl rfl ?_
              refine e_goto (tgt := 32) dX12_legsFor_70 (by decide) ?_
              refine ih _ _ f (by omega) (by omega) hq h01 hf hf01 ?_
              rw [show k + -1 + 1 = k by omega, ← hS, hsd2, if_neg (fun q => q.2 c52)]
            · refine e_aload_n (q := 56) (i := 0) dX12_legsFor_55 rfl rfl rfl ?_
              refine e_getR (q := 59) dX12_legsFor_56 rfl fg_X12_127 (by first | assumption | rfl) rfl ?_
              refine e_aload_n (q := 60) (i := 0) dX12_legsFor_59 rfl rfl rfl ?_
              refine e_getR (q := 63) dX12_legsFor_60 rfl fg_X12_124 (by first | assumption | rfl) rfl ?_
              refine e_iload_n (q := 64) (i := 3) dX12_legsFor_63 rfl rfl rfl ?_
              refine e_iald (q := 65) dX12_legsFor_64 rfl (by first | assumption | rfl) ?_
              refine e_iconst (q := 66) dX12_legsFor_65 rfl ?_
              rw [e117]
              refine e_zast (q := 67) dX12_legsFor_66 rfl (by first | assumption | rfl) (by first | exact Or.inl rfl | exact Or.inr rfl | omega) ?_
              refine e_iinc (q := 70) (L' := [_, _, _, _, _]) dX12_legsFor_67 rfl rfl (by decide) rfl rfl ?_
              refine e_goto (tgt := 32) dX12_legsFor_70 (by decide) ?_
              refine ih _ _ (uf f (σ.1 117 k) 0) (by omega) (by omega) (hq.s (Or.inl rfl) _ _) (fun j a b => ?_) (fun j a b => ?_) (fun j a b => ?_) ?_
              · rw [sI_1]
                split
                · exact Or.inr rfl
                · exact h01 j a b
              · rw [sI_1]
                unfold uf
                by_cases e : j = σ.1 117 k
                · rw [if_pos ⟨rfl, e⟩, if_pos e]; rfl
                · rw [if_neg (fun r => e r.2), if_neg e]; exact hf j a b
              · unfold uf
                split
                · exact Or.inl rfl
                · exact hf01 j a b
              · rw [show k + -1 + 1 = k by omega, ← hS, hsd2, if_pos ⟨by omega, c52⟩]
      exact lb (mKm σ).toNat τ (mKm σ - 1) (cf0 (mKm σ) (fun _ => 0) 24) (by omega) (by omega) hq h01 (fun j a b => by unfold cf0; rw [if_pos ⟨a, by omega⟩, if_pos b, hz j a (by omega)]; rfl) (fun j a b => by unfold cf0; rw [if_pos ⟨a, by omega⟩, if_pos b]; exact Or.inr rfl) (by rw [show mKm σ - 1 + 1 = mKm σ by omega]; rfl)
    | succ n ih =>
      intro τ i h0 hn hq h01 hz
      have ek : mKm τ = mKm σ := mKm_qg hq
      have hk5 : R32 (τ.1 82 54) := by rw [hq.f (by decide)]; exact hk54
      refine e_iload_n (q := 5) (i := 3) dX12_legsFor_4 rfl rfl rfl ?_
      refine e_aload_n (q := 6) (i := 0) dX12_legsFor_5 rfl rfl rfl ?_
      refine e_Vip (q := 9) (vs := []) ok_X12_knownMany ml_X12_490 dX12_legsFor_6 rfl ⟨_, _, rfl⟩ (by first | assumption | rfl) rfl rfl (Nat.le_of_ble_eq_true rfl) (by decide) (c_X12_knownMany (σ := τ) hk5) ?_
      rw [ek]
      refine e_icmp_ge (q := 12) (tgt := 25) dX12_legsFor_9 rfl (by decide) (fun c9 => absurd c9 (by omega)) (fun c9 => ?_)
      refine e_aload_n (q := 13) (i := 0) dX12_legsFor_12 rfl rfl rfl ?_
      refine e_getR (q := 16) dX12_legsFor_13 rfl fg_X12_127 (by first | assumption | rfl) rfl ?_
      refine e_iload_n (q := 17) (i := 3) dX12_legsFor_16 rfl rfl rfl ?_
      refine e_iconst (q := 18) dX12_legsFor_17 rfl ?_
      refine e_zast (q := 19) dX12_legsFor_18 rfl (by first | assumption | rfl) (by first | exact Or.inl rfl | exact Or.inr rfl | omega) ?_
      refine e_iinc (q := 22) (L' := [_, _, _, _, _]) dX12_legsFor_19 rfl rfl (by decide) rfl rfl ?_
      refine e_goto (tgt := 4) dX12_legsFor_22 (by decide) ?_
      refine ih _ _ (by omega) (by omega) (hq.s (Or.inl rfl) _ _) (fun j a b => ?_) (fun j a b => ?_)
      · rw [sI_1]
        split
        · exact Or.inl rfl
        · exact h01 j a b
      · rw [sI_1]
        split
        · rfl
        · rename_i q
          exact hz j a (by
            have : j ≠ i := fun r => q ⟨rfl, r⟩
            omega)
  refine e_entry om_X12_legsFor (Nat.le_of_ble_eq_true rfl) (L := [some (.ref (G.2.2.2 + 82)), some (.int (iZ c)), none, none, none]) rfl ?_
  refine e_iconst (q := 1) dX12_legsFor_0 rfl ?_
  refine e_istore_n (q := 2) (i := 2) (L' := [_, _, _, _, _]) dX12_legsFor_1 rfl rfl (by decide) rfl rfl ?_
  refine e_iconst (q := 3) dX12_legsFor_2 rfl ?_
  refine e_istore_n (q := 4) (i := 3) (L' := [_, _, _, _, _]) dX12_legsFor_3 rfl rfl (by decide) rfl rfl ?_
  exact la (mKm σ).toNat σ 0 (by decide) (by omega) (Qg.rf σ) (fun k a b => (hM.2.2.1 k a b).2.2.2.2.2.2) (fun k a b => absurd b (by omega))

theorem c_X12_legsOf {G : Gx} {σ0 σ : Sg} {c : Int} (hσ : σ = sI σ0 82 0 0) (hT : MT σ) (hB : MB σ) (hW : MW σ) (hM : MN σ) (h44 : σ.1 82 44 = 0) (h45 : R32 (σ.1 82 45)) (hc : R32 c) : Con G 10 mX12_legsOf [.ref (G.2.2.2 + 82), .int (iZ c)] σ0 (pI (fun z σ' => (¬ (0 ≤ c ∧ c < σ.1 84 2) ∧ z = -1 ∧ σ' = σ) ∨ ((0 ≤ c ∧ c < σ.1 84 2) ∧ z = zb (fun k => fitB (fitM σ c (k + 1))) 30 ∧ Qn σ σ' ∧ (∀ k, 0 ≤ k → k < 24 → σ'.1 118 k = 0 ∨ σ'.1 118 k = 1)))) := by
  obtain ⟨hzz, hnp, hnc, hnb, hrn, hsd, hrw, hrq, hch, hbt, hck⟩ := id hT
  refine e_entry om_X12_legsOf (Nat.le_of_ble_eq_true rfl) (L := [some (.ref (G.2.2.2 + 82)), some (.int (iZ c))]) rfl ?_
  refine e_aload_n (q := 1) (i := 0) dX12_legsOf_0 rfl rfl rfl ?_
  refine e_iconst (q := 2) dX12_legsOf_1 rfl ?_
  refine e_putI (q := 5) (jz := 0) dX12_legsOf_2 rfl fp_X12_136 rfl (by first | assumption | rfl) rfl ?_
  rw [← hσ]
  refine e_aload_n (q := 6) (i := 0) dX12_legsOf_5 rfl rfl rfl ?_
  refine e_iload_n (q := 7) (i := 1) dX12_legsOf_6 rfl rfl rfl ?_
  refine e_Vip (q := 10) (vs := [_]) ok_X12_isChild ml_X12_402 dX12_legsOf_7 rfl ⟨_, _, rfl⟩ (by first | assumption | rfl) rfl rfl (Nat.le_of_ble_eq_true rfl) (by decide) (c_X12_isChild hT (by assumption)) ?_
  refine e_if_eq (q := 13) (tgt := 21) dX12_legsOf_10 rfl (by decide) (fun c10 => ?_) (fun c10 => ?_)
  · refine e_iconst (q := 22) dX12_legsOf_21 rfl ?_
    exact r_i dX12_legsOf_22 rfl (Or.inl ⟨by omega, rfl, rfl⟩)
  · refine e_aload_n (q := 14) (i := 0) dX12_legsOf_13 rfl rfl rfl ?_
    refine e_iload_n (q := 15) (i := 1) dX12_legsOf_14 rfl rfl rfl ?_
    refine e_Vi (q := 18) (vs := [_]) ok_X12_legsFor ml_X12_502 dX12_legsOf_15 rfl ⟨_, _, rfl⟩ (by first | assumption | rfl) rfl rfl (Nat.le_of_ble_eq_true rfl) (by decide) (c_X12_legsFor hT hB hW hM h44 h45 (by omega) (by omega)) (fun z15 s15 h15 => ?_)
    refine e_goto (tgt := 22) dX12_legsOf_18 (by decide) ?_
    exact r_i dX12_legsOf_22 rfl (Or.inr ⟨by omega, h15.1, h15.2.1.qn, h15.2.2⟩)

set_option maxHeartbeats 4000000 in
theorem c_X12_yesOf {G : Gx} {σ : Sg} {v r e : Int} (hv0 : 0 ≤ v) (hv1 : v < 1073741824) (hr : R32 r) (he : R32 e) (hR : ∀ i, 0 ≤ i → i < 120 → R32 (σ.1 119 i)) : Con G 1 mX12_yesOf [.ref (G.2.2.2 + 82), .int (iZ v), .int (iZ r), .int (iZ e)] σ (pI (pE σ (zs (fun k => if v / 2 ^ k.toNat % 2 = 1 ∧ σ.1 119 (4 * k) ≤ r ∧ r ≤ σ.1 119 (4 * k + 1) ∧ σ.1 119 (4 * k + 2) ≤ e ∧ e ≤ σ.1 119 (4 * k + 3) then 1 else 0) 30))) := by
  have lp : ∀ (n : Nat) (i s : Int), 0 ≤ i → i + n = 30 → s = zs (fun k => if v / 2 ^ k.toNat % 2 = 1 ∧ σ.1 119 (4 * k) ≤ r ∧ r ≤ σ.1 119 (4 * k + 1) ∧ σ.1 119 (4 * k + 2) ≤ e ∧ e ≤ σ.1 119 (4 * k + 3) then 1 else 0) i → J G 1 mX12_yesOf (pI (pE σ (zs (fun k => if v / 2 ^ k.toNat % 2 = 1 ∧ σ.1 119 (4 * k) ≤ r ∧ r ≤ σ.1 119 (4 * k + 1) ∧ σ.1 119 (4 * k + 2) ≤ e ∧ e ≤ σ.1 119 (4 * k + 3) then 1 else 0) 30))) σ 6 [some (.ref (G.2.2.2 + 82)), some (.int (iZ v)), some (.int (iZ r)), some (.int (iZ e)), some (.int (iZ s)), some (.int (iZ i))] [] := by
    intro n
    induction n with
    | zero =>
      intro i s h0 hn hs
      refine e_iload (q := 8) dX12_yesOf_6 rfl rfl ?_
      refine e_bipush (q := 10) dX12_yesOf_8 rfl (by decide) ?_
      refine e_icmp_ge (q := 13) (tgt := 99) dX12_yesOf_10 rfl (by decide) (fun c10 => ?_) (fun c10 => absurd (by omega) c10)
      refine e_iload (q := 101) dX12_yesOf_99 rfl rfl ?_
      exact r_i dX12_yesOf_101 rfl ⟨by rw [hs]; congr 1; omega, rfl⟩
    | succ n ih =>
      intro i s h0 hn hs
      refine e_iload (q := 8) dX12_yesOf_6 rfl rfl ?_
      refine e_bipush (q := 10) dX12_yesOf_8 rfl (by decide) ?_
      refine e_icmp_ge (q := 13) (tgt := 99) dX12_yesOf_10 rfl (by decide) (fun c10 => absurd c10 (by omega)) (fun c10 => ?_)
      have hp2 := p2_30 (k := i) (by omega)
      have hd0 := Int.ediv_nonneg hv0 (show (0 : Int) ≤ 2 ^ i.toNat by omega)
      have hd1 := Int.ediv_le_self (2 ^ i.toNat) hv0
      have s0 := hR (4 * i) (by omega) (by omega)
      have s1 := hR (4 * i + 1) (by omega) (by omega)
      have s2 := hR (4 * i + 2) (by omega) (by omega)
      have s3 := hR (4 * i + 3) (by omega) (by omega)
      refine e_iload_n (q := 14) (i := 1) dX12_yesOf_13 rfl rfl rfl ?_
      refine e_iload (q := 16) dX12_yesOf_14 rfl rfl ?_
      refine e_ishr (q := 17) dX12_yesOf_16 rfl (iZ_shrk hv0 (by omega) h0 (by omega)) ?_
      refine e_iconst (q := 18) dX12_yesOf_17 rfl ?_
      refine e_iand (q := 19) dX12_yesOf_18 rfl (iZ_and1 hd0 (by omega)) ?_
      refine e_if_ne (q := 22) (tgt := 25) dX12_yesOf_19 rfl (by decide) (fun c19 => ?_) (fun c19 => ?_) (hx := ⟨by omega, by omega⟩)
      · refine e_iload (q := 27) dX12_yesOf_25 rfl rfl ?_
        refine e_iload_n (q := 28) (i := 2) dX12_yesOf_27 rfl rfl rfl ?_
        refine e_aload_n (q := 29) (i := 0) dX12_yesOf_28 rfl rfl rfl ?_
        refine e_getR (q := 32) dX12_yesOf_29 rfl fg_X12_130 (by first | assumption | rfl) rfl ?_
        refine e_iconst (q := 33) dX12_yesOf_32 rfl ?_
        refine e_iload (q := 35) dX12_yesOf_33 rfl rfl ?_
        refine e_imul (q := 36) dX12_yesOf_35 rfl ?_
        refine e_iald (q := 37) dX12_yesOf_36 rfl (by first | assumption | rfl) ?_
        refine e_icmp_lt (q := 40) (tgt := 89) dX12_yesOf_37 rfl (by decide) (fun c37 => ?_) (fun c37 => ?_)
        · refine e_iconst (q := 90) dX12_yesOf_89 rfl ?_
          refine e_iadd (q := 91) dX12_yesOf_90 rfl ?_
          refine e_istore (q := 93) (L' := [_, _, _, _, _, _]) dX12_yesOf_91 rfl (by decide) rfl rfl ?_
          refine e_iinc (q := 96) (L' := [_, _, _, _, _, _]) dX12_yesOf_93 rfl rfl (by decide) rfl rfl ?_
          refine e_goto (tgt := 6) dX12_yesOf_96 (by decide) ?_
          refine ih _ _ (by omega) (by omega) ?_
          rw [zs_succ _ h0, hs]
          rw [if_neg (fun q => by obtain ⟨q0, q1, q2, q3, q4⟩ := q; omega)]
        · refine e_iload_n (q := 41) (i := 2) dX12_yesOf_40 rfl rfl rfl ?_
          refine e_aload_n (q := 42) (i := 0) dX12_yesOf_41 rfl rfl rfl ?_
          refine e_getR (q := 45) dX12_yesOf_42 rfl fg_X12_130 (by first | assumption | rfl) rfl ?_
          refine e_iconst (q := 46) dX12_yesOf_45 rfl ?_
          refine e_iload (q := 48) dX12_yesOf_46 rfl rfl ?_
          refine e_imul (q := 49) dX12_yesOf_48 rfl ?_
          refine e_iconst (q := 50) dX12_yesOf_49 rfl ?_
          refine e_iadd (q := 51) dX12_yesOf_50 rfl ?_
          refine e_iald (q := 52) dX12_yesOf_51 rfl (by first | assumption | rfl) ?_
          refine e_icmp_gt (q := 55) (tgt := 89) dX12_yesOf_52 rfl (by decide) (fun c52 => ?_) (fun c52 => ?_)
          · refine e_iconst (q := 90) dX12_yesOf_89 rfl ?_
            refine e_iadd (q := 91) dX12_yesOf_90 rfl ?_
            refine e_istore (q := 93) (L' := [_, _, _, _, _, _]) dX12_yesOf_91 rfl (by decide) rfl rfl ?_
            refine e_iinc (q := 96) (L' := [_, _, _, _, _, _]) dX12_yesOf_93 rfl rfl (by decide) rfl rfl ?_
            refine e_goto (tgt := 6) dX12_yesOf_96 (by decide) ?_
            refine ih _ _ (by omega) (by omega) ?_
            rw [zs_succ _ h0, hs]
            rw [if_neg (fun q => by obtain ⟨q0, q1, q2, q3, q4⟩ := q; omega)]
          · refine e_iload_n (q := 56) (i := 3) dX12_yesOf_55 rfl rfl rfl ?_
            refine e_aload_n (q := 57) (i := 0) dX12_yesOf_56 rfl rfl rfl ?_
            refine e_getR (q := 60) dX12_yesOf_57 rfl fg_X12_130 (by first | assumption | rfl) rfl ?_
            refine e_iconst (q := 61) dX12_yesOf_60 rfl ?_
            refine e_iload (q := 63) dX12_yesOf_61 rfl rfl ?_
            refine e_imul (q := 64) dX12_yesOf_63 rfl ?_
            refine e_iconst (q := 65) dX12_yesOf_64 rfl ?_
            refine e_iadd (q := 66) dX12_yesOf_65 rfl ?_
            refine e_iald (q := 67) dX12_yesOf_66 rfl (by first | assumption | rfl) ?_
            refine e_icmp_lt (q := 70) (tgt := 89) dX12_yesOf_67 rfl (by decide) (fun c67 => ?_) (fun c67 => ?_)
            · refine e_iconst (q := 90) dX12_yesOf_89 rfl ?_
              refine e_iadd (q := 91) dX12_yesOf_90 rfl ?_
              refine e_istore (q := 93) (L' := [_, _, _, _, _, _]) dX12_yesOf_91 rfl (by decide) rfl rfl ?_
              refine e_iinc (q := 96) (L' := [_, _, _, _, _, _]) dX12_yesOf_93 rfl rfl (by decide) rfl rfl ?_
              refine e_goto (tgt := 6) dX12_yesOf_96 (by decide) ?_
              refine ih _ _ (by omega) (by omega) ?_
              rw [zs_succ _ h0, hs]
              rw [if_neg (fun q => by obtain ⟨q0, q1, q2, q3, q4⟩ := q; omega)]
            · refine e_iload_n (q := 71) (i := 3) dX12_yesOf_70 rfl rfl rfl ?_
              refine e_aload_n (q := 72) (i := 0) dX12_yesOf_71 rfl rfl rfl ?_
              refine e_getR (q := 75) dX12_yesOf_72 rfl fg_X12_130 (by first | assumption | rfl) rfl ?_
              refine e_iconst (q := 76) dX12_yesOf_75 rfl ?_
              refine e_iload (q := 78) dX12_yesOf_76 rfl rfl ?_
              refine e_imul (q := 79) dX12_yesOf_78 rfl ?_
              refine e_iconst (q := 80) dX12_yesOf_79 rfl ?_
              refine e_iadd (q := 81) dX12_yesOf_80 rfl ?_
              refine e_iald (q := 82) dX12_yesOf_81 rfl (by first | assumption | rfl) ?_
              refine e_icmp_gt (q := 85) (tgt := 89) dX12_yesOf_82 rfl (by decide) (fun c82 => ?_) (fun c82 => ?_)
              · refine e_iconst (q := 90) dX12_yesOf_89 rfl ?_
                refine e_iadd (q := 91) dX12_yesOf_90 rfl ?_
                refine e_istore (q := 93) (L' := [_, _, _, _, _, _]) dX12_yesOf_91 rfl (by decide) rfl rfl ?_
                refine e_iinc (q := 96) (L' := [_, _, _, _, _, _]) dX12_yesOf_93 rfl rfl (by decide) rfl rfl ?_
                refine e_goto (tgt := 6) dX12_yesOf_96 (by decide) ?_
                refine ih _ _ (by omega) (by omega) ?_
                rw [zs_succ _ h0, hs]
                rw [if_neg (fun q => by obtain ⟨q0, q1, q2, q3, q4⟩ := q; omega)]
              · refine e_iconst (q := 86) dX12_yesOf_85 rfl ?_
                refine e_goto (tgt := 90) dX12_yesOf_86 (by decide) ?_
                refine e_iadd (q := 91) dX12_yesOf_90 rfl ?_
                refine e_istore (q := 93) (L' := [_, _, _, _, _, _]) dX12_yesOf_91 rfl (by decide) rfl rfl ?_
                refine e_iinc (q := 96) (L' := [_, _, _, _, _, _]) dX12_yesOf_93 rfl rfl (by decide) rfl rfl ?_
                refine e_goto (tgt := 6) dX12_yesOf_96 (by decide) ?_
                refine ih _ _ (by omega) (by omega) ?_
                rw [zs_succ _ h0, hs]
                rw [if_pos ⟨by omega, by omega, by omega, by omega, by omega⟩]
      · refine e_goto (tgt := 93) dX12_yesOf_22 (by decide) ?_
        refine e_iinc (q := 96) (L' := [_, _, _, _, _, _]) dX12_yesOf_93 rfl rfl (by decide) rfl rfl ?_
        refine e_goto (tgt := 6) dX12_yesOf_96 (by decide) ?_
        refine ih _ _ (by omega) (by omega) ?_
        rw [zs_succ _ h0, hs]
        rw [if_neg (fun q => by have := q.1; omega)]
        omega
  refine e_entry om_X12_yesOf (Nat.le_of_ble_eq_true rfl) (L := [some (.ref (G.2.2.2 + 82)), some (.int (iZ v)), some (.int (iZ r)), some (.int (iZ e)), none, none]) rfl ?_
  refine e_iconst (q := 1) dX12_yesOf_0 rfl ?_
  refine e_istore (q := 3) (L' := [_, _, _, _, _, _]) dX12_yesOf_1 rfl (by decide) rfl rfl ?_
  refine e_iconst (q := 4) dX12_yesOf_3 rfl ?_
  refine e_istore (q := 6) (L' := [_, _, _, _, _, _]) dX12_yesOf_4 rfl (by decide) rfl rfl ?_
  exact lp 30 0 0 (by decide) (by decide) rfl

