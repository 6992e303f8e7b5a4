/-! ===== the reference's land RUN, run from NOW ===== -/
def mRn (σ : Sg) (ck : Int → Int) (un tl w : Int) (k : Nat) (x : Yd × Int) : Yd × Int := yPass (mLaw σ) (σ.1 91) ck (mEd σ) (mBs σ) (σ.1 93) (σ.1 95) (gOv (σ.1 86) (σ.1 87)) (σ.1 84 3) (σ.1 84 1) (σ.1 84 2) un tl 0 0 (σ.1 84 4) w k x
def MR (σ : Sg) (ck : Int → Int) (un tl w b : Int) (y : Yd) (n : Int) (k : Nat) (τ : Sg) : Prop := Fm [100, 101, 102, 103, 104, 105, 106, 107, 108] [34, 44, 45] σ τ ∧ (∀ u, u ≠ 1 → ldm τ u = ldm σ u) ∧ (mUn τ = un ∧ mTl τ = tl ∧ mWt τ b = w) ∧ (∀ s, 0 ≤ s → s < 4 * σ.1 84 1 → mCk τ 1 s = ck s) ∧ YR (σ.1 84 1) (σ.1 84 2) (ydm τ 1) (mRn σ ck un tl w k (y, n)).1 ∧ τ.1 103 1 = (mRn σ ck un tl w k (y, n)).2 ∧ MI τ 1 ∧ τ.1 102 1 = y.2.2.2.2 + k ∧ R32 (τ.1 82 44) ∧ R32 (τ.1 82 45)
theorem nc_84e : ∀ a, 84 ≤ a → a ≤ 95 → a ∉ 82 :: [100, 101, 102, 103, 104, 105, 106, 107, 108] := by
  intro a h1 h2 h3
  simp only [List.mem_cons, List.not_mem_nil, or_false] at h3
  omega
theorem nc_96e : ∀ a, 96 ≤ a → a ≤ 99 → a ∉ 82 :: [100, 101, 102, 103, 104, 105, 106, 107, 108] := by
  intro a h1 h2 h3
  simp only [List.mem_cons, List.not_mem_nil, or_false] at h3
  omega
section MRs
variable {σ τ τ' : Sg} {ck : Int → Int} {un tl w b : Int} {y : Yd} {n : Int} {k : Nat}
theorem MR.mt (h : MR σ ck un tl w b y n k τ) (hT : MT σ) : MT τ := hT.fr h.1 nc_84e
theorem MR.mw (h : MR σ ck un tl w b y n k τ) (hT : MW σ) : MW τ := hT.fr h.1 nc_96e
theorem MR.mb (h : MR σ ck un tl w b y n k τ) (hT : MB σ) : MB τ := hT.fr h.1 nc_84e
theorem MR.c (h : MR σ ck un tl w b y n k τ) {a : Nat} (h1 : 84 ≤ a) (h2 : a ≤ 95) : τ.1 a = σ.1 a := h.1.c (nc_84e a h1 h2)
theorem MR_step (hT : MT σ) (hB : MB σ) (h : MR σ ck un tl w b y n k τ) (h3 : Mn τ τ' 1 (mYr τ 1 (gWet (τ.1 84 4) (τ.1 103 1) (mWt τ b)).1 (ydm τ 1), (gWet (τ.1 84 4) (τ.1 103 1) (mWt τ b)).2)) : MR σ ck un tl w b y n (k + 1) τ' := by
  obtain ⟨hF, hld, ⟨hun, htl, hwt⟩, hck, hy, hn, hI, hY, h44, h45⟩ := id h
  obtain ⟨f1, f2, f3, f4, f5⟩ := h3
  have hc : ∀ a, 84 ≤ a → a ≤ 95 → τ.1 a = σ.1 a := fun a h1 h2 => hF.c (nc_84e a h1 h2)
  obtain ⟨-, hnp, hnc, hnb, -, -, -, -, -, hbt, -⟩ := hT
  have g44 : τ'.1 82 44 = τ.1 82 44 := f1.2 44 (by decide)
  have g45 : τ'.1 82 45 = τ.1 82 45 := f1.2 45 (by decide)
  have g106 : τ'.1 106 = τ.1 106 := f1.c (by decide)
  have eC : mCk τ' 1 = mCk τ 1 := by unfold mCk mK; rw [g44, g106]
  have eE : mEd τ = mEd σ := by
    unfold mEd
    rw [hc 84 (by decide) (by decide), hc 86 (by decide) (by decide), hc 87 (by decide) (by decide)]
  have eB : mBs τ = mBs σ := by
    unfold mBs
    rw [hc 92 (by decide) (by decide), hc 94 (by decide) (by decide)]
  have hb : ∀ j, 0 ≤ j → j < σ.1 84 3 → mBs σ j = mBs σ j ∧ σ.1 93 j = σ.1 93 j ∧ σ.1 95 j = σ.1 95 j ∧ 0 ≤ mBs σ j ∧ mBs σ j < 4 * σ.1 84 1 ∧ 0 ≤ σ.1 93 j ∧ σ.1 93 j < σ.1 84 2 := fun j p q => by
    have q1 := hbt j p (by omega)
    have q2 := hB j p q
    unfold mBs
    exact ⟨rfl, rfl, rfl, by omega, by omega, by omega, by omega⟩
  have hov : ∀ f f' : Int → Int, (∀ i, 0 ≤ i → i < 4 * σ.1 84 1 → f i = f' i) → ∀ p q, 0 ≤ p → p < σ.1 84 1 → 0 ≤ q → q < σ.1 84 1 → gOv (σ.1 86) (σ.1 87) f p q = gOv (σ.1 86) (σ.1 87) f' p q := fun f f' hf p q a b c d => gOv_c (fun _ _ _ => ⟨rfl, rfl⟩) hf a b c d
  have hlv : LvR (mLaw σ) (mLaw σ) := fun r _ _ _ _ h => mLaw_nm h r
  rw [hwt, hn, hc 84 (by decide) (by decide)] at f2 f5
  refine ⟨hF.tr (f1.mono (by decide) (by decide)), fun u hu => (f3.ld hu).trans (hld u hu), ⟨?_, ?_, ?_⟩, fun s p q => by rw [eC]; exact hck s p q, ?_, ?_, f4, ?_, by rw [g44]; exact h44, by rw [g45]; exact h45⟩
  · rw [← hun]; unfold mUn; rw [g44, g45]
  · rw [← htl]; unfold mTl; rw [g44]
  · rw [← hwt]; unfold mWt; rw [g44]
  · rw [f2]
    unfold mYr
    rw [mLaw.fr hF nc_96e, eE, eB, hun, htl, hc 84 (by decide) (by decide), hc 86 (by decide) (by decide), hc 87 (by decide) (by decide), hc 91 (by decide) (by decide), hc 93 (by decide) (by decide), hc 95 (by decide) (by decide)]
    exact yYear_c (lv := mLaw σ) (lv' := mLaw σ) (mo := σ.1 91) (mo' := σ.1 91) (ck := mCk τ 1) (ck' := ck) (ed := mEd σ) (ed' := mEd σ) (bs := mBs σ) (bs' := mBs σ) (bc := σ.1 93) (bc' := σ.1 93) (by_ := σ.1 95) (by_' := σ.1 95) (ov := gOv (σ.1 86) (σ.1 87)) (ov' := gOv (σ.1 86) (σ.1 87)) (np := σ.1 84 1) (nc := σ.1 84 2) (nb := σ.1 84 3) hlv (fun _ _ _ => rfl) hck (fun _ _ _ => rfl) hb hov hnb.1 hnp.1 hnc.1 un tl 0 0 _ hy
  · exact f5
  · have q : τ'.1 102 1 = (ydm τ' 1).2.2.2.2 := rfl
    rw [q, f2]
    unfold mYr
    rw [yYear_ye]
    show τ.1 102 1 + 1 = _
    rw [hY]
    omega
theorem MR_0 {s : Sg} (hT : MT σ) (hI : MI σ 0) (h44 : σ.1 82 44 = 0) (h45 : R32 (σ.1 82 45)) (h : MCp σ 1 0 s) (b : Int) : MR σ (mK σ 0) (-1) 0 (if b = 0 then 0 else 1) b (ydm σ 0) (σ.1 103 0) 0 s := by
  obtain ⟨-, hnp, hnc, -⟩ := hT
  have hl := h.ld
  have q := ldm_out hl
  have g44 : s.1 82 44 = 0 := by rw [h.1.2 44 (by simp)]; exact h44
  have g45 : s.1 82 45 = σ.1 82 45 := h.1.2 45 (by simp)
  refine ⟨h.1.mono (by decide) (by simp), fun u hu => h.2.1.ld hu, ⟨?_, ?_, ?_⟩, fun i p q' => ?_, ⟨fun i p q' => (q.1 i p (by omega)).1, fun i p q' => q.2.1 i p (by omega), q.2.2.1, q.2.2.2.1⟩, q.2.2.2.2, hI.ld hl, ?_, ?_, ?_⟩
  · unfold mUn; rw [g44, if_neg (by decide)]
  · unfold mTl; rw [g44, if_neg (by decide)]
  · unfold mWt; rw [g44, if_neg (by decide), if_neg (by decide)]
  · unfold mCk; rw [g44, if_neg (by decide)]; exact (q.1 i p (by omega)).2
  · rw [q.2.2.2.1]
    show σ.1 102 0 = σ.1 102 0 + ((0 : Nat) : Int)
    omega
  · rw [g44]; exact ⟨by decide, by decide⟩
  · rw [g45]; exact h45
end MRs
/-- a call that asks: nothing that counts has changed -/
def Qm (σ σ' : Sg) : Prop := Fm [100, 101, 102, 103, 104, 105, 106, 107, 108, 109, 110, 111] [0, 34, 48, 49, 50, 51] σ σ' ∧ ∀ u, u ≠ 1 → ldm σ' u = ldm σ u
theorem Qm.rf (σ : Sg) : Qm σ σ := ⟨Fm.rf _ _ _, fun _ _ => rfl⟩
theorem Qm.tr {σ τ σ' : Sg} (h : Qm σ τ) (h' : Qm τ σ') : Qm σ σ' := ⟨h.1.tr h'.1, fun u hu => (h'.2 u hu).trans (h.2 u hu)⟩
theorem MR.qm {σ τ : Sg} {ck : Int → Int} {un tl w b : Int} {y : Yd} {n : Int} {k : Nat} (h : MR σ ck un tl w b y n k τ) (h44 : τ.1 82 44 = σ.1 82 44) (h45 : τ.1 82 45 = σ.1 82 45) : Qm σ τ := by
  refine ⟨⟨h.1.1.mono (by decide), fun j hj => ?_⟩, h.2.1⟩
  by_cases e : j = 44
  · rw [e]; exact h44
  by_cases e2 : j = 45
  · rw [e2]; exact h45
  refine h.1.2 j (fun q => ?_)
  simp only [List.mem_cons, List.not_mem_nil, or_false] at q hj
  omega
theorem MCp.qm {σ τ : Sg} {as : Int} (h : MCp σ 1 as τ) : Qm σ τ := ⟨h.1.mono (by decide) (by simp), fun u hu => h.2.1.ld hu⟩
theorem Fm.qm {σ τ : Sg} (h : Fm [100, 101] [34] σ τ) : Qm σ τ := ⟨h.mono (by decide) (by decide), fun u _ => ldm_fr h nc_102 u⟩

theorem c_X12_goesOnR {G : Gx} {σ τ : Sg} {m un tl w n0 : Int} {ck : Int → Int} {y : Yd} {k : Nat} (hT : MT σ) (hW : MW σ) (hB : MB σ) (hR : MR σ ck un tl w 0 y n0 k τ) (hm0 : 0 ≤ m) (hm1 : m ≤ 1000) (hmY : y.2.2.2.2 + k + m ≤ 100000) : Con G 8 mX12_goesOn [.ref (G.2.2.2 + 82), .int (iZ m)] τ (pV (fun τ' => MR σ ck un tl w 0 y n0 (k + m.toNat) τ' ∧ τ'.1 82 44 = τ.1 82 44 ∧ τ'.1 82 45 = τ.1 82 45)) := by
  have lp : ∀ (n : Nat) (υ : Sg) (i : Int), 0 ≤ i → i + n = m → MR σ ck un tl w 0 y n0 (k + i.toNat) υ → υ.1 82 44 = τ.1 82 44 → υ.1 82 45 = τ.1 82 45 → J G 8 mX12_goesOn (pV (fun τ' => MR σ ck un tl w 0 y n0 (k + m.toNat) τ' ∧ τ'.1 82 44 = τ.1 82 44 ∧ τ'.1 82 45 = τ.1 82 45)) υ 2 [some (.ref (G.2.2.2 + 82)), some (.int (iZ m)), some (.int (iZ i))] [] := by
    intro n
    induction n with
    | zero =>
      intro υ i h0 hn hlp g44 g45
      refine e_iload_n (q := 3) (i := 2) dX12_goesOn_2 rfl rfl rfl ?_
      refine e_iload_n (q := 4) (i := 1) dX12_goesOn_3 rfl rfl rfl ?_
      refine e_icmp_ge (q := 7) (tgt := 19) dX12_goesOn_4 rfl (by decide) (fun c4 => ?_) (fun c4 => absurd (by omega) c4)
      have ei : i = m := by omega
      subst ei
      exact r_v dX12_goesOn_19 rfl ⟨hlp, g44, g45⟩
    | succ n ih =>
      intro υ i h0 hn hlp g44 g45
      refine e_iload_n (q := 3) (i := 2) dX12_goesOn_2 rfl rfl rfl ?_
      refine e_iload_n (q := 4) (i := 1) dX12_goesOn_3 rfl rfl rfl ?_
      refine e_icmp_ge (q := 7) (tgt := 19) dX12_goesOn_4 rfl (by decide) (fun c4 => absurd c4 (by omega)) (fun c4 => ?_)
      refine e_aload_n (q := 8) (i := 0) dX12_goesOn_7 rfl rfl rfl ?_
      refine e_iconst (q := 9) dX12_goesOn_8 rfl ?_
      refine e_iconst (q := 10) dX12_goesOn_9 rfl ?_
      obtain ⟨-, -, -, -, -, -, mi, hYe, m44, m45⟩ := id hlp
      refine e_Vv (q := 13) (vs := [_, _]) ok_X12_passes ml_X12_392 dX12_goesOn_10 rfl ⟨_, _, rfl⟩ (by first | assumption | rfl) rfl rfl (Nat.le_of_ble_eq_true rfl) (by decide) (c_X12_passes (hlp.mt hT) (hlp.mw hW) mi (hlp.mb hB) (by decide) (by decide) m44 m45 (Or.inl rfl) (by omega)) (fun s10 h10 => ?_)
      refine e_iinc (q := 16) (L' := [_, _, _]) dX12_goesOn_13 rfl rfl (by decide) rfl rfl ?_
      refine e_goto (tgt := 2) dX12_goesOn_16 (by decide) ?_
      refine ih _ _ (by omega) (by omega) ?_ (by rw [h10.f (by decide)]; exact g44) (by rw [h10.f (by decide)]; exact g45)
      rw [show k + (i + 1).toNat = k + i.toNat + 1 by omega]
      exact MR_step hT hB hlp h10
  refine e_entry om_X12_goesOn (Nat.le_of_ble_eq_true rfl) (L := [some (.ref (G.2.2.2 + 82)), some (.int (iZ m)), none]) rfl ?_
  refine e_iconst (q := 1) dX12_goesOn_0 rfl ?_
  refine e_istore_n (q := 2) (i := 2) (L' := [_, _, _]) dX12_goesOn_1 rfl rfl (by decide) rfl rfl ?_
  exact lp m.toNat τ 0 (by omega) (by omega) hR rfl rfl

def mAh (σ : Sg) (m x i : Int) : Int := if x = 0 then gArea (σ.1 86) (σ.1 87) (mRn σ (mK σ 0) (-1) 0 0 m.toNat (ydm σ 0, σ.1 103 0)).1.1 i else if x = 1 then (mRn σ (mK σ 0) (-1) 0 0 m.toNat (ydm σ 0, σ.1 103 0)).1.2.2.2.1 - σ.1 104 0 else if x = 2 then (mRn σ (mK σ 0) (-1) 0 0 m.toNat (ydm σ 0, σ.1 103 0)).1.2.1 i else shAll (σ.1 86) (σ.1 87) (mRn σ (mK σ 0) (-1) 0 0 m.toNat (ydm σ 0, σ.1 103 0)).1.1 (σ.1 84 1)

set_option maxHeartbeats 8000000 in
theorem c_X12_ahead {G : Gx} {σ0 σ : Sg} {m x i : Int} (hσ : σ = sI σ0 82 0 0) (hT : MT σ) (hB : MB σ) (hW : MW σ) (hI : MI σ 0) (hY : σ.1 102 0 ≤ 9800) (hx44 : σ.1 82 44 = 0) (hx45 : σ.1 82 45 = -1) (hm : R32 m) (hx : R32 x) (hi : R32 i) : Con G 9 mX12_ahead [.ref (G.2.2.2 + 82), .int (iZ m), .int (iZ x), .int (iZ i)] σ0 (pI (fun z σ' => (¬ ((x = 1 ∨ x = 3 ∨ (x = 0 ∧ (0 ≤ i ∧ i < σ.1 84 1)) ∨ (x = 2 ∧ (0 ≤ i ∧ i < σ.1 84 2))) ∧ 0 ≤ m ∧ m ≤ 200) ∧ z = -1 ∧ σ' = σ) ∨ (((x = 1 ∨ x = 3 ∨ (x = 0 ∧ (0 ≤ i ∧ i < σ.1 84 1)) ∨ (x = 2 ∧ (0 ≤ i ∧ i < σ.1 84 2))) ∧ 0 ≤ m ∧ m ≤ 200) ∧ z = mAh σ m x i ∧ Qm σ σ'))) := by
  obtain ⟨hzz, hnp, hnc, hnb, hrn, hsd, hrw, hrq, hch, hbt, hck⟩ := id hT
  refine e_entry om_X12_ahead (Nat.le_of_ble_eq_true rfl) (L := [some (.ref (G.2.2.2 + 82)), some (.int (iZ m)), some (.int (iZ x)), some (.int (iZ i))]) rfl ?_
  refine e_aload_n (q := 1) (i := 0) dX12_ahead_0 rfl rfl rfl ?_
  refine e_iconst (q := 2) dX12_ahead_1 rfl ?_
  refine e_putI (q := 5) (jz := 0) dX12_ahead_2 rfl fp_X12_136 rfl (by first | assumption | rfl) rfl ?_
  rw [← hσ]
  refine e_iload_n (q := 6) (i := 1) dX12_ahead_5 rfl rfl rfl ?_
  refine e_if_lt (q := 9) (tgt := 50) dX12_ahead_6 rfl (by decide) (fun c6 => ?_) (fun c6 => ?_)
  · refine e_iconst (q := 51) dX12_ahead_50 rfl ?_
    exact r_i dX12_ahead_51 rfl (Or.inl ⟨by omega, rfl, rfl⟩)
  · refine e_iload_n (q := 10) (i := 1) dX12_ahead_9 rfl rfl rfl ?_
    refine e_sipush (q := 13) dX12_ahead_10 rfl (by decide) ?_
    refine e_icmp_gt (q := 16) (tgt := 50) dX12_ahead_13 rfl (by decide) (fun c13 => ?_) (fun c13 => ?_)
    · refine e_iconst (q := 51) dX12_ahead_50 rfl ?_
      exact r_i dX12_ahead_51 rfl (Or.inl ⟨by omega, rfl, rfl⟩)
    · refine e_iload_n (q := 17) (i := 2) dX12_ahead_16 rfl rfl rfl ?_
      refine e_if_lt (q := 20) (tgt := 50) dX12_ahead_17 rfl (by decide) (fun c17 => ?_) (fun c17 => ?_)
      · refine e_iconst (q := 51) dX12_ahead_50 rfl ?_
        exact r_i dX12_ahead_51 rfl (Or.inl ⟨by omega, rfl, rfl⟩)
      · refine e_iload_n (q := 21) (i := 2) dX12_ahead_20 rfl rfl rfl ?_
        refine e_iconst (q := 22) dX12_ahead_21 rfl ?_
        refine e_icmp_gt (q := 25) (tgt := 50) dX12_ahead_22 rfl (by decide) (fun c22 => ?_) (fun c22 => ?_)
        · refine e_iconst (q := 51) dX12_ahead_50 rfl ?_
          exact r_i dX12_ahead_51 rfl (Or.inl ⟨by omega, rfl, rfl⟩)
        · refine e_iload_n (q := 26) (i := 2) dX12_ahead_25 rfl rfl rfl ?_
          refine e_if_ne (q := 29) (tgt := 37) dX12_ahead_26 rfl (by decide) (fun c26 => ?_) (fun c26 => ?_)
          · refine e_iload_n (q := 38) (i := 2) dX12_ahead_37 rfl rfl rfl ?_
            refine e_iconst (q := 39) dX12_ahead_38 rfl ?_
            refine e_icmp_ne (q := 42) (tgt := 52) dX12_ahead_39 rfl (by decide) (fun c39 => ?_) (fun c39 => ?_)
            · refine e_aload_n (q := 53) (i := 0) dX12_ahead_52 rfl rfl rfl ?_
              refine e_iconst (q := 54) dX12_ahead_53 rfl ?_
              refine e_iconst (q := 55) dX12_ahead_54 rfl ?_
              refine e_Vv (q := 58) (vs := [_, _]) ok_X12_copies ml_X12_431 dX12_ahead_55 rfl ⟨_, _, rfl⟩ (by first | assumption | rfl) rfl rfl (Nat.le_of_ble_eq_true rfl) (by decide) (c_X12_copies (by decide) (by decide) (by decide) (by decide) (by decide)) (fun s55 h55 => ?_)
              have hr0 : MR σ (mK σ 0) (-1) 0 0 0 (ydm σ 0) (σ.1 103 0) 0 s55 := MR_0 hT hI hx44 (by rw [hx45]; exact ⟨by decide, by decide⟩) h55 0
              have hye := hI.2.2.2.1
              have hyy : (ydm σ 0).2.2.2.2 = σ.1 102 0 := rfl
              have hK : ((x = 1 ∨ x = 3 ∨ (x = 0 ∧ (0 ≤ i ∧ i < σ.1 84 1)) ∨ (x = 2 ∧ (0 ≤ i ∧ i < σ.1 84 2))) ∧ 0 ≤ m ∧ m ≤ 200) := by omega
              refine e_aload_n (q := 59) (i := 0) dX12_ahead_58 rfl rfl rfl ?_
              refine e_iload_n (q := 60) (i := 1) dX12_ahead_59 rfl rfl rfl ?_
              refine e_Vv (q := 63) (vs := [_]) ok_X12_goesOn ml_X12_437 dX12_ahead_60 rfl ⟨_, _, rfl⟩ (by first | assumption | rfl) rfl rfl (Nat.le_of_ble_eq_true rfl) (by decide) (c_X12_goesOnR hT hW hB hr0 (by omega) (by omega) (by rw [hyy]; omega)) (fun s60 h60 => ?_)
              obtain ⟨hr, g44, g45⟩ := h60
              have hq : Qm σ s60 := hr.qm (by rw [g44]; exact h55.1.2 44 (by simp)) (by rw [g45]; exact h55.1.2 45 (by simp))
              rw [show 0 + m.toNat = m.toNat by omega] at hr
              obtain ⟨-, rld, -, -, ry, rn, rI, -⟩ := id hr
              have e86 : s60.1 86 = σ.1 86 := hr.c (by decide) (by decide)
              have e87 : s60.1 87 = σ.1 87 := hr.c (by decide) (by decide)
              have e84 : s60.1 84 = σ.1 84 := hr.c (by decide) (by decide)
              refine e_iload_n (q := 64) (i := 2) dX12_ahead_63 rfl rfl rfl ?_
              by_cases k64_0 : x = 0
              · refine e_tabIn (tgt := 92) dX12_ahead_64 hx (by omega) (by omega) (by rw [k64_0]; rfl) (by decide) ?_
                refine e_aload_n (q := 93) (i := 0) dX12_ahead_92 rfl rfl rfl ?_
                refine e_iconst (q := 94) dX12_ahead_93 rfl ?_
                refine e_iload_n (q := 95) (i := 3) dX12_ahead_94 rfl rfl rfl ?_
                refine e_Vip (q := 98) (vs := [_, _]) ok_X12_areaOf ml_X12_339 dX12_ahead_95 rfl ⟨_, _, rfl⟩ (by first | assumption | rfl) rfl rfl (Nat.le_of_ble_eq_true rfl) (by decide) (c_X12_areaOf (by decide) (by decide) (by omega) (by omega)) ?_
                exact r_i dX12_ahead_98 rfl (Or.inr ⟨hK, by unfold mAh; rw [if_pos k64_0, e86, e87]; exact gArea_c ⟨rfl, rfl⟩ (fun j a b => ry.1 j (by omega) (by omega)), hq⟩)
              by_cases k64_1 : x = 1
              · refine e_tabIn (tgt := 99) dX12_ahead_64 hx (by omega) (by omega) (by rw [k64_1]; rfl) (by decide) ?_
                refine e_aload_n (q := 100) (i := 0) dX12_ahead_99 rfl rfl rfl ?_
                refine e_getR (q := 103) dX12_ahead_100 rfl fg_X12_78 (by first | assumption | rfl) rfl ?_
                refine e_iconst (q := 104) dX12_ahead_103 rfl ?_
                refine e_iald (q := 105) dX12_ahead_104 rfl (by first | assumption | rfl) ?_
                refine e_aload_n (q := 106) (i := 0) dX12_ahead_105 rfl rfl rfl ?_
                refine e_getR (q := 109) dX12_ahead_106 rfl fg_X12_78 (by first | assumption | rfl) rfl ?_
                refine e_iconst (q := 110) dX12_ahead_109 rfl ?_
                refine e_iald (q := 111) dX12_ahead_110 rfl (by first | assumption | rfl) ?_
                refine e_isub (q := 112) dX12_ahead_111 rfl ?_
                exact r_i dX12_ahead_112 rfl (Or.inr ⟨hK, by unfold mAh; rw [if_neg k64_0, if_pos k64_1, ← ry.2.2.1, (ldm_out (rld 0 (by decide))).2.2.1]; rfl, hq⟩)
              by_cases k64_2 : x = 2
              · refine e_tabIn (tgt := 113) dX12_ahead_64 hx (by omega) (by omega) (by rw [k64_2]; rfl) (by decide) ?_
                refine e_aload_n (q := 114) (i := 0) dX12_ahead_113 rfl rfl rfl ?_
                refine e_getR (q := 117) dX12_ahead_114 rfl fg_X12_87 (by first | assumption | rfl) rfl ?_
                refine e_bipush (q := 119) dX12_ahead_117 rfl (by decide) ?_
                refine e_iload_n (q := 120) (i := 3) dX12_ahead_119 rfl rfl rfl ?_
                refine e_iadd (q := 121) dX12_ahead_120 rfl ?_
                refine e_iald (q := 122) dX12_ahead_121 rfl (by first | assumption | rfl) ?_
                exact r_i dX12_ahead_122 rfl (Or.inr ⟨hK, by unfold mAh; rw [if_neg k64_0, if_neg k64_1, if_pos k64_2, ← (ry.2.1 i (by omega) (by omega)).1]; rfl, hq⟩)
              refine e_tabOut (tgt := 123) dX12_ahead_64 hx (by omega) (by decide) ?_
              refine e_aload_n (q := 124) (i := 0) dX12_ahead_123 rfl rfl rfl ?_
              refine e_iconst (q := 125) dX12_ahead_124 rfl ?_
              refine e_Vip (q := 128) (vs := [_]) ok_X12_overlaps ml_X12_440 dX12_ahead_125 rfl ⟨_, _, rfl⟩ (by first | assumption | rfl) rfl rfl (Nat.le_of_ble_eq_true rfl) (by decide) (c_X12_overlaps (hr.mt hT) rI (by decide) (by decide)) ?_
              exact r_i dX12_ahead_128 rfl (Or.inr ⟨hK, by unfold mAh; rw [if_neg k64_0, if_neg k64_1, if_neg k64_2, e84, e86, e87]; exact shAll_c (f := mF s60 1) (fun j a b => ry.1 j a b), hq⟩)
            · refine e_aload_n (q := 43) (i := 0) dX12_ahead_42 rfl rfl rfl ?_
              refine e_iload_n (q := 44) (i := 3) dX12_ahead_43 rfl rfl rfl ?_
              refine e_Vip (q := 47) (vs := [_]) ok_X12_isChild ml_X12_402 dX12_ahead_44 rfl ⟨_, _, rfl⟩ (by first | assumption | rfl) rfl rfl (Nat.le_of_ble_eq_true rfl) (by decide) (c_X12_isChild hT (by assumption)) ?_
              refine e_if_ne (q := 50) (tgt := 52) dX12_ahead_47 rfl (by decide) (fun c47 => ?_) (fun c47 => ?_)
              · refine e_aload_n (q := 53) (i := 0) dX12_ahead_52 rfl rfl rfl ?_
                refine e_iconst (q := 54) dX12_ahead_53 rfl ?_
                refine e_iconst (q := 55) dX12_ahead_54 rfl ?_
                refine e_Vv (q := 58) (vs := [_, _]) ok_X12_copies ml_X12_431 dX12_ahead_55 rfl ⟨_, _, rfl⟩ (by first | assumption | rfl) rfl rfl (Nat.le_of_ble_eq_true rfl) (by decide) (c_X12_copies (by decide) (by decide) (by decide) (by decide) (by decide)) (fun s55 h55 => ?_)
                have hr0 : MR σ (mK σ 0) (-1) 0 0 0 (ydm σ 0) (σ.1 103 0) 0 s55 := MR_0 hT hI hx44 (by rw [hx45]; exact ⟨by decide, by decide⟩) h55 0
                have hye := hI.2.2.2.1
                have hyy : (ydm σ 0).2.2.2.2 = σ.1 102 0 := rfl
                have hK : ((x = 1 ∨ x = 3 ∨ (x = 0 ∧ (0 ≤ i ∧ i < σ.1 84 1)) ∨ (x = 2 ∧ (0 ≤ i ∧ i < σ.1 84 2))) ∧ 0 ≤ m ∧ m ≤ 200) := by omega
                refine e_aload_n (q := 59) (i := 0) dX12_ahead_58 rfl rfl rfl ?_
                refine e_iload_n (q := 60) (i := 1) dX12_ahead_59 rfl rfl rfl ?_
                refine e_Vv (q := 63) (vs := [_]) ok_X12_goesOn ml_X12_437 dX12_ahead_60 rfl ⟨_, _, rfl⟩ (by first | assumption | rfl) rfl rfl (Nat.le_of_ble_eq_true rfl) (by decide) (c_X12_goesOnR hT hW hB hr0 (by omega) (by omega) (by rw [hyy]; omega)) (fun s60 h60 => ?_)
                obtain ⟨hr, g44, g45⟩ := h60
                have hq : Qm σ s60 := hr.qm (by rw [g44]; exact h55.1.2 44 (by simp)) (by rw [g45]; exact h55.1.2 45 (by simp))
                rw [show 0 + m.toNat = m.toNat by omega] at hr
                obtain ⟨-, rld, -, -, ry, rn, rI, -⟩ := id hr
                have e86 : s60.1 86 = σ.1 86 := hr.c (by decide) (by decide)
                have e87 : s60.1 87 = σ.1 87 := hr.c (by decide) (by decide)
                have e84 : s60.1 84 = σ.1 84 := hr.c (by decide) (by decide)
                refine e_iload_n (q := 64) (i := 2) dX12_ahead_63 rfl rfl rfl ?_
                by_cases k64_0 : x = 0
                · refine e_tabIn (tgt := 92) dX12_ahead_64 hx (by omega) (by omega) (by rw [k64_0]; rfl) (by decide) ?_
                  refine e_aload_n (q := 93) (i := 0) dX12_ahead_92 rfl rfl rfl ?_
                  refine e_iconst (q := 94) dX12_ahead_93 rfl ?_
                  refine e_iload_n (q := 95) (i := 3) dX12_ahead_94 rfl rfl rfl ?_
                  refine e_Vip (q := 98) (vs := [_, _]) ok_X12_areaOf ml_X12_339 dX12_ahead_95 rfl ⟨_, _, rfl⟩ (by first | assumption | rfl) rfl rfl (Nat.le_of_ble_eq_true rfl) (by decide) (c_X12_areaOf (by decide) (by decide) (by omega) (by omega)) ?_
                  exact r_i dX12_ahead_98 rfl (Or.inr ⟨hK, by unfold mAh; rw [if_pos k64_0, e86, e87]; exact gArea_c ⟨rfl, rfl⟩ (fun j a b => ry.1 j (by omega) (by omega)), hq⟩)
                by_cases k64_1 : x = 1
                · refine e_tabIn (tgt := 99) dX12_ahead_64 hx (by omega) (by omega) (by rw [k64_1]; rfl) (by decide) ?_
                  refine e_aload_n (q := 100) (i := 0) dX12_ahead_99 rfl rfl rfl ?_
                  refine e_getR (q := 103) dX12_ahead_100 rfl fg_X12_78 (by first | assumption | rfl) rfl ?_
                  refine e_iconst (q := 104) dX12_ahead_103 rfl ?_
                  refine e_iald (q := 105) dX12_ahead_104 rfl (by first | assumption | rfl) ?_
                  refine e_aload_n (q := 106) (i := 0) dX12_ahead_105 rfl rfl rfl ?_
                  refine e_getR (q := 109) dX12_ahead_106 rfl fg_X12_78 (by first | assumption | rfl) rfl ?_
                  refine e_iconst (q := 110) dX12_ahead_109 rfl ?_
                  refine e_iald (q := 111) dX12_ahead_110 rfl (by first | assumption | rfl) ?_
                  refine e_isub (q := 112) dX12_ahead_111 rfl ?_
                  exact r_i dX12_ahead_112 rfl (Or.inr ⟨hK, by unfold mAh; rw [if_neg k64_0, if_pos k64_1, ← ry.2.2.1, (ldm_out (rld 0 (by decide))).2.2.1]; rfl, hq⟩)
                by_cases k64_2 : x = 2
                · refine e_tabIn (tgt := 113) dX12_ahead_64 hx (by omega) (by omega) (by rw [k64_2]; rfl) (by decide) ?_
                  refine e_aload_n (q := 114) (i := 0) dX12_ahead_113 rfl rfl rfl ?_
                  refine e_getR (q := 117) dX12_ahead_114 rfl fg_X12_87 (by first | assumption | rfl) rfl ?_
                  refine e_bipush (q := 119) dX12_ahead_117 rfl (by decide) ?_
                  refine e_iload_n (q := 120) (i := 3) dX12_ahead_119 rfl rfl rfl ?_
                  refine e_iadd (q := 121) dX12_ahead_120 rfl ?_
                  refine e_iald (q := 122) dX12_ahead_121 rfl (by first | assumption | rfl) ?_
                  exact r_i dX12_ahead_122 rfl (Or.inr ⟨hK, by unfold mAh; rw [if_neg k64_0, if_neg k64_1, if_pos k64_2, ← (ry.2.1 i (by omega) (by omega)).1]; rfl, hq⟩)
                refine e_tabOut (tgt := 123) dX12_ahead_64 hx (by omega) (by decide) ?_
                refine e_aload_n (q := 124) (i := 0) dX12_ahead_123 rfl rfl rfl ?_
                refine e_iconst (q := 125) dX12_ahead_124 rfl ?_
                refine e_Vip (q := 128) (vs := [_]) ok_X12_overlaps ml_X12_440 dX12_ahead_125 rfl ⟨_, _, rfl⟩ (by first | assumption | rfl) rfl rfl (Nat.le_of_ble_eq_true rfl) (by decide) (c_X12_overlaps (hr.mt hT) rI (by decide) (by decide)) ?_
                exact r_i dX12_ahead_128 rfl (Or.inr ⟨hK, by unfold mAh; rw [if_neg k64_0, if_neg k64_1, if_neg k64_2, e84, e86, e87]; exact shAll_c (f := mF s60 1) (fun j a b => ry.1 j a b), hq⟩)
              · refine e_iconst (q := 51) dX12_ahead_50 rfl ?_
                exact r_i dX12_ahead_51 rfl (Or.inl ⟨by omega, rfl, rfl⟩)
          · refine e_aload_n (q := 30) (i := 0) dX12_ahead_29 rfl rfl rfl ?_
            refine e_iload_n (q := 31) (i := 3) dX12_ahead_30 rfl rfl rfl ?_
            refine e_Vip (q := 34) (vs := [_]) ok_X12_isParish ml_X12_396 dX12_ahead_31 rfl ⟨_, _, rfl⟩ (by first | assumption | rfl) rfl rfl (Nat.le_of_ble_eq_true rfl) (by decide) (c_X12_isParish hT (by assumption)) ?_
            refine e_if_eq (q := 37) (tgt := 50) dX12_ahead_34 rfl (by decide) (fun c34 => ?_) (fun c34 => ?_)
            · refine e_iconst (q := 51) dX12_ahead_50 rfl ?_
              exact r_i dX12_ahead_51 rfl (Or.inl ⟨by omega, rfl, rfl⟩)
            · refine e_iload_n (q := 38) (i := 2) dX12_ahead_37 rfl rfl rfl ?_
              refine e_iconst (q := 39) dX12_ahead_38 rfl ?_
              refine e_icmp_ne (q := 42) (tgt := 52) dX12_ahead_39 rfl (by decide) (fun c39 => ?_) (fun c39 => ?_)
              · refine e_aload_n (q := 53) (i := 0) dX12_ahead_52 rfl rfl rfl ?_
                refine e_iconst (q := 54) dX12_ahead_53 rfl ?_
                refine e_iconst (q := 55) dX12_ahead_54 rfl ?_
                refine e_Vv (q := 58) (vs := [_, _]) ok_X12_copies ml_X12_431 dX12_ahead_55 rfl ⟨_, _, rfl⟩ (by first | assumption | rfl) rfl rfl (Nat.le_of_ble_eq_true rfl) (by decide) (c_X12_copies (by decide) (by decide) (by decide) (by decide) (by decide)) (fun s55 h55 => ?_)
                have hr0 : MR σ (mK σ 0) (-1) 0 0 0 (ydm σ 0) (σ.1 103 0) 0 s55 := MR_0 hT hI hx44 (by rw [hx45]; exact ⟨by decide, by decide⟩) h55 0
                have hye := hI.2.2.2.1
                have hyy : (ydm σ 0).2.2.2.2 = σ.1 102 0 := rfl
                have hK : ((x = 1 ∨ x = 3 ∨ (x = 0 ∧ (0 ≤ i ∧ i < σ.1 84 1)) ∨ (x = 2 ∧ (0 ≤ i ∧ i < σ.1 84 2))) ∧ 0 ≤ m ∧ m ≤ 200) := by omega
                refine e_aload_n (q := 59) (i := 0) dX12_ahead_58 rfl rfl rfl ?_
                refine e_iload_n (q := 60) (i := 1) dX12_ahead_59 rfl rfl rfl ?_
                refine e_Vv (q := 63) (vs := [_]) ok_X12_goesOn ml_X12_437 dX12_ahead_60 rfl ⟨_, _, rfl⟩ (by first | assumption | rfl) rfl rfl (Nat.le_of_ble_eq_true rfl) (by decide) (c_X12_goesOnR hT hW hB hr0 (by omega) (by omega) (by rw [hyy]; omega)) (fun s60 h60 => ?_)
                obtain ⟨hr, g44, g45⟩ := h60
                have hq : Qm σ s60 := hr.qm (by rw [g44]; exact h55.1.2 44 (by simp)) (by rw [g45]; exact h55.1.2 45 (by simp))
                rw [show 0 + m.toNat = m.toNat by omega] at hr
                obtain ⟨-, rld, -, -, ry, rn, rI, -⟩ := id hr
                have e86 : s60.1 86 = σ.1 86 := hr.c (by decide) (by decide)
                have e87 : s60.1 87 = σ.1 87 := hr.c (by decide) (by decide)
                have e84 : s60.1 84 = σ.1 84 := hr.c (by decide) (by decide)
                refine e_iload_n (q := 64) (i := 2) dX12_ahead_63 rfl rfl rfl ?_
                by_cases k64_0 : x = 0
                · refine e_tabIn (tgt := 92) dX12_ahead_64 hx (by omega) (by omega) (by rw [k64_0]; rfl) (by decide) ?_
                  refine e_aload_n (q := 93) (i := 0) dX12_ahead_92 rfl rfl rfl ?_
                  refine e_iconst (q := 94) dX12_ahead_93 rfl ?_
                  refine e_iload_n (q := 95) (i := 3) dX12_ahead_94 rfl rfl rfl ?_
                  refine e_Vip (q := 98) (vs := [_, _]) ok_X12_areaOf ml_X12_339 dX12_ahead_95 rfl ⟨_, _, rfl⟩ (by first | assumption | rfl) rfl rfl (Nat.le_of_ble_eq_true rfl) (by decide) (c_X12_areaOf (by decide) (by decide) (by omega) (by omega)) ?_
                  exact r_i dX12_ahead_98 rfl (Or.inr ⟨hK, by unfold mAh; rw [if_pos k64_0, e86, e87]; exact gArea_c ⟨rfl, rfl⟩ (fun j a b => ry.1 j (by omega) (by omega)), hq⟩)
                by_cases k64_1 : x = 1
                · refine e_tabIn (tgt := 99) dX12_ahead_64 hx (by omega) (by omega) (by rw [k64_1]; rfl) (by decide) ?_
                  refine e_aload_n (q := 100) (i := 0) dX12_ahead_99 rfl rfl rfl ?_
                  refine e_getR (q := 103) dX12_ahead_100 rfl fg_X12_78 (by first | assumption | rfl) rfl ?_
                  refine e_iconst (q := 104) dX12_ahead_103 rfl ?_
                  refine e_iald (q := 105) dX12_ahead_104 rfl (by first | assumption | rfl) ?_
                  refine e_aload_n (q := 106) (i := 0) dX12_ahead_105 rfl rfl rfl ?_
                  refine e_getR (q := 109) dX12_ahead_106 rfl fg_X12_78 (by first | assumption | rfl) rfl ?_
                  refine e_iconst (q := 110) dX12_ahead_109 rfl ?_
                  refine e_iald (q := 111) dX12_ahead_110 rfl (by first | assumption | rfl) ?_
                  refine e_isub (q := 112) dX12_ahead_111 rfl ?_
                  exact r_i dX12_ahead_112 rfl (Or.inr ⟨hK, by unfold mAh; rw [if_neg k64_0, if_pos k64_1, ← ry.2.2.1, (ldm_out (rld 0 (by decide))).2.2.1]; rfl, hq⟩)
                by_cases k64_2 : x = 2
                · refine e_tabIn (tgt := 113) dX12_ahead_64 hx (by omega) (by omega) (by rw [k64_2]; rfl) (by decide) ?_
                  refine e_aload_n (q := 114) (i := 0) dX12_ahead_113 rfl rfl rfl ?_
                  refine e_getR (q := 117) dX12_ahead_114 rfl fg_X12_87 (by first | assumption | rfl) rfl ?_
                  refine e_bipush (q := 119) dX12_ahead_117 rfl (by decide) ?_
                  refine e_iload_n (q := 120) (i := 3) dX12_ahead_119 rfl rfl rfl ?_
                  refine e_iadd (q := 121) dX12_ahead_120 rfl ?_
                  refine e_iald (q := 122) dX12_ahead_121 rfl (by first | assumption | rfl) ?_
                  exact r_i dX12_ahead_122 rfl (Or.inr ⟨hK, by unfold mAh; rw [if_neg k64_0, if_neg k64_1, if_pos k64_2, ← (ry.2.1 i (by omega) (by omega)).1]; rfl, hq⟩)
                refine e_tabOut (tgt := 123) dX12_ahead_64 hx (by omega) (by decide) ?_
                refine e_aload_n (q := 124) (i := 0) dX12_ahead_123 rfl rfl rfl ?_
                refine e_iconst (q := 125) dX12_ahead_124 rfl ?_
                refine e_Vip (q := 128) (vs := [_]) ok_X12_overlaps ml_X12_440 dX12_ahead_125 rfl ⟨_, _, rfl⟩ (by first | assumption | rfl) rfl rfl (Nat.le_of_ble_eq_true rfl) (by decide) (c_X12_overlaps (hr.mt hT) rI (by decide) (by decide)) ?_
                exact r_i dX12_ahead_128 rfl (Or.inr ⟨hK, by unfold mAh; rw [if_neg k64_0, if_neg k64_1, if_neg k64_2, e84, e86, e87]; exact shAll_c (f := mF s60 1) (fun j a b => ry.1 j a b), hq⟩)
              · refine e_aload_n (q := 43) (i := 0) dX12_ahead_42 rfl rfl rfl ?_
                refine e_iload_n (q := 44) (i := 3) dX12_ahead_43 rfl rfl rfl ?_
                refine e_Vip (q := 47) (vs := [_]) ok_X12_isChild ml_X12_402 dX12_ahead_44 rfl ⟨_, _, rfl⟩ (by first | assumption | rfl) rfl rfl (Nat.le_of_ble_eq_true rfl) (by decide) (c_X12_isChild hT (by assumption)) ?_
                refine e_if_ne (q := 50) (tgt := 52) dX12_ahead_47 rfl (by decide) (fun c47 => ?_) (fun c47 => ?_)
                · refine e_aload_n (q := 53) (i := 0) dX12_ahead_52 rfl rfl rfl ?_
                  refine e_iconst (q := 54) dX12_ahead_53 rfl ?_
                  refine e_iconst (q := 55) dX12_ahead_54 rfl ?_
                  refine e_Vv (q := 58) (vs := [_, _]) ok_X12_copies ml_X12_431 dX12_ahead_55 rfl ⟨_, _, rfl⟩ (by first | assumption | rfl) rfl rfl (Nat.le_of_ble_eq_true rfl) (by decide) (c_X12_copies (by decide) (by decide) (by decide) (by decide) (by decide)) (fun s55 h55 => ?_)
                  have hr0 : MR σ (mK σ 0) (-1) 0 0 0 (ydm σ 0) (σ.1 103 0) 0 s55 := MR_0 hT hI hx44 (by rw [hx45]; exact ⟨by decide, by decide⟩) h55 0
                  have hye := hI.2.2.2.1
                  have hyy : (ydm σ 0).2.2.2.2 = σ.1 102 0 := rfl
                  have hK : ((x = 1 ∨ x = 3 ∨ (x = 0 ∧ (0 ≤ i ∧ i < σ.1 84 1)) ∨ (x = 2 ∧ (0 ≤ i ∧ i < σ.1 84 2))) ∧ 0 ≤ m ∧ m ≤ 200) := by omega
                  refine e_aload_n (q := 59) (i := 0) dX12_ahead_58 rfl rfl rfl ?_
                  refine e_iload_n (q := 60) (i := 1) dX12_ahead_59 rfl rfl rfl ?_
                  refine e_Vv (q := 63) (vs := [_]) ok_X12_goesOn ml_X12_437 dX12_ahead_60 rfl ⟨_, _, rfl⟩ (by first | assumption | rfl) rfl rfl (Nat.le_of_ble_eq_true rfl) (by decide) (c_X12_goesOnR hT hW hB hr0 (by omega) (by omega) (by rw [hyy]; omega)) (fun s60 h60 => ?_)
                  obtain ⟨hr, g44, g45⟩ := h60
                  have hq : Qm σ s60 := hr.qm (by rw [g44]; exact h55.1.2 44 (by simp)) (by rw [g45]; exact h55.1.2 45 (by simp))
                  rw [show 0 + m.toNat = m.toNat by omega] at hr
                  obtain ⟨-, rld, -, -, ry, rn, rI, -⟩ := id hr
                  have e86 : s60.1 86 = σ.1 86 := hr.c (by decide) (by decide)
                  have e87 : s60.1 87 = σ.1 87 := hr.c (by decide) (by decide)
                  have e84 : s60.1 84 = σ.1 84 := hr.c (by decide) (by decide)
                  refine e_iload_n (q := 64) (i := 2) dX12_ahead_63 rfl rfl rfl ?_
                  by_cases k64_0 : x = 0
                  · refine e_tabIn (tgt := 92) dX12_ahead_64 hx (by omega) (by omega) (by rw [k64_0]; rfl) (by decide) ?_
                    refine e_aload_n (q := 93) (i := 0) dX12_ahead_92 rfl rfl rfl ?_
                    refine e_iconst (q := 94) dX12_ahead_93 rfl ?_
                    refine e_iload_n (q := 95) (i := 3) dX12_ahead_94 rfl rfl rfl ?_
                    refine e_Vip (q := 98) (vs := [_, _]) ok_X12_areaOf ml_X12_339 dX12_ahead_95 rfl ⟨_, _, rfl⟩ (by first | assumption | rfl) rfl rfl (Nat.le_of_ble_eq_true rfl) (by decide) (c_X12_areaOf (by decide) (by decide) (by omega) (by omega)) ?_
                    exact r_i dX12_ahead_98 rfl (Or.inr ⟨hK, by unfold mAh; rw [if_pos k64_0, e86, e87]; exact gArea_c ⟨rfl, rfl⟩ (fun j a b => ry.1 j (by omega) (by omega)), hq⟩)
                  by_cases k64_1 : x = 1
                  · refine e_tabIn (tgt := 99) dX12_ahead_64 hx (by omega) (by omega) (by rw [k64_1]; rfl) (by decide) ?_
                    refine e_aload_n (q := 100) (i := 0) dX12_ahead_99 rfl rfl rfl ?_
                    refine e_getR (q := 103) dX12_ahead_100 rfl fg_X12_78 (by first | assumption | rfl) rfl ?_
                    refine e_iconst (q := 104) dX12_ahead_103 rfl ?_
                    refine e_iald (q := 105) dX12_ahead_104 rfl (by first | assumption | rfl) ?_
                    refine e_aload_n (q := 106) (i := 0) dX12_ahead_105 rfl rfl rfl ?_
                    refine e_getR (q := 109) dX12_ahead_106 rfl fg_X12_78 (by first | assumption | rfl) rfl ?_
                    refine e_iconst (q := 110) dX12_ahead_109 rfl ?_
                    refine e_iald (q := 111) dX12_ahead_110 rfl (by first | assumption | rfl) ?_
                    refine e_isub (q := 112) dX12_ahead_111 rfl ?_
                    exact r_i dX12_ahead_112 rfl (Or.inr ⟨hK, by unfold mAh; rw [if_neg k64_0, if_pos k64_1, ← ry.2.2.1, (ldm_out (rld 0 (by decide))).2.2.1]; rfl, hq⟩)
                  by_cases k64_2 : x = 2
                  · refine e_tabIn (tgt := 113) dX12_ahead_64 hx (by omega) (by omega) (by rw [k64_2]; rfl) (by decide) ?_
                    refine e_aload_n (q := 114) (i := 0) dX12_ahead_113 rfl rfl rfl ?_
                    refine e_getR (q := 117) dX12_ahead_114 rfl fg_X12_87 (by first | assumption | rfl) rfl ?_
                    refine e_bipush (q := 119) dX12_ahead_117 rfl (by decide) ?_
                    refine e_iload_n (q := 120) (i := 3) dX12_ahead_119 rfl rfl rfl ?_
                    refine e_iadd (q := 121) dX12_ahead_120 rfl ?_
                    refine e_iald (q := 122) dX12_ahead_121 rfl (by first | assumption | rfl) ?_
                    exact r_i dX12_ahead_122 rfl (Or.inr ⟨hK, by unfold mAh; rw [if_neg k64_0, if_neg k64_1, if_pos k64_2, ← (ry.2.1 i (by omega) (by omega)).1]; rfl, hq⟩)
                  refine e_tabOut (tgt := 123) dX12_ahead_64 hx (by omega) (by decide) ?_
                  refine e_aload_n (q := 124) (i := 0) dX12_ahead_123 rfl rfl rfl ?_
                  refine e_iconst (q := 125) dX12_ahead_124 rfl ?_
                  refine e_Vip (q := 128) (vs := [_]) ok_X12_overlaps ml_X12_440 dX12_ahead_125 rfl ⟨_, _, rfl⟩ (by first | assumption | rfl) rfl rfl (Nat.le_of_ble_eq_true rfl) (by decide) (c_X12_overlaps (hr.mt hT) rI (by decide) (by decide)) ?_
                  exact r_i dX12_ahead_128 rfl (Or.inr ⟨hK, by unfold mAh; rw [if_neg k64_0, if_neg k64_1, if_neg k64_2, e84, e86, e87]; exact shAll_c (f := mF s60 1) (fun j a b => ry.1 j a b), hq⟩)
                · refine e_iconst (q := 51) dX12_ahead_50 rfl ?_
                  exact r_i dX12_ahead_51 rfl (Or.inl ⟨by omega, rfl, rfl⟩)

set_option maxHeartbeats 8000000 in
theorem c_X12_when {G : Gx} {σ0 σ : Sg} {p r c : Int} (hσ : σ = sI σ0 82 0 0) (hT : MT σ) (hB : MB σ) (hW : MW σ) (hI : MI σ 0) (hY : σ.1 102 0 ≤ 9800) (hx44 : σ.1 82 44 = 0) (hx45 : σ.1 82 45 = -1) (hp : R32 p) (hr_ : R32 r) (hc : R32 c) : Con G 9 mX12_when [.ref (G.2.2.2 + 82), .int (iZ p), .int (iZ r), .int (iZ c)] σ0 (pI (fun z σ' => (¬ ((0 ≤ p ∧ p < σ.1 84 1) ∧ (0 ≤ r ∧ r < σ.1 84 0 ∧ 0 ≤ c ∧ c < σ.1 84 0)) ∧ z = -1 ∧ σ' = σ) ∨ (((0 ≤ p ∧ p < σ.1 84 1) ∧ (0 ≤ r ∧ r < σ.1 84 0 ∧ 0 ≤ c ∧ c < σ.1 84 0)) ∧ ((z = -2 ∧ ∀ k : Int, 0 ≤ k → k ≤ 199 → gHold (σ.1 86) (σ.1 87) (mRn σ (mK σ 0) (-1) 0 0 (k).toNat (ydm σ 0, σ.1 103 0)).1.1 p r c = 0) ∨ (0 ≤ z ∧ z ≤ 199 ∧ gHold (σ.1 86) (σ.1 87) (mRn σ (mK σ 0) (-1) 0 0 (z).toNat (ydm σ 0, σ.1 103 0)).1.1 p r c = 1 ∧ ∀ k : Int, 0 ≤ k → k < z → gHold (σ.1 86) (σ.1 87) (mRn σ (mK σ 0) (-1) 0 0 (k).toNat (ydm σ 0, σ.1 103 0)).1.1 p r c = 0)) ∧ Qm σ σ'))) := by
  obtain ⟨hzz, hnp, hnc, hnb, hrn, hsd, hrw, hrq, hch, hbt, hck⟩ := id hT
  have hye := hI.2.2.2.1
  have lp : ∀ (n : Nat) (τ : Sg) (i : Int), ((0 ≤ p ∧ p < σ.1 84 1) ∧ (0 ≤ r ∧ r < σ.1 84 0 ∧ 0 ≤ c ∧ c < σ.1 84 0)) → 0 ≤ i → i + n = 200 → MR σ (mK σ 0) (-1) 0 0 0 (ydm σ 0) (σ.1 103 0) i.toNat τ → τ.1 82 44 = σ.1 82 44 → τ.1 82 45 = σ.1 82 45 → (∀ k : Int, 0 ≤ k → k < i → gHold (σ.1 86) (σ.1 87) (mRn σ (mK σ 0) (-1) 0 0 (k).toNat (ydm σ 0, σ.1 103 0)).1.1 p r c = 0) → J G 9 mX12_when (pI (fun z σ' => (¬ ((0 ≤ p ∧ p < σ.1 84 1) ∧ (0 ≤ r ∧ r < σ.1 84 0 ∧ 0 ≤ c ∧ c < σ.1 84 0)) ∧ z = -1 ∧ σ' = σ) ∨ (((0 ≤ p ∧ p < σ.1 84 1) ∧ (0 ≤ r ∧ r < σ.1 84 0 ∧ 0 ≤ c ∧ c < σ.1 84 0)) ∧ ((z = -2 ∧ ∀ k : Int, 0 ≤ k → k ≤ 199 → gHold (σ.1 86) (σ.1 87) (mRn σ (mK σ 0) (-1) 0 0 (k).toNat (ydm σ 0, σ.1 103 0)).1.1 p r c = 0) ∨ (0 ≤ z ∧ z ≤ 199 ∧ gHold (σ.1 86) (σ.1 87) (mRn σ (mK σ 0) (-1) 0 0 (z).toNat (ydm σ 0, σ.1 103 0)).1.1 p r c = 1 ∧ ∀ k : Int, 0 ≤ k → k < z → gHold (σ.1 86) (σ.1 87) (mRn σ (mK σ 0) (-1) 0 0 (k).toNat (ydm σ 0, σ.1 103 0)).1.1 p r c = 0)) ∧ Qm σ σ'))) τ 33 [some (.ref (G.2.2.2 + 82)), some (.int (iZ p)), some (.int (iZ r)), some (.int (iZ c)), some (.int (iZ i))] [] := by
    intro n
    induction n with
    | zero =>
      intro τ i hK h0 hn hr g44 g45 hN
      obtain ⟨rF, rld, -, -, ry, rn, rI, rY, m44, m45⟩ := id hr
      have e86 : τ.1 86 = σ.1 86 := hr.c (by decide) (by decide)
      have e87 : τ.1 87 = σ.1 87 := hr.c (by decide) (by decide)
      have hg : gHold (τ.1 86) (τ.1 87) (mF τ 1) p r c = gHold (σ.1 86) (σ.1 87) (mRn σ (mK σ 0) (-1) 0 0 (i).toNat (ydm σ 0, σ.1 103 0)).1.1 p r c := by rw [e86, e87]; exact gHold_c ⟨rfl, rfl⟩ (fun j a b => ry.1 j (by omega) (by omega)) r c
      have hg01 : gHold (σ.1 86) (σ.1 87) (mRn σ (mK σ 0) (-1) 0 0 (i).toNat (ydm σ 0, σ.1 103 0)).1.1 p r c = 0 ∨ gHold (σ.1 86) (σ.1 87) (mRn σ (mK σ 0) (-1) 0 0 (i).toNat (ydm σ 0, σ.1 103 0)).1.1 p r c = 1 := by unfold gHold; split <;> simp
      have hq : Qm σ τ := hr.qm g44 g45
      refine e_iload (q := 35) dX12_when_33 rfl rfl ?_
      refine e_sipush (q := 38) dX12_when_35 rfl (by decide) ?_
      refine e_icmp_gt (q := 41) (tgt := 67) dX12_when_38 rfl (by decide) (fun c38 => ?_) (fun c38 => absurd (by omega) c38)
      refine e_bipush (q := 69) dX12_when_67 rfl (by decide) ?_
      exact r_i dX12_when_69 rfl (Or.inr ⟨hK, Or.inl ⟨rfl, fun k a b => hN k a (by omega)⟩, hq⟩)
    | succ n ih =>
      intro τ i hK h0 hn hr g44 g45 hN
      obtain ⟨rF, rld, -, -, ry, rn, rI, rY, m44, m45⟩ := id hr
      have e86 : τ.1 86 = σ.1 86 := hr.c (by decide) (by decide)
      have e87 : τ.1 87 = σ.1 87 := hr.c (by decide) (by decide)
      have hg : gHold (τ.1 86) (τ.1 87) (mF τ 1) p r c = gHold (σ.1 86) (σ.1 87) (mRn σ (mK σ 0) (-1) 0 0 (i).toNat (ydm σ 0, σ.1 103 0)).1.1 p r c := by rw [e86, e87]; exact gHold_c ⟨rfl, rfl⟩ (fun j a b => ry.1 j (by omega) (by omega)) r c
      have hg01 : gHold (σ.1 86) (σ.1 87) (mRn σ (mK σ 0) (-1) 0 0 (i).toNat (ydm σ 0, σ.1 103 0)).1.1 p r c = 0 ∨ gHold (σ.1 86) (σ.1 87) (mRn σ (mK σ 0) (-1) 0 0 (i).toNat (ydm σ 0, σ.1 103 0)).1.1 p r c = 1 := by unfold gHold; split <;> simp
      have hq : Qm σ τ := hr.qm g44 g45
      refine e_iload (q := 35) dX12_when_33 rfl rfl ?_
      refine e_sipush (q := 38) dX12_when_35 rfl (by decide) ?_
      refine e_icmp_gt (q := 41) (tgt := 67) dX12_when_38 rfl (by decide) (fun c38 => absurd c38 (by omega)) (fun c38 => ?_)
      refine e_aload_n (q := 42) (i := 0) dX12_when_41 rfl rfl rfl ?_
      refine e_iconst (q := 43) dX12_when_42 rfl ?_
      refine e_iload_n (q := 44) (i := 1) dX12_when_43 rfl rfl rfl ?_
      refine e_iload_n (q := 45) (i := 2) dX12_when_44 rfl rfl rfl ?_
      refine e_iload_n (q := 46) (i := 3) dX12_when_45 rfl rfl rfl ?_
      refine e_Vip (q := 49) (vs := [_, _, _, _]) ok_X12_isOf ml_X12_408 dX12_when_46 rfl ⟨_, _, rfl⟩ (by first | assumption | rfl) rfl rfl (Nat.le_of_ble_eq_true rfl) (by decide) (c_X12_isOf (hr.mt hT) rI (by decide) (by decide) (by omega) (by omega) hr_ hc) ?_
      rw [hg]
      refine e_if_eq (q := 52) (tgt := 55) dX12_when_49 rfl (by decide) (fun c49 => ?_) (fun c49 => ?_) (hx := ⟨by omega, by omega⟩)
      · refine e_aload_n (q := 56) (i := 0) dX12_when_55 rfl rfl rfl ?_
        refine e_iconst (q := 57) dX12_when_56 rfl ?_
        refine e_iconst (q := 58) dX12_when_57 rfl ?_
        refine e_Vv (q := 61) (vs := [_, _]) ok_X12_passes ml_X12_392 dX12_when_58 rfl ⟨_, _, rfl⟩ (by first | assumption | rfl) rfl rfl (Nat.le_of_ble_eq_true rfl) (by decide) (c_X12_passes (hr.mt hT) (hr.mw hW) rI (hr.mb hB) (by decide) (by decide) m44 m45 (Or.inl rfl) (by rw [rY]; show σ.1 102 0 + _ < _; omega)) (fun s58 h58 => ?_)
        refine e_iinc (q := 64) (L' := [_, _, _, _, _]) dX12_when_61 rfl rfl (by decide) rfl rfl ?_
        refine e_goto (tgt := 33) dX12_when_64 (by decide) ?_
        refine ih _ _ hK (by omega) (by omega) ?_ (by rw [h58.f (by decide)]; exact g44) (by rw [h58.f (by decide)]; exact g45) (fun k a b => ?_)
        · rw [show (i + 1).toNat = i.toNat + 1 by omega]
          exact MR_step hT hB hr h58
        · by_cases e : k = i
          · subst e; omega
          · exact hN k a (by omega)
      · refine e_iload (q := 54) dX12_when_52 rfl rfl ?_
        exact r_i dX12_when_54 rfl (Or.inr ⟨hK, Or.inr ⟨h0, by omega, by omega, hN⟩, hq⟩)
  refine e_entry om_X12_when (Nat.le_of_ble_eq_true rfl) (L := [some (.ref (G.2.2.2 + 82)), some (.int (iZ p)), some (.int (iZ r)), some (.int (iZ c)), none]) rfl ?_
  refine e_aload_n (q := 1) (i := 0) dX12_when_0 rfl rfl rfl ?_
  refine e_iconst (q := 2) dX12_when_1 rfl ?_
  refine e_putI (q := 5) (jz := 0) dX12_when_2 rfl fp_X12_136 rfl (by first | assumption | rfl) rfl ?_
  rw [← hσ]
  refine e_aload_n (q := 6) (i := 0) dX12_when_5 rfl rfl rfl ?_
  refine e_iload_n (q := 7) (i := 1) dX12_when_6 rfl rfl rfl ?_
  refine e_Vip (q := 10) (vs := [_]) ok_X12_isParish ml_X12_396 dX12_when_7 rfl ⟨_, _, rfl⟩ (by first | assumption | rfl) rfl rfl (Nat.le_of_ble_eq_true rfl) (by decide) (c_X12_isParish hT (by assumption)) ?_
  refine e_if_eq (q := 13) (tgt := 22) dX12_when_10 rfl (by decide) (fun c10 => ?_) (fun c10 => ?_)
  · refine e_iconst (q := 23) dX12_when_22 rfl ?_
    exact r_i dX12_when_23 rfl (Or.inl ⟨by omega, rfl, rfl⟩)
  · refine e_aload_n (q := 14) (i := 0) dX12_when_13 rfl rfl rfl ?_
    refine e_iload_n (q := 15) (i := 2) dX12_when_14 rfl rfl rfl ?_
    refine e_iload_n (q := 16) (i := 3) dX12_when_15 rfl rfl rfl ?_
    refine e_Vip (q := 19) (vs := [_, _]) ok_X12_isCell ml_X12_412 dX12_when_16 rfl ⟨_, _, rfl⟩ (by first | assumption | rfl) rfl rfl (Nat.le_of_ble_eq_true rfl) (by decide) (c_X12_isCell hT hr_ hc) ?_
    refine e_if_ne (q := 22) (tgt := 24) dX12_when_19 rfl (by decide) (fun c19 => ?_) (fun c19 => ?_)
    · refine e_aload_n (q := 25) (i := 0) dX12_when_24 rfl rfl rfl ?_
      refine e_iconst (q := 26) dX12_when_25 rfl ?_
      refine e_iconst (q := 27) dX12_when_26 rfl ?_
      refine e_Vv (q := 30) (vs := [_, _]) ok_X12_copies ml_X12_431 dX12_when_27 rfl ⟨_, _, rfl⟩ (by first | assumption | rfl) rfl rfl (Nat.le_of_ble_eq_true rfl) (by decide) (c_X12_copies (by decide) (by decide) (by decide) (by decide) (by decide)) (fun s27 h27 => ?_)
      refine e_iconst (q := 31) dX12_when_30 rfl ?_
      refine e_istore (q := 33) (L' := [_, _, _, _, _]) dX12_when_31 rfl (by decide) rfl rfl ?_
      exact lp 200 s27 0 (by omega) (by decide) (by decide) (MR_0 hT hI hx44 (by rw [hx45]; exact ⟨by decide, by decide⟩) h27 0) (h27.1.2 44 (by simp)) (h27.1.2 45 (by simp)) (fun k a b => absurd b (by omega))
    · refine e_iconst (q := 23) dX12_when_22 rfl ?_
      exact r_i dX12_when_23 rfl (Or.inl ⟨by omega, rfl, rfl⟩)

