theorem gHold_01 (rw cl f : Int → Int) (p r c : Int) : gHold rw cl f p r c = 0 ∨ gHold rw cl f p r c = 1 := by unfold gHold; split <;> simp
def mWk (σ : Sg) (wt c s sw : Int) : Int := gStone (mLaw σ 0 (nmF (mL σ 0 c) (σ.1 91 c) (mD σ 0 c) sw wt (mF σ 0 s) (σ.1 102 0))) (mL σ 0 c + sw - mD σ 0 c) (mEd σ s) wt
/-- what counts beside RUN is as it was, with the fields too -/
def Qr (σ τ : Sg) : Prop := Fm [100, 101, 102, 103, 104, 105, 106, 107, 108] [34] σ τ ∧ ∀ u, u ≠ 1 → ldm τ u = ldm σ u
theorem Qr.qm {σ τ : Sg} (h : Qr σ τ) : Qm σ τ := ⟨h.1.mono (by decide) (by decide), h.2⟩
theorem Qr.mt {σ τ : Sg} (h : Qr σ τ) (hT : MT σ) : MT τ := hT.fr h.1 nc_84e
theorem Qr.mw {σ τ : Sg} (h : Qr σ τ) (hT : MW σ) : MW τ := hT.fr h.1 nc_96e
theorem Qr.mi {σ τ : Sg} (h : Qr σ τ) (hI : MI σ 0) : MI τ 0 := hI.ld (h.2 0 (by decide))
theorem Qr.c {σ τ : Sg} (h : Qr σ τ) {a : Nat} (h1 : 84 ≤ a) (h2 : a ≤ 95) : τ.1 a = σ.1 a := h.1.c (nc_84e a h1 h2)
theorem Qr.f {σ τ : Sg} (h : Qr σ τ) {j : Int} (hj : j ≠ 34) : τ.1 82 j = σ.1 82 j := h.1.2 j (by simp only [List.mem_cons, List.not_mem_nil, or_false]; exact hj)
theorem Qr.wk {σ τ : Sg} (h : Qr σ τ) {wt c s sw : Int} (c0 : 0 ≤ c) (c6 : c < 6) (s0 : 0 ≤ s) (s16 : s < 16) : mWk τ wt c s sw = mWk σ wt c s sw := by
  have q := ldm_out (h.2 0 (by decide))
  unfold mWk mEd
  rw [mLaw.fr h.1 nc_96e, (q.1 s s0 s16).1, (q.2.1 c c0 c6).1, (q.2.1 c c0 c6).2, q.2.2.2.1, h.c (a := 84) (by decide) (by decide), h.c (a := 86) (by decide) (by decide), h.c (a := 87) (by decide) (by decide), h.c (a := 91) (by decide) (by decide)]
theorem MR_01 {σ τ s : Sg} (hT : MT σ) (hI : MI σ 0) (h44 : σ.1 82 44 = 0) (h45 : R32 (σ.1 82 45)) (hq : Qr σ τ) (h : MCp τ 1 0 s) (b : Int) : MR σ (mK σ 0) (-1) 0 (if b = 0 then 0 else 1) b (ydm σ 0) (σ.1 103 0) 0 s := by
  obtain ⟨-, hnp, hnc, -⟩ := hT
  have hl := h.ld.trans (hq.2 0 (by decide))
  have q := ldm_out hl
  have g44 : s.1 82 44 = 0 := by rw [h.1.2 44 (by simp), hq.f (by decide)]; exact h44
  have g45 : s.1 82 45 = σ.1 82 45 := (h.1.2 45 (by simp)).trans (hq.f (by decide))
  refine ⟨(hq.1.mono (fun _ x => x) (by decide)).tr (h.1.mono (by decide) (by simp)), fun u hu => (h.2.1.ld hu).trans (hq.2 u hu), ⟨?_, ?_, ?_⟩, fun i p q' => ?_, ⟨fun i p q' => (q.1 i p (by omega)).1, fun i p q' => q.2.1 i p (by omega), q.2.2.1, q.2.2.2.1⟩, q.2.2.2.2, hI.ld hl, ?_, ?_, ?_⟩
  · unfold mUn; rw [g44, if_neg (by decide)]
  · unfold mTl; rw [g44, if_neg (by decide)]
  · unfold mWt; rw [g44, if_neg (by decide), if_neg (by decide)]
  · unfold mCk; rw [g44, if_neg (by decide)]; exact (q.1 i p (by omega)).2
  · rw [q.2.2.2.1]
    show σ.1 102 0 = σ.1 102 0 + ((0 : Nat) : Int)
    omega
  · rw [g44]; exact ⟨by decide, by decide⟩
  · rw [g45]; exact h45
theorem MR_n {σ τ : Sg} {ck : Int → Int} {un tl w b : Int} {y : Yd} {n : Int} (h : MR σ ck un tl w b y n 0 τ) {v : Int} (hv : 0 ≤ v ∧ v ≤ 2147483647) : MR σ ck un tl w b y v 0 (sI τ 103 1 v) := by
  obtain ⟨hF, hld, ⟨hun, htl, hwt⟩, hck, hy, hn, hI, hY, h44, h45⟩ := h
  obtain ⟨f1, ot1, mi1, y1⟩ := Mp_drawn hI hv
  have g44 : (sI τ 103 1 v).1 82 44 = τ.1 82 44 := by rw [sI_ne _ (by decide)]
  have g45 : (sI τ 103 1 v).1 82 45 = τ.1 82 45 := by rw [sI_ne _ (by decide)]
  refine ⟨hF.si (by decide) (by decide) _ _, fun u hu => (ot1.ld hu).trans (hld u hu), ⟨?_, ?_, ?_⟩, fun s p q => ?_, ?_, ?_, mi1, ?_, by rw [g44]; exact h44, by rw [g45]; exact h45⟩
  · rw [← hun]; unfold mUn; rw [g44, g45]
  · rw [← htl]; unfold mTl; rw [g44]
  · rw [← hwt]; unfold mWt; rw [g44]
  · rw [← hck s p q]; unfold mCk; rw [g44, mK_ne _ _ (by decide)]
  · rw [y1]; exact hy
  · rw [sI_1, if_pos ⟨rfl, rfl⟩]; rfl
  · rw [sI_ne (a := 102) _ (by decide)]; exact hY

set_option maxHeartbeats 8000000 in
theorem c_X12_cakeFor {G : Gx} {σ0 σ : Sg} {p c w r l : Int} (hσ : σ = sI σ0 82 0 0) (hT : MT σ) (hB : MB σ) (hW : MW σ) (hI : MI σ 0) (hY : σ.1 102 0 ≤ 9800) (hx44 : σ.1 82 44 = 0) (hx45 : σ.1 82 45 = -1) (hp : R32 p) (hc : R32 c) (hw : R32 w) (hr : R32 r) (hl : R32 l) : Con G 8 mX12_cakeFor [.ref (G.2.2.2 + 82), .int (iZ p), .int (iZ c), .int (iZ w), .int (iZ r), .int (iZ l)] σ0 (pI (fun z σ' => (¬ ((0 ≤ p ∧ p < σ.1 84 1) ∧ (0 ≤ c ∧ c < σ.1 84 2) ∧ (0 ≤ w ∧ w < 4) ∧ (0 ≤ r ∧ r < σ.1 84 0 ∧ 0 ≤ l ∧ l < σ.1 84 0)) ∧ z = -1 ∧ σ' = σ) ∨ (((0 ≤ p ∧ p < σ.1 84 1) ∧ (0 ≤ c ∧ c < σ.1 84 2) ∧ (0 ≤ w ∧ w < 4) ∧ (0 ≤ r ∧ r < σ.1 84 0 ∧ 0 ≤ l ∧ l < σ.1 84 0)) ∧ ((z = -2 ∧ ∀ k : Int, 0 ≤ k → k ≤ 9 → gHold (σ.1 86) (σ.1 87) (uf (mF σ 0) (4 * p + w) (mWk σ (if 50 ≤ σ.1 84 4 then 1 else 0) c (4 * p + w) k)) p r l = 0) ∨ (0 ≤ z ∧ z ≤ 9 ∧ gHold (σ.1 86) (σ.1 87) (uf (mF σ 0) (4 * p + w) (mWk σ (if 50 ≤ σ.1 84 4 then 1 else 0) c (4 * p + w) z)) p r l = 1 ∧ ∀ k : Int, 0 ≤ k → k < z → gHold (σ.1 86) (σ.1 87) (uf (mF σ 0) (4 * p + w) (mWk σ (if 50 ≤ σ.1 84 4 then 1 else 0) c (4 * p + w) k)) p r l = 0)) ∧ Qm σ σ'))) := by
  obtain ⟨hzz, hnp, hnc, hnb, hrn, hsd, hrw, hrq, hch, hbt, hck⟩ := id hT
  have hw01 : (if 50 ≤ σ.1 84 4 then (1 : Int) else 0) = 0 ∨ (if 50 ≤ σ.1 84 4 then (1 : Int) else 0) = 1 := by split <;> simp
  have lp : ∀ (n : Nat) (τ : Sg) (i : Int), ((0 ≤ p ∧ p < σ.1 84 1) ∧ (0 ≤ c ∧ c < σ.1 84 2) ∧ (0 ≤ w ∧ w < 4) ∧ (0 ≤ r ∧ r < σ.1 84 0 ∧ 0 ≤ l ∧ l < σ.1 84 0)) → 0 ≤ i → i + n = 10 → Qr σ τ → (∀ j, 0 ≤ j → j < 16 → j ≠ (4 * p + w) → mF τ 1 j = mF σ 0 j) → MI τ 1 → (∀ k : Int, 0 ≤ k → k < i → gHold (σ.1 86) (σ.1 87) (uf (mF σ 0) (4 * p + w) (mWk σ (if 50 ≤ σ.1 84 4 then 1 else 0) c (4 * p + w) k)) p r l = 0) → J G 8 mX12_cakeFor (pI (fun z σ' => (¬ ((0 ≤ p ∧ p < σ.1 84 1) ∧ (0 ≤ c ∧ c < σ.1 84 2) ∧ (0 ≤ w ∧ w < 4) ∧ (0 ≤ r ∧ r < σ.1 84 0 ∧ 0 ≤ l ∧ l < σ.1 84 0)) ∧ z = -1 ∧ σ' = σ) ∨ (((0 ≤ p ∧ p < σ.1 84 1) ∧ (0 ≤ c ∧ c < σ.1 84 2) ∧ (0 ≤ w ∧ w < 4) ∧ (0 ≤ r ∧ r < σ.1 84 0 ∧ 0 ≤ l ∧ l < σ.1 84 0)) ∧ ((z = -2 ∧ ∀ k : Int, 0 ≤ k → k ≤ 9 → gHold (σ.1 86) (σ.1 87) (uf (mF σ 0) (4 * p + w) (mWk σ (if 50 ≤ σ.1 84 4 then 1 else 0) c (4 * p + w) k)) p r l = 0) ∨ (0 ≤ z ∧ z ≤ 9 ∧ gHold (σ.1 86) (σ.1 87) (uf (mF σ 0) (4 * p + w) (mWk σ (if 50 ≤ σ.1 84 4 then 1 else 0) c (4 * p + w) z)) p r l = 1 ∧ ∀ k : Int, 0 ≤ k → k < z → gHold (σ.1 86) (σ.1 87) (uf (mF σ 0) (4 * p + w) (mWk σ (if 50 ≤ σ.1 84 4 then 1 else 0) c (4 * p + w) k)) p r l = 0)) ∧ Qm σ σ'))) τ 58 [some (.ref (G.2.2.2 + 82)), some (.int (iZ p)), some (.int (iZ c)), some (.int (iZ w)), some (.int (iZ r)), some (.int (iZ l)), some (.int (iZ (if 50 ≤ σ.1 84 4 then 1 else 0))), some (.int (iZ i))] [] := by
    intro n
    induction n with
    | zero =>
      intro τ i hK h0 hn hq hf hI1 hN
      have hg01 : gHold (σ.1 86) (σ.1 87) (uf (mF σ 0) (4 * p + w) (mWk σ (if 50 ≤ σ.1 84 4 then 1 else 0) c (4 * p + w) i)) p r l = 0 ∨ gHold (σ.1 86) (σ.1 87) (uf (mF σ 0) (4 * p + w) (mWk σ (if 50 ≤ σ.1 84 4 then 1 else 0) c (4 * p + w) i)) p r l = 1 := gHold_01 _ _ _ _ _ _
      have n1 : τ.1 84 1 = σ.1 84 1 := by rw [hq.c (by decide) (by decide)]
      refine e_iload (q := 60) dX12_cakeFor_58 rfl rfl ?_
      refine e_bipush (q := 62) dX12_cakeFor_60 rfl (by decide) ?_
      refine e_icmp_gt (q := 65) (tgt := 110) dX12_cakeFor_62 rfl (by decide) (fun c62 => ?_) (fun c62 => absurd (by omega) c62)
      refine e_bipush (q := 112) dX12_cakeFor_110 rfl (by decide) ?_
      exact r_i dX12_cakeFor_112 rfl (Or.inr ⟨hK, Or.inl ⟨rfl, fun k a b => hN k a (by omega)⟩, hq.qm⟩)
    | succ n ih =>
      intro τ i hK h0 hn hq hf hI1 hN
      have hg01 : gHold (σ.1 86) (σ.1 87) (uf (mF σ 0) (4 * p + w) (mWk σ (if 50 ≤ σ.1 84 4 then 1 else 0) c (4 * p + w) i)) p r l = 0 ∨ gHold (σ.1 86) (σ.1 87) (uf (mF σ 0) (4 * p + w) (mWk σ (if 50 ≤ σ.1 84 4 then 1 else 0) c (4 * p + w) i)) p r l = 1 := gHold_01 _ _ _ _ _ _
      have n1 : τ.1 84 1 = σ.1 84 1 := by rw [hq.c (by decide) (by decide)]
      refine e_iload (q := 60) dX12_cakeFor_58 rfl rfl ?_
      refine e_bipush (q := 62) dX12_cakeFor_60 rfl (by decide) ?_
      refine e_icmp_gt (q := 65) (tgt := 110) dX12_cakeFor_62 rfl (by decide) (fun c62 => absurd c62 (by omega)) (fun c62 => ?_)
      refine e_aload_n (q := 66) (i := 0) dX12_cakeFor_65 rfl rfl rfl ?_
      refine e_getR (q := 69) dX12_cakeFor_66 rfl fg_X12_81 (by first | assumption | rfl) rfl ?_
      refine e_iconst (q := 70) dX12_cakeFor_69 rfl ?_
      refine e_iload_n (q := 71) (i := 1) dX12_cakeFor_70 rfl rfl rfl ?_
      refine e_iload_n (q := 72) (i := 3) dX12_cakeFor_71 rfl rfl rfl ?_
      refine e_Sip (q := 75) (vs := [_, _, _]) ok_X12_slot ml_X12_322 dX12_cakeFor_72 rfl rfl rfl (Nat.le_of_ble_eq_true rfl) (by decide) (c_X12_slot (t := 16 * 1 + (4 * p + w)) (by omega)) ?_
      refine e_aload_n (q := 76) (i := 0) dX12_cakeFor_75 rfl rfl rfl ?_
      refine e_iconst (q := 77) dX12_cakeFor_76 rfl ?_
      refine e_iload_n (q := 78) (i := 1) dX12_cakeFor_77 rfl rfl rfl ?_
      refine e_iload_n (q := 79) (i := 2) dX12_cakeFor_78 rfl rfl rfl ?_
      refine e_iload_n (q := 80) (i := 3) dX12_cakeFor_79 rfl rfl rfl ?_
      refine e_iload (q := 82) dX12_cakeFor_80 rfl rfl ?_
      refine e_iload (q := 84) dX12_cakeFor_82 rfl rfl ?_
      refine e_Vi (q := 87) (vs := [_, _, _, _, _, _]) ok_X12_farBy ml_X12_376 dX12_cakeFor_84 rfl ⟨_, _, rfl⟩ (by first | assumption | rfl) rfl rfl (Nat.le_of_ble_eq_true rfl) (by decide) (c_X12_farBy (hq.mt hT) (hq.mw hW) (hq.mi hI) (by decide) (by decide) (by omega) (by omega) (by omega) (by omega) (by omega) (by omega) (by omega) ⟨by omega, by omega⟩ hw01) (fun z84 s84 h84 => ?_)
      have ez : z84 = mWk σ (if 50 ≤ σ.1 84 4 then 1 else 0) c (4 * p + w) i := by rw [h84.1]; exact hq.wk (by omega) (by omega) (by omega) (by omega)
      have hzb : 0 ≤ z84 ∧ z84 ≤ 39 := by rw [ez]; exact gStone_in (mEd_in hT (by omega) (by omega))
      have hq1 : Qr σ s84 := ⟨hq.1.tr (h84.2.mono (by decide) (by decide)), fun u hu => (ldm_fr h84.2 nc_102 u).trans (hq.2 u hu)⟩
      have hI2 : MI s84 1 := hI1.fr h84.2 nc_102
      have hmp := (Mp.rf hI2).far (t := (4 * p + w)) (by omega) (by omega) hzb
      have hq2 : Qr σ (sI s84 105 (16 * 1 + (4 * p + w)) z84) := ⟨hq1.1.si (by decide) (by decide) _ _, fun u hu => (hmp.2.2.1.ld hu).trans (hq1.2 u hu)⟩
      have hf1 : ∀ j, 0 ≤ j → j < 16 → j ≠ (4 * p + w) → mF s84 1 j = mF σ 0 j := fun j a b e => (h84.2.e1 (by decide) _).trans (hf j a b e)
      have hg : gHold ((sI s84 105 (16 * 1 + (4 * p + w)) z84).1 86) ((sI s84 105 (16 * 1 + (4 * p + w)) z84).1 87) (mF (sI s84 105 (16 * 1 + (4 * p + w)) z84) 1) p r l = gHold (σ.1 86) (σ.1 87) (uf (mF σ 0) (4 * p + w) (mWk σ (if 50 ≤ σ.1 84 4 then 1 else 0) c (4 * p + w) i)) p r l := by
        rw [hq2.c (a := 86) (by decide) (by decide), hq2.c (a := 87) (by decide) (by decide), mF_uf, ← ez]
        refine gHold_c ⟨rfl, rfl⟩ (fun j a b => ?_) r l
        unfold uf
        by_cases e : j = (4 * p + w)
        · rw [if_pos e, if_pos e]
        · rw [if_neg e, if_neg e]; exact hf1 j (by omega) (by omega) e
      refine e_iast (q := 88) dX12_cakeFor_87 rfl (by first | assumption | rfl) ?_
      refine e_aload_n (q := 89) (i := 0) dX12_cakeFor_88 rfl rfl rfl ?_
      refine e_iconst (q := 90) dX12_cakeFor_89 rfl ?_
      refine e_iload_n (q := 91) (i := 1) dX12_cakeFor_90 rfl rfl rfl ?_
      refine e_iload (q := 93) dX12_cakeFor_91 rfl rfl ?_
      refine e_iload (q := 95) dX12_cakeFor_93 rfl rfl ?_
      refine e_Vip (q := 98) (vs := [_, _, _, _]) ok_X12_isOf ml_X12_408 dX12_cakeFor_95 rfl ⟨_, _, rfl⟩ (by first | assumption | rfl) rfl rfl (Nat.le_of_ble_eq_true rfl) (by decide) (c_X12_isOf (hq2.mt hT) hmp.2.2.2.1 (by decide) (by decide) (by omega) (by omega) hr hl) ?_
      rw [hg]
      refine e_if_eq (q := 101) (tgt := 104) dX12_cakeFor_98 rfl (by decide) (fun c98 => ?_) (fun c98 => ?_) (hx := ⟨by omega, by omega⟩)
      · refine e_iinc (q := 107) (L' := [_, _, _, _, _, _, _, _]) dX12_cakeFor_104 rfl rfl (by decide) rfl rfl ?_
        refine e_goto (tgt := 58) dX12_cakeFor_107 (by decide) ?_
        refine ih _ _ hK (by omega) (by omega) hq2 (fun j a b e => ?_) hmp.2.2.2.1 (fun k a b => ?_)
        · rw [mF_uf]
          unfold uf
          rw [if_neg e]
          exact hf1 j a b e
        · by_cases e : k = i
          · subst e; omega
          · exact hN k a (by omega)
      · refine e_iload (q := 103) dX12_cakeFor_101 rfl rfl ?_
        exact r_i dX12_cakeFor_103 rfl (Or.inr ⟨hK, Or.inr ⟨h0, by omega, by omega, hN⟩, hq2.qm⟩)
  refine e_entry om_X12_cakeFor (Nat.le_of_ble_eq_true rfl) (L := [some (.ref (G.2.2.2 + 82)), some (.int (iZ p)), some (.int (iZ c)), some (.int (iZ w)), some (.int (iZ r)), some (.int (iZ l)), none, none]) rfl ?_
  refine e_aload_n (q := 1) (i := 0) dX12_cakeFor_0 rfl rfl rfl ?_
  refine e_iconst (q := 2) dX12_cakeFor_1 rfl ?_
  refine e_putI (q := 5) (jz := 0) dX12_cakeFor_2 rfl fp_X12_136 rfl (by first | assumption | rfl) rfl ?_
  rw [← hσ]
  refine e_aload_n (q := 6) (i := 0) dX12_cakeFor_5 rfl rfl rfl ?_
  refine e_iload_n (q := 7) (i := 1) dX12_cakeFor_6 rfl rfl rfl ?_
  refine e_Vip (q := 10) (vs := [_]) ok_X12_isParish ml_X12_396 dX12_cakeFor_7 rfl ⟨_, _, rfl⟩ (by first | assumption | rfl) rfl rfl (Nat.le_of_ble_eq_true rfl) (by decide) (c_X12_isParish hT (by assumption)) ?_
  refine e_if_eq (q := 13) (tgt := 39) dX12_cakeFor_10 rfl (by decide) (fun c10 => ?_) (fun c10 => ?_)
  · refine e_iconst (q := 40) dX12_cakeFor_39 rfl ?_
    exact r_i dX12_cakeFor_40 rfl (Or.inl ⟨by omega, rfl, rfl⟩)
  · refine e_aload_n (q := 14) (i := 0) dX12_cakeFor_13 rfl rfl rfl ?_
    refine e_iload_n (q := 15) (i := 2) dX12_cakeFor_14 rfl rfl rfl ?_
    refine e_Vip (q := 18) (vs := [_]) ok_X12_isChild ml_X12_402 dX12_cakeFor_15 rfl ⟨_, _, rfl⟩ (by first | assumption | rfl) rfl rfl (Nat.le_of_ble_eq_true rfl) (by decide) (c_X12_isChild hT (by assumption)) ?_
    refine e_if_eq (q := 21) (tgt := 39) dX12_cakeFor_18 rfl (by decide) (fun c18 => ?_) (fun c18 => ?_)
    · refine e_iconst (q := 40) dX12_cakeFor_39 rfl ?_
      exact r_i dX12_cakeFor_40 rfl (Or.inl ⟨by omega, rfl, rfl⟩)
    · refine e_iload_n (q := 22) (i := 3) dX12_cakeFor_21 rfl rfl rfl ?_
      refine e_Sip (q := 25) (vs := [_]) ok_X12_isWay ml_X12_405 dX12_cakeFor_22 rfl rfl rfl (Nat.le_of_ble_eq_true rfl) (by decide) (c_X12_isWay (by assumption)) ?_
      refine e_if_eq (q := 28) (tgt := 39) dX12_cakeFor_25 rfl (by decide) (fun c25 => ?_) (fun c25 => ?_)
      · refine e_iconst (q := 40) dX12_cakeFor_39 rfl ?_
        exact r_i dX12_cakeFor_40 rfl (Or.inl ⟨by omega, rfl, rfl⟩)
      · refine e_aload_n (q := 29) (i := 0) dX12_cakeFor_28 rfl rfl rfl ?_
        refine e_iload (q := 31) dX12_cakeFor_29 rfl rfl ?_
        refine e_iload (q := 33) dX12_cakeFor_31 rfl rfl ?_
        refine e_Vip (q := 36) (vs := [_, _]) ok_X12_isCell ml_X12_412 dX12_cakeFor_33 rfl ⟨_, _, rfl⟩ (by first | assumption | rfl) rfl rfl (Nat.le_of_ble_eq_true rfl) (by decide) (c_X12_isCell hT hr hl) ?_
        refine e_if_ne (q := 39) (tgt := 41) dX12_cakeFor_36 rfl (by decide) (fun c36 => ?_) (fun c36 => ?_)
        · refine e_aload_n (q := 42) (i := 0) dX12_cakeFor_41 rfl rfl rfl ?_
          refine e_iconst (q := 43) dX12_cakeFor_42 rfl ?_
          refine e_iconst (q := 44) dX12_cakeFor_43 rfl ?_
          refine e_Vip (q := 47) (vs := [_, _]) ok_X12_isWet ml_X12_384 dX12_cakeFor_44 rfl ⟨_, _, rfl⟩ (by first | assumption | rfl) rfl rfl (Nat.le_of_ble_eq_true rfl) (by decide) (c_X12_isWet0 hT hx44) ?_
          refine e_istore (q := 49) (L' := [_, _, _, _, _, _, _, _]) dX12_cakeFor_47 rfl (by decide) rfl rfl ?_
          refine e_aload_n (q := 50) (i := 0) dX12_cakeFor_49 rfl rfl rfl ?_
          refine e_iconst (q := 51) dX12_cakeFor_50 rfl ?_
          refine e_iconst (q := 52) dX12_cakeFor_51 rfl ?_
          refine e_Vv (q := 55) (vs := [_, _]) ok_X12_copies ml_X12_431 dX12_cakeFor_52 rfl ⟨_, _, rfl⟩ (by first | assumption | rfl) rfl rfl (Nat.le_of_ble_eq_true rfl) (by decide) (c_X12_copies (by decide) (by decide) (by decide) (by decide) (by decide)) (fun s52 h52 => ?_)
          refine e_iconst (q := 56) dX12_cakeFor_55 rfl ?_
          refine e_istore (q := 58) (L' := [_, _, _, _, _, _, _, _]) dX12_cakeFor_56 rfl (by decide) rfl rfl ?_
          exact lp 10 s52 0 (by omega) (by decide) (by decide) ⟨h52.1.mono (by decide) (by simp), fun u hu => h52.2.1.ld hu⟩ (fun j a b _ => (h52.2.2.1 j a b).1) (hI.ld h52.ld) (fun k a b => absurd b (by omega))
        · refine e_iconst (q := 40) dX12_cakeFor_39 rfl ?_
          exact r_i dX12_cakeFor_40 rfl (Or.inl ⟨by omega, rfl, rfl⟩)

def mCh (σ : Sg) (m p ar : Int) : Nat → Int × Int → Int × Int
  | 0, s => s
  | k + 1, s => ((mCh σ m p ar k s).1 + (if ar ≤ gArea (σ.1 86) (σ.1 87) (mRn σ (mK σ 0) (-1) 0 1 m.toNat (ydm σ 0, (mCh σ m p ar k s).2)).1.1 p then 1 else 0), (mRn σ (mK σ 0) (-1) 0 1 m.toNat (ydm σ 0, (mCh σ m p ar k s).2)).2)
theorem mCh_s (σ : Sg) (m p ar : Int) {k : Int} (h : 0 ≤ k) (s : Int × Int) : mCh σ m p ar (k + 1).toNat s = ((mCh σ m p ar k.toNat s).1 + (if ar ≤ gArea (σ.1 86) (σ.1 87) (mRn σ (mK σ 0) (-1) 0 1 m.toNat (ydm σ 0, (mCh σ m p ar k.toNat s).2)).1.1 p then 1 else 0), (mRn σ (mK σ 0) (-1) 0 1 m.toNat (ydm σ 0, (mCh σ m p ar k.toNat s).2)).2) := by
  obtain ⟨m, rfl⟩ := Int.eq_ofNat_of_zero_le h
  rfl

theorem mArea_in {σ : Sg} {s p : Int} (hT : MT σ) (hI : MI σ s) (h0 : 0 ≤ p) (h4 : p < 4) : 1 ≤ gArea (σ.1 86) (σ.1 87) (mF σ s) p ∧ gArea (σ.1 86) (σ.1 87) (mF σ s) p ≤ 40000 := by
  obtain ⟨-, -, -, -, -, -, h3, -⟩ := hT
  have a := h3 p h0 h4
  have b0 := hI.1 (4 * p) (by omega) (by omega)
  have b1 := hI.1 (4 * p + 1) (by omega) (by omega)
  have b2 := hI.1 (4 * p + 2) (by omega) (by omega)
  have b3 := hI.1 (4 * p + 3) (by omega) (by omega)
  unfold gArea gTop gBot gLft gRgt
  have h3 := Int.mul_le_mul (show σ.1 86 p + mF σ s (4 * p + 2) - (σ.1 86 p - mF σ s (4 * p)) + 1 ≤ 200 by omega) (show σ.1 87 p + mF σ s (4 * p + 1) - (σ.1 87 p - mF σ s (4 * p + 3)) + 1 ≤ 200 by omega) (by omega) (by decide)
  have h5 := Int.mul_pos (show 0 < σ.1 86 p + mF σ s (4 * p + 2) - (σ.1 86 p - mF σ s (4 * p)) + 1 by omega) (show 0 < σ.1 87 p + mF σ s (4 * p + 1) - (σ.1 87 p - mF σ s (4 * p + 3)) + 1 by omega)
  omega

set_option maxHeartbeats 8000000 in
theorem c_X12_chance {G : Gx} {σ0 σ : Sg} {x m p a : Int} (hσ : σ = sI σ0 82 0 0) (hT : MT σ) (hB : MB σ) (hW : MW σ) (hI : MI σ 0) (hY : σ.1 102 0 ≤ 9800) (hx44 : σ.1 82 44 = 0) (hx45 : σ.1 82 45 = -1) (hx : R32 x) (hm : R32 m) (hp : R32 p) (ha : R32 a) : Con G 9 mX12_chance [.ref (G.2.2.2 + 82), .int (iZ x), .int (iZ m), .int (iZ p), .int (iZ a)] σ0 (pI (fun z σ' => (¬ (0 ≤ x ∧ 1 ≤ m ∧ m ≤ 99 ∧ (0 ≤ p ∧ p < σ.1 84 1) ∧ 0 ≤ a ∧ a ≤ 9999) ∧ z = -1 ∧ σ' = σ) ∨ ((0 ≤ x ∧ 1 ≤ m ∧ m ≤ 99 ∧ (0 ≤ p ∧ p < σ.1 84 1) ∧ 0 ≤ a ∧ a ≤ 9999) ∧ z = (mCh σ m p a 10 (0, x)).1 ∧ Qm σ σ'))) := by
  obtain ⟨hzz, hnp, hnc, hnb, hrn, hsd, hrw, hrq, hch, hbt, hck⟩ := id hT
  have hye := hI.2.2.2.1
  have lp : ∀ (n : Nat) (τ : Sg) (x8 : Option Value) (la v i : Int), (0 ≤ x ∧ 1 ≤ m ∧ m ≤ 99 ∧ (0 ≤ p ∧ p < σ.1 84 1) ∧ 0 ≤ a ∧ a ≤ 9999) → 0 ≤ i → i + n = 10 → Qr σ τ → (v, la) = mCh σ m p a i.toNat (0, x) → (0 ≤ la ∧ la ≤ 2147483647) → J G 9 mX12_chance (pI (fun z σ' => (¬ (0 ≤ x ∧ 1 ≤ m ∧ m ≤ 99 ∧ (0 ≤ p ∧ p < σ.1 84 1) ∧ 0 ≤ a ∧ a ≤ 9999) ∧ z = -1 ∧ σ' = σ) ∨ ((0 ≤ x ∧ 1 ≤ m ∧ m ≤ 99 ∧ (0 ≤ p ∧ p < σ.1 84 1) ∧ 0 ≤ a ∧ a ≤ 9999) ∧ z = (mCh σ m p a 10 (0, x)).1 ∧ Qm σ σ'))) τ 52 [some (.ref (G.2.2.2 + 82)), some (.int (iZ x)), some (.int (iZ m)), some (.int (iZ p)), some (.int (iZ a)), some (.int (iZ la)), some (.int (iZ v)), some (.int (iZ i)), x8] [] := by
    intro n
    induction n with
    | zero =>
      intro τ x8 la v i hK h0 hn hq hv hla
      refine e_iload (q := 54) dX12_chance_52 rfl rfl ?_
      refine e_bipush (q := 56) dX12_chance_54 rfl (by decide) ?_
      refine e_icmp_ge (q := 59) (tgt := 129) dX12_chance_56 rfl (by decide) (fun c56 => ?_) (fun c56 => absurd (by omega) c56)
      refine e_iload (q := 131) dX12_chance_129 rfl rfl ?_
      exact r_i dX12_chance_131 rfl (Or.inr ⟨hK, by rw [← show i.toNat = 10 by omega, ← hv], hq.qm⟩)
    | succ n ih =>
      intro τ x8 la v i hK h0 hn hq hv hla
      refine e_iload (q := 54) dX12_chance_52 rfl rfl ?_
      refine e_bipush (q := 56) dX12_chance_54 rfl (by decide) ?_
      refine e_icmp_ge (q := 59) (tgt := 129) dX12_chance_56 rfl (by decide) (fun c56 => absurd c56 (by omega)) (fun c56 => ?_)
      refine e_aload_n (q := 60) (i := 0) dX12_chance_59 rfl rfl rfl ?_
      refine e_iconst (q := 61) dX12_chance_60 rfl ?_
      refine e_iconst (q := 62) dX12_chance_61 rfl ?_
      refine e_Vv (q := 65) (vs := [_, _]) ok_X12_copies ml_X12_431 dX12_chance_62 rfl ⟨_, _, rfl⟩ (by first | assumption | rfl) rfl rfl (Nat.le_of_ble_eq_true rfl) (by decide) (c_X12_copies (by decide) (by decide) (by decide) (by decide) (by decide)) (fun s62 h62 => ?_)
      refine e_aload_n (q := 66) (i := 0) dX12_chance_65 rfl rfl rfl ?_
      refine e_getR (q := 69) dX12_chance_66 rfl fg_X12_75 (by first | assumption | rfl) rfl ?_
      refine e_iconst (q := 70) dX12_chance_69 rfl ?_
      refine e_iload (q := 72) dX12_chance_70 rfl rfl ?_
      refine e_iast (q := 73) dX12_chance_72 rfl (by first | assumption | rfl) ?_
      refine e_iconst (q := 74) dX12_chance_73 rfl ?_
      refine e_istore (q := 76) (L' := [_, _, _, _, _, _, _, _, _]) dX12_chance_74 rfl (by decide) rfl rfl ?_
      have lq : ∀ (k : Nat) (υ : Sg) (j : Int), 0 ≤ j → j + k = m → MR σ (mK σ 0) (-1) 0 1 1 (ydm σ 0) la j.toNat υ → υ.1 82 44 = σ.1 82 44 → υ.1 82 45 = σ.1 82 45 → J G 9 mX12_chance (pI (fun z σ' => (¬ (0 ≤ x ∧ 1 ≤ m ∧ m ≤ 99 ∧ (0 ≤ p ∧ p < σ.1 84 1) ∧ 0 ≤ a ∧ a ≤ 9999) ∧ z = -1 ∧ σ' = σ) ∨ ((0 ≤ x ∧ 1 ≤ m ∧ m ≤ 99 ∧ (0 ≤ p ∧ p < σ.1 84 1) ∧ 0 ≤ a ∧ a ≤ 9999) ∧ z = (mCh σ m p a 10 (0, x)).1 ∧ Qm σ σ'))) υ 76 [some (.ref (G.2.2.2 + 82)), some (.int (iZ x)), some (.int (iZ m)), some (.int (iZ p)), some (.int (iZ a)), some (.int (iZ la)), some (.int (iZ v)), some (.int (iZ i)), some (.int (iZ j))] [] := by
        intro k
        induction k with
        | zero =>
          intro υ j h3 h4 hr g44 g45
          obtain ⟨rF, rld, -, -, ry, rn, rI, rY, m44, m45⟩ := id hr
          have e86 : υ.1 86 = σ.1 86 := hr.c (by decide) (by decide)
          have e87 : υ.1 87 = σ.1 87 := hr.c (by decide) (by decide)
          refine e_iload (q := 78) dX12_chance_76 rfl rfl ?_
          refine e_iload_n (q := 79) (i := 2) dX12_chance_78 rfl rfl rfl ?_
          refine e_icmp_ge (q := 82) (tgt := 94) dX12_chance_79 rfl (by decide) (fun c79 => ?_) (fun c79 => absurd (by omega) c79)
          refine e_aload_n (q := 95) (i := 0) dX12_chance_94 rfl rfl rfl ?_
          refine e_getR (q := 98) dX12_chance_95 rfl fg_X12_75 (by first | assumption | rfl) rfl ?_
          refine e_iconst (q := 99) dX12_chance_98 rfl ?_
          refine e_iald (q := 100) dX12_chance_99 rfl (by first | assumption | rfl) ?_
          have hdr := rI.2.2.2.2
          have ej : j = m := by omega
          have har : gArea (υ.1 86) (υ.1 87) (mF υ 1) p = gArea (σ.1 86) (σ.1 87) (mRn σ (mK σ 0) (-1) 0 1 m.toNat (ydm σ 0, la)).1.1 p := by rw [e86, e87, ← ej]; exact gArea_c ⟨rfl, rfl⟩ (fun q a b => ry.1 q (by omega) (by omega))
          have hab : 1 ≤ gArea (υ.1 86) (υ.1 87) (mF υ 1) p ∧ gArea (υ.1 86) (υ.1 87) (mF υ 1) p ≤ 40000 := mArea_in (hr.mt hT) rI (by omega) (by omega)
          refine e_istore (q := 102) (L' := [_, _, _, _, _, _, _, _, _]) dX12_chance_100 rfl (by decide) rfl rfl ?_
          refine e_iload (q := 104) dX12_chance_102 rfl rfl ?_
          refine e_aload_n (q := 105) (i := 0) dX12_chance_104 rfl rfl rfl ?_
          refine e_iconst (q := 106) dX12_chance_105 rfl ?_
          refine e_iload_n (q := 107) (i := 3) dX12_chance_106 rfl rfl rfl ?_
          refine e_Vip (q := 110) (vs := [_, _]) ok_X12_areaOf ml_X12_339 dX12_chance_107 rfl ⟨_, _, rfl⟩ (by first | assumption | rfl) rfl rfl (Nat.le_of_ble_eq_true rfl) (by decide) (c_X12_areaOf (by decide) (by decide) (by omega) (by omega)) ?_
          refine e_iload (q := 112) dX12_chance_110 rfl rfl ?_
          refine e_icmp_lt (q := 115) (tgt := 119) dX12_chance_112 rfl (by decide) (fun c112 => ?_) (fun c112 => ?_) (hx := ⟨by omega, by omega⟩) (hy := ⟨by omega, by omega⟩)
          · refine e_iconst (q := 120) dX12_chance_119 rfl ?_
            refine e_iadd (q := 121) dX12_chance_120 rfl ?_
            refine e_istore (q := 123) (L' := [_, _, _, _, _, _, _, _, _]) dX12_chance_121 rfl (by decide) rfl rfl ?_
            refine e_iinc (q := 126) (L' := [_, _, _, _, _, _, _, _, _]) dX12_chance_123 rfl rfl (by decide) rfl rfl ?_
            refine e_goto (tgt := 52) dX12_chance_126 (by decide) ?_
            rw [ej] at rn
            have hqr : Qr σ υ := ⟨⟨rF.1, fun q hq => by
              by_cases e : q = 44
              · rw [e]; exact g44
              by_cases e2 : q = 45
              · rw [e2]; exact g45
              exact rF.2 q (fun w => by simp only [List.mem_cons, List.not_mem_nil, or_false] at w hq; omega)⟩, rld⟩
            refine ih _ _ _ _ _ hK (by omega) (by omega) hqr ?_ ⟨by omega, by omega⟩
            rw [mCh_s _ _ _ _ h0, ← hv]
            dsimp only
            rw [← har, ← rn]
            first | (rw [if_pos (by omega)]; done) | (rw [if_neg (by omega), Int.add_zero]; done)
          · refine e_iconst (q := 116) dX12_chance_115 rfl ?_
            refine e_goto (tgt := 120) dX12_chance_116 (by decide) ?_
            refine e_iadd (q := 121) dX12_chance_120 rfl ?_
            refine e_istore (q := 123) (L' := [_, _, _, _, _, _, _, _, _]) dX12_chance_121 rfl (by decide) rfl rfl ?_
            refine e_iinc (q := 126) (L' := [_, _, _, _, _, _, _, _, _]) dX12_chance_123 rfl rfl (by decide) rfl rfl ?_
            refine e_goto (tgt := 52) dX12_chance_126 (by decide) ?_
            rw [ej] at rn
            have hqr : Qr σ υ := ⟨⟨rF.1, fun q hq => by
              by_cases e : q = 44
              · rw [e]; exact g44
              by_cases e2 : q = 45
              · rw [e2]; exact g45
              exact rF.2 q (fun w => by simp only [List.mem_cons, List.not_mem_nil, or_false] at w hq; omega)⟩, rld⟩
            refine ih _ _ _ _ _ hK (by omega) (by omega) hqr ?_ ⟨by omega, by omega⟩
            rw [mCh_s _ _ _ _ h0, ← hv]
            dsimp only
            rw [← har, ← rn]
            first | (rw [if_pos (by omega)]; done) | (rw [if_neg (by omega), Int.add_zero]; done)
        | succ k ih2 =>
          intro υ j h3 h4 hr g44 g45
          obtain ⟨rF, rld, -, -, ry, rn, rI, rY, m44, m45⟩ := id hr
          have e86 : υ.1 86 = σ.1 86 := hr.c (by decide) (by decide)
          have e87 : υ.1 87 = σ.1 87 := hr.c (by decide) (by decide)
          refine e_iload (q := 78) dX12_chance_76 rfl rfl ?_
          refine e_iload_n (q := 79) (i := 2) dX12_chance_78 rfl rfl rfl ?_
          refine e_icmp_ge (q := 82) (tgt := 94) dX12_chance_79 rfl (by decide) (fun c79 => absurd c79 (by omega)) (fun c79 => ?_)
          refine e_aload_n (q := 83) (i := 0) dX12_chance_82 rfl rfl rfl ?_
          refine e_iconst (q := 84) dX12_chance_83 rfl ?_
          refine e_iconst (q := 85) dX12_chance_84 rfl ?_
          refine e_Vv (q := 88) (vs := [_, _]) ok_X12_passes ml_X12_392 dX12_chance_85 rfl ⟨_, _, rfl⟩ (by first | assumption | rfl) rfl rfl (Nat.le_of_ble_eq_true rfl) (by decide) (c_X12_passes (hr.mt hT) (hr.mw hW) rI (hr.mb hB) (by decide) (by decide) m44 m45 (Or.inr rfl) (by rw [rY]; show σ.1 102 0 + _ < _; omega)) (fun s85 h85 => ?_)
          refine e_iinc (q := 91) (L' := [_, _, _, _, _, _, _, _, _]) dX12_chance_88 rfl rfl (by decide) rfl rfl ?_
          refine e_goto (tgt := 76) dX12_chance_91 (by decide) ?_
          refine ih2 _ _ (by omega) (by omega) ?_ (by rw [h85.f (by decide)]; exact g44) (by rw [h85.f (by decide)]; exact g45)
          rw [show (j + 1).toNat = j.toNat + 1 by omega]
          exact MR_step hT hB hr h85
      exact lq m.toNat _ 0 (by decide) (by omega) (MR_n (w := 1) (MR_01 hT hI hx44 (by rw [hx45]; exact ⟨by decide, by decide⟩) hq h62 1) hla) (by rw [sI_ne _ (by decide), h62.1.2 44 (by simp)]; exact hq.f (by decide)) (by rw [sI_ne _ (by decide), h62.1.2 45 (by simp)]; exact hq.f (by decide))
  refine e_entry om_X12_chance (Nat.le_of_ble_eq_true rfl) (L := [some (.ref (G.2.2.2 + 82)), some (.int (iZ x)), some (.int (iZ m)), some (.int (iZ p)), some (.int (iZ a)), none, none, none, none]) rfl ?_
  refine e_aload_n (q := 1) (i := 0) dX12_chance_0 rfl rfl rfl ?_
  refine e_iconst (q := 2) dX12_chance_1 rfl ?_
  refine e_putI (q := 5) (jz := 0) dX12_chance_2 rfl fp_X12_136 rfl (by first | assumption | rfl) rfl ?_
  rw [← hσ]
  refine e_iload_n (q := 6) (i := 1) dX12_chance_5 rfl rfl rfl ?_
  refine e_if_lt (q := 9) (tgt := 41) dX12_chance_6 rfl (by decide) (fun c6 => ?_) (fun c6 => ?_)
  · refine e_iconst (q := 42) dX12_chance_41 rfl ?_
    exact r_i dX12_chance_42 rfl (Or.inl ⟨by omega, rfl, rfl⟩)
  · refine e_iload_n (q := 10) (i := 2) dX12_chance_9 rfl rfl rfl ?_
    refine e_iconst (q := 11) dX12_chance_10 rfl ?_
    refine e_icmp_lt (q := 14) (tgt := 41) dX12_chance_11 rfl (by decide) (fun c11 => ?_) (fun c11 => ?_)
    · refine e_iconst (q := 42) dX12_chance_41 rfl ?_
      exact r_i dX12_chance_42 rfl (Or.inl ⟨by omega, rfl, rfl⟩)
    · refine e_iload_n (q := 15) (i := 2) dX12_chance_14 rfl rfl rfl ?_
      refine e_bipush (q := 17) dX12_chance_15 rfl (by decide) ?_
      refine e_icmp_gt (q := 20) (tgt := 41) dX12_chance_17 rfl (by decide) (fun c17 => ?_) (fun c17 => ?_)
      · refine e_iconst (q := 42) dX12_chance_41 rfl ?_
        exact r_i dX12_chance_42 rfl (Or.inl ⟨by omega, rfl, rfl⟩)
      · refine e_aload_n (q := 21) (i := 0) dX12_chance_20 rfl rfl rfl ?_
        refine e_iload_n (q := 22) (i := 3) dX12_chance_21 rfl rfl rfl ?_
        refine e_Vip (q := 25) (vs := [_]) ok_X12_isParish ml_X12_396 dX12_chance_22 rfl ⟨_, _, rfl⟩ (by first | assumption | rfl) rfl rfl (Nat.le_of_ble_eq_true rfl) (by decide) (c_X12_isParish hT (by assumption)) ?_
        refine e_if_eq (q := 28) (tgt := 41) dX12_chance_25 rfl (by decide) (fun c25 => ?_) (fun c25 => ?_)
        · refine e_iconst (q := 42) dX12_chance_41 rfl ?_
          exact r_i dX12_chance_42 rfl (Or.inl ⟨by omega, rfl, rfl⟩)
        · refine e_iload (q := 30) dX12_chance_28 rfl rfl ?_
          refine e_if_lt (q := 33) (tgt := 41) dX12_chance_30 rfl (by decide) (fun c30 => ?_) (fun c30 => ?_)
          · refine e_iconst (q := 42) dX12_chance_41 rfl ?_
            exact r_i dX12_chance_42 rfl (Or.inl ⟨by omega, rfl, rfl⟩)
          · refine e_iload (q := 35) dX12_chance_33 rfl rfl ?_
            refine e_sipush (q := 38) dX12_chance_35 rfl (by decide) ?_
            refine e_icmp_le (q := 41) (tgt := 43) dX12_chance_38 rfl (by decide) (fun c38 => ?_) (fun c38 => ?_)
            · refine e_iload_n (q := 44) (i := 1) dX12_chance_43 rfl rfl rfl ?_
              refine e_istore (q := 46) (L' := [_, _, _, _, _, _, _, _, _]) dX12_chance_44 rfl (by decide) rfl rfl ?_
              refine e_iconst (q := 47) dX12_chance_46 rfl ?_
              refine e_istore (q := 49) (L' := [_, _, _, _, _, _, _, _, _]) dX12_chance_47 rfl (by decide) rfl rfl ?_
              refine e_iconst (q := 50) dX12_chance_49 rfl ?_
              refine e_istore (q := 52) (L' := [_, _, _, _, _, _, _, _, _]) dX12_chance_50 rfl (by decide) rfl rfl ?_
              exact lp 10 σ _ x 0 0 (by omega) (by decide) (by decide) ⟨Fm.rf _ _ _, fun _ _ => rfl⟩ rfl ⟨by omega, by omega⟩
            · refine e_iconst (q := 42) dX12_chance_41 rfl ?_
              exact r_i dX12_chance_42 rfl (Or.inl ⟨by omega, rfl, rfl⟩)

def mTr (σ : Sg) (x i m : Int) : Yd × Int := mRn σ (if x = 3 then (fun _ => 0) else mK σ 0) (if x = 2 then i else -1) (if x = 4 then 1 else 0) (if x = 0 then 2 else if x = 1 then 3 else 0) m.toNat ((mF σ 0, mL σ 0, (if x = 4 then (fun _ => 0) else mD σ 0), σ.1 104 0, σ.1 102 0), σ.1 103 0)
theorem MR_try {σ τ : Sg} {y : Yd} {n x i : Int} (h44 : τ.1 82 44 = 0) (h : MR σ (mK σ 0) (-1) 0 0 0 y n 0 τ) (hx0 : 0 ≤ x) (hx4 : x ≤ 4) (hi : R32 i) : MR σ (if x = 3 then (fun _ => 0) else mK σ 0) (if x = 2 then i else -1) (if x = 4 then 1 else 0) (if x = 0 then 2 else if x = 1 then 3 else 0) 0 y n 0 (sI (sI τ 82 44 (if x = 0 then 5 else x)) 82 45 i) := by
  obtain ⟨hF, hld, -, hck, hy, hn, hI, hY, -, -⟩ := h
  have g44 : (sI (sI τ 82 44 (if x = 0 then 5 else x)) 82 45 i).1 82 44 = if x = 0 then 5 else x := by rw [sI_1, if_neg (by decide), sI_1, if_pos ⟨rfl, rfl⟩]
  have g45 : (sI (sI τ 82 44 (if x = 0 then 5 else x)) 82 45 i).1 82 45 = i := by rw [sI_1, if_pos ⟨rfl, rfl⟩]
  have gl : ∀ u, ldm (sI (sI τ 82 44 (if x = 0 then 5 else x)) 82 45 i) u = ldm τ u := fun u => by rw [ldm_82, ldm_82]
  have q := ldm_out (gl 1)
  have gy : ydm (sI (sI τ 82 44 (if x = 0 then 5 else x)) 82 45 i) 1 = ydm τ 1 := by
    unfold ydm
    rw [mF_ne _ _ (by decide), mF_ne _ _ (by decide), mL_ne _ _ (by decide), mL_ne _ _ (by decide), mD_ne _ _ (by decide), mD_ne _ _ (by decide)]
    rw [sI_ne (a := 104) _ (by decide), sI_ne (a := 104) _ (by decide), sI_ne (a := 102) _ (by decide), sI_ne (a := 102) _ (by decide)]
  have hx5 : x = 0 ∨ x = 1 ∨ x = 2 ∨ x = 3 ∨ x = 4 := by omega
  refine ⟨(hF.s82 (by decide) _).s82 (by decide) _, fun u hu => (gl u).trans (hld u hu), ⟨?_, ?_, ?_⟩, fun s a b => ?_, ?_, ?_, hI.ld (gl 1), ?_, ?_, ?_⟩
  · unfold mUn; rw [g44, g45]; rcases hx5 with rfl | rfl | rfl | rfl | rfl <;> rfl
  · unfold mTl; rw [g44]; rcases hx5 with rfl | rfl | rfl | rfl | rfl <;> rfl
  · unfold mWt; rw [g44]; rcases hx5 with rfl | rfl | rfl | rfl | rfl <;> rfl
  · have e : mK τ 1 s = mK σ 0 s := by rw [← hck s a b]; unfold mCk; rw [h44, if_neg (by decide)]
    unfold mCk
    rw [g44, mK_ne _ _ (by decide), mK_ne _ _ (by decide), e]
    rcases hx5 with rfl | rfl | rfl | rfl | rfl <;> rfl
  · rw [gy]; exact hy
  · rw [q.2.2.2.2]; exact hn
  · rw [q.2.2.2.1]; exact hY
  · rw [g44]; split <;> exact ⟨by omega, by omega⟩
  · rw [g45]; exact hi
theorem MR_z {σ τ : Sg} {y : Yd} {n w b : Int} (hT : MT σ) (h : MR σ (mK σ 0) (-1) 0 w b y n 0 τ) {j : Int} (h0 : 0 ≤ j) (h6 : j < 6) (hz : ∀ c, 0 ≤ c → c < j → y.2.2.1 c = 0) : MR σ (mK σ 0) (-1) 0 w b (y.1, y.2.1, uf y.2.2.1 j 0, y.2.2.2) n 0 (sI τ 108 (6 * 1 + j) 0) := by
  obtain ⟨hF, hld, ⟨hun, htl, hwt⟩, hck, hy, hn, hI, hY, h44, h45⟩ := h
  have hmp := (Mp.rf hI).tired (t := j) (V := 0) h0 h6 ⟨by decide, by decide⟩
  have g44 : (sI τ 108 (6 * 1 + j) 0).1 82 44 = τ.1 82 44 := by rw [sI_ne _ (by decide)]
  have g45 : (sI τ 108 (6 * 1 + j) 0).1 82 45 = τ.1 82 45 := by rw [sI_ne _ (by decide)]
  refine ⟨hF.si (by decide) (by decide) _ _, fun u hu => (hmp.2.2.1.ld hu).trans (hld u hu), ⟨?_, ?_, ?_⟩, fun s p q => ?_, ?_, ?_, hmp.2.2.2.1, ?_, by rw [g44]; exact h44, by rw [g45]; exact h45⟩
  · refine Eq.trans ?_ hun; unfold mUn; rw [g44, g45]
  · refine Eq.trans ?_ htl; unfold mTl; rw [g44]
  · refine Eq.trans ?_ hwt; unfold mWt; rw [g44]
  · rw [← hck s p q]; unfold mCk; rw [g44, mK_ne _ _ (by decide)]
  · rw [hmp.2.1]
    refine ⟨hy.1, fun c a b => ⟨(hy.2.1 c a b).1, ?_⟩, hy.2.2.1, hy.2.2.2⟩
    exact uf_eq (hy.2.1 c a b).2 rfl
  · rw [sI_ne (a := 103) _ (by decide)]; exact hn
  · rw [sI_ne (a := 102) _ (by decide)]; exact hY

set_option maxHeartbeats 8000000 in
theorem c_X12_tried {G : Gx} {σ0 σ : Sg} {x i m : Int} (hσ : σ = sI σ0 82 0 0) (hT : MT σ) (hB : MB σ) (hW : MW σ) (hI : MI σ 0) (hY : σ.1 102 0 ≤ 9800) (hx44 : σ.1 82 44 = 0) (hx45 : σ.1 82 45 = -1) (hx : R32 x) (hi : R32 i) (hm : R32 m) : Con G 9 mX12_tried [.ref (G.2.2.2 + 82), .int (iZ x), .int (iZ i), .int (iZ m)] σ0 (pI (fun z σ' => (¬ (0 ≤ x ∧ x ≤ 4 ∧ 0 ≤ m ∧ m ≤ 200 ∧ ((x = 2 ∧ (0 ≤ i ∧ i < σ.1 84 2)) ∨ (x ≠ 2 ∧ i = 0))) ∧ z = -1 ∧ σ' = σ) ∨ ((0 ≤ x ∧ x ≤ 4 ∧ 0 ≤ m ∧ m ≤ 200 ∧ ((x = 2 ∧ (0 ≤ i ∧ i < σ.1 84 2)) ∨ (x ≠ 2 ∧ i = 0))) ∧ z = arAll (σ.1 86) (σ.1 87) (mTr σ x i m).1.1 (σ.1 84 1) ∧ Qm σ σ'))) := by
  obtain ⟨hzz, hnp, hnc, hnb, hrn, hsd, hrw, hrq, hch, hbt, hck⟩ := id hT
  have hye := hI.2.2.2.1
  have tail : ∀ (τ : Sg) (ti : Int → Int) (x4 x5 : Option Value), (0 ≤ x ∧ x ≤ 4 ∧ 0 ≤ m ∧ m ≤ 200 ∧ ((x = 2 ∧ (0 ≤ i ∧ i < σ.1 84 2)) ∨ (x ≠ 2 ∧ i = 0))) → MR σ (mK σ 0) (-1) 0 0 0 (mF σ 0, mL σ 0, ti, σ.1 104 0, σ.1 102 0) (σ.1 103 0) 0 τ → τ.1 82 44 = 0 → (if x = 4 then (fun _ => 0) else mD σ 0) = ti → J G 9 mX12_tried (pI (fun z σ' => (¬ (0 ≤ x ∧ x ≤ 4 ∧ 0 ≤ m ∧ m ≤ 200 ∧ ((x = 2 ∧ (0 ≤ i ∧ i < σ.1 84 2)) ∨ (x ≠ 2 ∧ i = 0))) ∧ z = -1 ∧ σ' = σ) ∨ ((0 ≤ x ∧ x ≤ 4 ∧ 0 ≤ m ∧ m ≤ 200 ∧ ((x = 2 ∧ (0 ≤ i ∧ i < σ.1 84 2)) ∨ (x ≠ 2 ∧ i = 0))) ∧ z = arAll (σ.1 86) (σ.1 87) (mTr σ x i m).1.1 (σ.1 84 1) ∧ Qm σ σ'))) τ 94 [some (.ref (G.2.2.2 + 82)), some (.int (iZ x)), some (.int (iZ i)), some (.int (iZ m)), x4, x5] [] := by
    intro τ ti x4 x5 hK hr h44 hti
    refine e_aload_n (q := 95) (i := 0) dX12_tried_94 rfl rfl rfl ?_
    refine e_iload_n (q := 96) (i := 1) dX12_tried_95 rfl rfl rfl ?_
    refine e_if_ne (q := 99) (tgt := 103) dX12_tried_96 rfl (by decide) (fun c96 => ?_) (fun c96 => ?_)
    · refine e_iload_n (q := 104) (i := 1) dX12_tried_103 rfl rfl rfl ?_
      refine e_putI (q := 107) (jz := 44) dX12_tried_104 rfl fp_X12_370 rfl (by first | assumption | rfl) rfl ?_
      refine e_aload_n (q := 108) (i := 0) dX12_tried_107 rfl rfl rfl ?_
      refine e_iload_n (q := 109) (i := 2) dX12_tried_108 rfl rfl rfl ?_
      refine e_putI (q := 112) (jz := 45) dX12_tried_109 rfl fp_X12_93 rfl (by first | assumption | rfl) rfl ?_
      have hr1 : MR σ (if x = 3 then (fun _ => 0) else mK σ 0) (if x = 2 then i else -1) (if x = 4 then 1 else 0) (if x = 0 then 2 else if x = 1 then 3 else 0) 0 (mF σ 0, mL σ 0, ti, σ.1 104 0, σ.1 102 0) (σ.1 103 0) 0 (sI (sI τ 82 44 x) 82 45 i) := by
        have hr0 := MR_try (x := x) (i := i) h44 hr hK.1 hK.2.1 hi
        rw [show (if x = 0 then 5 else x) = x from if_neg (by omega)] at hr0
        exact hr0
      refine e_aload_n (q := 113) (i := 0) dX12_tried_112 rfl rfl rfl ?_
      refine e_iload_n (q := 114) (i := 3) dX12_tried_113 rfl rfl rfl ?_
      refine e_Vv (q := 117) (vs := [_]) ok_X12_goesOn ml_X12_437 dX12_tried_114 rfl ⟨_, _, rfl⟩ (by first | assumption | rfl) rfl rfl (Nat.le_of_ble_eq_true rfl) (by decide) (c_X12_goesOnR hT hW hB hr1 (by omega) (by omega) (by show σ.1 102 0 + _ + _ ≤ _; omega)) (fun s114 h114 => ?_)
      refine e_aload_n (q := 118) (i := 0) dX12_tried_117 rfl rfl rfl ?_
      refine e_iconst (q := 119) dX12_tried_118 rfl ?_
      refine e_putI (q := 122) (jz := 44) dX12_tried_119 rfl fp_X12_370 rfl (by first | assumption | rfl) rfl ?_
      refine e_aload_n (q := 123) (i := 0) dX12_tried_122 rfl rfl rfl ?_
      refine e_iconst (q := 124) dX12_tried_123 rfl ?_
      refine e_putI (q := 127) (jz := 45) dX12_tried_124 rfl fp_X12_93 rfl (by first | assumption | rfl) rfl ?_
      obtain ⟨hs, g44, g45⟩ := h114
      rw [show 0 + m.toNat = m.toNat by omega] at hs
      obtain ⟨rF, rld, -, -, ry, rn, rI, rY, m44, m45⟩ := id hs
      have e84 : s114.1 84 = σ.1 84 := hs.c (by decide) (by decide)
      have e86 : s114.1 86 = σ.1 86 := hs.c (by decide) (by decide)
      have e87 : s114.1 87 = σ.1 87 := hs.c (by decide) (by decide)
      have gF : Fm [100, 101, 102, 103, 104, 105, 106, 107, 108] [34, 44, 45] σ (sI (sI s114 82 44 0) 82 45 (-1)) := (rF.s82 (by decide) _).s82 (by decide) _
      have gl : ∀ u, ldm (sI (sI s114 82 44 0) 82 45 (-1)) u = ldm s114 u := fun u => by rw [ldm_82, ldm_82]
      have hq : Qm σ (sI (sI s114 82 44 0) 82 45 (-1)) := by
        refine ⟨⟨gF.1.mono (by decide), fun j hj => ?_⟩, fun u hu => (gl u).trans (rld u hu)⟩
        by_cases e : j = 44
        · rw [e, sI_1, if_neg (by decide), sI_1, if_pos ⟨rfl, rfl⟩, hx44]
        by_cases e2 : j = 45
        · rw [e2, sI_1, if_pos ⟨rfl, rfl⟩, hx45]
        exact gF.2 j (fun w => by simp only [List.mem_cons, List.not_mem_nil, or_false] at w hj; omega)
      refine e_aload_n (q := 128) (i := 0) dX12_tried_127 rfl rfl rfl ?_
      refine e_iconst (q := 129) dX12_tried_128 rfl ?_
      refine e_Vip (q := 132) (vs := [_]) ok_X12_areas ml_X12_508 dX12_tried_129 rfl ⟨_, _, rfl⟩ (by first | assumption | rfl) rfl rfl (Nat.le_of_ble_eq_true rfl) (by decide) (c_X12_areas (hT.fr gF nc_84e) (rI.ld (gl 1)) (by decide) (by decide)) ?_
      exact r_i dX12_tried_132 rfl (Or.inr ⟨hK, by
    rw [show mF (sI (sI s114 82 44 0) 82 45 (-1)) 1 = mF s114 1 from by rw [mF_ne _ _ (by decide), mF_ne _ _ (by decide)], gF.c (nc_84e 84 (by decide) (by decide)), gF.c (nc_84e 86 (by decide) (by decide)), gF.c (nc_84e 87 (by decide) (by decide))]
    unfold mTr
    rw [hti]
    exact arAll_c (f := mF s114 1) (fun j a b => ry.1 j a b), hq⟩)
    · refine e_iconst (q := 100) dX12_tried_99 rfl ?_
      refine e_goto (tgt := 104) dX12_tried_100 (by decide) ?_
      refine e_putI (q := 107) (jz := 44) dX12_tried_104 rfl fp_X12_370 rfl (by first | assumption | rfl) rfl ?_
      refine e_aload_n (q := 108) (i := 0) dX12_tried_107 rfl rfl rfl ?_
      refine e_iload_n (q := 109) (i := 2) dX12_tried_108 rfl rfl rfl ?_
      refine e_putI (q := 112) (jz := 45) dX12_tried_109 rfl fp_X12_93 rfl (by first | assumption | rfl) rfl ?_
      have hr1 : MR σ (if x = 3 then (fun _ => 0) else mK σ 0) (if x = 2 then i else -1) (if x = 4 then 1 else 0) (if x = 0 then 2 else if x = 1 then 3 else 0) 0 (mF σ 0, mL σ 0, ti, σ.1 104 0, σ.1 102 0) (σ.1 103 0) 0 (sI (sI τ 82 44 5) 82 45 i) := by
        have hr0 := MR_try (x := x) (i := i) h44 hr hK.1 hK.2.1 hi
        rw [show (if x = 0 then 5 else x) = 5 from if_pos (by omega)] at hr0
        exact hr0
      refine e_aload_n (q := 113) (i := 0) dX12_tried_112 rfl rfl rfl ?_
      refine e_iload_n (q := 114) (i := 3) dX12_tried_113 rfl rfl rfl ?_
      refine e_Vv (q := 117) (vs := [_]) ok_X12_goesOn ml_X12_437 dX12_tried_114 rfl ⟨_, _, rfl⟩ (by first | assumption | rfl) rfl rfl (Nat.le_of_ble_eq_true rfl) (by decide) (c_X12_goesOnR hT hW hB hr1 (by omega) (by omega) (by show σ.1 102 0 + _ + _ ≤ _; omega)) (fun s114 h114 => ?_)
      refine e_aload_n (q := 118) (i := 0) dX12_tried_117 rfl rfl rfl ?_
      refine e_iconst (q := 119) dX12_tried_118 rfl ?_
      refine e_putI (q := 122) (jz := 44) dX12_tried_119 rfl fp_X12_370 rfl (by first | assumption | rfl) rfl ?_
      refine e_aload_n (q := 123) (i := 0) dX12_tried_122 rfl rfl rfl ?_
      refine e_iconst (q := 124) dX12_tried_123 rfl ?_
      refine e_putI (q := 127) (jz := 45) dX12_tried_124 rfl fp_X12_93 rfl (by first | assumption | rfl) rfl ?_
      obtain ⟨hs, g44, g45⟩ := h114
      rw [show 0 + m.toNat = m.toNat by omega] at hs
      obtain ⟨rF, rld, -, -, ry, rn, rI, rY, m44, m45⟩ := id hs
      have e84 : s114.1 84 = σ.1 84 := hs.c (by decide) (by decide)
      have e86 : s114.1 86 = σ.1 86 := hs.c (by decide) (by decide)
      have e87 : s114.1 87 = σ.1 87 := hs.c (by decide) (by decide)
      have gF : Fm [100, 101, 102, 103, 104, 105, 106, 107, 108] [34, 44, 45] σ (sI (sI s114 82 44 0) 82 45 (-1)) := (rF.s82 (by decide) _).s82 (by decide) _
      have gl : ∀ u, ldm (sI (sI s114 82 44 0) 82 45 (-1)) u = ldm s114 u := fun u => by rw [ldm_82, ldm_82]
      have hq : Qm σ (sI (sI s114 82 44 0) 82 45 (-1)) := by
        refine ⟨⟨gF.1.mono (by decide), fun j hj => ?_⟩, fun u hu => (gl u).trans (rld u hu)⟩
        by_cases e : j = 44
        · rw [e, sI_1, if_neg (by decide), sI_1, if_pos ⟨rfl, rfl⟩, hx44]
        by_cases e2 : j = 45
        · rw [e2, sI_1, if_pos ⟨rfl, rfl⟩, hx45]
        exact gF.2 j (fun w => by simp only [List.mem_cons, List.not_mem_nil, or_false] at w hj; omega)
      refine e_aload_n (q := 128) (i := 0) dX12_tried_127 rfl rfl rfl ?_
      refine e_iconst (q := 129) dX12_tried_128 rfl ?_
      refine e_Vip (q := 132) (vs := [_]) ok_X12_areas ml_X12_508 dX12_tried_129 rfl ⟨_, _, rfl⟩ (by first | assumption | rfl) rfl rfl (Nat.le_of_ble_eq_true rfl) (by decide) (c_X12_areas (hT.fr gF nc_84e) (rI.ld (gl 1)) (by decide) (by decide)) ?_
      exact r_i dX12_tried_132 rfl (Or.inr ⟨hK, by
    rw [show mF (sI (sI s114 82 44 0) 82 45 (-1)) 1 = mF s114 1 from by rw [mF_ne _ _ (by decide), mF_ne _ _ (by decide)], gF.c (nc_84e 84 (by decide) (by decide)), gF.c (nc_84e 86 (by decide) (by decide)), gF.c (nc_84e 87 (by decide) (by decide))]
    unfold mTr
    rw [hti]
    exact arAll_c (f := mF s114 1) (fun j a b => ry.1 j a b), hq⟩)
  have lp : ∀ (n : Nat) (τ : Sg) (ti : Int → Int) (x4 j : Int), (0 ≤ x ∧ x ≤ 4 ∧ 0 ≤ m ∧ m ≤ 200 ∧ ((x = 2 ∧ (0 ≤ i ∧ i < σ.1 84 2)) ∨ (x ≠ 2 ∧ i = 0))) → x = 4 → 0 ≤ j → j + n = 6 → MR σ (mK σ 0) (-1) 0 0 0 (mF σ 0, mL σ 0, ti, σ.1 104 0, σ.1 102 0) (σ.1 103 0) 0 τ → τ.1 82 44 = 0 → (∀ c, 0 ≤ c → c < j → ti c = 0) → J G 9 mX12_tried (pI (fun z σ' => (¬ (0 ≤ x ∧ x ≤ 4 ∧ 0 ≤ m ∧ m ≤ 200 ∧ ((x = 2 ∧ (0 ≤ i ∧ i < σ.1 84 2)) ∨ (x ≠ 2 ∧ i = 0))) ∧ z = -1 ∧ σ' = σ) ∨ ((0 ≤ x ∧ x ≤ 4 ∧ 0 ≤ m ∧ m ≤ 200 ∧ ((x = 2 ∧ (0 ≤ i ∧ i < σ.1 84 2)) ∨ (x ≠ 2 ∧ i = 0))) ∧ z = arAll (σ.1 86) (σ.1 87) (mTr σ x i m).1.1 (σ.1 84 1) ∧ Qm σ σ'))) τ 65 [some (.ref (G.2.2.2 + 82)), some (.int (iZ x)), some (.int (iZ i)), some (.int (iZ m)), some (.int (iZ x4)), some (.int (iZ j))] [] := by
    intro n
    induction n with
    | zero =>
      intro τ ti x4 j hK hx4 h0 hn hr h44 hz
      refine e_iload (q := 67) dX12_tried_65 rfl rfl ?_
      refine e_bipush (q := 69) dX12_tried_67 rfl (by decide) ?_
      refine e_icmp_ge (q := 72) (tgt := 94) dX12_tried_69 rfl (by decide) (fun c69 => ?_) (fun c69 => absurd (by omega) c69)
      refine tail τ (fun _ => 0) _ _ hK ?_ h44 (if_pos hx4)
      obtain ⟨hF, hld, ht, hck, hy, hrest⟩ := hr
      exact ⟨hF, hld, ht, hck, ⟨hy.1, fun c a b => ⟨(hy.2.1 c a b).1, (hy.2.1 c a b).2.trans (hz c a (by omega))⟩, hy.2.2.1, hy.2.2.2⟩, hrest⟩
    | succ n ih =>
      intro τ ti x4 j hK hx4 h0 hn hr h44 hz
      refine e_iload (q := 67) dX12_tried_65 rfl rfl ?_
      refine e_bipush (q := 69) dX12_tried_67 rfl (by decide) ?_
      refine e_icmp_ge (q := 72) (tgt := 94) dX12_tried_69 rfl (by decide) (fun c69 => absurd c69 (by omega)) (fun c69 => ?_)
      refine e_iload_n (q := 73) (i := 1) dX12_tried_72 rfl rfl rfl ?_
      refine e_iconst (q := 74) dX12_tried_73 rfl ?_
      refine e_icmp_ne (q := 77) (tgt := 94) dX12_tried_74 rfl (by decide) (fun c74 => by exfalso; omega) (fun c74 => ?_)
      refine e_aload_n (q := 78) (i := 0) dX12_tried_77 rfl rfl rfl ?_
      refine e_getR (q := 81) dX12_tried_78 rfl fg_X12_90 (by first | assumption | rfl) rfl ?_
      refine e_bipush (q := 83) dX12_tried_81 rfl (by decide) ?_
      refine e_iload (q := 85) dX12_tried_83 rfl rfl ?_
      refine e_iadd (q := 86) dX12_tried_85 rfl ?_
      refine e_iconst (q := 87) dX12_tried_86 rfl ?_
      refine e_iast (q := 88) dX12_tried_87 rfl (by first | assumption | rfl) ?_
      refine e_iinc (q := 91) (L' := [_, _, _, _, _, _]) dX12_tried_88 rfl rfl (by decide) rfl rfl ?_
      refine e_goto (tgt := 65) dX12_tried_91 (by decide) ?_
      have q := MR_z hT hr h0 (by omega) hz
      refine ih _ (uf ti j 0) _ _ hK hx4 (by omega) (by omega) q (by rw [sI_ne _ (by decide)]; exact h44) (fun c a b => ?_)
      unfold uf
      by_cases e : c = j
      · rw [if_pos e]
      · rw [if_neg e]; exact hz c a (by omega)
  refine e_entry om_X12_tried (Nat.le_of_ble_eq_true rfl) (L := [some (.ref (G.2.2.2 + 82)), some (.int (iZ x)), some (.int (iZ i)), some (.int (iZ m)), none, none]) rfl ?_
  refine e_aload_n (q := 1) (i := 0) dX12_tried_0 rfl rfl rfl ?_
  refine e_iconst (q := 2) dX12_tried_1 rfl ?_
  refine e_putI (q := 5) (jz := 0) dX12_tried_2 rfl fp_X12_136 rfl (by first | assumption | rfl) rfl ?_
  rw [← hσ]
  refine e_iload_n (q := 6) (i := 1) dX12_tried_5 rfl rfl rfl ?_
  refine e_iconst (q := 7) dX12_tried_6 rfl ?_
  refine e_icmp_ne (q := 10) (tgt := 18) dX12_tried_7 rfl (by decide) (fun c7 => ?_) (fun c7 => ?_)
  · refine e_iload_n (q := 19) (i := 1) dX12_tried_18 rfl rfl rfl ?_
    refine e_if_lt (q := 22) (tgt := 35) dX12_tried_19 rfl (by decide) (fun c19 => ?_) (fun c19 => ?_)
    · refine e_iconst (q := 36) dX12_tried_35 rfl ?_
      refine e_istore (q := 38) (L' := [_, _, _, _, _, _]) dX12_tried_36 rfl (by decide) rfl rfl ?_
      refine e_iload (q := 40) dX12_tried_38 rfl rfl ?_
      refine e_if_eq (q := 43) (tgt := 54) dX12_tried_40 rfl (by decide) (fun c40 => ?_) (fun c40 => ?_)
      · refine e_iconst (q := 55) dX12_tried_54 rfl ?_
        exact r_i dX12_tried_55 rfl (Or.inl ⟨by omega, rfl, rfl⟩)
      · refine e_iload_n (q := 44) (i := 3) dX12_tried_43 rfl rfl rfl ?_
        refine e_if_lt (q := 47) (tgt := 54) dX12_tried_44 rfl (by decide) (fun c44 => ?_) (fun c44 => ?_)
        · refine e_iconst (q := 55) dX12_tried_54 rfl ?_
          exact r_i dX12_tried_55 rfl (Or.inl ⟨by omega, rfl, rfl⟩)
        · refine e_iload_n (q := 48) (i := 3) dX12_tried_47 rfl rfl rfl ?_
          refine e_sipush (q := 51) dX12_tried_48 rfl (by decide) ?_
          refine e_icmp_le (q := 54) (tgt := 56) dX12_tried_51 rfl (by decide) (fun c51 => ?_) (fun c51 => ?_)
          · refine e_aload_n (q := 57) (i := 0) dX12_tried_56 rfl rfl rfl ?_
            refine e_iconst (q := 58) dX12_tried_57 rfl ?_
            refine e_iconst (q := 59) dX12_tried_58 rfl ?_
            refine e_Vv (q := 62) (vs := [_, _]) ok_X12_copies ml_X12_431 dX12_tried_59 rfl ⟨_, _, rfl⟩ (by first | assumption | rfl) rfl rfl (Nat.le_of_ble_eq_true rfl) (by decide) (c_X12_copies (by decide) (by decide) (by decide) (by decide) (by decide)) (fun s59 h59 => ?_)
            have hK : (0 ≤ x ∧ x ≤ 4 ∧ 0 ≤ m ∧ m ≤ 200 ∧ ((x = 2 ∧ (0 ≤ i ∧ i < σ.1 84 2)) ∨ (x ≠ 2 ∧ i = 0))) := by first | omega | (split at c40 <;> omega)
            have hr0 : MR σ (mK σ 0) (-1) 0 0 0 (mF σ 0, mL σ 0, mD σ 0, σ.1 104 0, σ.1 102 0) (σ.1 103 0) 0 s59 := MR_0 hT hI hx44 (by rw [hx45]; exact ⟨by decide, by decide⟩) h59 0
            have h44 : s59.1 82 44 = 0 := by rw [h59.1.2 44 (by simp)]; exact hx44
            refine e_iconst (q := 63) dX12_tried_62 rfl ?_
            refine e_istore (q := 65) (L' := [_, _, _, _, _, _]) dX12_tried_63 rfl (by decide) rfl rfl ?_
            by_cases hx4 : x = 4
            · exact lp 6 s59 (mD σ 0) _ 0 hK hx4 (by decide) (by decide) hr0 h44 (fun c a b => absurd b (by omega))
            refine e_iload (q := 67) dX12_tried_65 rfl rfl ?_
            refine e_bipush (q := 69) dX12_tried_67 rfl (by decide) ?_
            refine e_icmp_ge (q := 72) (tgt := 94) dX12_tried_69 rfl (by decide) (fun c69 => by exfalso; omega) (fun c69 => ?_)
            refine e_iload_n (q := 73) (i := 1) dX12_tried_72 rfl rfl rfl ?_
            refine e_iconst (q := 74) dX12_tried_73 rfl ?_
            refine e_icmp_ne (q := 77) (tgt := 94) dX12_tried_74 rfl (by decide) (fun c74 => ?_) (fun c74 => by exfalso; omega)
            exact tail s59 (mD σ 0) _ _ hK hr0 h44 (if_neg hx4)
          · refine e_iconst (q := 55) dX12_tried_54 rfl ?_
            exact r_i dX12_tried_55 rfl (Or.inl ⟨by omega, rfl, rfl⟩)
    · refine e_iload_n (q := 23) (i := 1) dX12_tried_22 rfl rfl rfl ?_
      refine e_iconst (q := 24) dX12_tried_23 rfl ?_
      refine e_icmp_gt (q := 27) (tgt := 35) dX12_tried_24 rfl (by decide) (fun c24 => ?_) (fun c24 => ?_)
      · refine e_iconst (q := 36) dX12_tried_35 rfl ?_
        refine e_istore (q := 38) (L' := [_, _, _, _, _, _]) dX12_tried_36 rfl (by decide) rfl rfl ?_
        refine e_iload (q := 40) dX12_tried_38 rfl rfl ?_
        refine e_if_eq (q := 43) (tgt := 54) dX12_tried_40 rfl (by decide) (fun c40 => ?_) (fun c40 => ?_)
        · refine e_iconst (q := 55) dX12_tried_54 rfl ?_
          exact r_i dX12_tried_55 rfl (Or.inl ⟨by omega, rfl, rfl⟩)
        · refine e_iload_n (q := 44) (i := 3) dX12_tried_43 rfl rfl rfl ?_
          refine e_if_lt (q := 47) (tgt := 54) dX12_tried_44 rfl (by decide) (fun c44 => ?_) (fun c44 => ?_)
          · refine e_iconst (q := 55) dX12_tried_54 rfl ?_
            exact r_i dX12_tried_55 rfl (Or.inl ⟨by omega, rfl, rfl⟩)
          · refine e_iload_n (q := 48) (i := 3) dX12_tried_47 rfl rfl rfl ?_
            refine e_sipush (q := 51) dX12_tried_48 rfl (by decide) ?_
            refine e_icmp_le (q := 54) (tgt := 56) dX12_tried_51 rfl (by decide) (fun c51 => ?_) (fun c51 => ?_)
            · refine e_aload_n (q := 57) (i := 0) dX12_tried_56 rfl rfl rfl ?_
              refine e_iconst (q := 58) dX12_tried_57 rfl ?_
              refine e_iconst (q := 59) dX12_tried_58 rfl ?_
              refine e_Vv (q := 62) (vs := [_, _]) ok_X12_copies ml_X12_431 dX12_tried_59 rfl ⟨_, _, rfl⟩ (by first | assumption | rfl) rfl rfl (Nat.le_of_ble_eq_true rfl) (by decide) (c_X12_copies (by decide) (by decide) (by decide) (by decide) (by decide)) (fun s59 h59 => ?_)
              have hK : (0 ≤ x ∧ x ≤ 4 ∧ 0 ≤ m ∧ m ≤ 200 ∧ ((x = 2 ∧ (0 ≤ i ∧ i < σ.1 84 2)) ∨ (x ≠ 2 ∧ i = 0))) := by first | omega | (split at c40 <;> omega)
              have hr0 : MR σ (mK σ 0) (-1) 0 0 0 (mF σ 0, mL σ 0, mD σ 0, σ.1 104 0, σ.1 102 0) (σ.1 103 0) 0 s59 := MR_0 hT hI hx44 (by rw [hx45]; exact ⟨by decide, by decide⟩) h59 0
              have h44 : s59.1 82 44 = 0 := by rw [h59.1.2 44 (by simp)]; exact hx44
              refine e_iconst (q := 63) dX12_tried_62 rfl ?_
              refine e_istore (q := 65) (L' := [_, _, _, _, _, _]) dX12_tried_63 rfl (by decide) rfl rfl ?_
              by_cases hx4 : x = 4
              · exact lp 6 s59 (mD σ 0) _ 0 hK hx4 (by decide) (by decide) hr0 h44 (fun c a b => absurd b (by omega))
              refine e_iload (q := 67) dX12_tried_65 rfl rfl ?_
              refine e_bipush (q := 69) dX12_tried_67 rfl (by decide) ?_
              refine e_icmp_ge (q := 72) (tgt := 94) dX12_tried_69 rfl (by decide) (fun c69 => by exfalso; omega) (fun c69 => ?_)
              refine e_iload_n (q := 73) (i := 1) dX12_tried_72 rfl rfl rfl ?_
              refine e_iconst (q := 74) dX12_tried_73 rfl ?_
              refine e_icmp_ne (q := 77) (tgt := 94) dX12_tried_74 rfl (by decide) (fun c74 => ?_) (fun c74 => by exfalso; omega)
              exact tail s59 (mD σ 0) _ _ hK hr0 h44 (if_neg hx4)
            · refine e_iconst (q := 55) dX12_tried_54 rfl ?_
              exact r_i dX12_tried_55 rfl (Or.inl ⟨by omega, rfl, rfl⟩)
      · refine e_iload_n (q := 28) (i := 2) dX12_tried_27 rfl rfl rfl ?_
        refine e_if_ne (q := 31) (tgt := 35) dX12_tried_28 rfl (by decide) (fun c28 => ?_) (fun c28 => ?_)
        · refine e_iconst (q := 36) dX12_tried_35 rfl ?_
          refine e_istore (q := 38) (L' := [_, _, _, _, _, _]) dX12_tried_36 rfl (by decide) rfl rfl ?_
          refine e_iload (q := 40) dX12_tried_38 rfl rfl ?_
          refine e_if_eq (q := 43) (tgt := 54) dX12_tried_40 rfl (by decide) (fun c40 => ?_) (fun c40 => ?_)
          · refine e_iconst (q := 55) dX12_tried_54 rfl ?_
            exact r_i dX12_tried_55 rfl (Or.inl ⟨by omega, rfl, rfl⟩)
          · refine e_iload_n (q := 44) (i := 3) dX12_tried_43 rfl rfl rfl ?_
            refine e_if_lt (q := 47) (tgt := 54) dX12_tried_44 rfl (by decide) (fun c44 => ?_) (fun c44 => ?_)
            · refine e_iconst (q := 55) dX12_tried_54 rfl ?_
              exact r_i dX12_tried_55 rfl (Or.inl ⟨by omega, rfl, rfl⟩)
            · refine e_iload_n (q := 48) (i := 3) dX12_tried_47 rfl rfl rfl ?_
              refine e_sipush (q := 51) dX12_tried_48 rfl (by decide) ?_
              refine e_icmp_le (q := 54) (tgt := 56) dX12_tried_51 rfl (by decide) (fun c51 => ?_) (fun c51 => ?_)
              · refine e_aload_n (q := 57) (i := 0) dX12_tried_56 rfl rfl rfl ?_
                refine e_iconst (q := 58) dX12_tried_57 rfl ?_
                refine e_iconst (q := 59) dX12_tried_58 rfl ?_
                refine e_Vv (q := 62) (vs := [_, _]) ok_X12_copies ml_X12_431 dX12_tried_59 rfl ⟨_, _, rfl⟩ (by first | assumption | rfl) rfl rfl (Nat.le_of_ble_eq_true rfl) (by decide) (c_X12_copies (by decide) (by decide) (by decide) (by decide) (by decide)) (fun s59 h59 => ?_)
                have hK : (0 ≤ x ∧ x ≤ 4 ∧ 0 ≤ m ∧ m ≤ 200 ∧ ((x = 2 ∧ (0 ≤ i ∧ i < σ.1 84 2)) ∨ (x ≠ 2 ∧ i = 0))) := by first | omega | (split at c40 <;> omega)
                have hr0 : MR σ (mK σ 0) (-1) 0 0 0 (mF σ 0, mL σ 0, mD σ 0, σ.1 104 0, σ.1 102 0) (σ.1 103 0) 0 s59 := MR_0 hT hI hx44 (by rw [hx45]; exact ⟨by decide, by decide⟩) h59 0
                have h44 : s59.1 82 44 = 0 := by rw [h59.1.2 44 (by simp)]; exact hx44
                refine e_iconst (q := 63) dX12_tried_62 rfl ?_
                refine e_istore (q := 65) (L' := [_, _, _, _, _, _]) dX12_tried_63 rfl (by decide) rfl rfl ?_
                by_cases hx4 : x = 4
                · exact lp 6 s59 (mD σ 0) _ 0 hK hx4 (by decide) (by decide) hr0 h44 (fun c a b => absurd b (by omega))
                refine e_iload (q := 67) dX12_tried_65 rfl rfl ?_
                refine e_bipush (q := 69) dX12_tried_67 rfl (by decide) ?_
                refine e_icmp_ge (q := 72) (tgt := 94) dX12_tried_69 rfl (by decide) (fun c69 => by exfalso; omega) (fun c69 => ?_)
                refine e_iload_n (q := 73) (i := 1) dX12_tried_72 rfl rfl rfl ?_
                refine e_iconst (q := 74) dX12_tried_73 rfl ?_
                refine e_icmp_ne (q := 77) (tgt := 94) dX12_tried_74 rfl (by decide) (fun c74 => ?_) (fun c74 => by exfalso; omega)
                exact tail s59 (mD σ 0) _ _ hK hr0 h44 (if_neg hx4)
              · refine e_iconst (q := 55) dX12_tried_54 rfl ?_
                exact r_i dX12_tried_55 rfl (Or.inl ⟨by omega, rfl, rfl⟩)
        · refine e_iconst (q := 32) dX12_tried_31 rfl ?_
          refine e_goto (tgt := 36) dX12_tried_32 (by decide) ?_
          refine e_istore (q := 38) (L' := [_, _, _, _, _, _]) dX12_tried_36 rfl (by decide) rfl rfl ?_
          refine e_iload (q := 40) dX12_tried_38 rfl rfl ?_
          refine e_if_eq (q := 43) (tgt := 54) dX12_tried_40 rfl (by decide) (fun c40 => ?_) (fun c40 => ?_)
          · refine e_iconst (q := 55) dX12_tried_54 rfl ?_
            exact r_i dX12_tried_55 rfl (Or.inl ⟨by omega, rfl, rfl⟩)
          · refine e_iload_n (q := 44) (i := 3) dX12_tried_43 rfl rfl rfl ?_
            refine e_if_lt (q := 47) (tgt := 54) dX12_tried_44 rfl (by decide) (fun c44 => ?_) (fun c44 => ?_)
            · refine e_iconst (q := 55) dX12_tried_54 rfl ?_
              exact r_i dX12_tried_55 rfl (Or.inl ⟨by omega, rfl, rfl⟩)
            · refine e_iload_n (q := 48) (i := 3) dX12_tried_47 rfl rfl rfl ?_
              refine e_sipush (q := 51) dX12_tried_48 rfl (by decide) ?_
              refine e_icmp_le (q := 54) (tgt := 56) dX12_tried_51 rfl (by decide) (fun c51 => ?_) (fun c51 => ?_)
              · refine e_aload_n (q := 57) (i := 0) dX12_tried_56 rfl rfl rfl ?_
                refine e_iconst (q := 58) dX12_tried_57 rfl ?_
                refine e_iconst (q := 59) dX12_tried_58 rfl ?_
                refine e_Vv (q := 62) (vs := [_, _]) ok_X12_copies ml_X12_431 dX12_tried_59 rfl ⟨_, _, rfl⟩ (by first | assumption | rfl) rfl rfl (Nat.le_of_ble_eq_true rfl) (by decide) (c_X12_copies (by decide) (by decide) (by decide) (by decide) (by decide)) (fun s59 h59 => ?_)
                have hK : (0 ≤ x ∧ x ≤ 4 ∧ 0 ≤ m ∧ m ≤ 200 ∧ ((x = 2 ∧ (0 ≤ i ∧ i < σ.1 84 2)) ∨ (x ≠ 2 ∧ i = 0))) := by first | omega | (split at c40 <;> omega)
                have hr0 : MR σ (mK σ 0) (-1) 0 0 0 (mF σ 0, mL σ 0, mD σ 0, σ.1 104 0, σ.1 102 0) (σ.1 103 0) 0 s59 := MR_0 hT hI hx44 (by rw [hx45]; exact ⟨by decide, by decide⟩) h59 0
                have h44 : s59.1 82 44 = 0 := by rw [h59.1.2 44 (by simp)]; exact hx44
                refine e_iconst (q := 63) dX12_tried_62 rfl ?_
                refine e_istore (q := 65) (L' := [_, _, _, _, _, _]) dX12_tried_63 rfl (by decide) rfl rfl ?_
                by_cases hx4 : x = 4
                · exact lp 6 s59 (mD σ 0) _ 0 hK hx4 (by decide) (by decide) hr0 h44 (fun c a b => absurd b (by omega))
                refine e_iload (q := 67) dX12_tried_65 rfl rfl ?_
                refine e_bipush (q := 69) dX12_tried_67 rfl (by decide) ?_
                refine e_icmp_ge (q := 72) (tgt := 94) dX12_tried_69 rfl (by decide) (fun c69 => by exfalso; omega) (fun c69 => ?_)
                refine e_iload_n (q := 73) (i := 1) dX12_tried_72 rfl rfl rfl ?_
                refine e_iconst (q := 74) dX12_tried_73 rfl ?_
                refine e_icmp_ne (q := 77) (tgt := 94) dX12_tried_74 rfl (by decide) (fun c74 => ?_) (fun c74 => by exfalso; omega)
                exact tail s59 (mD σ 0) _ _ hK hr0 h44 (if_neg hx4)
              · refine e_iconst (q := 55) dX12_tried_54 rfl ?_
                exact r_i dX12_tried_55 rfl (Or.inl ⟨by omega, rfl, rfl⟩)
  · refine e_aload_n (q := 11) (i := 0) dX12_tried_10 rfl rfl rfl ?_
    refine e_iload_n (q := 12) (i := 2) dX12_tried_11 rfl rfl rfl ?_
    refine e_Vip (q := 15) (vs := [_]) ok_X12_isChild ml_X12_402 dX12_tried_12 rfl ⟨_, _, rfl⟩ (by first | assumption | rfl) rfl rfl (Nat.le_of_ble_eq_true rfl) (by decide) (c_X12_isChild hT (by assumption)) ?_
    refine e_goto (tgt := 36) dX12_tried_15 (by decide) ?_
    refine e_istore (q := 38) (L' := [_, _, _, _, _, _]) dX12_tried_36 rfl (by decide) rfl rfl ?_
    refine e_iload (q := 40) dX12_tried_38 rfl rfl ?_
    refine e_if_eq (q := 43) (tgt := 54) dX12_tried_40 rfl (by decide) (fun c40 => ?_) (fun c40 => ?_)
    · refine e_iconst (q := 55) dX12_tried_54 rfl ?_
      exact r_i dX12_tried_55 rfl (Or.inl ⟨by omega, rfl, rfl⟩)
    · refine e_iload_n (q := 44) (i := 3) dX12_tried_43 rfl rfl rfl ?_
      refine e_if_lt (q := 47) (tgt := 54) dX12_tried_44 rfl (by decide) (fun c44 => ?_) (fun c44 => ?_)
      · refine e_iconst (q := 55) dX12_tried_54 rfl ?_
        exact r_i dX12_tried_55 rfl (Or.inl ⟨by omega, rfl, rfl⟩)
      · refine e_iload_n (q := 48) (i := 3) dX12_tried_47 rfl rfl rfl ?_
        refine e_sipush (q := 51) dX12_tried_48 rfl (by decide) ?_
        refine e_icmp_le (q := 54) (tgt := 56) dX12_tried_51 rfl (by decide) (fun c51 => ?_) (fun c51 => ?_)
        · refine e_aload_n (q := 57) (i := 0) dX12_tried_56 rfl rfl rfl ?_
          refine e_iconst (q := 58) dX12_tried_57 rfl ?_
          refine e_iconst (q := 59) dX12_tried_58 rfl ?_
          refine e_Vv (q := 62) (vs := [_, _]) ok_X12_copies ml_X12_431 dX12_tried_59 rfl ⟨_, _, rfl⟩ (by first | assumption | rfl) rfl rfl (Nat.le_of_ble_eq_true rfl) (by decide) (c_X12_copies (by decide) (by decide) (by decide) (by decide) (by decide)) (fun s59 h59 => ?_)
          have hK : (0 ≤ x ∧ x ≤ 4 ∧ 0 ≤ m ∧ m ≤ 200 ∧ ((x = 2 ∧ (0 ≤ i ∧ i < σ.1 84 2)) ∨ (x ≠ 2 ∧ i = 0))) := by first | omega | (split at c40 <;> omega)
          have hr0 : MR σ (mK σ 0) (-1) 0 0 0 (mF σ 0, mL σ 0, mD σ 0, σ.1 104 0, σ.1 102 0) (σ.1 103 0) 0 s59 := MR_0 hT hI hx44 (by rw [hx45]; exact ⟨by decide, by decide⟩) h59 0
          have h44 : s59.1 82 44 = 0 := by rw [h59.1.2 44 (by simp)]; exact hx44
          refine e_iconst (q := 63) dX12_tried_62 rfl ?_
          refine e_istore (q := 65) (L' := [_, _, _, _, _, _]) dX12_tried_63 rfl (by decide) rfl rfl ?_
          by_cases hx4 : x = 4
          · exact lp 6 s59 (mD σ 0) _ 0 hK hx4 (by decide) (by decide) hr0 h44 (fun c a b => absurd b (by omega))
          refine e_iload (q := 67) dX12_tried_65 rfl rfl ?_
          refine e_bipush (q := 69) dX12_tried_67 rfl (by decide) ?_
          refine e_icmp_ge (q := 72) (tgt := 94) dX12_tried_69 rfl (by decide) (fun c69 => by exfalso; omega) (fun c69 => ?_)
          refine e_iload_n (q := 73) (i := 1) dX12_tried_72 rfl rfl rfl ?_
          refine e_iconst (q := 74) dX12_tried_73 rfl ?_
          refine e_icmp_ne (q := 77) (tgt := 94) dX12_tried_74 rfl (by decide) (fun c74 => ?_) (fun c74 => by exfalso; omega)
          exact tail s59 (mD σ 0) _ _ hK hr0 h44 (if_neg hx4)
        · refine e_iconst (q := 55) dX12_tried_54 rfl ?_
          exact r_i dX12_tried_55 rfl (Or.inl ⟨by omega, rfl, rfl⟩)

