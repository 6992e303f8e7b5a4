set_option maxHeartbeats 2000000 in
theorem st_go {G : Gx} {σ : Sg} {m : Int} (hR : Rel σ) (hm : R32 m) : Con G 8 mX11_go [.ref (G.2.2.2 + 0), .int (iZ m)] σ (pI (fun z σ1 => Con G 8 mX12_go [.ref (G.2.2.2 + 82), .int (iZ m)] σ1 (pI (fun z' σ2 => z' = z ∧ Rel σ2)))) := by
  refine Con_mono (c_X11_go hR.ti hR.tb hR.lw hR.li hR.y98 hm) (fun ro σ1 hq => ?_)
  obtain ⟨z, er, hq⟩ := hq
  refine ⟨z, er, ?_⟩
  have hs : SM σ (sI σ1 82 0 0) := by
    rcases hq with ⟨_, _, e⟩ | ⟨_, _, τ, ht, hL⟩
    · rw [e]; exact SM.rf σ
    · refine SM.of (C := [17, 39, 40, 42, 43, 55, 56]) ?_ (by decide)
      rcases ht with ⟨e, _⟩ | ⟨e, _⟩
      · rw [e] at hL; exact hL.1.mono (by decide)
      · rw [e] at hL; exact ((Fr.rf _ _).sI (by decide) _ _).tr (hL.1.mono (by decide))
  have x44 : (sI σ1 82 0 0).1 82 44 = 0 := by rw [hs.2 44 (by decide)]; exact hR.x44
  have x45 : (sI σ1 82 0 0).1 82 45 = -1 := by rw [hs.2 45 (by decide)]; exact hR.x45
  refine Con_mono (c_X12_go rfl (hs.mt hR.mt) (hs.mw hR.mw) (hs.mb hR.mb) (hs.mi hR.mi) (by rw [x44]; decide) (by rw [x45]; decide) hm) (fun ro' σ2 hq' => ?_)
  obtain ⟨z', er', hq'⟩ := hq'
  refine ⟨z', er', ?_⟩
  rw [hs.1 102 (by decide), ← hR.yea] at hq'
  rcases hq with ⟨k, ez, e⟩ | ⟨k, ez, τ, ht, hL⟩
  · rcases hq' with ⟨_, ez', e'⟩ | ⟨k', _⟩
    · rw [e', e, ez, ez']; exact ⟨rfl, hR.th⟩
    · exact absurd ⟨k'.1, k'.2.1, by omega⟩ k
  rcases hq' with ⟨k', _⟩ | ⟨_, ez', τ', ht', hM⟩
  · exact absurd ⟨k.1, k.2.1, by omega⟩ k'
  obtain ⟨f8, f9, f10⟩ := hR.2.1.2.2.2.1
  rw [f8, f9, f10] at hL
  -- the model's years
  have hτ : (∀ a : Nat, 83 ≤ a → τ'.1 a = σ.1 a) ∧ ∀ j, j ≠ 0 → j ≠ 43 → τ'.1 82 j = σ.1 82 j := by
    rcases ht' with ⟨e, _⟩ | ⟨e, _⟩
    · rw [e]; exact ⟨hs.1, fun j a _ => hs.2 j a⟩
    · rw [e]; exact ⟨fun a q => by rw [sI_ne _ (by omega)]; exact hs.1 a q, fun j a b => by rw [sI_1, if_neg (fun q => b q.2)]; exact hs.2 j a⟩
  have t44 : τ'.1 82 44 = 0 := by rw [hτ.2 44 (by decide) (by decide)]; exact hR.x44
  have eM : mPa τ' 0 (mWt τ' 1) m.toNat (ydm τ' 0, τ'.1 103 0) = mRn σ (mK σ 0) (-1) 0 1 m.toNat (ydm σ 0, σ.2 39 7) := by
    have e1 : mLaw τ' = mLaw σ := by
      funext r nm
      unfold mLaw mCode
      rw [hτ.1 96 (by decide), hτ.1 97 (by decide), hτ.1 98 (by decide), hτ.1 99 (by decide)]
    have e2 : mEd τ' = mEd σ := by unfold mEd; rw [hτ.1 84 (by decide), hτ.1 86 (by decide), hτ.1 87 (by decide)]
    have e3 : mBs τ' = mBs σ := by unfold mBs; rw [hτ.1 92 (by decide), hτ.1 94 (by decide)]
    have e4 : mCk τ' 0 = mK σ 0 := by
      funext i
      unfold mCk mK
      rw [t44, if_neg (by decide), hτ.1 106 (by decide)]
    have e5 : mUn τ' = -1 := by unfold mUn; rw [t44]; rfl
    have e6 : mTl τ' = 0 := by unfold mTl; rw [t44]; rfl
    have e7 : mWt τ' 1 = 1 := by unfold mWt; rw [t44]; rfl
    have e8 : ydm τ' 0 = ydm σ 0 := by
      unfold ydm mF mL mD
      rw [hτ.1 102 (by decide), hτ.1 104 (by decide), hτ.1 105 (by decide), hτ.1 107 (by decide), hτ.1 108 (by decide)]
    unfold mPa mRn
    rw [e1, e2, e3, e4, e5, e6, e7, e8, hτ.1 84 (by decide), hτ.1 86 (by decide), hτ.1 87 (by decide), hτ.1 91 (by decide), hτ.1 93 (by decide), hτ.1 95 (by decide), hτ.1 103 (by decide), hR.num]
  rw [eM] at hM
  have m0 := an_m0 hR (-1) 0 1 m.toNat
  obtain ⟨f1, f2, f3, f4, f5⟩ := hL
  obtain ⟨g1, g2, g3, g4, g5⟩ := hM
  rw [← f2, ← g2, ← f4, ← g5] at m0
  have hFc : Fr [17, 39, 40, 42, 43, 55, 56] σ σ1 := by
    rcases ht with ⟨e, _⟩ | ⟨e, _⟩
    · rw [e] at f1; exact f1.mono (by decide)
    · rw [e] at f1; exact ((Fr.rf _ _).sI (by decide) _ _).tr (f1.mono (by decide))
  have hFm : Fr [82, 100, 101, 102, 103, 104, 105, 107, 108] σ1 σ2 := by
    rcases ht' with ⟨e, _⟩ | ⟨e, _⟩
    · rw [e] at g1; exact ((Fr.rf _ _).sI (by decide) _ _).tr (g1.1.mono (by decide))
    · rw [e] at g1; exact (((Fr.rf _ _).sI (by decide) _ _).sI (by decide) _ _).tr (g1.1.mono (by decide))
  have hC1 : ∀ a : Nat, a < 82 → σ2.1 a = σ1.1 a := fun a q => (hFm a (by simp only [List.mem_cons, List.not_mem_nil, or_false]; omega)).1
  have hC2 : ∀ a : Nat, a < 82 → σ2.2 a = σ1.2 a := fun a q => (hFm a (by simp only [List.mem_cons, List.not_mem_nil, or_false]; omega)).2
  have hcc : ∀ a : Nat, a < 82 → a ∉ [17, 39, 40, 42, 43, 55, 56] → σ2.1 a = σ.1 a := fun a q w => by rw [hC1 a q, (hFc a w).1]
  have hf : ∀ j, j ≠ 0 → j ≠ 43 → j ≠ 34 → σ2.1 82 j = σ.1 82 j := fun j a b c => by
    rw [g1.2 j (by simp only [List.mem_cons, List.not_mem_nil, or_false]; exact c), hτ.2 j a b]
  have hl : ∀ u, u ≠ 0 → ldm σ2 u = ldm σ u := fun u q => by
    rw [g3.ld q]
    unfold ldm mF mK mL mD
    rw [hτ.1 102 (by decide), hτ.1 103 (by decide), hτ.1 104 (by decide), hτ.1 105 (by decide), hτ.1 106 (by decide), hτ.1 107 (by decide), hτ.1 108 (by decide)]
  have ey : ydv σ2 39 = ydv σ1 39 := by
    unfold ydv
    rw [hC1 39 (by decide), hC1 (39 + 1) (by decide), hC1 (39 + 3) (by decide), hC1 (39 + 4) (by decide)]
  have e106 : ∀ i, mK σ2 0 i = mK σ 0 i := fun i => by
    unfold mK
    rw [g1.c (a := 106) (by decide), hτ.1 106 (by decide)]
  have hye : σ1.1 39 6 = σ.1 39 6 + m.toNat := by
    have h1 : σ1.1 39 6 = (ydv σ1 39).2.2.2.2 := rfl
    rw [h1, f2]
    unfold paR
    rw [yPass_ye]
    rfl
  have hτf : ∀ i, τ.1 39 i = σ.1 39 i := fun i => by
    rcases ht with ⟨e, _⟩ | ⟨e, _⟩
    · rw [e]
    · rw [e, sI_ne _ (by decide)]
  refine ⟨?_, hR.nu ?_ (fun j hj => ?_) (hl 2 (by decide)) ⟨?_, g4, ?_, ?_, ?_⟩ ?_⟩
  · rw [ez', ez]
    have h1 : (ydv σ1 39).2.2.2.2 = (ydm σ2 0).2.2.2.2 := m0.1.2.2.2
    exact h1.symm
  · exact (hFc.mono (by decide)).tr (hFm.mono (by decide))
  · simp only [List.mem_cons, List.not_mem_nil, or_false] at hj
    exact hf j (by omega) (by omega) (by omega)
  · exact f5.cg (fun a p q => hC1 a (by omega)) (by rw [hC2 39 (by decide)])
  · rw [hC1 39 (by decide), hye]; omega
  · rw [hC1 39 (by decide), f3 8 (by decide) (by decide), f3 9 (by decide) (by decide), f3 10 (by decide) (by decide), hτf, hτf, hτf]
    exact ⟨f8, f9, f10⟩
  · unfold LdR
    rw [hcc 2 (by decide) (by decide), ey]
    refine ⟨m0.1, fun i a b => ?_, ?_⟩
    · show σ2.1 41 i = mK σ2 0 i
      rw [e106, hcc 41 (by decide) (by decide)]; exact hR.cak a b
    · rw [hC2 39 (by decide)]; exact m0.2
  · rcases ht with ⟨e, hm0⟩ | ⟨e, hm0⟩
    · have hz : m = 0 := by omega
      subst hz
      have e0 : ydv σ1 39 = ydv σ 39 := f2
      have q40 : σ1.1 40 = σ.1 40 := congrArg (fun y : Yd => y.1) e0
      have q42 : σ1.1 42 = σ.1 42 := congrArg (fun y : Yd => y.2.1) e0
      have q43 : σ1.1 43 = σ.1 43 := congrArg (fun y : Yd => y.2.2.1) e0
      have q5 : σ1.1 39 5 = σ.1 39 5 := congrArg (fun y : Yd => y.2.2.2.1) e0
      have q6 : σ1.1 39 6 = σ.1 39 6 := congrArg (fun y : Yd => y.2.2.2.2) e0
      have e56 : σ1.1 56 = σ.1 56 := by rw [e] at f1; exact (f1 56 (by decide)).1
      have q39 : σ1.1 39 = σ.1 39 := by
        funext j
        by_cases w5 : j = 5
        · rw [w5]; exact q5
        by_cases w6 : j = 6
        · rw [w6]; exact q6
        rw [f3 j w5 w6, hτf]
      have e43 : σ2.1 82 43 = σ.1 82 43 := by
        rcases ht' with ⟨e', _⟩ | ⟨_, w⟩
        · rw [g1.2 43 (by decide), e', hs.2 43 (by decide)]
        · omega
      refine hR.2.2.2.1.cg hR.n4 hR.n6 (hcc 2 (by decide) (by decide)) (fun a q => ?_) (by rw [hC2 39 (by decide)]; exact f4) e43 (fun u q => hl u (by omega))
      by_cases w39 : a = 39
      · rw [w39, hC1 39 (by decide), q39]
      by_cases w40 : a = 40
      · rw [w40, hC1 40 (by decide), q40]
      by_cases w42 : a = 42
      · rw [w42, hC1 42 (by decide), q42]
      by_cases w43 : a = 43
      · rw [w43, hC1 43 (by decide), q43]
      by_cases w56 : a = 56
      · rw [w56, hC1 56 (by decide), e56]
      exact hcc a (by omega) (by simp only [List.mem_cons, List.not_mem_nil, or_false]; omega)
    · have e56 : ∀ j, σ2.1 56 j = if j = 6 then 0 else σ.1 56 j := fun j => by
        rw [hC1 56 (by decide)]
        rw [e] at f1
        rw [(f1 56 (by decide)).1, sI_uf]
        rfl
      have e43 : σ2.1 82 43 = 0 := by
        rcases ht' with ⟨_, w⟩ | ⟨e', _⟩
        · omega
        · rw [g1.2 43 (by decide), e', sI_1, if_pos ⟨rfl, rfl⟩]
      refine ⟨?_, ?_, fun u a b => ?_, fun j a b => ?_⟩
      · obtain ⟨d1, d2, d3⟩ := hR.di
        unfold DI
        rw [hcc 57 (by decide) (by decide), hcc 58 (by decide) (by decide), hcc 59 (by decide) (by decide), hcc 60 (by decide) (by decide), hcc 61 (by decide) (by decide), e56, e56, if_neg (by decide), if_pos rfl]
        exact ⟨d1, by decide, d3⟩
      · rw [e43, e56, if_pos rfl]
      · rw [e56, if_pos rfl] at b
        omega
      · rw [e56, if_pos rfl] at b
        omega
/-! ===== the tape ===== -/
set_option maxHeartbeats 1000000 in
theorem st_feed {G : Gx} {σ : Sg} {a b c d e : Int} (hR : Rel σ) (ha : R32 a) (hb : R32 b) (hc : R32 c) (hd : R32 d) (he : R32 e) : Con G 2 mX11_feed [.ref (G.2.2.2 + 0), .int (iZ a), .int (iZ b), .int (iZ c), .int (iZ d), .int (iZ e)] σ (pI (fun z σ1 => Con G 1 mX12_feed [.ref (G.2.2.2 + 82), .int (iZ a), .int (iZ b), .int (iZ c), .int (iZ d), .int (iZ e)] σ1 (pI (fun z' σ2 => z' = z ∧ Rel σ2)))) := by
  obtain ⟨hA, hN, hG, hU, hS, hX⟩ := id hR
  obtain ⟨x1, x2, x3, x4, x5, x6, x7, x8, x9, x10, x11⟩ := id hX
  refine Con_mono (c_X11_feed x1.1 x1.2 ha hb hc hd he) (fun ro σ1 hq => ?_)
  obtain ⟨z, er, hq⟩ := hq
  refine ⟨z, er, ?_⟩
  have hs : SM σ (sI σ1 82 0 0) := by
    rcases hq with ⟨_, _, e⟩ | ⟨_, _, hF, _⟩
    · rw [e]; exact SM.rf σ
    · exact SM.of hF (by decide)
  have e2 := hs.2 2 (by decide)
  have e83 := hs.1 83 (by decide)
  refine Con_mono (c_X12_feed rfl (by rw [e2, x2]; exact x1.1) (by rw [e2, x2]; exact x1.2) ha hb hc hd he) (fun ro' σ2 hq' => ?_)
  obtain ⟨z', er', hq'⟩ := hq'
  refine ⟨z', er', ?_⟩
  rw [e2, x2, e83] at hq'
  rcases hq with ⟨k, ez, e⟩ | ⟨k, ez, hF, h0, h01, h1⟩
  · rcases hq' with ⟨_, ez', e'⟩ | ⟨k', _⟩
    · rw [e', e, ez, ez']; exact ⟨rfl, hR.th⟩
    · exact absurd k' k
  rcases hq' with ⟨k', _⟩ | ⟨_, ez', hM, h2, h3⟩
  · exact absurd k k'
  have hFm : Fr [0, 1, 82, 83] σ σ2 := ((hF.mono (by decide)).sI (by decide) _ _).tr (hM.1.mono (by decide))
  have hcc : ∀ a : Nat, a ∉ [0, 1, 82, 83] → σ2.1 a = σ.1 a := fun a q => (hFm a q).1
  have c0 : σ2.1 0 = σ1.1 0 := by rw [hM.c (a := 0) (by decide), sI_ne _ (by decide)]
  have c1 : σ2.1 1 = σ1.1 1 := by rw [hM.c (a := 1) (by decide), sI_ne _ (by decide)]
  have hf : ∀ j, j ≠ 0 → j ≠ 2 → σ2.1 82 j = σ.1 82 j := fun j p q => by
    rw [hM.2 j (by simp only [List.mem_cons, List.not_mem_nil, or_false]; exact q), hs.2 j p]
  have hl : ∀ u, ldm σ2 u = ldm σ u := fun u => by
    unfold ldm mF mK mL mD
    rw [hcc 102 (by decide), hcc 103 (by decide), hcc 104 (by decide), hcc 105 (by decide), hcc 106 (by decide), hcc 107 (by decide), hcc 108 (by decide)]
  refine ⟨by rw [ez', ez], hA.cg (fun a q => hcc a (by simp only [List.mem_cons, List.not_mem_nil, or_false]; omega)), hN.cg hR.n4 hR.n6 (hcc 2 (by decide)) (fun a p q => hcc a (by simp only [List.mem_cons, List.not_mem_nil, or_false]; omega)) (by rw [(hFm 39 (by decide)).2]) (hl 0), hG.cg hR.n4 hR.n6 (hcc 2 (by decide)) (by rw [c0, h0 7 (by decide)]) (hf 42 (by decide) (by decide)) (fun a p q => hcc a (by simp only [List.mem_cons, List.not_mem_nil, or_false]; omega)) (by rw [(hFm 49 (by decide)).2]) (hl 2), hU.cg hR.n4 hR.n6 (hcc 2 (by decide)) (fun a q => hcc a (by simp only [List.mem_cons, List.not_mem_nil, or_false]; omega)) (by rw [(hFm 39 (by decide)).2]) (hf 43 (by decide) (by decide)) (fun u q => hl u), hS.cg (fun a q => hcc a (by simp only [List.mem_cons, List.not_mem_nil, or_false]; omega)) (hf 53 (by decide) (by decide)) (hf 54 (by decide) (by decide)) (fun k a b => by rw [hcc 69 (by decide)]; exact (hR.si.2.2.1 k a b).2.2.2.2.2.2) (fun k a b => by rw [hcc 118 (by decide)]; exact (hR.mn.2.2.1 k a b).2.2.2.2.2.2), ?_⟩
  refine ⟨by rw [c0, h01]; omega, by rw [h2, c0, h01], fun i p q => ?_, fun i p q => ?_, fun i p q => by rw [hcc 20 (by decide)]; exact x5 i p q, ?_, x7.cg (fun a p q => hcc a (by simp only [List.mem_cons, List.not_mem_nil, or_false]; omega)), by rw [hf 28 (by decide) (by decide), hcc 19 (by decide)]; exact x8, by rw [hf 29 (by decide) (by decide), hcc 19 (by decide)]; exact x9, by rw [hf 44 (by decide) (by decide)]; exact x10, by rw [hf 45 (by decide) (by decide)]; exact x11⟩
  · rw [h3]
    split
    · omega
    · exact x3 i p q
  · rw [c0, h01] at q
    show σ2.1 83 i = σ2.1 1 i % 256
    rw [h3, c1, h1]
    by_cases w : σ.1 0 1 ≤ i ∧ i < σ.1 0 1 + 20
    · rw [if_pos w, if_pos w, Int.bmod_def]
      split <;> omega
    · rw [if_neg w, if_neg w]
      exact x4 i p (by omega)
  · exact x6.fr (C := [0, 1, 82, 83]) hFm (fun a p q => (by simp only [List.mem_cons, List.not_mem_nil, or_false]; omega))

