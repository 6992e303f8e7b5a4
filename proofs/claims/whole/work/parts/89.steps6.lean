/-! ===== a text read by both ===== -/
theorem d0_Z (σ : Sg) : DZ (d0 σ) := by
  refine ⟨⟨rfl, rfl, rfl, rfl, rfl, rfl, rfl, rfl, rfl, rfl⟩, fun i a b => ?_, fun k a b => ⟨?_, ?_⟩⟩
  · show (sI (sI (clr σ) 18 3 0) 18 4 0).1 33 i = 0
    rw [sI_ne _ (by decide), sI_ne _ (by decide)]
    unfold clr
    rw [flI_1, if_neg (fun q => absurd q.1 (by decide)), flI_1, if_neg (fun q => absurd q.1 (by decide)), sI_ne _ (by decide), flI_1, if_pos ⟨rfl, a, b⟩]
  · show (sI (sI (clr σ) 18 3 0) 18 4 0).1 36 k = 0
    rw [sI_ne _ (by decide), sI_ne _ (by decide)]
    unfold clr
    rw [flI_1, if_neg (fun q => absurd q.1 (by decide)), flI_1, if_pos ⟨rfl, a, b⟩]
  · show (sI (sI (clr σ) 18 3 0) 18 4 0).1 37 k = 0
    rw [sI_ne _ (by decide), sI_ne _ (by decide)]
    unfold clr
    rw [flI_1, if_pos ⟨rfl, a, b⟩]
theorem TI.cg {σ τ : Sg} (h : TI σ) (hc : ∀ a : Nat, 2 ≤ a → a ≤ 16 → τ.1 a = σ.1 a) : TI τ := by
  unfold TI
  rw [hc 2 (by decide) (by decide), hc 3 (by decide) (by decide), hc 4 (by decide) (by decide), hc 5 (by decide) (by decide), hc 6 (by decide) (by decide), hc 7 (by decide) (by decide), hc 8 (by decide) (by decide), hc 9 (by decide) (by decide), hc 10 (by decide) (by decide), hc 11 (by decide) (by decide), hc 12 (by decide) (by decide)]
  exact h
theorem TB.cg {σ τ : Sg} (h : TB σ) (hc : ∀ a : Nat, 2 ≤ a → a ≤ 16 → τ.1 a = σ.1 a) : TB τ := by
  unfold TB
  rw [hc 2 (by decide) (by decide), hc 9 (by decide) (by decide), hc 10 (by decide) (by decide)]
  exact h
theorem LW.cg {σ τ : Sg} (h : LW σ) (hc : ∀ a : Nat, 2 ≤ a → a ≤ 16 → τ.1 a = σ.1 a) : LW τ := by
  unfold LW
  rw [hc 14 (by decide) (by decide), hc 15 (by decide) (by decide), hc 16 (by decide) (by decide)]
  exact h
/-- lower halves are all that counts -/
theorem RA.lo {σ τ : Sg} (h : RA σ) (hc : ∀ a : Nat, 2 ≤ a → a ≤ 16 → τ.1 a = σ.1 a) (hl : ∀ c : Nat, 84 ≤ c → c ≤ 99 → ∀ i : Int, i < hf2 c → τ.1 c i = σ.1 c i) : RA τ := by
  obtain ⟨h1, h2, h3, h4, h5, h6, h7⟩ := h
  have l84 : ∀ i, i < 7 → τ.1 84 i = σ.1 84 i := fun i q => hl 84 (by decide) (by decide) i q
  have l85 : ∀ i, i < 4 → τ.1 85 i = σ.1 85 i := fun i q => hl 85 (by decide) (by decide) i q
  have l86 : ∀ i, i < 4 → τ.1 86 i = σ.1 86 i := fun i q => hl 86 (by decide) (by decide) i q
  have l87 : ∀ i, i < 4 → τ.1 87 i = σ.1 87 i := fun i q => hl 87 (by decide) (by decide) i q
  have l88 : ∀ i, i < 16 → τ.1 88 i = σ.1 88 i := fun i q => hl 88 (by decide) (by decide) i q
  have l89 : ∀ i, i < 6 → τ.1 89 i = σ.1 89 i := fun i q => hl 89 (by decide) (by decide) i q
  have l90 : ∀ i, i < 6 → τ.1 90 i = σ.1 90 i := fun i q => hl 90 (by decide) (by decide) i q
  have l91 : ∀ i, i < 6 → τ.1 91 i = σ.1 91 i := fun i q => hl 91 (by decide) (by decide) i q
  have l92 : ∀ i, i < 12 → τ.1 92 i = σ.1 92 i := fun i q => hl 92 (by decide) (by decide) i q
  have l93 : ∀ i, i < 12 → τ.1 93 i = σ.1 93 i := fun i q => hl 93 (by decide) (by decide) i q
  have l94 : ∀ i, i < 12 → τ.1 94 i = σ.1 94 i := fun i q => hl 94 (by decide) (by decide) i q
  have l95 : ∀ i, i < 12 → τ.1 95 i = σ.1 95 i := fun i q => hl 95 (by decide) (by decide) i q
  have l96 : ∀ i, i < 3 → τ.1 96 i = σ.1 96 i := fun i q => hl 96 (by decide) (by decide) i q
  have l97 : ∀ i, i < 3 → τ.1 97 i = σ.1 97 i := fun i q => hl 97 (by decide) (by decide) i q
  have l98 : ∀ i, i < 64 → τ.1 98 i = σ.1 98 i := fun i q => hl 98 (by decide) (by decide) i q
  have l99 : ∀ i, i < 64 → τ.1 99 i = σ.1 99 i := fun i q => hl 99 (by decide) (by decide) i q
  have lc : ∀ i, i < 64 → mCode τ i = mCode σ i := fun i q => by unfold mCode; rw [l98 i q, l99 i q]
  have lk : ∀ i, i < 64 → mKn σ i → mKn τ i := fun i q w => by unfold mKn at w ⊢; rw [l98 i q, l99 i q]; exact w
  refine ⟨h1.cg hc, h2.cg hc, h3.cg hc, ?_, ?_, ?_, ?_⟩
  · obtain ⟨a1, a2, a3, a4, a5, a6, a7, a8, a9, a10, a11⟩ := h4
    unfold MT
    rw [l84 0 (by decide), l84 1 (by decide), l84 2 (by decide), l84 3 (by decide), l84 4 (by decide), l84 5 (by decide)]
    refine ⟨a1, a2, a3, a4, a5, a6, fun i p q => ?_, fun i p q => ?_, fun i p q => ?_, fun i p q => ?_, fun i p q => ?_⟩
    · rw [l85 i q, l86 i q, l87 i q]; exact a7 i p q
    · rw [l86 i (by omega), l87 i (by omega)]; exact a8 i p q
    · rw [l89 i q, l90 i q, l91 i q]; exact a9 i p q
    · rw [l92 i q, l93 i q, l94 i q, l95 i q]; exact a10 i p q
    · rw [l88 i q]; exact a11 i p q
  · have n12 := h4.2.2.2.1
    unfold MB
    rw [l84 1 (by decide), l84 2 (by decide), l84 3 (by decide)]
    intro i p q
    rw [l92 i (by omega), l93 i (by omega)]
    exact h5 i p q
  · intro r r0 r3
    obtain ⟨b1, b2, b3, b4, b5⟩ := h6 r r0 r3
    rw [l96 r r3, l97 r r3]
    refine ⟨b1, b2, b3, fun k p q => lk k (by omega) (b4 k p q), fun q => ?_⟩
    rw [dpRun_c (g := mCode σ) _ _ _ (fun j p w => lc j (by omega))]
    exact b5 q
  · obtain ⟨t0, t1, t2, t3, t4, t5, t6⟩ := h7
    have n2 := h1.2.2.1
    have n3 := h1.2.2.2.1
    have n12 := h1.2.2.2.2.1
    unfold TC
    rw [l84 0 (by decide), l84 1 (by decide), l84 2 (by decide), l84 3 (by decide), l84 4 (by decide), l84 5 (by decide), l84 6 (by decide), hc 2 (by decide) (by decide), hc 3 (by decide) (by decide), hc 4 (by decide) (by decide), hc 5 (by decide) (by decide), hc 6 (by decide) (by decide), hc 7 (by decide) (by decide), hc 8 (by decide) (by decide), hc 9 (by decide) (by decide), hc 10 (by decide) (by decide), hc 11 (by decide) (by decide), hc 12 (by decide) (by decide), hc 13 (by decide) (by decide), hc 14 (by decide) (by decide), hc 15 (by decide) (by decide), hc 16 (by decide) (by decide)]
    refine ⟨t0, fun i p q => ?_, fun i p q => ?_, fun i p q => ?_, fun i p q => ?_, fun k p q => ?_, t6⟩
    · rw [l85 i (by omega), l86 i (by omega), l87 i (by omega)]; exact t1 i p q
    · rw [l88 i q]; exact t2 i p q
    · rw [l89 i (by omega), l90 i (by omega), l91 i (by omega)]; exact t3 i p q
    · rw [l92 i (by omega), l93 i (by omega), l94 i (by omega), l95 i (by omega)]; exact t4 i p q
    · obtain ⟨g1, g2, g3⟩ := t5 k p q
      rw [l96 k q, l97 k q]
      refine ⟨g1, g2, fun i u v => ?_⟩
      have := h3 k p q
      rw [lc i (by omega)]
      exact g3 i u v
/-- what a text told, both ways -/
theorem RA_text {σ τ : Sg} {δ : Dl} (hO : DOk δ) (hP : DPi δ) (hK : TkR σ δ) (hc : ∀ a : Nat, 2 ≤ a → a ≤ 16 → τ.1 a = σ.1 a) (hT : MT τ) (hL : MLo τ δ) : RA τ := by
  obtain ⟨i1, i2, i3, i4⟩ := TkR_TI hK hO
  obtain ⟨k1, k2, k3, k4, k5, k6, k7, k8⟩ := hK
  obtain ⟨⟨c0, c1, c2, c3, c4, c5, c6⟩, lb, lk, lc, lbb, ll, ln⟩ := hL
  obtain ⟨o0, o1, o2, o3, o4, o5, o6, o7, o8, o9, oc, ob, ok, og, ou, ow, ox, ot, oz, oy⟩ := id hO
  refine ⟨i1.cg hc, i2.cg hc, i3.cg hc, hT, ?_, ?_, ?_⟩
  · intro i p q
    rw [c3] at q
    rw [c1, c2]
    obtain ⟨e1, e2, e3, e4⟩ := lbb i p q
    have g := og i p q
    rw [e3]
    omega
  · intro r r0 r3
    obtain ⟨e1, e2⟩ := ll r r0 r3
    have g := ow r r0 r3
    rw [e1, e2]
    refine ⟨g.1, g.2.1, by omega, fun k p q => (ln k (by omega) (by omega)).1, fun q => ?_⟩
    rw [dpRun_c (g := δ 35) _ _ _ (fun j p w => (ln j (by omega) (by omega)).2)]
    exact hP r r0 r3 q
  · unfold TC
    rw [hc 2 (by decide) (by decide), hc 3 (by decide) (by decide), hc 4 (by decide) (by decide), hc 5 (by decide) (by decide), hc 6 (by decide) (by decide), hc 7 (by decide) (by decide), hc 8 (by decide) (by decide), hc 9 (by decide) (by decide), hc 10 (by decide) (by decide), hc 11 (by decide) (by decide), hc 12 (by decide) (by decide), hc 13 (by decide) (by decide), hc 14 (by decide) (by decide), hc 15 (by decide) (by decide), hc 16 (by decide) (by decide)]
    have f0 := k1 0 (by decide) (by decide)
    have f2 := k1 2 (by decide) (by decide)
    have f3 := k1 3 (by decide) (by decide)
    have f4 := k1 4 (by decide) (by decide)
    have f5 := k1 5 (by decide) (by decide)
    have f6 := k1 6 (by decide) (by decide)
    have f7 := k1 7 (by decide) (by decide)
    rw [f0, f2, f3, f4, f5, f6, f7, k8]
    refine ⟨⟨c0, c1, c2, c3, c4, c5, c6⟩, fun i p q => ?_, fun i p q => ?_, fun i p q => ?_, fun i p q => ?_, fun k p q => ?_, fun i p q => ?_⟩
    · obtain ⟨e1, e2, e3⟩ := lb i p q
      obtain ⟨g1, g2, g3⟩ := k2 i p (by omega)
      exact ⟨e1.trans g3.symm, e2.trans g1.symm, e3.trans g2.symm⟩
    · rw [lk i p q, k5 i p q]
    · obtain ⟨e1, e2, e3⟩ := lc i p q
      obtain ⟨g1, g2, g3⟩ := k3 i p (by omega)
      exact ⟨e1.trans g3.symm, e2.trans g1.symm, e3.trans g2.symm⟩
    · obtain ⟨e1, e2, e3, e4⟩ := lbb i p q
      obtain ⟨g1, g2, g3⟩ := k4 i p (by omega)
      exact ⟨e1.trans g1.symm, e2, e3.trans g2.symm, e4.trans g3.symm⟩
    · obtain ⟨e1, e2⟩ := ll k p q
      obtain ⟨g1, g2⟩ := k7 k p q
      refine ⟨e1.trans g1.symm, e2.trans g2.symm, fun i u v => ?_⟩
      have g := ow k p q
      rw [g1] at u
      rw [g2] at v
      rw [(ln i (by omega) (by omega)).2, k6 i (by omega) (by omega)]
    · rw [(k4 i p (by omega)).2.2]
      exact oy i p q
set_option maxHeartbeats 4000000 in
theorem st_text {G : Gx} {σ : Sg} {m : Int} (hR : Rel σ) (hm : R32 m) : Con G 10 mX11_text [.ref (G.2.2.2 + 0), .int (iZ m)] σ (pI (fun z σ1 => Con G 152 mX12_text [.ref (G.2.2.2 + 82), .int (iZ m)] σ1 (pI (fun z' σ2 => z' = z ∧ Rel σ2)))) := by
  obtain ⟨hA, hN, hG, hU, hS, hX⟩ := id hR
  obtain ⟨x1, x2, x3, x4, x5, x6, x7, x8, x9, x10, x11⟩ := id hX
  refine Con_mono (c_X11_text hm x1 x5 x6) (fun ro σ1 hq => ?_)
  obtain ⟨z, er, hq⟩ := hq
  refine ⟨z, er, ?_⟩
  have hs : SM σ (sI σ1 82 0 0) := by
    rcases hq with ⟨_, _, e⟩ | ⟨_, hF, _⟩
    · rw [e]; exact SM.rf σ
    · exact SM.of hF (by decide)
  have e2 := hs.2 2 (by decide)
  have e83 := hs.1 83 (by decide)
  have hMG : MG (sI σ1 82 0 0) := x7.cg (fun c a b => hs.1 c (by omega))
  refine Con_mono (c_X12_text (δ := d0 σ) rfl hm (by rw [e2, x2]; exact x1) (by rw [e83]; exact x3) hMG (d0_ok x6) (d0_Z σ)) (fun ro' σ2 hq' => ?_)
  obtain ⟨z', er', hq'⟩ := hq'
  refine ⟨z', er', ?_⟩
  unfold TxM at hq'
  rw [e2, x2, e83] at hq'
  rcases hq with ⟨k, ez, e⟩ | ⟨k, hF, hDG, _, h01, hq⟩
  · rcases hq' with ⟨_, ez', e'⟩ | ⟨k', _⟩
    · rw [e', e, ez, ez']; exact ⟨rfl, hR.th⟩
    · exact absurd k' k
  rcases hq' with ⟨k', _⟩ | ⟨_, h2, hq'⟩
  · exact absurd k k'
  have htk : tkl (σ.1 83) m 0 = tkl (cB σ) m 0 := tkl_c (fun i a b => x4 i a (by omega)) (by decide) k.1
  rw [htk] at hq'
  cases hlt : lText 701 (d0 σ) (tkl (cB σ) m 0) with
  | inl e =>
    rw [hlt] at hq hq'
    obtain ⟨ez, hF1, h0j, hf7, hf8⟩ := hq
    obtain ⟨ez', ⟨g1, g2, g3, g4⟩, g28, g29⟩ := hq'
    have hC1 : ∀ a : Nat, a ∉ FMX → σ2.1 a = σ1.1 a := fun a q => by rw [(g1 a q).1, sI_ne _ (by intro r; subst r; exact q (by decide))]
    have hC2 : ∀ a : Nat, a ∉ FMX → σ2.2 a = σ1.2 a := fun a q => by rw [(g1 a q).2]; rfl
    have hcc : ∀ a : Nat, a ∉ FMX → a ∉ (0 :: [18, 19, 21, 22, 23, 24, 25, 26, 27, 28, 29, 30, 31, 32, 33, 34, 35, 36, 37]) → σ2.1 a = σ.1 a := fun a q w => by rw [hC1 a q, (hF1 a w).1]
    have hcd : ∀ a : Nat, a ∉ FMX → a ∉ (0 :: [18, 19, 21, 22, 23, 24, 25, 26, 27, 28, 29, 30, 31, 32, 33, 34, 35, 36, 37]) → σ2.2 a = σ.2 a := fun a q w => by rw [hC2 a q, (hF1 a w).2]
    have hf : ∀ j, j ≠ 0 → j ∉ FTX → σ2.1 82 j = σ.1 82 j := fun j a b => by rw [g2 j b, hs.2 j a]
    have hl : ∀ u, ldm σ2 u = ldm σ u := fun u => by
      unfold ldm mF mK mL mD
      rw [hcc 102 (by decide) (by decide), hcc 103 (by decide) (by decide), hcc 104 (by decide) (by decide), hcc 105 (by decide) (by decide), hcc 106 (by decide) (by decide), hcc 107 (by decide) (by decide), hcc 108 (by decide) (by decide)]
    refine ⟨by rw [ez', ez], hA.lo (fun a p q => hcc a (by simp only [FMX, List.mem_cons, List.not_mem_nil, or_false]; omega) (by simp only [List.mem_cons, List.not_mem_nil, or_false]; omega)) (fun c a b i q => by rw [g3 c a b i q, hs.1 c (by omega)]), hN.cg hR.n4 hR.n6 (hcc 2 (by decide) (by decide)) (fun a p q => hcc a (by simp only [FMX, List.mem_cons, List.not_mem_nil, or_false]; omega) (by simp only [List.mem_cons, List.not_mem_nil, or_false]; omega)) (by rw [hcd 39 (by decide) (by decide)]) (hl 0), hG.cg hR.n4 hR.n6 (hcc 2 (by decide) (by decide)) (by rw [hC1 0 (by decide), h0j 7 (by decide)]) (hf 42 (by decide) (by decide)) (fun a p q => hcc a (by simp only [FMX, List.mem_cons, List.not_mem_nil, or_false]; omega) (by simp only [List.mem_cons, List.not_mem_nil, or_false]; omega)) (by rw [hcd 49 (by decide) (by decide)]) (hl 2), hU.cg hR.n4 hR.n6 (hcc 2 (by decide) (by decide)) (fun a q => hcc a (by simp only [FMX, List.mem_cons, List.not_mem_nil, or_false]; omega) (by simp only [List.mem_cons, List.not_mem_nil, or_false]; omega)) (by rw [hcd 39 (by decide) (by decide)]) (hf 43 (by decide) (by decide)) (fun u q => hl u), ?_, ?_⟩
    · have h84 : ∀ i, i < 7 → σ2.1 84 i = σ.1 84 i := fun i q => by rw [g3 84 (by decide) (by decide) i q, hs.1 84 (by decide)]
      obtain ⟨s1, s2, s3⟩ := hS
      have hcx : ∀ a : Nat, (62 ≤ a ∧ a ≤ 69) ∨ (112 ≤ a ∧ a ≤ 118) → σ2.1 a = σ.1 a := fun a q => hcc a (by simp only [FMX, List.mem_cons, List.not_mem_nil, or_false]; omega) (by simp only [List.mem_cons, List.not_mem_nil, or_false]; omega)
      refine ⟨?_, ?_, ?_⟩
      · unfold SI
        rw [hcx 62 (by decide), hcx 63 (by decide), hcx 64 (by decide), hcx 65 (by decide), hcx 66 (by decide), hcx 67 (by decide), hcx 68 (by decide), hcx 69 (by decide)]
        exact s1
      · unfold MN
        rw [hf 53 (by decide) (by decide), hf 54 (by decide) (by decide), hcx 112 (by decide), hcx 113 (by decide), hcx 114 (by decide), hcx 115 (by decide), hcx 116 (by decide), hcx 117 (by decide), hcx 118 (by decide), h84 1 (by decide)]
        exact s2
      · unfold SC
        rw [hf 53 (by decide) (by decide), hf 54 (by decide) (by decide), hcx 62 (by decide), hcx 63 (by decide), hcx 64 (by decide), hcx 65 (by decide), hcx 66 (by decide), hcx 67 (by decide), hcx 68 (by decide), hcx 112 (by decide), hcx 113 (by decide), hcx 114 (by decide), hcx 115 (by decide), hcx 116 (by decide), hcx 117 (by decide)]
        exact s3
    · have e01 : σ2.1 0 1 = 0 := by rw [hC1 0 (by decide), h01]
      refine ⟨by rw [e01]; decide, by rw [h2, e01], fun i p q => by rw [hcc 83 (by decide) (by decide)]; exact x3 i p q, fun i p q => by rw [e01] at q; omega, fun i p q => by rw [hcc 20 (by decide) (by decide)]; exact x5 i p q, ?_, g4 hMG, by rw [g28, hC1 19 (by decide), hf7], by rw [g29, hC1 19 (by decide), hf8], by rw [hf 44 (by decide) (by decide)]; exact x10, by rw [hf 45 (by decide) (by decide)]; exact x11⟩
      unfold DG
      rw [hC1 24 (by decide), hC1 25 (by decide), hC1 26 (by decide), hC1 27 (by decide), hC1 28 (by decide), hC1 29 (by decide), hC1 30 (by decide), hC1 31 (by decide), hC1 32 (by decide)]
      exact hDG
  | inr q =>
    rw [hlt] at hq hq'
    obtain ⟨δ, ts⟩ := q
    obtain ⟨ez, hO, hK, h40, h42, h5, h6, h7, h8, h9, h10, h627, h628, h62j, h566, h56j, h07, h0j, hf7, hf8⟩ := hq
    obtain ⟨ez', _, hP, B, hSt, hMT, hLo, hMGB, gF, gf, g28, g29, g42, g43, g53, g54⟩ := hq'
    have hO : DOk δ := hO
    have hK : TkR σ1 δ := hK
    have hLo : MLo B δ := hLo
    obtain ⟨sF, sO, s1, s2, s3, s4, s5⟩ := hSt
    have hB : ∀ a : Nat, a ∉ FMX → B.1 a = σ1.1 a := fun a q => by rw [(gF a q).1, sI_ne _ (by intro r; subst r; exact q (by decide))]
    have hσB : ∀ a : Nat, a ∉ ([82, 102, 103, 104, 105, 106, 107, 108] : List Nat) → σ2.1 a = B.1 a := fun a q => sF.c (a := a) q
    have hC1 : ∀ a : Nat, a < 82 → σ2.1 a = σ1.1 a := fun a q => by rw [hσB a (by simp only [List.mem_cons, List.not_mem_nil, or_false]; omega), hB a (by simp only [FMX, List.mem_cons, List.not_mem_nil, or_false]; omega)]
    have hC2 : ∀ a : Nat, a < 82 → σ2.2 a = σ1.2 a := fun a q => by
      rw [(sF.1 a (by simp only [List.mem_cons, List.not_mem_nil, or_false]; omega)).2, (gF a (by simp only [FMX, List.mem_cons, List.not_mem_nil, or_false]; omega)).2]
      rfl
    have hcc : ∀ a : Nat, a < 82 → a ∉ ([0, 2, 3, 4, 5, 6, 7, 8, 9, 10, 11, 12, 13, 14, 15, 16, 18, 19, 21, 22, 23, 24, 25, 26, 27, 28, 29, 30, 31, 32, 33, 34, 35, 36, 37, 39, 40, 41, 42, 43, 56, 62] : List Nat) → σ2.1 a = σ.1 a := fun a q w => by rw [hC1 a q, (hF a w).1]
    have hcm : ∀ a : Nat, 109 ≤ a ∨ a = 83 → σ2.1 a = σ.1 a := fun a q => by
      rw [hσB a (by simp only [List.mem_cons, List.not_mem_nil, or_false]; omega), (gF a (by simp only [FMX, List.mem_cons, List.not_mem_nil, or_false]; omega)).1, hs.1 a (by omega)]
    have f82 : ∀ j, σ2.1 82 j = B.1 82 j := fun j => sF.2 j (by simp)
    have fB : ∀ j, j ≠ 0 → j ∉ FTB → B.1 82 j = σ.1 82 j := fun j a b => by rw [gf j b, hs.2 j a]
    obtain ⟨⟨c0, c1, c2, c3, c4, c5, c6⟩, lb, lk, lc, lbb, ll, ln⟩ := id hLo
    obtain ⟨o0, o1, o2, o3, o4, o5, o6, o7, o8, o9, oc, ob, ok, og, ou, ow, ox, ot, oz, oy⟩ := id hO
    have hLo2 : MLo σ2 δ := by
      unfold MLo mKn mCode
      rw [hσB 84 (by decide), hσB 85 (by decide), hσB 86 (by decide), hσB 87 (by decide), hσB 88 (by decide), hσB 89 (by decide), hσB 90 (by decide), hσB 91 (by decide), hσB 92 (by decide), hσB 93 (by decide), hσB 94 (by decide), hσB 95 (by decide), hσB 96 (by decide), hσB 97 (by decide), hσB 98 (by decide), hσB 99 (by decide)]
      exact hLo
    have hA2 : RA σ2 := RA_text hO hP hK (fun a p q => hC1 a (by omega)) (hMT.cg (fun a p q => hσB a (by simp only [List.mem_cons, List.not_mem_nil, or_false]; omega))) hLo2
    have q2 : σ2.1 2 2 = δ 23 2 := by rw [hC1 2 (by decide)]; exact hK.1 2 (by decide) (by decide)
    have q3 : σ2.1 2 3 = δ 23 3 := by rw [hC1 2 (by decide)]; exact hK.1 3 (by decide) (by decide)
    refine ⟨by rw [ez', ez], hA2, ⟨?_, ?_, ?_, ?_, ?_⟩, ⟨?_, ?_, ?_, ?_⟩, ⟨?_, ?_, fun u a b => ?_, fun j a b => ?_⟩, ⟨?_, ?_, ?_⟩, ?_⟩
    · -- LI
      unfold LI
      rw [hC1 39 (by decide), hC1 (39 + 1) (by decide), hC1 (39 + 2) (by decide), hC1 (39 + 3) (by decide), hC1 (39 + 4) (by decide), hC2 39 (by decide), h5, h6, h7, h8, h9, h10]
      have o7' : 0 ≤ δ 23 7 ∧ δ 23 7 ≤ 99999 := o7
      refine ⟨fun i p q => ?_, fun i p q => ?_, by decide, by decide, ?_, by decide, Or.inl rfl, Or.inl rfl⟩
      · have g := ok i p q
        rw [show σ1.1 (39 + 1) i = 0 from (h40 i p q).1, show σ1.1 (39 + 2) i = δ 33 i from (h40 i p q).2]
        exact ⟨by decide, by decide, g.1, g.2⟩
      · have g := oc i p q
        rw [show σ1.1 (39 + 3) i = δ 27 i from (h42 i p q).1, show σ1.1 (39 + 4) i = 0 from (h42 i p q).2]
        exact ⟨g.1, g.2.1, by decide, by decide⟩
      · show 0 ≤ δ 23 7 ∧ δ 23 7 ≤ 2147483647
        omega
    · -- MI
      refine ⟨fun i p q => ?_, fun i p q => ?_, ?_⟩
      · rw [(s1 i p q).1, (s1 i p q).2]
        have g := ok i p q
        refine ⟨by decide, by decide, ?_⟩
        split
        · rw [lk i p q]; exact g
        · decide
      · rw [(s2 i p q).1, (s2 i p q).2]
        have g := hMT.2.2.2.2.2.2.2.2.1 i p q
        refine ⟨?_, ?_, by decide, by decide⟩
        · split
          · exact g.1
          · decide
        · split
          · exact g.2.1
          · decide
      · rw [s3, s4, s5, c5]
        exact ⟨by decide, by decide, o7.1, by have := o7.2; omega⟩
    · rw [hC1 39 (by decide), h6]; decide
    · rw [hC1 39 (by decide)]; exact ⟨h8, h9, h10⟩
    · unfold LdR
      rw [q2, q3]
      refine ⟨⟨fun i p q => ?_, fun i p q => ?_, ?_, ?_⟩, fun i p q => ?_, ?_⟩
      · show σ2.1 40 i = mF σ2 0 i
        rw [(s1 i p (by omega)).1, hC1 40 (by decide), (h40 i p (by omega)).1]
      · show σ2.1 42 i = mL σ2 0 i ∧ σ2.1 43 i = mD σ2 0 i
        rw [(s2 i p (by omega)).1, (s2 i p (by omega)).2, hC1 42 (by decide), hC1 43 (by decide), (h42 i p (by omega)).1, (h42 i p (by omega)).2, if_pos (by rw [c2]; exact q), (lc i p q).2.1]
        exact ⟨rfl, rfl⟩
      · show σ2.1 39 5 = σ2.1 104 0
        rw [s3, hC1 39 (by decide), h5]
      · show σ2.1 39 6 = σ2.1 102 0
        rw [s4, hC1 39 (by decide), h6]
      · show σ2.1 41 i = mK σ2 0 i
        rw [(s1 i p (by omega)).2, hC1 41 (by decide), (h40 i p (by omega)).2, if_pos (by rw [c1]; exact q), lk i p (by omega)]
      · rw [hC2 39 (by decide), s5, c5]
        exact h7
    · rw [hC1 0 (by decide), h07]; exact Or.inl rfl
    · rw [f82, g42, hC1 0 (by decide), h07]
    · exact hG.2.2.1.cg (fun a p q => hcc a (by omega) (by simp only [List.mem_cons, List.not_mem_nil, or_false]; omega)) (by rw [hC2 49 (by decide), (hF 49 (by decide)).2])
    · rw [hC1 0 (by decide), h07]
      intro w
      exact absurd w (by decide)
    · obtain ⟨d1, d2, d3⟩ := hR.di
      unfold DI
      rw [hcc 57 (by decide) (by decide), hcc 58 (by decide) (by decide), hcc 59 (by decide) (by decide), hcc 60 (by decide) (by decide), hcc 61 (by decide) (by decide), hC1 56 (by decide), h566, h56j 5 (by decide)]
      exact ⟨d1, by decide, d3⟩
    · rw [f82, g43, hC1 56 (by decide), h566]
    · rw [hC1 56 (by decide), h566] at b
      omega
    · rw [hC1 56 (by decide), h566] at b
      omega
    · obtain ⟨a1, a2, a3, a4⟩ := hR.si
      unfold SI
      rw [hC1 62 (by decide), h627, h628, hcc 63 (by decide) (by decide), hcc 64 (by decide) (by decide), hcc 65 (by decide) (by decide), hcc 66 (by decide) (by decide), hcc 67 (by decide) (by decide), hcc 68 (by decide) (by decide), hcc 69 (by decide) (by decide)]
      exact ⟨by decide, by decide, a3, fun k p q => by omega⟩
    · obtain ⟨a1, a2, a3, a4, a5⟩ := hR.mn
      unfold MN
      rw [f82, f82, g53, g54, hcm 112 (by decide), hcm 113 (by decide), hcm 114 (by decide), hcm 115 (by decide), hcm 116 (by decide), hcm 117 (by decide), hcm 118 (by decide)]
      exact ⟨by decide, by decide, a3, fun k p q => by omega, fun k p q => by omega⟩
    · unfold SC
      rw [f82, f82, g53, g54, hC1 62 (by decide), h627, h628]
      exact ⟨rfl, rfl, fun k p q => by omega⟩
    · have e01 : σ2.1 0 1 = 0 := by rw [hC1 0 (by decide), h01]
      refine ⟨by rw [e01]; decide, by rw [h2, e01], fun i p q => by rw [hcm 83 (by decide)]; exact x3 i p q, fun i p q => by rw [e01] at q; omega, fun i p q => by rw [hcc 20 (by decide) (by decide)]; exact x5 i p q, ?_, hMGB.cg (fun a p q => hσB a (by simp only [List.mem_cons, List.not_mem_nil, or_false]; omega)), by rw [f82, g28, hC1 19 (by decide), hf7], by rw [f82, g29, hC1 19 (by decide), hf8], by rw [f82, fB 44 (by decide) (by decide)]; exact x10, by rw [f82, fB 45 (by decide) (by decide)]; exact x11⟩
      unfold DG
      rw [hC1 24 (by decide), hC1 25 (by decide), hC1 26 (by decide), hC1 27 (by decide), hC1 28 (by decide), hC1 29 (by decide), hC1 30 (by decide), hC1 31 (by decide), hC1 32 (by decide)]
      exact hDG

