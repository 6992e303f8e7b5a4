theorem uf_id (f : Int → Int) (s : Int) : uf f s (f s) = f := by
  funext i
  unfold uf
  by_cases q : i = s
  · rw [if_pos q, q]
  · rw [if_neg q]

set_option maxHeartbeats 2000000 in
theorem st_bake {G : Gx} {σ : Sg} {p w v : Int} (hR : Rel σ) (hp : R32 p) (hw : R32 w) (hv : R32 v) : Con G 3 mX11_bake [.ref (G.2.2.2 + 0), .int (iZ p), .int (iZ w), .int (iZ v)] σ (pI (fun z σ1 => Con G 3 mX12_bake [.ref (G.2.2.2 + 82), .int (iZ p), .int (iZ w), .int (iZ v)] σ1 (pI (fun z' σ2 => z' = z ∧ Rel σ2)))) := by
  refine Con_mono (c_X11_bake hR.ti hR.li hR.di hp hw hv) (fun ro σ1 hq => ?_)
  obtain ⟨z, er, hq⟩ := hq
  refine ⟨z, er, ?_⟩
  have hs : SM σ (sI σ1 82 0 0) := by
    rcases hq with ⟨_, _, e⟩ | ⟨_, _, e⟩
    · rw [e]; exact SM.rf σ
    · rw [e]; exact SM.of (C := [41, 56, 57, 58, 59, 60, 61]) (((nF_c σ _ _).1.mono (by decide)).sI (by decide) _ _) (by decide)
  have e43 := hs.2 43 (by decide)
  have h43 := hR.h43
  have hdi := hR.di.2.1
  refine Con_mono (c_X12_bake rfl (hs.mt hR.mt) (hs.mi hR.mi) (by omega) (by omega) hp hw hv) (fun ro' σ2 hq' => ?_)
  obtain ⟨z', er', hq'⟩ := hq'
  refine ⟨z', er', ?_⟩
  rw [hs.1 84 (by decide), hR.c1, hs.mK] at hq'
  have hkk : ((0 ≤ p ∧ p < σ.1 2 2) ∧ (0 ≤ w ∧ w < 4) ∧ 0 ≤ v ∧ v ≤ 9 ∧ σ.1 41 (4 * p + w) ≠ v) ↔ ((0 ≤ p ∧ p < σ.1 2 2) ∧ (0 ≤ w ∧ w < 4) ∧ 0 ≤ v ∧ v ≤ 9 ∧ mK σ 0 (4 * p + w) ≠ v) := by
    constructor
    · rintro ⟨a, b, c, d, e⟩; exact ⟨a, b, c, d, by rw [← hR.cak (by omega) (by omega)]; exact e⟩
    · rintro ⟨a, b, c, d, e⟩; exact ⟨a, b, c, d, by rw [hR.cak (by omega) (by omega)]; exact e⟩
  rcases hq with ⟨k, ez, e⟩ | ⟨k, ez, e1⟩
  · rcases hq' with ⟨_, ez', e'⟩ | ⟨k', _⟩
    · rw [e', e, ez, ez']; exact ⟨rfl, hR.th⟩
    · exact absurd (hkk.2 k') k
  rcases hq' with ⟨k', _⟩ | ⟨_, ez', τ, hK, e2⟩
  · exact absurd (hkk.1 k) k'
  obtain ⟨s, hsd⟩ : ∃ s, 4 * p + w = s := ⟨_, rfl⟩
  rw [hsd] at e1 e2
  have hn4 := hR.n4
  have s0 : 0 ≤ s := by omega
  have s1 : s < 4 * σ.1 2 2 := by omega
  obtain ⟨hnF, n57, n58, n59, n60, n61⟩ := nF_c σ s (-1)
  obtain ⟨n6, n5⟩ := nF_56 σ s (-1) hdi.2
  obtain ⟨kF, k43, kL, k0, ku⟩ := hK
  rw [e43, h43] at k43 kL k0
  have hoth : Oth τ σ2 0 := by rw [e2]; exact (Oth.rf τ 0).s16 (by decide) s0 (by omega) v
  have hl : ∀ u, u ≠ 0 → ldm σ2 u = ldm τ u := fun u q => hoth.ld q
  have hC1 : ∀ a : Nat, a < 82 → σ2.1 a = σ1.1 a := fun a q => by
    rw [e2, sI_ne _ (by omega), kF.c (a := a) (by simp only [List.mem_cons, List.not_mem_nil, or_false]; omega), sI_ne _ (by omega)]
  have hC2 : σ2.2 39 7 = σ.2 39 7 := by
    rw [e2]
    show τ.2 39 7 = _
    rw [(kF.1 39 (by decide)).2, e1]
    show (nF σ s (-1)).2 39 7 = _
    rw [(hnF 39 (by decide)).2]
  have hcc : ∀ a : Nat, a < 82 → a ∉ [41, 56, 57, 58, 59, 60, 61] → σ2.1 a = σ.1 a := fun a q w => by
    rw [hC1 a q, e1, sI_ne _ (by intro r; subst r; exact w (by decide)), (hnF a (by simp only [List.mem_cons, List.not_mem_nil, or_false] at w ⊢; omega)).1]
  have g41 : σ2.1 41 = uf (σ.1 41) s v := by rw [hC1 41 (by decide), e1, sI_uf, (hnF 41 (by decide)).1]
  have gd : ∀ a : Nat, 56 ≤ a → a ≤ 61 → σ2.1 a = (nF σ s (-1)).1 a := fun a q w => by rw [hC1 a (by omega), e1, sI_ne _ (by omega)]
  have t0 : ldm τ 0 = ldm σ 0 := by rw [ku 0 (by decide), hs.ld]
  obtain ⟨l1, l2, l3, l4, l5⟩ := ldm_out t0
  have hm1 : ∀ i, 0 ≤ i → i < 16 → mF σ2 0 i = mF σ 0 i ∧ mK σ2 0 i = uf (mK σ 0) s v i := fun i a b => by
    rw [e2]
    constructor
    · show (sI τ 106 (16 * 0 + s) v).1 105 (16 * 0 + i) = mF σ 0 i
      rw [sI_ne _ (by decide)]; exact (l1 i a b).1
    · show (sI τ 106 (16 * 0 + s) v).1 106 (16 * 0 + i) = uf (mK σ 0) s v i
      rw [sI_1]
      unfold uf
      by_cases q : i = s
      · rw [if_pos ⟨rfl, by omega⟩, if_pos q]
      · rw [if_neg (fun r => q (by have := r.2; omega)), if_neg q]; exact (l1 i a b).2
  have hm2 : ∀ i, 0 ≤ i → i < 6 → mL σ2 0 i = mL σ 0 i ∧ mD σ2 0 i = mD σ 0 i := fun i a b => by
    rw [← (l2 i a b).1, ← (l2 i a b).2, e2]
    unfold mL mD
    rw [sI_ne _ (by decide), sI_ne _ (by decide)]
    exact ⟨rfl, rfl⟩
  have hm3 : σ2.1 104 0 = σ.1 104 0 ∧ σ2.1 102 0 = σ.1 102 0 ∧ σ2.1 103 0 = σ.1 103 0 := by
    rw [e2, sI_ne _ (by decide), sI_ne _ (by decide), sI_ne _ (by decide)]
    exact ⟨l3, l4, l5⟩
  have hf : ∀ j, j ≠ 0 → j ≠ 43 → σ2.1 82 j = σ.1 82 j := fun j a b => by
    rw [e2, sI_ne _ (by decide), kF.2 j (by simp only [List.mem_cons, List.not_mem_nil, or_false]; exact b), hs.2 j a]
  have hvb : 0 ≤ v ∧ v ≤ 9 := by exact ⟨k.2.2.1, k.2.2.2.1⟩
  have hRel : Rel σ2 := by
    refine hR.nu ?_ (fun j hj => ?_) ?_ ⟨?_, ?_, ?_, ?_, ?_⟩ (RU_note (s := s) (c := -1) (a := σ.1 40 s) (b := v) (t := 0) hR s0 (by omega) (by decide) (by decide) (hcc 2 (by decide) (by decide)) ?_ ?_ (by rw [if_pos rfl]; exact hcc 43 (by decide) (by decide)) (hcc 42 (by decide) (by decide)) (by rw [hcc 39 (by decide) (by decide)]; exact ⟨rfl, rfl⟩) hC2 (by rw [gd 57 (by decide) (by decide)]; exact n57) (by rw [gd 58 (by decide) (by decide)]; exact n58) (by rw [gd 59 (by decide) (by decide)]; exact n59) (by rw [gd 60 (by decide) (by decide)]; exact n60) (by rw [gd 61 (by decide) (by decide)]; exact n61) (by rw [gd 56 (by decide) (by decide)]; exact n6) (by rw [gd 56 (by decide) (by decide)]; exact n5) ?_ (fun j a b => ?_) ?_)
    · rw [e2]
      refine (Fr.tr (σ' := sI σ1 82 0 0) ?_ (kF.1.mono (by decide))).sI (by decide) _ _
      rw [e1]
      exact ((hnF.mono (by decide)).sI (by decide) _ _).sI (by decide) _ _
    · simp only [List.mem_cons, List.not_mem_nil, or_false] at hj
      exact hf j (by omega) (by omega)
    · rw [hl 2 (by decide), ku 2 (by decide), hs.ld]
    · obtain ⟨i1, i2, i3⟩ := hR.li
      unfold LI
      rw [hC2]
      rw [hcc 39 (by decide) (by decide), hcc (39 + 3) (by decide) (by decide), hcc (39 + 4) (by decide) (by decide), hcc (39 + 1) (by decide) (by decide), show σ2.1 (39 + 2) = uf (σ.1 41) s v from g41]
      refine ⟨fun i a b => ?_, i2, i3⟩
      have g := i1 i a b
      unfold uf
      by_cases q : i = s
      · rw [if_pos q]; exact ⟨g.1, g.2.1, hvb.1, hvb.2⟩
      · rw [if_neg q]; exact g
    · obtain ⟨i1, i2, i3⟩ := hR.mi
      refine ⟨fun i a b => ?_, fun i a b => ?_, by rw [hm3.1, hm3.2.1, hm3.2.2]; exact i3⟩
      · rw [(hm1 i a b).1, (hm1 i a b).2]
        have g := i1 i a b
        unfold uf
        by_cases q : i = s
        · rw [if_pos q]; exact ⟨g.1, g.2.1, hvb.1, hvb.2⟩
        · rw [if_neg q]; exact g
      · rw [(hm2 i a b).1, (hm2 i a b).2]; exact i2 i a b
    · rw [hcc 39 (by decide) (by decide)]; exact hR.y98
    · rw [hcc 39 (by decide) (by decide)]; exact hR.2.1.2.2.2.1
    · unfold LdR
      rw [hcc 2 (by decide) (by decide)]
      refine ⟨⟨fun i a b => ?_, fun i a b => ?_, ?_, ?_⟩, fun i a b => ?_, ?_⟩
      · show σ2.1 40 i = mF σ2 0 i
        rw [(hm1 i a (by omega)).1, hcc 40 (by decide) (by decide)]; exact hR.far a b
      · show σ2.1 42 i = mL σ2 0 i ∧ σ2.1 43 i = mD σ2 0 i
        rw [(hm2 i a (by have := hR.n6; omega)).1, (hm2 i a (by have := hR.n6; omega)).2, hcc 42 (by decide) (by decide), hcc 43 (by decide) (by decide)]
        exact ⟨hR.leg a b, hR.tir a b⟩
      · show σ2.1 39 5 = σ2.1 104 0
        rw [hm3.1, hcc 39 (by decide) (by decide)]; exact hR.qua
      · show σ2.1 39 6 = σ2.1 102 0
        rw [hm3.2.1, hcc 39 (by decide) (by decide)]; exact hR.yea
      · show σ2.1 41 i = mK σ2 0 i
        rw [(hm1 i a (by omega)).2, g41]
        exact uf_eq (hR.cak a b) rfl
      · rw [hC2, hm3.2.2]; exact hR.num
    · rw [hcc 40 (by decide) (by decide), uf_id]
    · exact g41
    · rw [e2, sI_ne _ (by decide)]; exact k43
    · rw [hl _ (by omega), kL j a b, hs.ld]
    · rw [hl _ (by omega), k0, hs.ld]
  exact ⟨by rw [ez', ez], hRel⟩

set_option maxHeartbeats 2000000 in
theorem st_carry {G : Gx} {σ : Sg} {p w v : Int} (hR : Rel σ) (hp : R32 p) (hw : R32 w) (hv : R32 v) : Con G 3 mX11_carry [.ref (G.2.2.2 + 0), .int (iZ p), .int (iZ w), .int (iZ v)] σ (pI (fun z σ1 => Con G 4 mX12_carry [.ref (G.2.2.2 + 82), .int (iZ p), .int (iZ w), .int (iZ v)] σ1 (pI (fun z' σ2 => z' = z ∧ Rel σ2)))) := by
  refine Con_mono (c_X11_carry hR.ti hR.li hR.di hp hw hv) (fun ro σ1 hq => ?_)
  obtain ⟨z, er, hq⟩ := hq
  refine ⟨z, er, ?_⟩
  have hs : SM σ (sI σ1 82 0 0) := by
    rcases hq with ⟨_, _, e⟩ | ⟨_, _, e⟩
    · rw [e]; exact SM.rf σ
    · rw [e]; exact SM.of (C := [40, 56, 57, 58, 59, 60, 61]) (((nF_c σ _ _).1.mono (by decide)).sI (by decide) _ _) (by decide)
  have e43 := hs.2 43 (by decide)
  have h43 := hR.h43
  have hdi := hR.di.2.1
  refine Con_mono (c_X12_carry rfl (hs.mt hR.mt) (hs.mi hR.mi) (by omega) (by omega) hp hw hv) (fun ro' σ2 hq' => ?_)
  obtain ⟨z', er', hq'⟩ := hq'
  refine ⟨z', er', ?_⟩
  rw [hs.1 84 (by decide), hR.c1, hs.1 86 (by decide), hs.1 87 (by decide), hR.c0, hs.mF] at hq'
  have hge : 0 ≤ p → p < σ.1 2 2 → gEdge (σ.1 86) (σ.1 87) (σ.1 2 0) p w = gEdge (σ.1 3) (σ.1 4) (σ.1 2 0) p w := fun a b => by
    unfold gEdge
    rw [(hR.rc a b).1, (hR.rc a b).2]
  have hkk : ((0 ≤ p ∧ p < σ.1 2 2) ∧ (0 ≤ w ∧ w < 4) ∧ 0 ≤ v ∧ v ≤ gEdge (σ.1 3) (σ.1 4) (σ.1 2 0) p w ∧ σ.1 40 (4 * p + w) ≠ v) ↔ ((0 ≤ p ∧ p < σ.1 2 2) ∧ (0 ≤ w ∧ w < 4) ∧ 0 ≤ v ∧ v ≤ gEdge (σ.1 86) (σ.1 87) (σ.1 2 0) p w ∧ mF σ 0 (4 * p + w) ≠ v) := by
    constructor
    · rintro ⟨a, b, c, d, e⟩; exact ⟨a, b, c, by rw [hge a.1 a.2]; exact d, by rw [← hR.far (by omega) (by omega)]; exact e⟩
    · rintro ⟨a, b, c, d, e⟩; exact ⟨a, b, c, by rw [← hge a.1 a.2]; exact d, by rw [hR.far (by omega) (by omega)]; exact e⟩
  rcases hq with ⟨k, ez, e⟩ | ⟨k, ez, e1⟩
  · rcases hq' with ⟨_, ez', e'⟩ | ⟨k', _⟩
    · rw [e', e, ez, ez']; exact ⟨rfl, hR.th⟩
    · exact absurd (hkk.2 k') k
  rcases hq' with ⟨k', _⟩ | ⟨_, ez', τ, hK, e2⟩
  · exact absurd (hkk.1 k) k'
  obtain ⟨s, hsd⟩ : ∃ s, 4 * p + w = s := ⟨_, rfl⟩
  rw [hsd] at e1 e2
  have hn4 := hR.n4
  have s0 : 0 ≤ s := by omega
  have s1 : s < 4 * σ.1 2 2 := by omega
  obtain ⟨hnF, n57, n58, n59, n60, n61⟩ := nF_c σ s (-1)
  obtain ⟨n6, n5⟩ := nF_56 σ s (-1) hdi.2
  obtain ⟨kF, k43, kL, k0, ku⟩ := hK
  rw [e43, h43] at k43 kL k0
  have hoth : Oth τ σ2 0 := by rw [e2]; exact (Oth.rf τ 0).s16 (by decide) s0 (by omega) v
  have hl : ∀ u, u ≠ 0 → ldm σ2 u = ldm τ u := fun u q => hoth.ld q
  have hC1 : ∀ a : Nat, a < 82 → σ2.1 a = σ1.1 a := fun a q => by
    rw [e2, sI_ne _ (by omega), kF.c (a := a) (by simp only [List.mem_cons, List.not_mem_nil, or_false]; omega), sI_ne _ (by omega)]
  have hC2 : σ2.2 39 7 = σ.2 39 7 := by
    rw [e2]
    show τ.2 39 7 = _
    rw [(kF.1 39 (by decide)).2, e1]
    show (nF σ s (-1)).2 39 7 = _
    rw [(hnF 39 (by decide)).2]
  have hcc : ∀ a : Nat, a < 82 → a ∉ [40, 56, 57, 58, 59, 60, 61] → σ2.1 a = σ.1 a := fun a q w => by
    rw [hC1 a q, e1, sI_ne _ (by intro r; subst r; exact w (by decide)), (hnF a (by simp only [List.mem_cons, List.not_mem_nil, or_false] at w ⊢; omega)).1]
  have g40 : σ2.1 40 = uf (σ.1 40) s v := by rw [hC1 40 (by decide), e1, sI_uf, (hnF 40 (by decide)).1]
  have gd : ∀ a : Nat, 56 ≤ a → a ≤ 61 → σ2.1 a = (nF σ s (-1)).1 a := fun a q w => by rw [hC1 a (by omega), e1, sI_ne _ (by omega)]
  have t0 : ldm τ 0 = ldm σ 0 := by rw [ku 0 (by decide), hs.ld]
  obtain ⟨l1, l2, l3, l4, l5⟩ := ldm_out t0
  have hm1 : ∀ i, 0 ≤ i → i < 16 → mF σ2 0 i = uf (mF σ 0) s v i ∧ mK σ2 0 i = mK σ 0 i := fun i a b => by
    rw [e2]
    constructor
    · show (sI τ 105 (16 * 0 + s) v).1 105 (16 * 0 + i) = uf (mF σ 0) s v i
      rw [sI_1]
      unfold uf
      by_cases q : i = s
      · rw [if_pos ⟨rfl, by omega⟩, if_pos q]
      · rw [if_neg (fun r => q (by have := r.2; omega)), if_neg q]; exact (l1 i a b).1
    · show (sI τ 105 (16 * 0 + s) v).1 106 (16 * 0 + i) = mK σ 0 i
      rw [sI_ne _ (by decide)]; exact (l1 i a b).2
  have hm2 : ∀ i, 0 ≤ i → i < 6 → mL σ2 0 i = mL σ 0 i ∧ mD σ2 0 i = mD σ 0 i := fun i a b => by
    rw [← (l2 i a b).1, ← (l2 i a b).2, e2]
    unfold mL mD
    rw [sI_ne _ (by decide), sI_ne _ (by decide)]
    exact ⟨rfl, rfl⟩
  have hm3 : σ2.1 104 0 = σ.1 104 0 ∧ σ2.1 102 0 = σ.1 102 0 ∧ σ2.1 103 0 = σ.1 103 0 := by
    rw [e2, sI_ne _ (by decide), sI_ne _ (by decide), sI_ne _ (by decide)]
    exact ⟨l3, l4, l5⟩
  have hf : ∀ j, j ≠ 0 → j ≠ 43 → σ2.1 82 j = σ.1 82 j := fun j a b => by
    rw [e2, sI_ne _ (by decide), kF.2 j (by simp only [List.mem_cons, List.not_mem_nil, or_false]; exact b), hs.2 j a]
  have hvb : 0 ≤ v ∧ v ≤ 39 := by 
    refine ⟨k.2.2.1, ?_⟩
    have hb := k.2.2.2.1
    have ht := hR.ti.2.2.2.2.2.2.2.2.1 p (by omega) (by omega)
    have ht2 := hR.ti.2.2.2.2.2.2.2.2.2.1 p (by omega) (by omega)
    have hz := hR.ti.1
    unfold gEdge at hb
    split at hb
    · omega
    split at hb
    · omega
    split at hb <;> omega
  have hRel : Rel σ2 := by
    refine hR.nu ?_ (fun j hj => ?_) ?_ ⟨?_, ?_, ?_, ?_, ?_⟩ (RU_note (s := s) (c := -1) (a := v) (b := σ.1 41 s) (t := 0) hR s0 (by omega) (by decide) (by decide) (hcc 2 (by decide) (by decide)) ?_ ?_ (by rw [if_pos rfl]; exact hcc 43 (by decide) (by decide)) (hcc 42 (by decide) (by decide)) (by rw [hcc 39 (by decide) (by decide)]; exact ⟨rfl, rfl⟩) hC2 (by rw [gd 57 (by decide) (by decide)]; exact n57) (by rw [gd 58 (by decide) (by decide)]; exact n58) (by rw [gd 59 (by decide) (by decide)]; exact n59) (by rw [gd 60 (by decide) (by decide)]; exact n60) (by rw [gd 61 (by decide) (by decide)]; exact n61) (by rw [gd 56 (by decide) (by decide)]; exact n6) (by rw [gd 56 (by decide) (by decide)]; exact n5) ?_ (fun j a b => ?_) ?_)
    · rw [e2]
      refine (Fr.tr (σ' := sI σ1 82 0 0) ?_ (kF.1.mono (by decide))).sI (by decide) _ _
      rw [e1]
      exact ((hnF.mono (by decide)).sI (by decide) _ _).sI (by decide) _ _
    · simp only [List.mem_cons, List.not_mem_nil, or_false] at hj
      exact hf j (by omega) (by omega)
    · rw [hl 2 (by decide), ku 2 (by decide), hs.ld]
    · obtain ⟨i1, i2, i3⟩ := hR.li
      unfold LI
      rw [hC2]
      rw [hcc 39 (by decide) (by decide), hcc (39 + 3) (by decide) (by decide), hcc (39 + 4) (by decide) (by decide), hcc (39 + 2) (by decide) (by decide), show σ2.1 (39 + 1) = uf (σ.1 40) s v from g40]
      refine ⟨fun i a b => ?_, i2, i3⟩
      have g := i1 i a b
      unfold uf
      by_cases q : i = s
      · rw [if_pos q]; exact ⟨hvb.1, hvb.2, g.2.2.1, g.2.2.2⟩
      · rw [if_neg q]; exact g
    · obtain ⟨i1, i2, i3⟩ := hR.mi
      refine ⟨fun i a b => ?_, fun i a b => ?_, by rw [hm3.1, hm3.2.1, hm3.2.2]; exact i3⟩
      · rw [(hm1 i a b).1, (hm1 i a b).2]
        have g := i1 i a b
        unfold uf
        by_cases q : i = s
        · rw [if_pos q]; exact ⟨hvb.1, hvb.2, g.2.2.1, g.2.2.2⟩
        · rw [if_neg q]; exact g
      · rw [(hm2 i a b).1, (hm2 i a b).2]; exact i2 i a b
    · rw [hcc 39 (by decide) (by decide)]; exact hR.y98
    · rw [hcc 39 (by decide) (by decide)]; exact hR.2.1.2.2.2.1
    · unfold LdR
      rw [hcc 2 (by decide) (by decide)]
      refine ⟨⟨fun i a b => ?_, fun i a b => ?_, ?_, ?_⟩, fun i a b => ?_, ?_⟩
      · show σ2.1 40 i = mF σ2 0 i
        rw [(hm1 i a (by omega)).1, g40]
        exact uf_eq (hR.far a b) rfl
      · show σ2.1 42 i = mL σ2 0 i ∧ σ2.1 43 i = mD σ2 0 i
        rw [(hm2 i a (by have := hR.n6; omega)).1, (hm2 i a (by have := hR.n6; omega)).2, hcc 42 (by decide) (by decide), hcc 43 (by decide) (by decide)]
        exact ⟨hR.leg a b, hR.tir a b⟩
      · show σ2.1 39 5 = σ2.1 104 0
        rw [hm3.1, hcc 39 (by decide) (by decide)]; exact hR.qua
      · show σ2.1 39 6 = σ2.1 102 0
        rw [hm3.2.1, hcc 39 (by decide) (by decide)]; exact hR.yea
      · show σ2.1 41 i = mK σ2 0 i
        rw [(hm1 i a (by omega)).2, hcc 41 (by decide) (by decide)]; exact hR.cak a b
      · rw [hC2, hm3.2.2]; exact hR.num
    · exact g40
    · rw [hcc 41 (by decide) (by decide), uf_id]
    · rw [e2, sI_ne _ (by decide)]; exact k43
    · rw [hl _ (by omega), kL j a b, hs.ld]
    · rw [hl _ (by omega), k0, hs.ld]
  exact ⟨by
    rw [ez', ez, an_ar hRel (by omega) (by rw [hcc 2 (by decide) (by decide)]; omega), hC1 3 (by decide), hC1 4 (by decide), hC1 40 (by decide)], hRel⟩

set_option maxHeartbeats 4000000 in
theorem st_beat {G : Gx} {σ : Sg} {p c w : Int} (hR : Rel σ) (hp : R32 p) (hc : R32 c) (hw : R32 w) : Con G 5 mX11_beat [.ref (G.2.2.2 + 0), .int (iZ p), .int (iZ c), .int (iZ w)] σ (pI (fun z σ1 => Con G 7 mX12_beat [.ref (G.2.2.2 + 82), .int (iZ p), .int (iZ c), .int (iZ w)] σ1 (pI (fun z' σ2 => z' = z ∧ Rel σ2)))) := by
  refine Con_mono (c_X11_beat hR.ti hR.lw hR.li hR.di hp hc hw) (fun ro σ1 hq => ?_)
  obtain ⟨z, er, hq⟩ := hq
  refine ⟨z, er, ?_⟩
  have hs : SM σ (sI σ1 82 0 0) := by
    rcases hq with ⟨_, _, e⟩ | ⟨_, _, hL⟩
    · rw [e]; exact SM.rf σ
    · exact SM.of (C := [17, 39, 40, 42, 43, 55, 56, 57, 58, 59, 60, 61]) (((nF_c σ _ _).1.mono (by decide)).tr (hL.1.mono (by decide))) (by decide)
  have e43 := hs.2 43 (by decide)
  have h43 := hR.h43
  have hdi := hR.di.2.1
  refine Con_mono (c_X12_beat rfl (hs.mt hR.mt) (hs.mw hR.mw) (hs.mi hR.mi) (by rw [hs.2 44 (by decide)]; exact hR.x44) (by omega) (by omega) hp hc hw) (fun ro' σ2 hq' => ?_)
  obtain ⟨z', er', hq'⟩ := hq'
  refine ⟨z', er', ?_⟩
  rw [hs.1 84 (by decide), hR.c1, hR.c2] at hq'
  rcases hq with ⟨k, ez, e⟩ | ⟨k, ez, hL⟩
  · rcases hq' with ⟨_, ez', e'⟩ | ⟨k', _⟩
    · rw [e', e, ez, ez']; exact ⟨rfl, hR.th⟩
    · exact absurd k' k
  rcases hq' with ⟨k', _⟩ | ⟨_, ez', τ, hK, hM⟩
  · exact absurd k k'
  obtain ⟨s, hsd⟩ : ∃ s, 4 * p + w = s := ⟨_, rfl⟩
  rw [hsd] at ez ez' hL hM
  have hn4 := hR.n4
  have hn6 := hR.n6
  have s0 : 0 ≤ s := by omega
  have s1 : s < 4 * σ.1 2 2 := by omega
  obtain ⟨hnF, n57, n58, n59, n60, n61⟩ := nF_c σ s c
  obtain ⟨n6, n5⟩ := nF_56 σ s c hdi.2
  obtain ⟨kF, k43, kL, k0, ku⟩ := hK
  rw [e43, h43] at k43 kL k0
  obtain ⟨f1, f2, f3, f4, f5⟩ := hL
  obtain ⟨m1, m2, m3, m4, -⟩ := hM
  have hl : ∀ u, u ≠ 0 → ldm σ2 u = ldm τ u := fun u q => m3.ld q
  have nc : ∀ a : Nat, a ∉ [56, 57, 58, 59, 60, 61] → (nF σ s c).1 a = σ.1 a := fun a q => (hnF a q).1
  have hC1 : ∀ a : Nat, a < 82 → σ2.1 a = σ1.1 a := fun a q => by
    rw [m1.c (a := a) (by simp only [List.mem_cons, List.not_mem_nil, or_false]; omega), kF.c (a := a) (by simp only [List.mem_cons, List.not_mem_nil, or_false]; omega), sI_ne _ (by omega)]
  have hC2 : σ2.2 39 = σ.2 39 := by
    rw [(m1.1 39 (by decide)).2, (kF.1 39 (by decide)).2]
    show σ1.2 39 = _
    rw [f4, (hnF 39 (by decide)).2]
  have hcc : ∀ a : Nat, a < 82 → a ∉ [17, 39, 40, 42, 43, 55, 56, 57, 58, 59, 60, 61] → σ2.1 a = σ.1 a := fun a q w => by
    rw [hC1 a q, (f1 a (by simp only [List.mem_cons, List.not_mem_nil, or_false] at w ⊢; omega)).1, nc a (by simp only [List.mem_cons, List.not_mem_nil, or_false] at w ⊢; omega)]
  have gd : ∀ a : Nat, 56 ≤ a → a ≤ 61 → σ2.1 a = (nF σ s c).1 a := fun a q w => by rw [hC1 a (by omega), (f1 a (by simp only [List.mem_cons, List.not_mem_nil, or_false]; omega)).1]
  -- the class's land
  have eV : lawV (nF σ s c) = lawV σ := by
    funext r nm
    exact lawV.fr hnF (by decide) (by decide) (by decide) r nm
  have eE : edS (nF σ s c) = edS σ := by
    funext t
    exact edS.fr hnF (fun a h1 h2 => by simp only [List.mem_cons, List.not_mem_nil, or_false]; omega) t
  have ey : ydv (nF σ s c) 39 = ydv σ 39 := by
    unfold ydv
    rw [nc 39 (by decide), nc (39 + 1) (by decide), nc (39 + 3) (by decide), nc (39 + 4) (by decide)]
  rw [eV, eE, ey, nc 2 (by decide), nc 7 (by decide), nc 41 (by decide), nc 39 (by decide), hR.2.1.2.2.2.1.2.1] at f2
  -- the model's land
  have t0 : ldm τ 0 = ldm σ 0 := by rw [ku 0 (by decide), hs.ld]
  obtain ⟨l1, l2, l3, l4, l5⟩ := ldm_out t0
  have hτ : ∀ a : Nat, 84 ≤ a → a ≤ 99 → τ.1 a = σ.1 a := fun a q w => by rw [kF.c (a := a) (by simp only [List.mem_cons, List.not_mem_nil, or_false]; omega), hs.1 a (by omega)]
  have τ44 : τ.1 82 44 = 0 := by rw [kF.2 44 (by decide), hs.2 44 (by decide)]; exact hR.x44
  have mV : mLaw τ = mLaw σ := by
    funext r nm
    unfold mLaw mCode
    rw [hτ 96 (by decide) (by decide), hτ 97 (by decide) (by decide), hτ 98 (by decide) (by decide), hτ 99 (by decide) (by decide)]
  have mE : mEd τ = mEd σ := by unfold mEd; rw [hτ 84 (by decide) (by decide), hτ 86 (by decide) (by decide), hτ 87 (by decide) (by decide)]
  have mT : mTl τ = 0 := by unfold mTl; rw [τ44]; rfl
  rw [mV, mE, mT, hτ 91 (by decide) (by decide), hτ 84 (by decide) (by decide), hR.c4] at m2
  have y0 : YR (σ.1 2 2) (σ.1 2 3) (ydv σ 39) (ydm τ 0) := hR.ld.1.tr ⟨fun i a b => (l1 i a (by omega)).1.symm, fun i a b => ⟨(l2 i a (by omega)).1.symm, (l2 i a (by omega)).2.symm⟩, l3.symm, l4.symm⟩
  have y1 := yLead_c (np := σ.1 2 2) (nc := σ.1 2 3) (TC_lv hR.tc) (mo := σ.1 7) (mo' := σ.1 91) (fun c a b => hR.mod a b) (ck := σ.1 41) (ck' := mCk τ 0) (fun t a b => by
    show σ.1 41 t = if τ.1 82 44 = 3 then 0 else mK τ 0 t
    rw [τ44, if_neg (by decide), (l1 t a (by omega)).2]
    exact hR.cak a b) (ed := edS σ) (ed' := mEd σ) (fun t a b => TC_ed hR.tc a b) y0 0 (if 50 ≤ σ.1 2 6 then 1 else 0) k.2.1.1 k.2.1.2 s0 s1
  rw [← f2, ← m2] at y1
  have g40 : σ2.1 40 = uf (σ.1 40) s (σ2.1 40 s) := by
    have h1 : σ1.1 40 = (ydv σ1 39).1 := rfl
    rw [hC1 40 (by decide), h1, f2]
    show uf (σ.1 40) s _ = uf (σ.1 40) s (uf (σ.1 40) s _ s)
    rw [uf_at]
  have g42 : σ2.1 42 = σ.1 42 := by
    have h1 : σ1.1 42 = (ydv σ1 39).2.1 := rfl
    rw [hC1 42 (by decide), h1, f2]
    rfl
  have g43 : σ2.1 43 = uf (σ.1 43) c (min (σ.1 43 c + 1) 99) := by
    have h1 : σ1.1 43 = (ydv σ1 39).2.2.1 := rfl
    rw [hC1 43 (by decide), h1, f2]
    rfl
  have g39 : σ2.1 39 = σ.1 39 := by
    funext j
    rw [hC1 39 (by decide)]
    by_cases q5 : j = 5
    · subst q5
      have h1 : σ1.1 39 5 = (ydv σ1 39).2.2.2.1 := rfl
      rw [h1, f2]
      rfl
    by_cases q6 : j = 6
    · subst q6
      have h1 : σ1.1 39 6 = (ydv σ1 39).2.2.2.2 := rfl
      rw [h1, f2]
      rfl
    rw [f3 j q5 q6, nc 39 (by decide)]
  have hf : ∀ j, j ≠ 0 → j ≠ 43 → j ≠ 34 → σ2.1 82 j = σ.1 82 j := fun j a b c => by
    rw [m1.2 j (by simp only [List.mem_cons, List.not_mem_nil, or_false]; exact c), kF.2 j (by simp only [List.mem_cons, List.not_mem_nil, or_false]; exact b), hs.2 j a]
  have e103 : σ2.1 103 0 = σ.1 103 0 := by rw [m1.c (a := 103) (by decide), l5]
  have e106 : ∀ i, 0 ≤ i → i < 16 → mK σ2 0 i = mK σ 0 i := fun i a b => by
    rw [← (l1 i a b).2]
    unfold mK
    rw [m1.c (a := 106) (by decide)]
  have y2 : YR (σ.1 2 2) (σ.1 2 3) (ydv σ2 39) (ydm σ2 0) := by
    have : ydv σ2 39 = ydv σ1 39 := by
      unfold ydv
      rw [hC1 39 (by decide), hC1 (39 + 1) (by decide), hC1 (39 + 3) (by decide), hC1 (39 + 4) (by decide)]
    rw [this]
    exact y1
  refine ⟨?_, ?_⟩
  · rw [ez', ez]
    have h1 : (ydv σ2 39).1 s = (ydm σ2 0).1 s := y2.1 s s0 s1
    have h2 : σ2.1 40 s = mF σ2 0 s := h1
    rw [← h2, hC1 40 (by decide)]
  · refine hR.nu ?_ (fun j hj => ?_) ?_ ⟨?_, m4, ?_, ?_, ?_⟩ (RU_note (s := s) (c := c) (a := σ2.1 40 s) (b := σ.1 41 s) (t := min (σ.1 43 c + 1) 99) hR s0 (by omega) (by omega) (by omega) (hcc 2 (by decide) (by decide)) g40 (by rw [hcc 41 (by decide) (by decide), uf_id]) (by rw [if_neg (by omega)]; exact g43) g42 (by rw [g39]; exact ⟨rfl, rfl⟩) (by rw [hC2]) (by rw [gd 57 (by decide) (by decide)]; exact n57) (by rw [gd 58 (by decide) (by decide)]; exact n58) (by rw [gd 59 (by decide) (by decide)]; exact n59) (by rw [gd 60 (by decide) (by decide)]; exact n60) (by rw [gd 61 (by decide) (by decide)]; exact n61) (by rw [gd 56 (by decide) (by decide)]; exact n6) (by rw [gd 56 (by decide) (by decide)]; exact n5) ?_ (fun j a b => ?_) ?_)
    · exact ((((hnF.mono (by decide)).tr (f1.mono (by decide))).sI (by decide) _ _).tr (kF.1.mono (by decide))).tr (m1.1.mono (by decide))
    · simp only [List.mem_cons, List.not_mem_nil, or_false] at hj
      exact hf j (by omega) (by omega) (by omega)
    · rw [hl 2 (by decide), ku 2 (by decide), hs.ld]
    · refine f5.cg (fun a p q => hC1 a (by omega)) ?_
      rw [(m1.1 39 (by decide)).2, (kF.1 39 (by decide)).2]
      rfl
    · rw [g39]; exact hR.y98
    · rw [g39]; exact hR.2.1.2.2.2.1
    · unfold LdR
      rw [hcc 2 (by decide) (by decide)]
      refine ⟨y2, fun i a b => ?_, ?_⟩
      · show σ2.1 41 i = mK σ2 0 i
        rw [e106 i a (by omega), hcc 41 (by decide) (by decide)]; exact hR.cak a b
      · rw [hC2, e103]; exact hR.num
    · rw [m1.2 43 (by decide)]; exact k43
    · rw [hl _ (by omega), kL j a b, hs.ld]
    · rw [hl _ (by omega), k0, hs.ld]

