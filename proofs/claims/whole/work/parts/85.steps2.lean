/-! ===== the model's own conditions, by its cells ===== -/
theorem MT.cg {σ τ : Sg} (h : MT σ) (hc : ∀ a : Nat, 84 ≤ a → a ≤ 95 → τ.1 a = σ.1 a) : MT τ := by
  unfold MT
  rw [hc 84 (by decide) (by decide), hc 85 (by decide) (by decide), hc 86 (by decide) (by decide), hc 87 (by decide) (by decide), hc 88 (by decide) (by decide), hc 89 (by decide) (by decide), hc 90 (by decide) (by decide), hc 91 (by decide) (by decide), hc 92 (by decide) (by decide), hc 93 (by decide) (by decide), hc 94 (by decide) (by decide), hc 95 (by decide) (by decide)]
  exact h
theorem MB.cg {σ τ : Sg} (h : MB σ) (hc : ∀ a : Nat, 84 ≤ a → a ≤ 95 → τ.1 a = σ.1 a) : MB τ := by
  unfold MB
  rw [hc 84 (by decide) (by decide), hc 92 (by decide) (by decide), hc 93 (by decide) (by decide)]
  exact h
theorem MW.cg {σ τ : Sg} (h : MW σ) (hc : ∀ a : Nat, 96 ≤ a → a ≤ 99 → τ.1 a = σ.1 a) : MW τ := by
  unfold MW mKn
  have e : mCode τ = mCode σ := by unfold mCode; rw [hc 98 (by decide) (by decide), hc 99 (by decide) (by decide)]
  rw [e, hc 96 (by decide) (by decide), hc 97 (by decide) (by decide), hc 98 (by decide) (by decide), hc 99 (by decide) (by decide)]
  exact h
theorem SM.ld {σ ρ : Sg} (h : SM σ ρ) (u : Int) : ldm ρ u = ldm σ u := by
  unfold ldm
  rw [h.mF, h.mK, h.mL, h.mD, h.1 102 (by decide), h.1 103 (by decide), h.1 104 (by decide)]
theorem SM.mt {σ ρ : Sg} (h : SM σ ρ) (q : MT σ) : MT ρ := q.cg (fun a p _ => h.1 a (by omega))
theorem SM.mb {σ ρ : Sg} (h : SM σ ρ) (q : MB σ) : MB ρ := q.cg (fun a p _ => h.1 a (by omega))
theorem SM.mw {σ ρ : Sg} (h : SM σ ρ) (q : MW σ) : MW ρ := q.cg (fun a p _ => h.1 a (by omega))
theorem SM.mi {σ ρ : Sg} (h : SM σ ρ) {s : Int} (q : MI σ s) : MI ρ s := q.ld (h.ld s)
theorem LdR.of {σ τ : Sg} {L L' : Nat} {s s' : Int} (h : LdR σ L s) (n4 : σ.1 2 2 ≤ 4) (n6 : σ.1 2 3 ≤ 6) (h2 : τ.1 2 = σ.1 2) (hc : ldv τ L' = ldv σ L) (hm : ldm τ s' = ldm σ s) : LdR τ L' s' := by
  obtain ⟨l1, l2, l3, l4, l5⟩ := ldm_out hm
  obtain ⟨c1, c2, c3⟩ := ldv_YR (np := σ.1 2 2) (nc := σ.1 2 3) hc n4 n6
  obtain ⟨y, k1, n1⟩ := h
  unfold LdR
  rw [h2]
  refine ⟨c1.tr (y.tr ⟨fun i a b => ?_, fun i a b => ?_, ?_, ?_⟩), fun i a b => ?_, ?_⟩
  · exact (l1 i a (by omega)).1.symm
  · exact ⟨(l2 i a (by omega)).1.symm, (l2 i a (by omega)).2.symm⟩
  · exact l3.symm
  · exact l4.symm
  · rw [c2 i a (by omega), k1 i a b, (l1 i a (by omega)).2]
  · rw [c3, n1, l5]
/-! ===== what is seen ===== -/
theorem Rel.rs {σ τ : Sg} (h : Rel σ) (hF : Fr [62, 63, 64, 65, 66, 67, 68, 69, 82, 112, 113, 114, 115, 116, 117, 118] σ τ) (hf : ∀ j, j ∈ ([2, 28, 29, 42, 43, 44, 45] : List Int) → τ.1 82 j = σ.1 82 j) (hS : RS τ) : Rel τ := by
  obtain ⟨hA, hN, hG, hU, -, hX⟩ := id h
  have hc : ∀ a : Nat, a ∉ [62, 63, 64, 65, 66, 67, 68, 69, 82, 112, 113, 114, 115, 116, 117, 118] → τ.1 a = σ.1 a := fun a q => (hF a q).1
  have hl : ∀ u, ldm τ u = ldm σ u := fun u => by
    unfold ldm mF mK mL mD
    rw [hc 102 (by decide), hc 103 (by decide), hc 104 (by decide), hc 105 (by decide), hc 106 (by decide), hc 107 (by decide), hc 108 (by decide)]
  refine ⟨hA.cg (fun a q => hc a ?_), hN.cg h.n4 h.n6 (hc 2 (by decide)) (fun a p q => hc a ?_) (by rw [(hF 39 (by decide)).2]) (hl 0), hG.cg h.n4 h.n6 (hc 2 (by decide)) (by rw [hc 0 (by decide)]) (hf 42 (by decide)) (fun a p q => hc a ?_) (by rw [(hF 49 (by decide)).2]) (hl 2), hU.cg h.n4 h.n6 (hc 2 (by decide)) (fun a q => hc a ?_) (by rw [(hF 39 (by decide)).2]) (hf 43 (by decide)) (fun u q => hl u), hS, hX.cg (fun a q => hc a ?_) (by rw [hc 0 (by decide)]) (by rw [hc 19 (by decide)]; exact ⟨rfl, rfl⟩) (fun j q => hf j ?_)⟩
  all_goals first | (simp only [List.mem_cons, List.not_mem_nil, or_false] at q ⊢; omega) | (simp only [List.mem_cons, List.not_mem_nil, or_false]; omega)
theorem st_known {G : Gx} {σ : Sg} {x : Int} (hR : Rel σ) (hx : R32 x) : Con G 2 mX11_known [.ref (G.2.2.2 + 0), .int (iZ x)] σ (pI (fun z σ1 => Con G 1 mX12_known [.ref (G.2.2.2 + 82), .int (iZ x)] σ1 (pI (fun z' σ2 => z' = z ∧ Rel σ2)))) := by
  refine Con_mono (c_X11_known hR.si hx) (fun ro σ1 hq => ?_)
  obtain ⟨z, er, hq⟩ := hq
  refine ⟨z, er, ?_⟩
  have h53 := hR.sc.1
  have hb := hR.mn.1
  have hs : SM σ (sI σ1 82 0 0) := by
    rcases hq with ⟨_, _, e⟩ | ⟨_, _, e⟩
    · rw [e]; exact SM.rf σ
    · rw [e]; exact SM.of (C := [62]) ((Fr.rf _ _).sI (by decide) _ _) (by decide)
  have e53 := hs.2 53 (by decide)
  refine Con_mono (c_X12_known rfl (by omega) (by omega) hx) (fun ro' σ2 hq' => ?_)
  obtain ⟨z', er', hq'⟩ := hq'
  refine ⟨z', er', ?_⟩
  rcases hq with ⟨k, ez, e⟩ | ⟨k, ez, e⟩
  · rcases hq' with ⟨k', ez', e'⟩ | ⟨k', _, _⟩
    · rw [e', e, ez, ez']; exact ⟨rfl, hR.th⟩
    · omega
  · rcases hq' with ⟨k', _, _⟩ | ⟨k', ez', e'⟩
    · omega
    · refine ⟨by rw [ez, ez'], ?_⟩
      rw [e', e]
      refine hR.rs ((((Fr.rf _ _).sI (by decide) _ _).sI (by decide) _ _).sI (by decide) _ _) (fun j hj => ?_) ⟨?_, ?_, ?_⟩
      · simp only [List.mem_cons, List.not_mem_nil, or_false] at hj
        rw [sI_1, if_neg (by omega), sI_1, if_neg (by omega), sI_ne _ (by decide)]
      · obtain ⟨a1, a2, a3, a4⟩ := hR.si
        refine ⟨a1, ?_, a3, a4⟩
        show (-1 ≤ x ∧ x ≤ σ.1 62 7)
        exact k
      · obtain ⟨a1, a2, a3, a4, a5⟩ := hR.mn
        refine ⟨a1, ?_, a3, a4, a5⟩
        show (-1 ≤ x ∧ x ≤ σ.1 82 53)
        omega
      · obtain ⟨a1, a2, a3⟩ := hR.sc
        exact ⟨a1, rfl, a3⟩
theorem st_strike {G : Gx} {σ : Sg} {x : Int} (hR : Rel σ) (hx : R32 x) : Con G 2 mX11_strike [.ref (G.2.2.2 + 0), .int (iZ x)] σ (pI (fun z σ1 => Con G 1 mX12_strike [.ref (G.2.2.2 + 82), .int (iZ x)] σ1 (pI (fun z' σ2 => z' = z ∧ Rel σ2)))) := by
  refine Con_mono (c_X11_strike hR.si hx) (fun ro σ1 hq => ?_)
  obtain ⟨z, er, hq⟩ := hq
  refine ⟨z, er, ?_⟩
  have h53 := hR.sc.1
  have hb := hR.mn.1
  have hs : SM σ (sI σ1 82 0 0) := by
    rcases hq with ⟨_, _, e⟩ | ⟨_, _, e⟩
    · rw [e]; exact SM.rf σ
    · rw [e]; exact SM.of (C := [62, 63]) (((Fr.rf _ _).sI (by decide) _ _).sI (by decide) _ _) (by decide)
  have e53 := hs.2 53 (by decide)
  refine Con_mono (c_X12_strike rfl (by omega) (by omega) hx) (fun ro' σ2 hq' => ?_)
  obtain ⟨z', er', hq'⟩ := hq'
  refine ⟨z', er', ?_⟩
  rcases hq with ⟨k, ez, e⟩ | ⟨k, ez, e⟩
  · rcases hq' with ⟨k', ez', e'⟩ | ⟨k', _, _⟩
    · rw [e', e, ez, ez']; exact ⟨rfl, hR.th⟩
    · omega
  · rcases hq' with ⟨k', _, _⟩ | ⟨k', ez', e'⟩
    · omega
    · refine ⟨by rw [ez, ez', e53, h53], ?_⟩
      rw [e', e53, h53, e]
      obtain ⟨n, hn⟩ : ∃ n, σ.1 62 7 = n := ⟨_, rfl⟩
      rw [hn] at k h53 ⊢
      have f63 : ∀ i, (sI (sI (sI (sI (sI σ 63 n x) 62 7 (n + 1)) 82 0 0) 117 n x) 82 53 (n + 1)).1 63 i = if i = n then x else σ.1 63 i := fun i => by
        rw [sI_ne _ (by decide), sI_ne _ (by decide), sI_ne _ (by decide), sI_ne _ (by decide), sI_uf]; rfl
      have f117 : ∀ i, (sI (sI (sI (sI (sI σ 63 n x) 62 7 (n + 1)) 82 0 0) 117 n x) 82 53 (n + 1)).1 117 i = if i = n then x else σ.1 117 i := fun i => by
        rw [sI_ne _ (by decide), sI_uf, sI_ne _ (by decide), sI_ne _ (by decide), sI_ne _ (by decide)]; rfl
      obtain ⟨ρ, hρ⟩ : ∃ ρ, ρ = sI (sI (sI (sI (sI σ 63 n x) 62 7 (n + 1)) 82 0 0) 117 n x) 82 53 (n + 1) := ⟨_, rfl⟩
      rw [← hρ] at f63 f117 ⊢
      have hF : Fr [62, 63, 82, 117] σ ρ := by
        rw [hρ]
        exact (((((Fr.rf _ _).sI (by decide) _ _).sI (by decide) _ _).sI (by decide) _ _).sI (by decide) _ _).sI (by decide) _ _
      have g7 : ρ.1 62 7 = n + 1 := by rw [hρ]; rfl
      have g8 : ρ.1 62 8 = σ.1 62 8 := by rw [hρ]; rfl
      have m53 : ρ.1 82 53 = n + 1 := by rw [hρ]; rfl
      have m54 : ρ.1 82 54 = σ.1 82 54 := by rw [hρ]; rfl
      have hc : ∀ a : Nat, a ∉ [62, 63, 82, 117] → ρ.1 a = σ.1 a := fun a q => (hF a q).1
      refine hR.rs (hF.mono (by decide)) (fun j hj => ?_) ⟨?_, ?_, ?_⟩
      · simp only [List.mem_cons, List.not_mem_nil, or_false] at hj
        rw [hρ, sI_1, if_neg (by omega), sI_ne _ (by decide), sI_1, if_neg (by omega), sI_ne _ (by decide), sI_ne _ (by decide)]
      · obtain ⟨a1, a2, a3, a4⟩ := hR.si
        rw [hn] at a1 a2 a4
        unfold SI
        rw [g7, g8, hc 64 (by decide), hc 65 (by decide), hc 66 (by decide), hc 67 (by decide), hc 68 (by decide), hc 69 (by decide)]
        refine ⟨by omega, by omega, fun i p q => ?_, fun i p q => ?_⟩
        · obtain ⟨c1, c2⟩ := a3 i p q
          refine ⟨?_, c2⟩
          rw [f63]
          split <;> omega
        · rw [f63]
          by_cases r : i = n
          · rw [if_pos r]; omega
          · rw [if_neg r]; exact a4 i p (by omega)
      · obtain ⟨a1, a2, a3, a4, a5⟩ := hR.mn
        rw [h53] at a1 a2 a4 a5
        unfold MN
        rw [m53, m54, hc 112 (by decide), hc 113 (by decide), hc 114 (by decide), hc 115 (by decide), hc 116 (by decide), hc 118 (by decide), hc 84 (by decide)]
        refine ⟨by omega, by omega, fun i p q => ?_, fun i p q => ?_, fun i p q => ?_⟩
        · obtain ⟨c1, c2, c3, c4, c5, c6, c7⟩ := a3 i p q
          refine ⟨c1, c2, c3, c4, c5, ?_, c7⟩
          rw [f117]
          split <;> omega
        · rw [f117]
          by_cases r : i = n
          · rw [if_pos r]; omega
          · rw [if_neg r]; exact a4 i p (by omega)
        · rw [f117]
          by_cases r : i = n
          · rw [if_pos r]; intro w; omega
          · rw [if_neg r]; exact a5 i p (by omega)
      · obtain ⟨a1, a2, a3⟩ := hR.sc
        rw [hn] at a3
        unfold SC
        rw [m53, m54, g7, g8, hc 64 (by decide), hc 65 (by decide), hc 66 (by decide), hc 67 (by decide), hc 68 (by decide), hc 112 (by decide), hc 113 (by decide), hc 114 (by decide), hc 115 (by decide), hc 116 (by decide)]
        refine ⟨rfl, a2, fun i p q => ?_⟩
        rw [f117, f63]
        by_cases r : i = n
        · rw [if_pos r, if_pos r]; exact ⟨rfl, fun w => by omega⟩
        · rw [if_neg r, if_neg r]; exact a3 i p (by omega)
set_option maxHeartbeats 2000000 in
theorem st_see {G : Gx} {σ : Sg} {y p r c b : Int} (hR : Rel σ) (hy : R32 y) (hp : R32 p) (hr : R32 r) (hc : R32 c) (hb : b = 0 ∨ b = 1) : Con G 2 mX11_see [.ref (G.2.2.2 + 0), .int (iZ y), .int (iZ p), .int (iZ r), .int (iZ c), .int (iZ b)] σ (pI (fun z σ1 => Con G 2 mX12_see [.ref (G.2.2.2 + 82), .int (iZ y), .int (iZ p), .int (iZ r), .int (iZ c), .int (iZ b)] σ1 (pI (fun z' σ2 => z' = z ∧ Rel σ2)))) := by
  refine Con_mono (c_X11_see hR.ti hR.si hy hp hr hc hb) (fun ro σ1 hq => ?_)
  obtain ⟨z, er, hq⟩ := hq
  refine ⟨z, er, ?_⟩
  have h53 := hR.sc.1
  have hbn := hR.mn.1
  have hs : SM σ (sI σ1 82 0 0) := by
    rcases hq with ⟨_, _, e⟩ | ⟨_, _, e⟩
    · rw [e]; exact SM.rf σ
    · rw [e]; exact SM.of (C := [62, 63, 64, 65, 66, 67, 68]) (by unfold seeF; exact (((((((Fr.rf _ _).sI (by decide) _ _).sI (by decide) _ _).sI (by decide) _ _).sI (by decide) _ _).sI (by decide) _ _).sI (by decide) _ _).sI (by decide) _ _) (by decide)
  have e53 := hs.2 53 (by decide)
  have e84 := hs.1 84 (by decide)
  refine Con_mono (c_X12_see rfl (hs.mt hR.mt) (by omega) (by omega) hy hp hr hc hb) (fun ro' σ2 hq' => ?_)
  obtain ⟨z', er', hq'⟩ := hq'
  refine ⟨z', er', ?_⟩
  rw [e53, e84, h53, hR.c0, hR.c1] at hq'
  rcases hq with ⟨k, ez, e⟩ | ⟨k, ez, e⟩
  · rcases hq' with ⟨k', ez', e'⟩ | ⟨k', _, _⟩
    · rw [e', e, ez, ez']; exact ⟨rfl, hR.th⟩
    · exact absurd k' k
  · rcases hq' with ⟨k', _, _⟩ | ⟨k', ez', e'⟩
    · exact absurd k k'
    · refine ⟨by rw [ez, ez'], ?_⟩
      unfold mSee at e'
      rw [e53, h53] at e'
      rw [e', e]
      unfold seeF
      obtain ⟨n, hn⟩ : ∃ n, σ.1 62 7 = n := ⟨_, rfl⟩
      rw [hn] at k h53 ⊢
      obtain ⟨ρ, hρ⟩ : ∃ ρ, ρ = sI (sI (sI (sI (sI (sI (sI (sI (sI (sI (sI (sI (sI (sI (sI σ 63 n (-1)) 64 n y) 65 n p) 66 n r) 67 n c) 68 n b) 62 7 (n + 1)) 82 0 0) 112 n y) 113 n p) 114 n r) 115 n c) 116 n b) 117 n (-1)) 82 53 (n + 1) := ⟨_, rfl⟩
      rw [← hρ]
      have hF : Fr [62, 63, 64, 65, 66, 67, 68, 82, 112, 113, 114, 115, 116, 117] σ ρ := by
        rw [hρ]
        repeat' first | exact Fr.rf _ _ | refine Fr.sI ?_ (by decide) _ _
      have f63 : ∀ i, ρ.1 63 i = if i = n then -1 else σ.1 63 i := fun i => by
        rw [hρ]
        simp only [sI_1, Nat.reduceEqDiff, false_and, true_and, if_false]
      have f64 : ∀ i, ρ.1 64 i = if i = n then y else σ.1 64 i := fun i => by
        rw [hρ]
        simp only [sI_1, Nat.reduceEqDiff, false_and, true_and, if_false]
      have f65 : ∀ i, ρ.1 65 i = if i = n then p else σ.1 65 i := fun i => by
        rw [hρ]
        simp only [sI_1, Nat.reduceEqDiff, false_and, true_and, if_false]
      have f66 : ∀ i, ρ.1 66 i = if i = n then r else σ.1 66 i := fun i => by
        rw [hρ]
        simp only [sI_1, Nat.reduceEqDiff, false_and, true_and, if_false]
      have f67 : ∀ i, ρ.1 67 i = if i = n then c else σ.1 67 i := fun i => by
        rw [hρ]
        simp only [sI_1, Nat.reduceEqDiff, false_and, true_and, if_false]
      have f68 : ∀ i, ρ.1 68 i = if i = n then b else σ.1 68 i := fun i => by
        rw [hρ]
        simp only [sI_1, Nat.reduceEqDiff, false_and, true_and, if_false]
      have f112 : ∀ i, ρ.1 112 i = if i = n then y else σ.1 112 i := fun i => by
        rw [hρ]
        simp only [sI_1, Nat.reduceEqDiff, false_and, true_and, if_false]
      have f113 : ∀ i, ρ.1 113 i = if i = n then p else σ.1 113 i := fun i => by
        rw [hρ]
        simp only [sI_1, Nat.reduceEqDiff, false_and, true_and, if_false]
      have f114 : ∀ i, ρ.1 114 i = if i = n then r else σ.1 114 i := fun i => by
        rw [hρ]
        simp only [sI_1, Nat.reduceEqDiff, false_and, true_and, if_false]
      have f115 : ∀ i, ρ.1 115 i = if i = n then c else σ.1 115 i := fun i => by
        rw [hρ]
        simp only [sI_1, Nat.reduceEqDiff, false_and, true_and, if_false]
      have f116 : ∀ i, ρ.1 116 i = if i = n then b else σ.1 116 i := fun i => by
        rw [hρ]
        simp only [sI_1, Nat.reduceEqDiff, false_and, true_and, if_false]
      have f117 : ∀ i, ρ.1 117 i = if i = n then -1 else σ.1 117 i := fun i => by
        rw [hρ]
        simp only [sI_1, Nat.reduceEqDiff, false_and, true_and, if_false]
      have g7 : ρ.1 62 7 = n + 1 := by rw [hρ]; rfl
      have g8 : ρ.1 62 8 = σ.1 62 8 := by rw [hρ]; rfl
      have m53 : ρ.1 82 53 = n + 1 := by rw [hρ]; rfl
      have m54 : ρ.1 82 54 = σ.1 82 54 := by rw [hρ]; rfl
      have hcc : ∀ a : Nat, a ∉ [62, 63, 64, 65, 66, 67, 68, 82, 112, 113, 114, 115, 116, 117] → ρ.1 a = σ.1 a := fun a q => (hF a q).1
      have hsz := hR.ti.1
      have hn4 := hR.n4
      refine hR.rs (hF.mono (by decide)) (fun j hj => ?_) ⟨?_, ?_, ?_⟩
      · simp only [List.mem_cons, List.not_mem_nil, or_false] at hj
        rw [hρ, sI_1, if_neg (by omega), sI_ne _ (by decide), sI_ne _ (by decide), sI_ne _ (by decide), sI_ne _ (by decide), sI_ne _ (by decide), sI_ne _ (by decide), sI_1, if_neg (by omega), sI_ne _ (by decide), sI_ne _ (by decide), sI_ne _ (by decide), sI_ne _ (by decide), sI_ne _ (by decide), sI_ne _ (by decide), sI_ne _ (by decide)]
      · obtain ⟨a1, a2, a3, a4⟩ := hR.si
        rw [hn] at a1 a2 a4
        unfold SI
        rw [g7, g8, hcc 69 (by decide)]
        refine ⟨by omega, by omega, fun i u v => ?_, fun i u v => ?_⟩
        · obtain ⟨c1, c2, c3, c4, c5, c6, c7⟩ := a3 i u v
          rw [f63, f64, f65, f66, f67, f68]
          by_cases q : i = n
          · rw [if_pos q, if_pos q, if_pos q, if_pos q, if_pos q, if_pos q]
            exact ⟨by omega, by omega, by omega, by omega, by omega, hb, c7⟩
          · rw [if_neg q, if_neg q, if_neg q, if_neg q, if_neg q, if_neg q]
            exact ⟨c1, c2, c3, c4, c5, c6, c7⟩
        · rw [f63]
          by_cases q : i = n
          · rw [if_pos q]; omega
          · rw [if_neg q]; exact a4 i u (by omega)
      · obtain ⟨a1, a2, a3, a4, a5⟩ := hR.mn
        rw [h53] at a1 a2 a4 a5
        unfold MN
        rw [m53, m54, hcc 118 (by decide), hcc 84 (by decide)]
        refine ⟨by omega, by omega, fun i u v => ?_, fun i u v => ?_, fun i u v => ?_⟩
        · obtain ⟨c1, c2, c3, c4, c5, c6, c7⟩ := a3 i u v
          rw [f112, f113, f114, f115, f116, f117]
          by_cases q : i = n
          · rw [if_pos q, if_pos q, if_pos q, if_pos q, if_pos q, if_pos q]
            exact ⟨by omega, by omega, by omega, by omega, hb, by omega, c7⟩
          · rw [if_neg q, if_neg q, if_neg q, if_neg q, if_neg q, if_neg q]
            exact ⟨c1, c2, c3, c4, c5, c6, c7⟩
        · rw [f117]
          by_cases q : i = n
          · rw [if_pos q]; omega
          · rw [if_neg q]; exact a4 i u (by omega)
        · rw [f112, f113, f117]
          by_cases q : i = n
          · rw [if_pos q, if_pos q, if_pos q, hR.c1]; intro _; exact ⟨by omega, by omega⟩
          · rw [if_neg q, if_neg q, if_neg q]; exact a5 i u (by omega)
      · obtain ⟨a1, a2, a3⟩ := hR.sc
        rw [hn] at a3
        unfold SC
        rw [m53, m54, g7, g8]
        refine ⟨rfl, a2, fun i u v => ?_⟩
        rw [f63, f64, f65, f66, f67, f68, f112, f113, f114, f115, f116, f117]
        by_cases q : i = n
        · simp only [if_pos q]
          refine ⟨?_, fun _ => ⟨?_, ?_, ?_, ?_, ?_⟩⟩ <;> first | rfl | trivial
        · simp only [if_neg q]
          exact a3 i u (by omega)
/-! ===== images ===== -/
theorem st_keep {G : Gx} {σ : Sg} (hR : Rel σ) : Con G 3 mX11_keep [.ref (G.2.2.2 + 0)] σ (pI (fun z σ1 => Con G 2 mX12_keep [.ref (G.2.2.2 + 82)] σ1 (pI (fun z' σ2 => z' = z ∧ Rel σ2)))) := by
  refine Con_mono c_X11_keep (fun ro σ1 hq => ?_)
  obtain ⟨z, er, ez, s, hL, e1⟩ := hq
  refine ⟨z, er, ?_⟩
  have hFc : Fr [0, 49, 50, 51, 52, 53] σ σ1 := by
    rw [e1]
    exact (hL.1.mono (by decide)).sI (by decide) _ _
  have hs := SM.of hFc (by decide)
  refine Con_mono (c_X12_keep rfl) (fun ro' σ2 hq' => ?_)
  obtain ⟨z', er', ez', s', hC, e2⟩ := hq'
  refine ⟨z', er', by rw [ez', ez, hs.1 102 (by decide), hR.yea], ?_⟩
  obtain ⟨hA, hN, hG, hU, hS, hX⟩ := id hR
  have hFm : Fr [0, 49, 50, 51, 52, 53, 82, 102, 103, 104, 105, 106, 107, 108] σ σ2 := by
    rw [e2]
    exact (((hFc.mono (by decide)).sI (k := 82) (by decide) _ _).tr (hC.1.1.mono (by decide))).sI (by decide) _ _
  have hc : ∀ a : Nat, a ∉ [0, 49, 50, 51, 52, 53, 82, 102, 103, 104, 105, 106, 107, 108] → σ2.1 a = σ.1 a := fun a q => (hFm a q).1
  have hf : ∀ j, j ≠ 0 → j ≠ 42 → σ2.1 82 j = σ.1 82 j := fun j a b => by
    rw [e2, sI_1, if_neg (fun q => b q.2), hC.1.2 j (by simp), hs.2 j a]
  have hl : ∀ u, u ≠ 2 → ldm σ2 u = ldm σ u := fun u q => by
    rw [e2, ldm_82, hC.2.1.ld q, hs.ld]
  have hl2 : ldm σ2 2 = ldm σ 0 := by rw [e2, ldm_82, hC.ld, hs.ld]
  have c49 : ∀ a : Nat, 49 ≤ a → a ≤ 53 → σ2.1 a = s.1 a := fun a p q => by
    rw [e2, sI_ne _ (by omega), hC.1.c (a := a) (by simp only [List.mem_cons, List.not_mem_nil, or_false]; omega), sI_ne _ (by omega), e1, sI_ne _ (by omega)]
  have c492 : σ2.2 49 = s.2 49 := by
    rw [e2]
    show s'.2 49 = _
    rw [(hC.1.1 49 (by decide)).2, e1]
    rfl
  have hv : ldv σ2 49 = ldv σ 39 := by
    rw [← hL.2.1]
    unfold ldv
    rw [c49 49 (by decide) (by decide), c49 (49 + 1) (by decide) (by decide), c49 (49 + 2) (by decide) (by decide), c49 (49 + 3) (by decide) (by decide), c49 (49 + 4) (by decide) (by decide), c492]
  have hLI : LI σ2 49 := (LC_LI hL hR.li).cg c49 (by rw [c492])
  have e07 : σ2.1 0 7 = 1 := by
    rw [e2, sI_ne _ (by decide), hC.1.c (a := 0) (by decide), sI_ne _ (by decide), e1, sI_1, if_pos ⟨rfl, rfl⟩]
  have e01 : σ2.1 0 1 = σ.1 0 1 := by
    rw [e2, sI_ne _ (by decide), hC.1.c (a := 0) (by decide), sI_ne _ (by decide), e1, sI_1, if_neg (by decide), (hL.1 0 (by decide)).1]
  have e42 : σ2.1 82 42 = 1 := by rw [e2, sI_1, if_pos ⟨rfl, rfl⟩]
  refine ⟨hA.cg (fun a q => hc a (by simp only [List.mem_cons, List.not_mem_nil, or_false]; omega)), hN.cg hR.n4 hR.n6 (hc 2 (by decide)) (fun a p q => hc a (by simp only [List.mem_cons, List.not_mem_nil, or_false]; omega)) (by rw [(hFm 39 (by decide)).2]) (hl 0 (by decide)), ⟨Or.inr e07, by rw [e42, e07], hLI, fun _ => ⟨hR.mi.ld hl2, ?_, hR.ld.of hR.n4 hR.n6 (hc 2 (by decide)) hv hl2⟩⟩, hU.cg hR.n4 hR.n6 (hc 2 (by decide)) (fun a q => hc a (by simp only [List.mem_cons, List.not_mem_nil, or_false]; omega)) (by rw [(hFm 39 (by decide)).2]) (hf 43 (by decide) (by decide)) (fun u q => hl u (by omega)), hS.cg (fun a q => hc a (by simp only [List.mem_cons, List.not_mem_nil, or_false]; omega)) (hf 53 (by decide) (by decide)) (hf 54 (by decide) (by decide)) (fun k a b => by rw [hc 69 (by decide)]; exact (hR.si.2.2.1 k a b).2.2.2.2.2.2) (fun k a b => by rw [hc 118 (by decide)]; exact (hR.mn.2.2.1 k a b).2.2.2.2.2.2), hX.cg (fun a q => hc a (by simp only [List.mem_cons, List.not_mem_nil, or_false]; omega)) e01 (by rw [hc 19 (by decide)]; exact ⟨rfl, rfl⟩) (fun j q => by simp only [List.mem_cons, List.not_mem_nil, or_false] at q; exact hf j (by omega) (by omega))⟩
  have h6 : (ldv σ2 49).2.2.2.2.2.1 = (ldv σ 39).2.2.2.2.2.1 := by rw [hv]
  have h6 : σ2.1 49 6 = σ.1 39 6 := h6
  rw [h6]
  exact hR.y98
theorem st_back {G : Gx} {σ : Sg} (hR : Rel σ) : Con G 3 mX11_back [.ref (G.2.2.2 + 0)] σ (pI (fun z σ1 => Con G 2 mX12_back [.ref (G.2.2.2 + 82)] σ1 (pI (fun z' σ2 => z' = z ∧ Rel σ2)))) := by
  obtain ⟨hA, hN, hG, hU, hS, hX⟩ := id hR
  refine Con_mono (c_X11_back hG.1) (fun ro σ1 hq => ?_)
  obtain ⟨z, er, hq⟩ := hq
  refine ⟨z, er, ?_⟩
  have hs : SM σ (sI σ1 82 0 0) := by
    rcases hq with ⟨_, _, e⟩ | ⟨_, s, hL, _, e⟩
    · rw [e]; exact SM.rf σ
    · rw [e]; exact SM.of (C := [39, 40, 41, 42, 43, 56]) ((hL.1.mono (by decide)).sI (by decide) _ _) (by decide)
  have e42 := hs.2 42 (by decide)
  refine Con_mono (c_X12_back rfl (by rw [e42, hG.2.1]; exact hG.1)) (fun ro' σ2 hq' => ?_)
  obtain ⟨z', er', hq'⟩ := hq'
  refine ⟨z', er', ?_⟩
  rw [e42, hG.2.1] at hq'
  rcases hq with ⟨k, ez, e⟩ | ⟨k, s, hL, ez, e1⟩
  · rcases hq' with ⟨_, ez', e'⟩ | ⟨k', _⟩
    · rw [e', e, ez, ez']; exact ⟨rfl, hR.th⟩
    · exact absurd k k'
  rcases hq' with ⟨k', _⟩ | ⟨_, s', hC, ez', e2⟩
  · exact absurd k' k
  obtain ⟨g1, g2, g3⟩ := hG.2.2.2 (by have := hG.1; omega)
  have hFm : Fr [39, 40, 41, 42, 43, 56, 82, 102, 103, 104, 105, 106, 107, 108] σ σ2 := by
    rw [e2]
    refine (Fr.tr (σ' := sI σ1 82 0 0) ?_ (hC.1.1.mono (by decide))).sI (by decide) _ _
    rw [e1]
    exact ((hL.1.mono (by decide)).sI (by decide) _ _).sI (by decide) _ _
  have hc : ∀ a : Nat, a ∉ [39, 40, 41, 42, 43, 56, 82, 102, 103, 104, 105, 106, 107, 108] → σ2.1 a = σ.1 a := fun a q => (hFm a q).1
  have hf : ∀ j, j ≠ 0 → j ≠ 43 → σ2.1 82 j = σ.1 82 j := fun j a b => by
    rw [e2, sI_1, if_neg (fun q => b q.2), hC.1.2 j (by simp), hs.2 j a]
  have hl : ∀ u, u ≠ 0 → ldm σ2 u = ldm σ u := fun u q => by
    rw [e2, ldm_82, hC.2.1.ld q, hs.ld]
  have hl0 : ldm σ2 0 = ldm σ 2 := by rw [e2, ldm_82, hC.ld, hs.ld]
  have c39 : ∀ a : Nat, 39 ≤ a → a ≤ 43 → σ2.1 a = s.1 a := fun a p q => by
    rw [e2, sI_ne _ (by omega), hC.1.c (a := a) (by simp only [List.mem_cons, List.not_mem_nil, or_false]; omega), sI_ne _ (by omega), e1, sI_ne _ (by omega)]
  have c392 : σ2.2 39 = s.2 39 := by
    rw [e2]
    show s'.2 39 = _
    rw [(hC.1.1 39 (by decide)).2, e1]
    rfl
  have hv : ldv σ2 39 = ldv σ 49 := by
    rw [← hL.2.1]
    unfold ldv
    rw [c39 39 (by decide) (by decide), c39 (39 + 1) (by decide) (by decide), c39 (39 + 2) (by decide) (by decide), c39 (39 + 3) (by decide) (by decide), c39 (39 + 4) (by decide) (by decide), c392]
  have hLI : LI σ2 39 := (LC_LI hL hG.2.2.1).cg c39 (by rw [c392])
  have h6 : (ldv σ2 39).2.2.2.2.2.1 = (ldv σ 49).2.2.2.2.2.1 := by rw [hv]
  have h6 : σ2.1 39 6 = σ.1 49 6 := h6
  have e56 : ∀ j, σ2.1 56 j = if j = 6 then 0 else σ.1 56 j := fun j => by
    rw [e2, sI_ne _ (by decide), hC.1.c (a := 56) (by decide), sI_ne _ (by decide), e1, sI_uf, (hL.1 56 (by decide)).1]
    rfl
  have e43 : σ2.1 82 43 = 0 := by rw [e2, sI_1, if_pos ⟨rfl, rfl⟩]
  have hLd : LdR σ2 39 0 := g3.of hR.n4 hR.n6 (hc 2 (by decide)) hv hl0
  have hzz : z' = z := by
    have h1 : σ2.1 39 6 = σ2.1 102 0 := hLd.1.2.2.2
    have h2 : σ2.1 39 6 = s.1 39 6 := by rw [c39 39 (by decide) (by decide)]
    have h3 : σ2.1 102 0 = s'.1 102 0 := by rw [e2, sI_ne _ (by decide)]
    rw [ez', ez]
    omega
  refine ⟨hzz, hA.cg (fun a q => hc a (by simp only [List.mem_cons, List.not_mem_nil, or_false]; omega)), ⟨hLI, g1.ld hl0, by rw [h6]; exact g2, ?_, hLd⟩, hG.cg hR.n4 hR.n6 (hc 2 (by decide)) (by rw [hc 0 (by decide)]) (hf 42 (by decide) (by decide)) (fun a p q => hc a (by simp only [List.mem_cons, List.not_mem_nil, or_false]; omega)) (by rw [(hFm 49 (by decide)).2]) (hl 2 (by decide)), ⟨?_, ?_, fun u a b => ?_, fun j a b => ?_⟩, hS.cg (fun a q => hc a (by simp only [List.mem_cons, List.not_mem_nil, or_false]; omega)) (hf 53 (by decide) (by decide)) (hf 54 (by decide) (by decide)) (fun k a b => by rw [hc 69 (by decide)]; exact (hR.si.2.2.1 k a b).2.2.2.2.2.2) (fun k a b => by rw [hc 118 (by decide)]; exact (hR.mn.2.2.1 k a b).2.2.2.2.2.2), hX.cg (fun a q => hc a (by simp only [List.mem_cons, List.not_mem_nil, or_false]; omega)) (by rw [hc 0 (by decide)]) (by rw [hc 19 (by decide)]; exact ⟨rfl, rfl⟩) (fun j q => by simp only [List.mem_cons, List.not_mem_nil, or_false] at q; exact hf j (by omega) (by omega))⟩
  · rw [c39 39 (by decide) (by decide)]
    exact ⟨hL.2.2.1, hL.2.2.2.1, hL.2.2.2.2⟩
  · obtain ⟨d1, d2, d3⟩ := hR.di
    unfold DI
    rw [hc 57 (by decide), hc 58 (by decide), hc 59 (by decide), hc 60 (by decide), hc 61 (by decide), e56, e56, if_neg (by decide), if_pos rfl]
    exact ⟨d1, by decide, d3⟩
  · rw [e43, e56, if_pos rfl]
  · rw [e56, if_pos rfl] at b
    omega
  · rw [e56, if_pos rfl] at b
    omega

