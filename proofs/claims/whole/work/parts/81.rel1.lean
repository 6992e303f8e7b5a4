/-! ===== the class and the model alike ===== -/
def LdR (σ : Sg) (L : Nat) (s : Int) : Prop := YR (σ.1 2 2) (σ.1 2 3) (ydv σ L) (ydm σ s) ∧ (∀ i, 0 ≤ i → i < 4 * σ.1 2 2 → σ.1 (L + 2) i = mK σ s i) ∧ σ.2 L 7 = σ.1 103 s
def RA (σ : Sg) : Prop := TI σ ∧ TB σ ∧ LW σ ∧ MT σ ∧ MB σ ∧ MW σ ∧ TC σ
def RN (σ : Sg) : Prop := LI σ 39 ∧ MI σ 0 ∧ σ.1 39 6 ≤ 9800 ∧ (σ.1 39 8 = -1 ∧ σ.1 39 9 = 0 ∧ σ.1 39 10 = 0) ∧ LdR σ 39 0
def RG (σ : Sg) : Prop := (σ.1 0 7 = 0 ∨ σ.1 0 7 = 1) ∧ σ.1 82 42 = σ.1 0 7 ∧ LI σ 49 ∧ (σ.1 0 7 = 1 → MI σ 2 ∧ σ.1 49 6 ≤ 9800 ∧ LdR σ 49 2)
/-- far, cakes, tired as they were ahead of the last j deeds -/
def un1 (σ : Sg) (k : Int) (v : (Int → Int) × (Int → Int) × (Int → Int)) : (Int → Int) × (Int → Int) × (Int → Int) := (uf v.1 (σ.1 57 k) (σ.1 58 k), uf v.2.1 (σ.1 57 k) (σ.1 59 k), if σ.1 60 k = -1 then v.2.2 else uf v.2.2 (σ.1 60 k) (σ.1 61 k))
def ubk (σ : Sg) : Nat → (Int → Int) × (Int → Int) × (Int → Int)
  | 0 => (σ.1 40, σ.1 41, σ.1 43)
  | j + 1 => un1 σ ((σ.1 56 5 + (σ.1 56 6 - 1 - j)) % 20) (ubk σ j)
def UDj (σ : Sg) (u : Int) (v : (Int → Int) × (Int → Int) × (Int → Int)) : Prop := (∀ i, 0 ≤ i → i < 4 * σ.1 2 2 → mF σ u i = v.1 i ∧ mK σ u i = v.2.1 i) ∧ (∀ i, 0 ≤ i → i < σ.1 2 3 → mL σ u i = σ.1 42 i ∧ mD σ u i = v.2.2 i) ∧ σ.1 104 u = σ.1 39 5 ∧ σ.1 102 u = σ.1 39 6 ∧ σ.1 103 u = σ.2 39 7
def RU (σ : Sg) : Prop := DI σ ∧ σ.1 82 43 = σ.1 56 6 ∧ (∀ u, 3 ≤ u → u < 3 + σ.1 56 6 → MI σ u) ∧ ∀ j : Nat, 1 ≤ j → (j : Int) ≤ σ.1 56 6 → UDj σ (3 + (σ.1 56 6 - j)) (ubk σ j)
def SC (σ : Sg) : Prop := σ.1 82 53 = σ.1 62 7 ∧ σ.1 82 54 = σ.1 62 8 ∧ ∀ k, 0 ≤ k → k < σ.1 62 7 → σ.1 117 k = σ.1 63 k ∧ (σ.1 63 k = -1 → σ.1 112 k = σ.1 64 k ∧ σ.1 113 k = σ.1 65 k ∧ σ.1 114 k = σ.1 66 k ∧ σ.1 115 k = σ.1 67 k ∧ σ.1 116 k = σ.1 68 k)
def RS (σ : Sg) : Prop := SI σ ∧ MN σ ∧ SC σ
def RX (σ : Sg) : Prop := (0 ≤ σ.1 0 1 ∧ σ.1 0 1 ≤ 700) ∧ σ.1 82 2 = σ.1 0 1 ∧ (∀ i, 0 ≤ i → i < 700 → 0 ≤ σ.1 83 i ∧ σ.1 83 i ≤ 255) ∧ (∀ i, 0 ≤ i → i < σ.1 0 1 → σ.1 83 i = cB σ i) ∧ (∀ i, 0 ≤ i → i < 21 → σ.1 20 i = wv i) ∧ DG σ ∧ MG σ ∧ σ.1 82 28 = σ.1 19 7 ∧ σ.1 82 29 = σ.1 19 8 ∧ σ.1 82 44 = 0 ∧ σ.1 82 45 = -1
def Rel (σ : Sg) : Prop := RA σ ∧ RN σ ∧ RG σ ∧ RU σ ∧ RS σ ∧ RX σ
theorem RA.cg {σ τ : Sg} (h : RA σ) (hc : ∀ a : Nat, (2 ≤ a ∧ a ≤ 16) ∨ (84 ≤ a ∧ a ≤ 99) → τ.1 a = σ.1 a) : RA τ := by
  unfold RA TI TB LW MT MB MW TC mKn
  have e : mCode τ = mCode σ := by unfold mCode; rw [hc 98 (by decide), hc 99 (by decide)]
  rw [e]
  rw [hc 2 (by decide), hc 3 (by decide), hc 4 (by decide), hc 5 (by decide), hc 6 (by decide), hc 7 (by decide), hc 8 (by decide), hc 9 (by decide), hc 10 (by decide), hc 11 (by decide), hc 12 (by decide), hc 13 (by decide), hc 14 (by decide), hc 15 (by decide), hc 16 (by decide), hc 84 (by decide), hc 85 (by decide), hc 86 (by decide), hc 87 (by decide), hc 88 (by decide), hc 89 (by decide), hc 90 (by decide), hc 91 (by decide), hc 92 (by decide), hc 93 (by decide), hc 94 (by decide), hc 95 (by decide), hc 96 (by decide), hc 97 (by decide), hc 98 (by decide), hc 99 (by decide)]
  exact h
theorem LdR.cg {σ τ : Sg} {L : Nat} {s : Int} (h : LdR σ L s) (n4 : σ.1 2 2 ≤ 4) (n6 : σ.1 2 3 ≤ 6) (h2 : τ.1 2 = σ.1 2) (hL : ∀ a, L ≤ a → a ≤ L + 4 → τ.1 a = σ.1 a) (h7 : τ.2 L 7 = σ.2 L 7) (hl : ldm τ s = ldm σ s) : LdR τ L s := by
  obtain ⟨l1, l2, l3, l4, l5⟩ := ldm_out hl
  obtain ⟨⟨y1, y2, y3, y4⟩, k1, n1⟩ := h
  unfold LdR
  rw [h2]
  refine ⟨⟨fun i a b => ?_, fun i a b => ?_, ?_, ?_⟩, fun i a b => ?_, ?_⟩
  · show τ.1 (L + 1) i = mF τ s i
    rw [hL (L + 1) (by omega) (by omega), (l1 i a (by omega)).1]; exact y1 i a b
  · show τ.1 (L + 3) i = mL τ s i ∧ τ.1 (L + 4) i = mD τ s i
    rw [hL (L + 3) (by omega) (by omega), hL (L + 4) (by omega) (by omega), (l2 i a (by omega)).1, (l2 i a (by omega)).2]; exact y2 i a b
  · show τ.1 L 5 = τ.1 104 s
    rw [hL L (by omega) (by omega), l3]; exact y3
  · show τ.1 L 6 = τ.1 102 s
    rw [hL L (by omega) (by omega), l4]; exact y4
  · rw [hL (L + 2) (by omega) (by omega), (l1 i a (by omega)).2]; exact k1 i a b
  · rw [h7, l5]; exact n1
theorem LI.cg {σ τ : Sg} {L : Nat} (h : LI σ L) (hL : ∀ a, L ≤ a → a ≤ L + 4 → τ.1 a = σ.1 a) (h7 : τ.2 L 7 = σ.2 L 7) : LI τ L := by
  unfold LI
  rw [hL L (by omega) (by omega), hL (L + 1) (by omega) (by omega), hL (L + 2) (by omega) (by omega), hL (L + 3) (by omega) (by omega), hL (L + 4) (by omega) (by omega), h7]
  exact h
theorem RN.cg {σ τ : Sg} (h : RN σ) (n4 : σ.1 2 2 ≤ 4) (n6 : σ.1 2 3 ≤ 6) (h2 : τ.1 2 = σ.1 2) (hL : ∀ a, 39 ≤ a → a ≤ 43 → τ.1 a = σ.1 a) (h7 : τ.2 39 7 = σ.2 39 7) (hl : ldm τ 0 = ldm σ 0) : RN τ := by
  obtain ⟨h1, h3, h4, h5, h6⟩ := h
  refine ⟨h1.cg hL h7, h3.ld hl, ?_, ?_, h6.cg n4 n6 h2 hL h7 hl⟩
  · rw [hL 39 (by decide) (by decide)]; exact h4
  · rw [hL 39 (by decide) (by decide)]; exact h5
theorem RG.cg {σ τ : Sg} (h : RG σ) (n4 : σ.1 2 2 ≤ 4) (n6 : σ.1 2 3 ≤ 6) (h2 : τ.1 2 = σ.1 2) (h0 : τ.1 0 7 = σ.1 0 7) (h42 : τ.1 82 42 = σ.1 82 42) (hL : ∀ a, 49 ≤ a → a ≤ 53 → τ.1 a = σ.1 a) (h7 : τ.2 49 7 = σ.2 49 7) (hl : ldm τ 2 = ldm σ 2) : RG τ := by
  obtain ⟨g1, g2, g3, g4⟩ := h
  refine ⟨by rw [h0]; exact g1, by rw [h0, h42]; exact g2, g3.cg hL h7, fun q => ?_⟩
  obtain ⟨a1, a2, a3⟩ := g4 (by rw [← h0]; exact q)
  exact ⟨a1.ld hl, by rw [hL 49 (by decide) (by decide)]; exact a2, a3.cg n4 n6 h2 hL h7 hl⟩
theorem ubk_cg {σ τ : Sg} (h : ∀ a : Nat, a = 40 ∨ a = 41 ∨ a = 43 ∨ (56 ≤ a ∧ a ≤ 61) → τ.1 a = σ.1 a) : ∀ j : Nat, ubk τ j = ubk σ j
  | 0 => by simp only [ubk]; rw [h 40 (by decide), h 41 (by decide), h 43 (by decide)]
  | j + 1 => by
    simp only [ubk, un1]
    rw [ubk_cg h j, h 56 (by decide), h 57 (by decide), h 58 (by decide), h 59 (by decide), h 60 (by decide), h 61 (by decide)]
theorem UDj.cg {σ τ : Sg} {u : Int} {v : (Int → Int) × (Int → Int) × (Int → Int)} (h : UDj σ u v) (n4 : σ.1 2 2 ≤ 4) (n6 : σ.1 2 3 ≤ 6) (h2 : τ.1 2 = σ.1 2) (h39 : τ.1 39 5 = σ.1 39 5 ∧ τ.1 39 6 = σ.1 39 6) (h42 : ∀ i, 0 ≤ i → i < σ.1 2 3 → τ.1 42 i = σ.1 42 i) (h7 : τ.2 39 7 = σ.2 39 7) {u' : Int} (hl : ldm τ u' = ldm σ u) : UDj τ u' v := by
  obtain ⟨l1, l2, l3, l4, l5⟩ := ldm_out hl
  obtain ⟨a1, a2, a3, a4, a5⟩ := h
  unfold UDj
  rw [h2, h39.1, h39.2, h7, l3, l4, l5]
  refine ⟨fun i a b => ?_, fun i a b => ?_, a3, a4, a5⟩
  · rw [(l1 i a (by omega)).1, (l1 i a (by omega)).2]; exact a1 i a b
  · rw [(l2 i a (by omega)).1, (l2 i a (by omega)).2, h42 i a b]; exact a2 i a b
theorem DI.cg {σ τ : Sg} (h : DI σ) (hc : ∀ a : Nat, 56 ≤ a → a ≤ 61 → τ.1 a = σ.1 a) : DI τ := by
  unfold DI
  rw [hc 56 (by decide) (by decide), hc 57 (by decide) (by decide), hc 58 (by decide) (by decide), hc 59 (by decide) (by decide), hc 60 (by decide) (by decide), hc 61 (by decide) (by decide)]
  exact h
theorem RU.cg {σ τ : Sg} (h : RU σ) (n4 : σ.1 2 2 ≤ 4) (n6 : σ.1 2 3 ≤ 6) (h2 : τ.1 2 = σ.1 2) (hL : ∀ a : Nat, (39 ≤ a ∧ a ≤ 43) ∨ (56 ≤ a ∧ a ≤ 61) → τ.1 a = σ.1 a) (h7 : τ.2 39 7 = σ.2 39 7) (h43 : τ.1 82 43 = σ.1 82 43) (hl : ∀ u, 3 ≤ u → ldm τ u = ldm σ u) : RU τ := by
  obtain ⟨d1, d2, d3, d4⟩ := h
  have e56 := hL 56 (by decide)
  have e39 := hL 39 (by decide)
  refine ⟨d1.cg (fun a p q => hL a (by omega)), by rw [h43, e56]; exact d2, fun u a b => ?_, fun j a b => ?_⟩
  · rw [e56] at b
    exact (d3 u a b).ld (hl u a)
  · rw [e56] at b ⊢
    rw [ubk_cg (fun a q => hL a (by omega))]
    exact (d4 j a b).cg n4 n6 h2 (by rw [e39]; exact ⟨rfl, rfl⟩) (fun i _ _ => by rw [hL 42 (by decide)]) h7 (hl _ (by omega))
theorem RS.cg {σ τ : Sg} (h : RS σ) (hc : ∀ a : Nat, (62 ≤ a ∧ a ≤ 68) ∨ (112 ≤ a ∧ a ≤ 117) ∨ a = 84 → τ.1 a = σ.1 a) (h53 : τ.1 82 53 = σ.1 82 53) (h54 : τ.1 82 54 = σ.1 82 54) (h69 : ∀ k, 0 ≤ k → k < 24 → τ.1 69 k = 0 ∨ τ.1 69 k = 1) (h118 : ∀ k, 0 ≤ k → k < 24 → τ.1 118 k = 0 ∨ τ.1 118 k = 1) : RS τ := by
  obtain ⟨s1, s2, s3⟩ := h
  refine ⟨?_, ?_, ?_⟩
  · obtain ⟨a1, a2, a3, a4⟩ := s1
    unfold SI
    rw [hc 62 (by decide), hc 63 (by decide), hc 64 (by decide), hc 65 (by decide), hc 66 (by decide), hc 67 (by decide), hc 68 (by decide)]
    refine ⟨a1, a2, fun k p q => ?_, a4⟩
    obtain ⟨c1, c2, c3, c4, c5, c6, -⟩ := a3 k p q
    exact ⟨c1, c2, c3, c4, c5, c6, h69 k p q⟩
  · obtain ⟨a1, a2, a3, a4, a5⟩ := s2
    unfold MN
    rw [h53, h54, hc 112 (by decide), hc 113 (by decide), hc 114 (by decide), hc 115 (by decide), hc 116 (by decide), hc 117 (by decide), hc 84 (by decide)]
    refine ⟨a1, a2, fun k p q => ?_, a4, a5⟩
    obtain ⟨c1, c2, c3, c4, c5, c6, -⟩ := a3 k p q
    exact ⟨c1, c2, c3, c4, c5, c6, h118 k p q⟩
  · unfold SC
    rw [h53, h54, hc 62 (by decide), hc 63 (by decide), hc 64 (by decide), hc 65 (by decide), hc 66 (by decide), hc 67 (by decide), hc 68 (by decide), hc 112 (by decide), hc 113 (by decide), hc 114 (by decide), hc 115 (by decide), hc 116 (by decide), hc 117 (by decide)]
    exact s3
theorem RX.cg {σ τ : Sg} (h : RX σ) (hc : ∀ a : Nat, a = 1 ∨ a = 20 ∨ (24 ≤ a ∧ a ≤ 32) ∨ a = 83 ∨ (86 ≤ a ∧ a ≤ 95) → τ.1 a = σ.1 a) (h01 : τ.1 0 1 = σ.1 0 1) (h19 : τ.1 19 7 = σ.1 19 7 ∧ τ.1 19 8 = σ.1 19 8) (hf : ∀ j, j ∈ ([2, 28, 29, 44, 45] : List Int) → τ.1 82 j = σ.1 82 j) : RX τ := by
  unfold RX DG cB
  have hM : MG σ → MG τ := fun q => q.cg (fun c a b => hc c (by omega))
  rw [h01, h19.1, h19.2, hf 2 (by decide), hf 28 (by decide), hf 29 (by decide), hf 44 (by decide), hf 45 (by decide), hc 1 (by decide), hc 20 (by decide), hc 83 (by decide), hc 24 (by decide), hc 25 (by decide), hc 26 (by decide), hc 27 (by decide), hc 28 (by decide), hc 29 (by decide), hc 30 (by decide), hc 31 (by decide), hc 32 (by decide)]
  obtain ⟨x1, x2, x3, x4, x5, x6, x7, x8⟩ := h
  exact ⟨x1, x2, x3, x4, x5, x6, hM x7, x8⟩
/-- what a question may change -/
def SCR : List Nat := [17, 44, 45, 46, 47, 48, 55, 69, 70, 71, 72, 73, 74, 75, 76, 77, 78, 79, 80, 81, 82, 100, 101, 102, 103, 104, 105, 106, 107, 108, 109, 110, 111, 118, 119]
theorem Rel.fr {σ τ : Sg} (h : Rel σ) (hF : Fr SCR σ τ) (hf : ∀ j, j ∈ ([2, 28, 29, 42, 43, 44, 45, 53, 54] : List Int) → τ.1 82 j = σ.1 82 j) (hl : ∀ u, u ≠ 1 → ldm τ u = ldm σ u) (h69 : ∀ k, 0 ≤ k → k < 24 → τ.1 69 k = 0 ∨ τ.1 69 k = 1) (h118 : ∀ k, 0 ≤ k → k < 24 → τ.1 118 k = 0 ∨ τ.1 118 k = 1) : Rel τ := by
  obtain ⟨hA, hN, hG, hU, hS, hX⟩ := h
  have n4 := hA.1.2.2.1.2
  have n6 := hA.1.2.2.2.1.2
  have hc : ∀ a : Nat, a ∉ SCR → τ.1 a = σ.1 a := fun a q => (hF a q).1
  refine ⟨hA.cg (fun a q => hc a ?_), hN.cg n4 n6 (hc 2 (by decide)) (fun a p q => hc a ?_) (by rw [(hF 39 (by decide)).2]) (hl 0 (by decide)), hG.cg n4 n6 (hc 2 (by decide)) (by rw [hc 0 (by decide)]) (hf 42 (by decide)) (fun a p q => hc a ?_) (by rw [(hF 49 (by decide)).2]) (hl 2 (by decide)), hU.cg n4 n6 (hc 2 (by decide)) (fun a q => hc a ?_) (by rw [(hF 39 (by decide)).2]) (hf 43 (by decide)) (fun u q => hl u (by omega)), hS.cg (fun a q => hc a ?_) (hf 53 (by decide)) (hf 54 (by decide)) h69 h118, hX.cg (fun a q => hc a ?_) (by rw [hc 0 (by decide)]) (by rw [hc 19 (by decide)]; exact ⟨rfl, rfl⟩) (fun j q => hf j ?_)⟩
  all_goals first | (simp only [SCR, List.mem_cons, List.not_mem_nil, or_false]; omega) | (simp only [List.mem_cons, List.not_mem_nil, or_false] at q ⊢; omega)

