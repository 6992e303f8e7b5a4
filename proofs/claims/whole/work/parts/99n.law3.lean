theorem Rel.tv {σ : Sg} (h : Rel σ) (v : Int) : Rel (sI σ 82 0 v) := by
  refine h.fr ((Fr.rf _ _).sI (by decide) _ _) (fun j hj => ?_) (fun u _ => ldm_82 _ _ _ _) (fun k a b => ?_) (fun k a b => ?_)
  · rw [sI_1, if_neg (fun q => by have := q.2; subst this; exact absurd hj (by decide))]
  · rw [sI_ne _ (by decide)]; exact (h.si.2.2.1 k a b).2.2.2.2.2.2
  · rw [sI_ne _ (by decide)]; exact (h.mn.2.2.1 k a b).2.2.2.2.2.2
theorem fE_oE {G : Gx} {σ : Sg} {E : Nat → va_E} {f : Nat → Int64} (h : fE G σ E) : fE G σ (oE G E f) := fun k c hc => by
  have hk : k < 120 := (List.getElem?_eq_some_iff.mp hc).1
  unfold oE
  rw [upE_ne (by omega)]
  exact h k c hc
theorem an_par {σ : Sg} (h : Rel σ) {p x : Int} (hp : 0 ≤ p ∧ p < σ.1 2 2) (hx : 0 ≤ x ∧ x ≤ 7) : (if x = 0 then σ.1 86 p else if x = 1 then σ.1 87 p else if x = 6 then gArea (σ.1 86) (σ.1 87) (mF σ 0) p else if x = 7 then gTd (σ.1 86) (σ.1 87) (mF σ 0) (σ.1 84 1) p else mF σ 0 (4 * p + (x - 2))) = paA σ p x := by
  unfold paA
  have r := h.rc hp.1 hp.2
  by_cases h0 : x = 0
  · rw [if_pos h0, if_pos h0, r.1]
  · rw [if_neg h0, if_neg h0]
    by_cases h1 : x = 1
    · rw [if_pos h1, if_pos h1, r.2]
    · rw [if_neg h1, if_neg h1]
      by_cases h6 : x = 6
      · rw [if_pos h6, if_pos h6, an_ar h hp.1 hp.2]
      · rw [if_neg h6, if_neg h6]
        by_cases h7 : x = 7
        · rw [if_pos h7, if_pos h7, an_td h hp.1 hp.2]
        · rw [if_neg h7, if_neg h7, show 4 * p + (x - 2) = 4 * p + x - 2 by omega, h.far (by omega) (by omega)]
/-- what the model's parish answers beside the class's -/
theorem c_par {G : Gx} {σ : Sg} {p x : Int} (hR : Rel σ) (hp : R32 p) (hx : R32 x) : Con G 6 mX12_parish [.ref (G.2.2.2 + 82), .int (iZ p), .int (iZ x)] σ (pI (fun z σ' => Rel σ' ∧ ((¬ (0 ≤ p ∧ p < σ.1 2 2) ∧ σ'.1 82 0 = 1) ∨ ((0 ≤ p ∧ p < σ.1 2 2) ∧ ¬ (0 ≤ x ∧ x ≤ 7) ∧ σ'.1 82 0 = 2) ∨ ((0 ≤ p ∧ p < σ.1 2 2) ∧ (0 ≤ x ∧ x ≤ 7) ∧ σ'.1 82 0 = 0 ∧ z = paA σ p x)))) := by
  have hρ := hR.th
  have e84 : (sI σ 82 0 0).1 84 1 = σ.1 2 2 := by rw [sI_ne _ (by decide)]; exact hR.tc.1.2.1
  refine Con_mono (c_X12_parish rfl hρ.mt hρ.mi hp hx) (fun ro σ1 hq => ?_)
  obtain ⟨z, er, hq⟩ := hq
  refine ⟨z, er, ?_⟩
  rw [e84] at hq
  rcases hq with ⟨q1, q2, rfl⟩ | ⟨q1, q2, q3, rfl⟩ | ⟨q1, q2, rfl, q4⟩
  · exact ⟨hR.tv 1, Or.inl ⟨q1, by rw [sI_1, if_pos ⟨rfl, rfl⟩]⟩⟩
  · exact ⟨hR.tv 2, Or.inr (Or.inl ⟨q1, q2, by rw [sI_1, if_pos ⟨rfl, rfl⟩]⟩)⟩
  · refine ⟨hρ, Or.inr (Or.inr ⟨q1, q2, by rw [sI_1, if_pos ⟨rfl, rfl⟩], ?_⟩)⟩
    have e22 : (sI σ 82 0 0).1 2 2 = σ.1 2 2 := by rw [sI_ne _ (by decide)]
    have := an_par hρ (p := p) (x := x) (by rw [e22]; exact q1) q2
    rw [e84] at this
    rw [q4, this]
    unfold paA
    simp only [sI_ne _ (show (3 : Nat) ≠ 82 by decide), sI_ne _ (show (4 : Nat) ≠ 82 by decide), sI_ne _ (show (40 : Nat) ≠ 82 by decide), sI_ne _ (show (2 : Nat) ≠ 82 by decide)]
