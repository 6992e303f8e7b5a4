theorem stD_z {sk : Int → Int} : ∀ (n : Nat) (f : Int → Int) (k : Int), f k = 0 → stD sk n f k = 0
  | 0, _, _, h => h
  | n + 1, f, k, h => by
    simp only [stD]
    apply stD_z n
    split
    · unfold uf
      split
      · rfl
      · exact h
    · exact h
theorem stD_c {sk sk' : Int → Int} {N : Int} : ∀ (n : Nat) (f f' : Int → Int), (n : Int) ≤ N → (∀ k : Int, 0 ≤ k → k < n → sk k = sk' k) → (∀ k : Int, 0 ≤ k → k < N → f k = f' k) → ∀ k : Int, 0 ≤ k → k < N → stD sk n f k = stD sk' n f' k
  | 0, _, _, _, _, hf => hf
  | n + 1, f, f', hn, hs, hf => by
    simp only [stD]
    refine stD_c n _ _ (by omega) (fun k a b => hs k a (by omega)) (fun k a b => ?_)
    rw [hs n (by omega) (by omega), hf n (by omega) (by omega)]
    split
    · exact uf_eq (hf k a b) rfl
    · exact hf k a b
section AG
variable {σ : Sg}
theorem kn_in (h : Rel σ) : 0 ≤ knE σ ∧ knE σ ≤ σ.1 62 7 ∧ σ.1 62 7 ≤ 24 := by
  obtain ⟨a1, a2, -⟩ := h.si
  unfold knE
  split <;> omega
theorem an_km (h : Rel σ) : mKm σ = knE σ := by unfold mKm knE; rw [h.sc.1, h.sc.2.1]
theorem an_cn (h : Rel σ) {k : Int} (k0 : 0 ≤ k) (k1 : k < 24) : cntF σ k = mcn σ k := by
  have hk := kn_in h
  unfold cntF mcn
  rw [an_km h]
  refine stD_c (N := 24) _ _ _ (by omega) (fun j a b => ((h.sc.2.2 j a (by omega)).1).symm) (fun j a b => ?_) k k0 k1
  unfold cf0
  rw [if_pos (show 0 ≤ j ∧ j < 24 from ⟨a, b⟩), if_pos (show 0 ≤ j ∧ j < 24 from ⟨a, b⟩)]
theorem an_ct (h : Rel σ) (k : Int) : ctS σ k ↔ mctS σ k := by
  have hk := kn_in h
  unfold ctS mctS
  rw [an_km h]
  constructor
  · rintro ⟨a, b, c, d⟩
    have e : k < knE σ := by
      rcases (show k < knE σ ∨ knE σ ≤ k by omega) with q | q
      · exact q
      · exact absurd (stD_z _ _ _ (by unfold cf0; rw [if_pos ⟨a, by omega⟩, if_neg (by omega)])) c
    exact ⟨a, e, by rw [← an_cn h a (by omega)]; exact c, by rw [(h.sc.2.2 k a b).1]; exact d⟩
  · rintro ⟨a, b, c, d⟩
    exact ⟨a, by omega, by rw [an_cn h a (by omega)]; exact c, by rw [← (h.sc.2.2 k a (by omega)).1]; exact d⟩
theorem an_y1 (h : Rel σ) : ∀ k, ctS σ k → 1 ≤ σ.1 64 k := fun k q => by
  have hc := h.sc.2.2 k q.1 q.2.1
  have hm := h.mn.2.2.2.2 k q.1 (by rw [h.sc.1]; exact q.2.1) (by rw [hc.1]; exact q.2.2.2)
  rw [← (hc.2 q.2.2.2).1]
  exact hm.2
theorem an_sp (h : Rel σ) : SP σ := fun k a b c => by
  have hc := h.sc.2.2 k a b
  have hm := h.mn.2.2.2.2 k a (by rw [h.sc.1]; exact b) (by rw [hc.1]; exact c)
  rw [← (hc.2 c).2.1, ← h.c1]
  exact hm.1
theorem an_gn (h : Rel σ) (c g : Int) (t : Nat) : ∀ i, 0 ≤ i → i < 4 * σ.1 2 2 → (gRn σ c g t).1.1 i = (mGn σ c g t).1.1 i := by
  unfold gRn mGn
  rw [h.tc.1.2.2.2.2.2.1]
  exact (paR_m1 h.ti h.tb h.tc (ck := σ.1 12) (ck' := σ.1 88) (fun s a b => (h.tc.2.2.1 s a (by have := h.n4; omega)).symm) (-1) 0 0 (n := σ.1 2 7) (y := yS σ c g) (y' := mYS σ c g) ⟨fun _ _ _ => rfl, fun k a b => ⟨uf_eq (h.tc.2.2.2.1 k a b).2.1.symm rfl, rfl⟩, rfl, rfl⟩ t).1
theorem an_fit (h : Rel σ) (c g : Int) : fitM σ c g = fitC σ c g := by
  unfold fitM fitC
  refine propext ⟨fun q k hk => ?_, fun q k hk => ?_⟩
  · have q1 := q k ((an_ct h k).1 hk)
    have hc := h.sc.2.2 k hk.1 hk.2.1
    obtain ⟨e1, e2, e3, e4, e5⟩ := hc.2 hk.2.2.2
    have hp := an_sp h k hk.1 hk.2.1 hk.2.2.2
    have hp0 := (h.si.2.2.1 k hk.1 (by have := kn_in h; have := hk.2.1; omega)).2.2.1.1
    unfold hoS
    unfold mhoS at q1
    rw [e1, e2, e3, e4, e5] at q1
    rw [← q1]
    exact gHold_c (h.rc hp0 hp) (fun i a b => an_gn h c g _ i (by omega) (by omega)) _ _
  · have hk' := (an_ct h k).2 hk
    have q1 := q k hk'
    have hc := h.sc.2.2 k hk'.1 hk'.2.1
    obtain ⟨e1, e2, e3, e4, e5⟩ := hc.2 hk'.2.2.2
    have hp := an_sp h k hk'.1 hk'.2.1 hk'.2.2.2
    have hp0 := (h.si.2.2.1 k hk'.1 (by have := kn_in h; have := hk'.2.1; omega)).2.2.1.1
    unfold mhoS
    unfold hoS at q1
    rw [e1, e2, e3, e4, e5, ← q1]
    exact (gHold_c (h.rc hp0 hp) (fun i a b => an_gn h c g _ i (by omega) (by omega)) _ _).symm
theorem an_ye (h : Rel σ) {p : Int} (p0 : 0 ≤ p) (p1 : p < σ.1 2 2) (c v z : Int) : woN (σ.1 86) (σ.1 87) (m20 σ c) v p z = woN (σ.1 3) (σ.1 4) (g20 σ c) v p z := by
  funext x
  have e : ∀ r l, yeN (σ.1 86) (σ.1 87) (m20 σ c) v p r l = yeN (σ.1 3) (σ.1 4) (g20 σ c) v p r l := fun r l => by
    unfold yeN
    refine zs_congr (fun k _ _ => ?_)
    unfold yeF
    rw [show gHold (σ.1 86) (σ.1 87) (m20 σ c (k + 1)) p r l = gHold (σ.1 3) (σ.1 4) (g20 σ c (k + 1)) p r l from gHold_c ⟨(h.rc p0 p1).1.symm, (h.rc p0 p1).2.symm⟩ (fun i a b => (an_gn h c (k + 1) 20 i (by omega) (by omega)).symm) _ _]
  unfold woN
  rw [e]
end AG
/-! ===== questions, both asked ===== -/
theorem iZ_n51 (σ : Sg) : ∀ a i, iZ ((sI σ 82 51 (iZ (σ.1 82 51)).toInt).1 a i) = iZ (σ.1 a i) := fun a i => by
  rw [sI_1]
  by_cases q : a = 82 ∧ i = 51
  · rw [if_pos q, q.1, q.2, iZ_of]
  · rw [if_neg q]
theorem Con_eq {G : Gx} {d : Nat} {M : Mt} {vs : List Value} {σ τ : Sg} {P : Option Value → Sg → Prop} (hv : ∀ a i, iZ (τ.1 a i) = iZ (σ.1 a i)) (h2 : τ.2 = σ.2) (h : Con G d M vs τ P) : Con G d M vs σ P := by
  have e : ∀ a c, ent G.2.2.1 G.2.2.2 τ a c = ent G.2.2.1 G.2.2.2 σ a c := by
    intro a c
    cases c with
    | inl c =>
      obtain ⟨t, n⟩ := c
      unfold ent avl
      match t with
      | 1 => rw [h2]; rfl
      | 0 => simp only [hv]
      | t + 2 => simp only [hv]
    | inr c =>
      obtain ⟨ci, fl⟩ := c
      have h1 : ∀ j f, fvl G.2.2.2 τ a j f = fvl G.2.2.2 σ a j f := fun j f => by
        unfold fvl
        match f with
        | 0 => simp only [hv]
        | 1 => rw [h2]
        | t + 2 => rfl
      unfold ent
      simp only [h1]
  have ew : gW G τ = gW G σ := by
    unfold gW wsOf
    simp only [e]
  unfold Con gP at h ⊢
  rw [ew] at h
  exact h

set_option maxHeartbeats 1000000 in
theorem st_fault {G : Gx} {σ : Sg} {x : Int} (hR : Rel σ) (hx : R32 x) : Con G 1 mX11_fault [.ref (G.2.2.2 + 0), .int (iZ x)] σ (pI (fun z σ1 => Con G 1 mX12_fault [.ref (G.2.2.2 + 82), .int (iZ x)] σ1 (pI (fun z' σ2 => z' = z ∧ Rel σ2)))) := by
  refine Con_mono (c_X11_fault hx) (fun ro σ1 hq => ?_)
  obtain ⟨z, er, hq⟩ := hq
  refine ⟨z, er, ?_⟩
  obtain ⟨ez, e1⟩ := hq
  rw [e1]
  have hρ := hR.th
  refine Con_mono (c_X12_fault rfl hx) (fun ro' σ2 hq' => ?_)
  obtain ⟨z', er', hq'⟩ := hq'
  refine ⟨z', er', ?_⟩
  obtain ⟨ez', e2⟩ := hq'
  rw [ez', ez, e2]
  exact ⟨an_fault hρ x, hρ⟩

set_option maxHeartbeats 1000000 in
theorem st_named {G : Gx} {σ : Sg} {x l : Int} (hR : Rel σ) (hx : R32 x) (hl : R32 l) : Con G 3 mX11_named [.ref (G.2.2.2 + 0), .int (iZ x), .int (iZ l)] σ (pI (fun z σ1 => Con G 2 mX12_named [.ref (G.2.2.2 + 82), .int (iZ x), .int (iZ l)] σ1 (pI (fun z' σ2 => z' = z ∧ Rel σ2)))) := by
  refine Con_mono (c_X11_named hR.ti hx hl) (fun ro σ1 hq => ?_)
  obtain ⟨z, er, hq⟩ := hq
  refine ⟨z, er, ?_⟩
  obtain ⟨ez, e1⟩ := hq
  rw [e1]
  have hρ := hR.th
  refine Con_mono (c_X12_named rfl hρ.mt hx hl) (fun ro' σ2 hq' => ?_)
  obtain ⟨z', er', hq'⟩ := hq'
  refine ⟨z', er', ?_⟩
  obtain ⟨ez', e2⟩ := hq'
  rw [ez', ez, e2]
  exact ⟨an_named hρ x l, hρ⟩

set_option maxHeartbeats 1000000 in
theorem st_child {G : Gx} {σ : Sg} {c x : Int} (hR : Rel σ) (hc : R32 c) (hx : R32 x) : Con G 2 mX11_child [.ref (G.2.2.2 + 0), .int (iZ c), .int (iZ x)] σ (pI (fun z σ1 => Con G 2 mX12_child [.ref (G.2.2.2 + 82), .int (iZ c), .int (iZ x)] σ1 (pI (fun z' σ2 => z' = z ∧ Rel σ2)))) := by
  refine Con_mono (c_X11_child hR.ti hc hx) (fun ro σ1 hq => ?_)
  obtain ⟨z, er, hq⟩ := hq
  refine ⟨z, er, ?_⟩
  obtain ⟨ez, e1⟩ := hq
  rw [e1]
  have hρ := hR.th
  refine Con_mono (c_X12_child rfl hρ.mt hc hx) (fun ro' σ2 hq' => ?_)
  obtain ⟨z', er', hq'⟩ := hq'
  refine ⟨z', er', ?_⟩
  obtain ⟨ez', e2⟩ := hq'
  rw [ez', ez, e2]
  exact ⟨an_child hρ c x, hρ⟩

set_option maxHeartbeats 1000000 in
theorem st_cake {G : Gx} {σ : Sg} {p x : Int} (hR : Rel σ) (hp : R32 p) (hx : R32 x) : Con G 2 mX11_cake [.ref (G.2.2.2 + 0), .int (iZ p), .int (iZ x)] σ (pI (fun z σ1 => Con G 2 mX12_cake [.ref (G.2.2.2 + 82), .int (iZ p), .int (iZ x)] σ1 (pI (fun z' σ2 => z' = z ∧ Rel σ2)))) := by
  refine Con_mono (c_X11_cake hR.ti hp hx) (fun ro σ1 hq => ?_)
  obtain ⟨z, er, hq⟩ := hq
  refine ⟨z, er, ?_⟩
  obtain ⟨ez, e1⟩ := hq
  rw [e1]
  have hρ := hR.th
  refine Con_mono (c_X12_cake rfl hρ.mt hp hx) (fun ro' σ2 hq' => ?_)
  obtain ⟨z', er', hq'⟩ := hq'
  refine ⟨z', er', ?_⟩
  obtain ⟨ez', e2⟩ := hq'
  rw [ez', ez, e2]
  exact ⟨an_cake hρ p x, hρ⟩

set_option maxHeartbeats 1000000 in
theorem st_owners {G : Gx} {σ : Sg} {r c : Int} (hR : Rel σ) (hr : R32 r) (hc : R32 c) : Con G 4 mX11_owners [.ref (G.2.2.2 + 0), .int (iZ r), .int (iZ c)] σ (pI (fun z σ1 => Con G 5 mX12_owners [.ref (G.2.2.2 + 82), .int (iZ r), .int (iZ c)] σ1 (pI (fun z' σ2 => z' = z ∧ Rel σ2)))) := by
  refine Con_mono (c_X11_owners hR.ti hR.li hr hc) (fun ro σ1 hq => ?_)
  obtain ⟨z, er, hq⟩ := hq
  refine ⟨z, er, ?_⟩
  obtain ⟨ez, e1⟩ := hq
  rw [e1]
  have hρ := hR.th
  refine Con_mono (c_X12_owners rfl hρ.mt hρ.mi hr hc) (fun ro' σ2 hq' => ?_)
  obtain ⟨z', er', hq'⟩ := hq'
  refine ⟨z', er', ?_⟩
  obtain ⟨ez', e2⟩ := hq'
  rw [ez', ez, e2]
  exact ⟨an_owners hρ r c, hρ⟩

set_option maxHeartbeats 1000000 in
theorem st_overlap {G : Gx} {σ : Sg} {a b : Int} (hR : Rel σ) (ha : R32 a) (hb : R32 b) : Con G 4 mX11_overlap [.ref (G.2.2.2 + 0), .int (iZ a), .int (iZ b)] σ (pI (fun z σ1 => Con G 5 mX12_overlap [.ref (G.2.2.2 + 82), .int (iZ a), .int (iZ b)] σ1 (pI (fun z' σ2 => z' = z ∧ Rel σ2)))) := by
  refine Con_mono (c_X11_overlap hR.ti hR.li ha hb) (fun ro σ1 hq => ?_)
  obtain ⟨z, er, hq⟩ := hq
  refine ⟨z, er, ?_⟩
  obtain ⟨ez, e1⟩ := hq
  rw [e1]
  have hρ := hR.th
  refine Con_mono (c_X12_overlap rfl hρ.mt hρ.mi ha hb) (fun ro' σ2 hq' => ?_)
  obtain ⟨z', er', hq'⟩ := hq'
  refine ⟨z', er', ?_⟩
  obtain ⟨ez', e2⟩ := hq'
  rw [ez', ez, e2]
  exact ⟨an_overlap hρ a b, hρ⟩

set_option maxHeartbeats 1000000 in
theorem st_taken {G : Gx} {σ : Sg} (hR : Rel σ) : Con G 5 mX11_taken [.ref (G.2.2.2 + 0)] σ (pI (fun z σ1 => Con G 6 mX12_taken [.ref (G.2.2.2 + 82)] σ1 (pI (fun z' σ2 => z' = z ∧ Rel σ2)))) := by
  refine Con_mono (c_X11_taken hR.ti hR.li) (fun ro σ1 hq => ?_)
  obtain ⟨z, er, hq⟩ := hq
  refine ⟨z, er, ?_⟩
  obtain ⟨ez, e1⟩ := hq
  rw [e1]
  have hρ := hR.th
  refine Con_mono (c_X12_taken rfl hρ.mt hρ.mi) (fun ro' σ2 hq' => ?_)
  obtain ⟨z', er', hq'⟩ := hq'
  refine ⟨z', er', ?_⟩
  obtain ⟨ez', e2⟩ := hq'
  rw [ez', ez, e2]
  exact ⟨an_cells hρ 1, hρ⟩

set_option maxHeartbeats 1000000 in
theorem st_disputed {G : Gx} {σ : Sg} (hR : Rel σ) : Con G 5 mX11_disputed [.ref (G.2.2.2 + 0)] σ (pI (fun z σ1 => Con G 6 mX12_disputed [.ref (G.2.2.2 + 82)] σ1 (pI (fun z' σ2 => z' = z ∧ Rel σ2)))) := by
  refine Con_mono (c_X11_disputed hR.ti hR.li) (fun ro σ1 hq => ?_)
  obtain ⟨z, er, hq⟩ := hq
  refine ⟨z, er, ?_⟩
  obtain ⟨ez, e1⟩ := hq
  rw [e1]
  have hρ := hR.th
  refine Con_mono (c_X12_disputed rfl hρ.mt hρ.mi) (fun ro' σ2 hq' => ?_)
  obtain ⟨z', er', hq'⟩ := hq'
  refine ⟨z', er', ?_⟩
  obtain ⟨ez', e2⟩ := hq'
  rw [ez', ez, e2]
  exact ⟨an_cells hρ 2, hρ⟩

set_option maxHeartbeats 1000000 in
theorem st_realms {G : Gx} {σ : Sg} (hR : Rel σ) : Con G 7 mX11_realms [.ref (G.2.2.2 + 0)] σ (pI (fun z σ1 => Con G 6 mX12_realms [.ref (G.2.2.2 + 82)] σ1 (pI (fun z' σ2 => z' = z ∧ Rel σ2)))) := by
  refine Con_mono (c_X11_realms hR.ti hR.li) (fun ro σ1 hq => ?_)
  obtain ⟨z, er, hq⟩ := hq
  refine ⟨z, er, ?_⟩
  obtain ⟨ez, e1⟩ := hq
  rw [e1]
  have hρ := hR.th
  refine Con_mono (c_X12_realms rfl hρ.mt hρ.mi) (fun ro' σ2 hq' => ?_)
  obtain ⟨z', er', hq'⟩ := hq'
  refine ⟨z', er', ?_⟩
  obtain ⟨ez', e2⟩ := hq'
  rw [ez', ez, e2]
  exact ⟨an_realms hρ, hρ⟩

set_option maxHeartbeats 1000000 in
theorem st_rests {G : Gx} {σ : Sg} {a b : Int} (hR : Rel σ) (ha : R32 a) (hb : R32 b) : Con G 6 mX11_rests [.ref (G.2.2.2 + 0), .int (iZ a), .int (iZ b)] σ (pI (fun z σ1 => Con G 8 mX12_rests [.ref (G.2.2.2 + 82), .int (iZ a), .int (iZ b)] σ1 (pI (fun z' σ2 => z' = z ∧ Rel σ2)))) := by
  refine Con_mono (c_X11_rests hR.ti hR.li ha hb) (fun ro σ1 hq => ?_)
  obtain ⟨z, er, hq⟩ := hq
  refine ⟨z, er, ?_⟩
  obtain ⟨ez, e1⟩ := hq
  rw [e1]
  have hρ := hR.th
  refine Con_mono (c_X12_rests rfl hρ.mt hρ.mi ha hb) (fun ro' σ2 hq' => ?_)
  obtain ⟨z', er', hq'⟩ := hq'
  refine ⟨z', er', ?_⟩
  obtain ⟨ez', e2⟩ := hq'
  rw [ez', ez, e2]
  exact ⟨an_rests hρ a b, hρ⟩

set_option maxHeartbeats 1000000 in
theorem st_count {G : Gx} {σ : Sg} {x : Int} (hR : Rel σ) (hx : R32 x) : Con G 5 mX11_count [.ref (G.2.2.2 + 0), .int (iZ x)] σ (pI (fun z σ1 => Con G 6 mX12_count [.ref (G.2.2.2 + 82), .int (iZ x)] σ1 (pI (fun z' σ2 => z' = z ∧ Rel σ2)))) := by
  refine Con_mono (c_X11_count hR.ti hR.li hR.si hx) (fun ro σ1 hq => ?_)
  obtain ⟨z, er, hq⟩ := hq
  refine ⟨z, er, ?_⟩
  obtain ⟨ez, e1⟩ := hq
  rw [e1]
  have hρ := hR.th
  refine Con_mono (c_X12_count rfl hρ.mt hρ.mi ⟨by have := hρ.mn.2.1; omega, by have := hρ.mn.2.1; have := hρ.mn.1; omega⟩ hx) (fun ro' σ2 hq' => ?_)
  obtain ⟨z', er', hq'⟩ := hq'
  refine ⟨z', er', ?_⟩
  obtain ⟨ez', e2⟩ := hq'
  rw [ez', ez, e2]
  exact ⟨an_count hρ x, hρ⟩

set_option maxHeartbeats 1000000 in
theorem st_law {G : Gx} {σ : Sg} {x a b w : Int} (hR : Rel σ) (hx : R32 x) (ha : R32 a) (hb : R32 b) (hw : R32 w) : Con G 5 mX11_law [.ref (G.2.2.2 + 0), .int (iZ x), .int (iZ a), .int (iZ b), .int (iZ w)] σ (pL (fun z σ1 => Con G 9 mX12_law [.ref (G.2.2.2 + 82), .int (iZ x), .int (iZ a), .int (iZ b), .int (iZ w)] σ1 (pL (fun z' σ2 => z' = z ∧ Rel σ2)))) := by
  refine Con_mono (c_X11_law hR.ti hR.lw hR.li hx ha hb hw) (fun ro σ1 hq => ?_)
  obtain ⟨z, er, hq⟩ := hq
  refine ⟨z, er, ?_⟩
  obtain ⟨ez, hF⟩ := hq
  have h1 := hR.cq hF (by decide)
  have hρ := h1.th
  have hs := SM.of hF (by decide)
  refine Con_mono (c_X12_law rfl hρ.mt hρ.mw hρ.mi hρ.x44 hx ha hb hw) (fun ro' σ2 hq' => ?_)
  obtain ⟨z', er', hq'⟩ := hq'
  refine ⟨z', er', ?_⟩
  obtain ⟨ez', hQ⟩ := hq'
  refine ⟨?_, hρ.qm hQ.qm⟩
  rw [ez', ez, hs.lw, hs.mF, hs.mK, hs.mL, hs.mD, hs.1 84 (by decide), hs.1 86 (by decide), hs.1 87 (by decide), hs.1 91 (by decide), hs.1 102 (by decide)]
  exact an_law hR x a b w

set_option maxHeartbeats 1000000 in
theorem st_ahead {G : Gx} {σ : Sg} {m x i : Int} (hR : Rel σ) (hm : R32 m) (hx : R32 x) (hi : R32 i) : Con G 8 mX11_ahead [.ref (G.2.2.2 + 0), .int (iZ m), .int (iZ x), .int (iZ i)] σ (pI (fun z σ1 => Con G 9 mX12_ahead [.ref (G.2.2.2 + 82), .int (iZ m), .int (iZ x), .int (iZ i)] σ1 (pI (fun z' σ2 => z' = z ∧ Rel σ2)))) := by
  refine Con_mono (c_X11_ahead hR.ti hR.tb hR.lw hR.li hR.y98 hm hx hi) (fun ro σ1 hq => ?_)
  obtain ⟨z, er, hq⟩ := hq
  refine ⟨z, er, ?_⟩
  rcases hq with ⟨hk, ez, e1⟩ | ⟨hk, hz, hF⟩
  · rw [e1]
    have hρ := hR.th
    refine Con_mono (c_X12_ahead rfl hρ.mt hρ.mb hρ.mw hρ.mi hρ.m98 hρ.x44 hρ.x45 hm hx hi) (fun ro' σ2 hq' => ?_)
    obtain ⟨z', er', hq'⟩ := hq'
    refine ⟨z', er', ?_⟩
    rcases hq' with ⟨hk', ez', e2⟩ | ⟨hk', _⟩
    · rw [ez', ez, e2]; exact ⟨rfl, hρ⟩
    · exfalso
      rw [show (sI σ 82 0 0).1 84 1 = σ.1 2 2 from hρ.c1, show (sI σ 82 0 0).1 84 2 = σ.1 2 3 from hρ.c2] at hk'
      exact hk hk'
  have h1 := hR.cq hF (by decide)
  have hρ := h1.th
  have hs := SM.of hF (by decide)
  refine Con_mono (c_X12_ahead rfl hρ.mt hρ.mb hρ.mw hρ.mi hρ.m98 hρ.x44 hρ.x45 hm hx hi) (fun ro' σ2 hq' => ?_)
  obtain ⟨z', er', hq'⟩ := hq'
  refine ⟨z', er', ?_⟩
  rcases hq' with ⟨hk', _⟩ | ⟨hk', hz', hQ⟩
  · exfalso
    rw [hs.1 84 (by decide), hR.c1, hR.c2] at hk'
    exact hk' hk
  · refine ⟨?_, hρ.qm hQ⟩
    rw [hz', hz, hs.ah, an_ahead hR hk.1]

set_option maxHeartbeats 1000000 in
theorem st_when {G : Gx} {σ : Sg} {p r c : Int} (hR : Rel σ) (hp : R32 p) (hr : R32 r) (hc : R32 c) : Con G 8 mX11_when [.ref (G.2.2.2 + 0), .int (iZ p), .int (iZ r), .int (iZ c)] σ (pI (fun z σ1 => Con G 9 mX12_when [.ref (G.2.2.2 + 82), .int (iZ p), .int (iZ r), .int (iZ c)] σ1 (pI (fun z' σ2 => z' = z ∧ Rel σ2)))) := by
  refine Con_mono (c_X11_when hR.ti hR.tb hR.lw hR.li hR.y98 hp hr hc) (fun ro σ1 hq => ?_)
  obtain ⟨z, er, hq⟩ := hq
  refine ⟨z, er, ?_⟩
  rcases hq with ⟨hk, ez, e1⟩ | ⟨hk, hz, hF⟩
  · rw [e1]
    have hρ := hR.th
    refine Con_mono (c_X12_when rfl hρ.mt hρ.mb hρ.mw hρ.mi hρ.m98 hρ.x44 hρ.x45 hp hr hc) (fun ro' σ2 hq' => ?_)
    obtain ⟨z', er', hq'⟩ := hq'
    refine ⟨z', er', ?_⟩
    rcases hq' with ⟨hk', ez', e2⟩ | ⟨hk', _⟩
    · rw [ez', ez, e2]; exact ⟨rfl, hρ⟩
    · exfalso
      rw [show (sI σ 82 0 0).1 84 0 = σ.1 2 0 from hρ.c0, show (sI σ 82 0 0).1 84 1 = σ.1 2 2 from hρ.c1] at hk'
      exact hk hk'
  have h1 := hR.cq hF (by decide)
  have hρ := h1.th
  have hs := SM.of hF (by decide)
  refine Con_mono (c_X12_when rfl hρ.mt hρ.mb hρ.mw hρ.mi hρ.m98 hρ.x44 hρ.x45 hp hr hc) (fun ro' σ2 hq' => ?_)
  obtain ⟨z', er', hq'⟩ := hq'
  refine ⟨z', er', ?_⟩
  rcases hq' with ⟨hk', _⟩ | ⟨hk', hz', hQ⟩
  · exfalso
    rw [hs.1 84 (by decide), hR.c0, hR.c1] at hk'
    exact hk' hk
  · refine ⟨?_, hρ.qm hQ⟩
    simp only [hs.rn, hs.mK, hs.yd, hs.1 86 (by decide), hs.1 87 (by decide), hs.1 103 (by decide)] at hz'
    exact fh_un (fun k _ _ => an_when hR hk.1.1 hk.1.2 r c k) hz hz'

set_option maxHeartbeats 1000000 in
theorem st_laid {G : Gx} {σ : Sg} {p x : Int} (hR : Rel σ) (hp : R32 p) (hx : R32 x) : Con G 7 mX11_laid [.ref (G.2.2.2 + 0), .int (iZ p), .int (iZ x)] σ (pI (fun z σ1 => Con G 12 mX12_laid [.ref (G.2.2.2 + 82), .int (iZ p), .int (iZ x)] σ1 (pI (fun z' σ2 => z' = z ∧ Rel σ2)))) := by
  refine Con_mono (c_X11_laid hR.ti hR.lw hR.li hp hx) (fun ro σ1 hq => ?_)
  obtain ⟨z, er, hq⟩ := hq
  refine ⟨z, er, ?_⟩
  rcases hq with ⟨hk, ez, e1⟩ | ⟨hk, hz, hF⟩
  · rw [e1]
    have hρ := hR.th
    refine Con_mono (c_X12_laid rfl hρ.mt hρ.mw hρ.mi hρ.x44 hp hx) (fun ro' σ2 hq' => ?_)
    obtain ⟨z', er', hq'⟩ := hq'
    refine ⟨z', er', ?_⟩
    rcases hq' with ⟨hk', ez', e2⟩ | ⟨hk', _⟩
    · rw [ez', ez, e2]; exact ⟨rfl, hρ⟩
    · exfalso
      rw [show (sI σ 82 0 0).1 84 1 = σ.1 2 2 from hρ.c1] at hk'
      exact hk hk'
  have h1 := hR.cq hF (by decide)
  have hρ := h1.th
  have hs := SM.of hF (by decide)
  refine Con_mono (c_X12_laid rfl hρ.mt hρ.mw hρ.mi hρ.x44 hp hx) (fun ro' σ2 hq' => ?_)
  obtain ⟨z', er', hq'⟩ := hq'
  refine ⟨z', er', ?_⟩
  rcases hq' with ⟨hk', _⟩ | ⟨hk', hz', hQ⟩
  · exfalso
    rw [hs.1 84 (by decide), hR.c1] at hk'
    exact hk' hk
  · refine ⟨?_, hρ.qm hQ⟩
    obtain ⟨b, hb, hz⟩ := hz
    obtain ⟨b', hb', hz'⟩ := hz'
    rw [show mFr (sI σ1 82 0 0) p = mFr σ p from by funext w c; exact hs.fr p w c, hs.1 84 (by decide), hR.c2] at hb' hz'
    have hn : 1 ≤ σ.1 2 3 + 1 := by have := hR.ti.2.2.2.1.1; omega
    have e := lyB_un (lyB_c hn (fun w c a b d => an_fr hR hk.1.1 hk.1.2 a b d) hb') hb
    subst e
    rw [hz', hz]
    rw [show lyA (mFr σ p) (dg (σ.1 2 3 + 1) b') = lyA (cFr σ p) (dg (σ.1 2 3 + 1) b') from lyA_c (fun w a b => an_fr hR hk.1.1 hk.1.2 a b (dg_in hn).1)]

set_option maxHeartbeats 1000000 in
theorem st_cakeFor {G : Gx} {σ : Sg} {p c w r l : Int} (hR : Rel σ) (hp : R32 p) (hc : R32 c) (hw : R32 w) (hr : R32 r) (hl : R32 l) : Con G 6 mX11_cakeFor [.ref (G.2.2.2 + 0), .int (iZ p), .int (iZ c), .int (iZ w), .int (iZ r), .int (iZ l)] σ (pI (fun z σ1 => Con G 8 mX12_cakeFor [.ref (G.2.2.2 + 82), .int (iZ p), .int (iZ c), .int (iZ w), .int (iZ r), .int (iZ l)] σ1 (pI (fun z' σ2 => z' = z ∧ Rel σ2)))) := by
  refine Con_mono (c_X11_cakeFor hR.ti hR.tb hR.lw hR.li hR.y98 hp hc hw hr hl) (fun ro σ1 hq => ?_)
  obtain ⟨z, er, hq⟩ := hq
  refine ⟨z, er, ?_⟩
  rcases hq with ⟨hk, ez, e1⟩ | ⟨hk, hz, hF⟩
  · rw [e1]
    have hρ := hR.th
    refine Con_mono (c_X12_cakeFor rfl hρ.mt hρ.mb hρ.mw hρ.mi hρ.m98 hρ.x44 hρ.x45 hp hc hw hr hl) (fun ro' σ2 hq' => ?_)
    obtain ⟨z', er', hq'⟩ := hq'
    refine ⟨z', er', ?_⟩
    rcases hq' with ⟨hk', ez', e2⟩ | ⟨hk', _⟩
    · rw [ez', ez, e2]; exact ⟨rfl, hρ⟩
    · exfalso
      rw [show (sI σ 82 0 0).1 84 0 = σ.1 2 0 from hρ.c0, show (sI σ 82 0 0).1 84 1 = σ.1 2 2 from hρ.c1, show (sI σ 82 0 0).1 84 2 = σ.1 2 3 from hρ.c2] at hk'
      exact hk hk'
  have h1 := hR.cq hF (by decide)
  have hρ := h1.th
  have hs := SM.of hF (by decide)
  refine Con_mono (c_X12_cakeFor rfl hρ.mt hρ.mb hρ.mw hρ.mi hρ.m98 hρ.x44 hρ.x45 hp hc hw hr hl) (fun ro' σ2 hq' => ?_)
  obtain ⟨z', er', hq'⟩ := hq'
  refine ⟨z', er', ?_⟩
  rcases hq' with ⟨hk', _⟩ | ⟨hk', hz', hQ⟩
  · exfalso
    rw [hs.1 84 (by decide), hR.c0, hR.c1, hR.c2] at hk'
    exact hk' hk
  · refine ⟨?_, hρ.qm hQ⟩
    simp only [hs.wk, hs.mF, hs.1 84 (by decide), hs.1 86 (by decide), hs.1 87 (by decide)] at hz'
    exact fh_un (fun k _ _ => an_cf hR hk.1.1 hk.1.2 hk.2.1.1 hk.2.1.2 hk.2.2.1.1 hk.2.2.1.2 r l k) hz hz'

set_option maxHeartbeats 1000000 in
theorem st_chance {G : Gx} {σ : Sg} {x m p a : Int} (hR : Rel σ) (hx : R32 x) (hm : R32 m) (hp : R32 p) (ha : R32 a) : Con G 8 mX11_chance [.ref (G.2.2.2 + 0), .int (iZ x), .int (iZ m), .int (iZ p), .int (iZ a)] σ (pI (fun z σ1 => Con G 9 mX12_chance [.ref (G.2.2.2 + 82), .int (iZ x), .int (iZ m), .int (iZ p), .int (iZ a)] σ1 (pI (fun z' σ2 => z' = z ∧ Rel σ2)))) := by
  refine Con_mono (c_X11_chance hR.ti hR.tb hR.lw hR.li hR.y98 hx hm hp ha) (fun ro σ1 hq => ?_)
  obtain ⟨z, er, hq⟩ := hq
  refine ⟨z, er, ?_⟩
  rcases hq with ⟨hk, ez, e1⟩ | ⟨hk, hz, hF⟩
  · rw [e1]
    have hρ := hR.th
    refine Con_mono (c_X12_chance rfl hρ.mt hρ.mb hρ.mw hρ.mi hρ.m98 hρ.x44 hρ.x45 hx hm hp ha) (fun ro' σ2 hq' => ?_)
    obtain ⟨z', er', hq'⟩ := hq'
    refine ⟨z', er', ?_⟩
    rcases hq' with ⟨hk', ez', e2⟩ | ⟨hk', _⟩
    · rw [ez', ez, e2]; exact ⟨rfl, hρ⟩
    · exfalso
      rw [show (sI σ 82 0 0).1 84 1 = σ.1 2 2 from hρ.c1] at hk'
      exact hk hk'
  have h1 := hR.cq hF (by decide)
  have hρ := h1.th
  have hs := SM.of hF (by decide)
  refine Con_mono (c_X12_chance rfl hρ.mt hρ.mb hρ.mw hρ.mi hρ.m98 hρ.x44 hρ.x45 hx hm hp ha) (fun ro' σ2 hq' => ?_)
  obtain ⟨z', er', hq'⟩ := hq'
  refine ⟨z', er', ?_⟩
  rcases hq' with ⟨hk', _⟩ | ⟨hk', hz', hQ⟩
  · exfalso
    rw [hs.1 84 (by decide), hR.c1] at hk'
    exact hk' hk
  · refine ⟨?_, hρ.qm hQ⟩
    rw [hz', hz, hs.ch, an_chance hR hk.2.2.2.1.1 hk.2.2.2.1.2]

set_option maxHeartbeats 1000000 in
theorem st_tried {G : Gx} {σ : Sg} {x i m : Int} (hR : Rel σ) (hx : R32 x) (hi : R32 i) (hm : R32 m) : Con G 8 mX11_tried [.ref (G.2.2.2 + 0), .int (iZ x), .int (iZ i), .int (iZ m)] σ (pI (fun z σ1 => Con G 9 mX12_tried [.ref (G.2.2.2 + 82), .int (iZ x), .int (iZ i), .int (iZ m)] σ1 (pI (fun z' σ2 => z' = z ∧ Rel σ2)))) := by
  refine Con_mono (c_X11_tried hR.ti hR.tb hR.lw hR.li hR.y98 hx hi hm) (fun ro σ1 hq => ?_)
  obtain ⟨z, er, hq⟩ := hq
  refine ⟨z, er, ?_⟩
  rcases hq with ⟨hk, ez, e1⟩ | ⟨hk, hz, hF⟩
  · rw [e1]
    have hρ := hR.th
    refine Con_mono (c_X12_tried rfl hρ.mt hρ.mb hρ.mw hρ.mi hρ.m98 hρ.x44 hρ.x45 hx hi hm) (fun ro' σ2 hq' => ?_)
    obtain ⟨z', er', hq'⟩ := hq'
    refine ⟨z', er', ?_⟩
    rcases hq' with ⟨hk', ez', e2⟩ | ⟨hk', _⟩
    · rw [ez', ez, e2]; exact ⟨rfl, hρ⟩
    · exfalso
      rw [show (sI σ 82 0 0).1 84 2 = σ.1 2 3 from hρ.c2] at hk'
      exact hk hk'
  have h1 := hR.cq hF (by decide)
  have hρ := h1.th
  have hs := SM.of hF (by decide)
  refine Con_mono (c_X12_tried rfl hρ.mt hρ.mb hρ.mw hρ.mi hρ.m98 hρ.x44 hρ.x45 hx hi hm) (fun ro' σ2 hq' => ?_)
  obtain ⟨z', er', hq'⟩ := hq'
  refine ⟨z', er', ?_⟩
  rcases hq' with ⟨hk', _⟩ | ⟨hk', hz', hQ⟩
  · exfalso
    rw [hs.1 84 (by decide), hR.c2] at hk'
    exact hk' hk
  · refine ⟨?_, hρ.qm hQ⟩
    rw [hz', hz, hs.tr, hs.1 84 (by decide), hs.1 86 (by decide), hs.1 87 (by decide)]
    exact an_tried hR hk

set_option maxHeartbeats 1000000 in
theorem st_legsOf {G : Gx} {σ : Sg} {c : Int} (hR : Rel σ) (hc : R32 c) : Con G 9 mX11_legsOf [.ref (G.2.2.2 + 0), .int (iZ c)] σ (pI (fun z σ1 => Con G 10 mX12_legsOf [.ref (G.2.2.2 + 82), .int (iZ c)] σ1 (pI (fun z' σ2 => z' = z ∧ Rel σ2)))) := by
  refine Con_mono (c_X11_legsOf hR.ti hR.tb hR.lw hR.si (an_sp hR) (an_y1 hR) hc) (fun ro σ1 hq => ?_)
  obtain ⟨z, er, hq⟩ := hq
  refine ⟨z, er, ?_⟩
  rcases hq with ⟨hk, ez, e1⟩ | ⟨hk, hz, hF⟩
  · rw [e1]
    have hρ := hR.th
    refine Con_mono (c_X12_legsOf rfl hρ.mt hρ.mb hρ.mw hρ.mn hρ.x44 (by rw [hρ.x45]; decide) hc) (fun ro' σ2 hq' => ?_)
    obtain ⟨z', er', hq'⟩ := hq'
    refine ⟨z', er', ?_⟩
    rcases hq' with ⟨hk', ez', e2⟩ | ⟨hk', _⟩
    · rw [ez', ez, e2]; exact ⟨rfl, hρ⟩
    · exfalso
      rw [show (sI σ 82 0 0).1 84 2 = σ.1 2 3 from hρ.c2] at hk'
      exact hk hk'
  have h1 := hR.cg9 hF.1 hF.2
  have hρ := h1.th
  have hs := SM.of hF.1 (by decide)
  refine Con_mono (c_X12_legsOf rfl hρ.mt hρ.mb hρ.mw hρ.mn hρ.x44 (by rw [hρ.x45]; decide) hc) (fun ro' σ2 hq' => ?_)
  obtain ⟨z', er', hq'⟩ := hq'
  refine ⟨z', er', ?_⟩
  rcases hq' with ⟨hk', _⟩ | ⟨hk', hz', hQ⟩
  · exfalso
    rw [hs.1 84 (by decide), hR.c2] at hk'
    exact hk' hk
  · refine ⟨?_, hρ.qn hQ.1 hQ.2⟩
    rw [hz', hz]
    simp only [hs.fit, an_fit hR]

set_option maxHeartbeats 1000000 in
theorem st_ask {G : Gx} {σ : Sg} {c p x : Int} (hR : Rel σ) (hc : R32 c) (hp : R32 p) (hx : R32 x) : Con G 9 mX11_ask [.ref (G.2.2.2 + 0), .int (iZ c), .int (iZ p), .int (iZ x)] σ (pI (fun z σ1 => Con G 11 mX12_ask [.ref (G.2.2.2 + 82), .int (iZ c), .int (iZ p), .int (iZ x)] σ1 (pI (fun z' σ2 => z' = z ∧ Rel σ2)))) := by
  refine Con_mono (c_X11_ask hR.ti hR.tb hR.lw hR.si (an_sp hR) (an_y1 hR) hc hp hx) (fun ro σ1 hq => ?_)
  obtain ⟨z, er, hq⟩ := hq
  refine ⟨z, er, ?_⟩
  rcases hq with ⟨hk, ez, e1⟩ | ⟨hk, hz, hF⟩
  · rw [e1]
    have hρ := hR.th
    refine Con_mono (c_X12_ask rfl hρ.mt hρ.mb hρ.mw hρ.mn hρ.x44 (by rw [hρ.x45]; decide) hc hp hx) (fun ro' σ2 hq' => ?_)
    obtain ⟨z', er', hq'⟩ := hq'
    refine ⟨z', er', ?_⟩
    rcases hq' with ⟨hk', ez', e2⟩ | ⟨hk', _⟩
    · rw [ez', ez, e2]; exact ⟨rfl, hρ⟩
    · exfalso
      rw [show (sI σ 82 0 0).1 84 1 = σ.1 2 2 from hρ.c1, show (sI σ 82 0 0).1 84 2 = σ.1 2 3 from hρ.c2] at hk'
      exact hk hk'
  have h1 := hR.cg9 hF.1 hF.2
  have hρ := h1.th
  have hs := SM.of hF.1 (by decide)
  refine Con_mono (c_X12_ask rfl hρ.mt hρ.mb hρ.mw hρ.mn hρ.x44 (by rw [hρ.x45]; decide) hc hp hx) (fun ro' σ2 hq' => ?_)
  obtain ⟨z', er', hq'⟩ := hq'
  refine ⟨z', er', ?_⟩
  rcases hq' with ⟨hk', _⟩ | ⟨hk', hz', hQ⟩
  · exfalso
    rw [hs.1 84 (by decide), hR.c1, hR.c2] at hk'
    exact hk' hk
  · refine ⟨?_, hρ.qn hQ.1 hQ.2⟩
    obtain ⟨b, hb, hz⟩ := hz
    obtain ⟨b', hb', hz'⟩ := hz'
    have eV : (fun k => fitB (fitM (sI σ1 82 0 0) c (k + 1))) = fun k => fitB (fitC σ c (k + 1)) := by
      funext k
      rw [hs.fit, an_fit hR]
    rw [eV, show m20 (sI σ1 82 0 0) c = m20 σ c from by funext g; exact hs.m20 c g, hs.1 84 (by decide), hs.1 86 (by decide), hs.1 87 (by decide), hR.c0, an_ye hR hk.2.1.1 hk.2.1.2] at hb' hz'
    have e := akB_un hb hb'
    subst e
    rw [hz', hz]

set_option maxHeartbeats 1000000 in
theorem st_cut {G : Gx} {σ : Sg} {p q x : Int} (hR : Rel σ) (hp : R32 p) (hq : R32 q) (hx : R32 x) : Con G 4 mX11_cut [.ref (G.2.2.2 + 0), .int (iZ p), .int (iZ q), .int (iZ x)] σ (pI (fun z σ1 => Con G 5 mX12_cut [.ref (G.2.2.2 + 82), .int (iZ p), .int (iZ q), .int (iZ x)] σ1 (pI (fun z' σ2 => z' = z ∧ Rel σ2)))) := by
  refine Con_mono (c_X11_cut hR.ti hR.li hp hq hx) (fun ro σ1 hq_ => ?_)
  obtain ⟨z, er, hq_⟩ := hq_
  refine ⟨z, er, ?_⟩
  obtain ⟨ez, e1⟩ := hq_
  rw [e1]
  have hn : Rel (sI σ 82 51 (iZ (σ.1 82 51)).toInt) := by
    refine hR.fr ((Fr.rf _ _).sI (by decide) _ _) (fun j hj => ?_) (fun u _ => ldm_82 _ _ _ _) (fun k a b => ?_) (fun k a b => ?_)
    · rw [sI_1, if_neg (fun q => by have := q.2; subst this; exact absurd hj (by decide))]
    · rw [sI_ne _ (by decide)]; exact (hR.si.2.2.1 k a b).2.2.2.2.2.2
    · rw [sI_ne _ (by decide)]; exact (hR.mn.2.2.1 k a b).2.2.2.2.2.2
  have hρ := hn.th
  refine Con_eq (iZ_n51 σ) rfl ?_
  refine Con_mono (c_X12_cut rfl hρ.mt hρ.mi (R32_of _) hp hq hx) (fun ro' σ2 hq' => ?_)
  obtain ⟨z', er', hq'⟩ := hq'
  refine ⟨z', er', ?_⟩
  obtain ⟨ez', hQ⟩ := hq'
  refine ⟨?_, hρ.qm hQ⟩
  rw [ez', ez]
  exact an_cut hρ p q x

set_option maxHeartbeats 1000000 in
theorem st_colours {G : Gx} {σ : Sg} (hR : Rel σ) : Con G 6 mX11_colours [.ref (G.2.2.2 + 0)] σ (pI (fun z σ1 => Con G 7 mX12_colours [.ref (G.2.2.2 + 82)] σ1 (pI (fun z' σ2 => z' = z ∧ Rel σ2)))) := by
  refine Con_mono (c_X11_colours hR.ti hR.li) (fun ro σ1 hq => ?_)
  obtain ⟨z, er, hq⟩ := hq
  refine ⟨z, er, ?_⟩
  obtain ⟨hz, e1⟩ := hq
  rw [e1]
  have hρ := hR.th
  refine Con_mono (c_X12_colours rfl hρ.mt hρ.mi) (fun ro' σ2 hq' => ?_)
  obtain ⟨z', er', hq'⟩ := hq'
  refine ⟨z', er', ?_⟩
  obtain ⟨hz', hF⟩ := hq'
  refine ⟨an_colours hρ hz hz', ?_⟩
  refine hρ.fr (hF.mono (by decide)) (fun j _ => by rw [(hF 82 (by decide)).1]) (fun u _ => ?_) (fun k a b => ?_) (fun k a b => ?_)
  · refine ldm_ext (fun i _ _ => ?_) (fun i _ _ => ?_) ?_ ?_ ?_
    · unfold mF mK; rw [(hF 105 (by decide)).1, (hF 106 (by decide)).1]; exact ⟨rfl, rfl⟩
    · unfold mL mD; rw [(hF 107 (by decide)).1, (hF 108 (by decide)).1]; exact ⟨rfl, rfl⟩
    · rw [(hF 104 (by decide)).1]
    · rw [(hF 102 (by decide)).1]
    · rw [(hF 103 (by decide)).1]
  · rw [(hF 69 (by decide)).1]; exact (hρ.si.2.2.1 k a b).2.2.2.2.2.2
  · rw [(hF 118 (by decide)).1]; exact (hρ.mn.2.2.1 k a b).2.2.2.2.2.2

set_option maxHeartbeats 1000000 in
theorem st_rest {G : Gx} {σ : Sg} {p q k : Int} (hR : Rel σ) (hp : R32 p) (hq : R32 q) (hk : R32 k) : Con G 6 mX11_rest [.ref (G.2.2.2 + 0), .int (iZ p), .int (iZ q), .int (iZ k)] σ (pI (fun z σ1 => Con G 8 mX12_rest [.ref (G.2.2.2 + 82), .int (iZ p), .int (iZ q), .int (iZ k)] σ1 (pI (fun z' σ2 => z' = z ∧ Rel σ2)))) := by
  refine Con_mono (c_X11_rest hR.ti hR.li hp hq hk) (fun ro σ1 hq_ => ?_)
  obtain ⟨z, er, hq_⟩ := hq_
  refine ⟨z, er, ?_⟩
  obtain ⟨hz, e1⟩ := hq_
  rw [e1]
  have hρ := hR.th
  refine Con_mono (c_X12_rest rfl hρ.mt hρ.mi hp hq hk) (fun ro' σ2 hq' => ?_)
  obtain ⟨z', er', hq'⟩ := hq'
  refine ⟨z', er', ?_⟩
  obtain ⟨hz', e2⟩ := hq'
  rw [e2]
  refine ⟨?_, hρ⟩
  rw [show (sI σ 82 0 0).1 84 1 = σ.1 2 2 from hρ.c1] at hz'
  rcases hz with ⟨n, e⟩ | ⟨y, hz⟩
  · rcases hz' with ⟨_, e'⟩ | ⟨y', _⟩
    · rw [e, e']
    · exact absurd y' n
  · rcases hz' with ⟨n', _⟩ | ⟨_, hz'⟩
    · exact absurd y n'
    · rw [an_rf hρ y.1.1.1 y.1.1.2 y.1.2.1.1 y.1.2.1.2] at hz'
      exact rest_un (f := gRf σ p q) (fun i => gRest_01 _ _ _ _ _) hz hz'

set_option maxHeartbeats 1000000 in
theorem st_dry {G : Gx} {σ : Sg} {m x : Int} (hR : Rel σ) (hm : R32 m) (hx : R32 x) : Con G 2 mX11_dry [.ref (G.2.2.2 + 0), .int (iZ m), .int (iZ x)] σ (pL (fun z σ1 => Con G 2 mX12_dry [.ref (G.2.2.2 + 82), .int (iZ m), .int (iZ x)] σ1 (pL (fun z' σ2 => z' = z ∧ Rel σ2)))) := by
  refine Con_mono (c_X11_dry hR.ti hm hx) (fun ro σ1 hq => ?_)
  obtain ⟨z, er, hq⟩ := hq
  refine ⟨z, er, ?_⟩
  obtain ⟨hz, e1⟩ := hq
  rw [e1]
  have hρ := hR.th
  refine Con_mono (c_X12_dry rfl hρ.mt hm hx) (fun ro' σ2 hq' => ?_)
  obtain ⟨z', er', hq'⟩ := hq'
  refine ⟨z', er', ?_⟩
  obtain ⟨hz', e2⟩ := hq'
  rw [e2]
  refine ⟨?_, hρ⟩
  rw [show (sI σ 82 0 0).1 84 4 = σ.1 2 6 from hρ.c4] at hz'
  exact dry_eq hR.ti.2.2.2.2.2.2.1 hz hz'

