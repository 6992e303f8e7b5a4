/-- the model stands at the first of these tokens -/
def MK (σ : Sg) (ts : List Tk) : Prop := MTp σ ∧ ∃ t rest, ts = t :: rest ∧ σ.1 82 23 = t.2.1 ∧ MV t (σ.1 82 24) (σ.1 82 25) ∧ (0 ≤ t.1 ∧ t.1 ≤ 37) ∧ (0 ≤ t.2.1 ∧ t.2.1 ≤ σ.1 82 21) ∧ (t.1 ≠ 37 → (0 ≤ σ.1 82 22 ∧ σ.1 82 22 ≤ σ.1 82 21) ∧ rest = tkl (σ.1 83) (σ.1 82 21) (σ.1 82 22))
theorem MK.tp {σ : Sg} {ts : List Tk} (h : MK σ ts) : MTp σ := h.1
theorem MK.ne {σ : Sg} {ts : List Tk} (h : MK σ ts) : ∃ t rest, ts = t :: rest := by
  obtain ⟨-, t, rest, e, -⟩ := h
  exact ⟨t, rest, e⟩
theorem MK.hd {σ : Sg} {t : Tk} {rest : List Tk} (h : MK σ (t :: rest)) : σ.1 82 23 = t.2.1 ∧ MV t (σ.1 82 24) (σ.1 82 25) ∧ (0 ≤ t.1 ∧ t.1 ≤ 37) ∧ (0 ≤ t.2.1 ∧ t.2.1 ≤ 700) := by
  obtain ⟨h1, t', rest', e, h2, h3, h4, h5, -⟩ := h
  cases e
  exact ⟨h2, h3, h4, h5.1, Int.le_trans h5.2 h1.1.2⟩
theorem MK.cg {σ τ : Sg} {ts : List Tk} (h : MK σ ts) (h83 : τ.1 83 = σ.1 83) (h82 : ∀ j, 21 ≤ j → j ≤ 25 → τ.1 82 j = σ.1 82 j) : MK τ ts := by
  unfold MK MTp
  rw [h83, h82 21 (by decide) (by decide), h82 22 (by decide) (by decide), h82 23 (by decide) (by decide), h82 24 (by decide) (by decide), h82 25 (by decide) (by decide)]
  exact h
theorem MV.s {t : Tk} {s v : Int} (h : MV t s v) (h0 : 0 ≤ t.1) (h1 : t.1 ≤ 37) : 0 ≤ s ∧ s ≤ 5 := by
  obtain ⟨m1, m2, m3, m4, m5, m6, -⟩ := h
  rcases (show t.1 ≤ 20 ∨ t.1 = 21 ∨ t.1 = 22 ∨ (23 ≤ t.1 ∧ t.1 ≤ 35) ∨ t.1 = 36 ∨ t.1 = 37 by omega) with q | q | q | q | q | q
  · rw [(m1 h0 q).1]; decide
  · rw [(m2 q).1]; decide
  · rw [(m3 q).1]; decide
  · rw [(m4 q.1 q.2).1]; decide
  · rw [m5 q]; decide
  · rw [m6 q]; decide
/-- by the sort -/
theorem MV.k {t : Tk} {s v : Int} (h : MV t s v) (h0 : 0 ≤ t.1) (h1 : t.1 ≤ 37) : (s = 0 ↔ t.1 ≤ 20) ∧ (s = 1 ↔ t.1 = 21) ∧ (s = 2 ↔ t.1 = 22) ∧ (s = 3 ↔ (23 ≤ t.1 ∧ t.1 ≤ 35)) ∧ (s = 4 ↔ t.1 = 37) ∧ (s = 5 ↔ t.1 = 36) := by
  obtain ⟨m1, m2, m3, m4, m5, m6, -⟩ := h
  rcases (show t.1 ≤ 20 ∨ t.1 = 21 ∨ t.1 = 22 ∨ (23 ≤ t.1 ∧ t.1 ≤ 35) ∨ t.1 = 36 ∨ t.1 = 37 by omega) with q | q | q | q | q | q
  · rw [(m1 h0 q).1]; omega
  · rw [(m2 q).1]; omega
  · rw [(m3 q).1]; omega
  · rw [(m4 q.1 q.2).1]; omega
  · rw [m5 q]; omega
  · rw [m6 q]; omega
theorem sgC_inj : ∀ a : Nat, a < 36 → ∀ b : Nat, b < 36 → 23 ≤ a → 23 ≤ b → sgC (a : Int) = sgC (b : Int) → a = b := by decide +kernel
theorem sgC_rng : ∀ a : Nat, a < 36 → 23 ≤ a → (0 ≤ sgC (a : Int) ∧ sgC (a : Int) ≤ 258) := by decide +kernel
theorem MV.w {t : Tk} {s v w : Int} (h : MV t s v) (h0 : 0 ≤ t.1) (h1 : t.1 ≤ 37) (hw : 0 ≤ w) (hw1 : w ≤ 20) : (s = 0 ∧ v = w) ↔ t.1 = w := by
  have hk := h.k h0 h1
  constructor
  · rintro ⟨a, b⟩
    have := hk.1.1 a
    have := (h.1 h0 this).2
    omega
  · intro q
    have := h.1 h0 (by omega)
    exact ⟨this.1, by omega⟩
theorem MV.g {t : Tk} {s v k : Int} (h : MV t s v) (h0 : 0 ≤ t.1) (h1 : t.1 ≤ 37) (hk0 : 23 ≤ k) (hk1 : k ≤ 35) : (s = 3 ∧ v = sgC k) ↔ t.1 = k := by
  have hk := h.k h0 h1
  constructor
  · rintro ⟨a, b⟩
    have h2 := hk.2.2.2.1.1 a
    have h3 := (h.2.2.2.1 h2.1 h2.2).2
    have := sgC_inj t.1.toNat (by omega) k.toNat (by omega) (by omega) (by omega) (by rw [show ((t.1.toNat : Nat) : Int) = t.1 by omega, show ((k.toNat : Nat) : Int) = k by omega, ← h3, b])
    omega
  · intro q
    have := h.2.2.2.1 (by omega) (by omega)
    exact ⟨this.1, by rw [this.2, q]⟩
theorem MS.mk {σ σ' : Sg} (hM : MTp σ) (h0 : 0 ≤ σ.1 82 22) (h1 : σ.1 82 22 ≤ σ.1 82 21) (h : MS σ σ' (tok (σ.1 83) (σ.1 82 21) (σ.1 82 22))) : MK σ' (tkl (σ.1 83) (σ.1 82 21) (σ.1 82 22)) := by
  obtain ⟨m1, m2, m3, m4⟩ := h
  have e21 : σ'.1 82 21 = σ.1 82 21 := m1.2 21 (by decide)
  have e83 : σ'.1 83 = σ.1 83 := m1.c (by decide)
  obtain ⟨i1, i2, i3, i4, i5, i6⟩ := tok_in (b := σ.1 83) h0 h1
  refine ⟨hM.fm m1 (by decide), _, _, tkl_step h0 h1, m2, m4, i1, ⟨by omega, by omega⟩, fun q => ⟨⟨?_, by omega⟩, ?_⟩⟩
  · rw [m3]; have := i5 q; omega
  · rw [if_neg q, e83, e21, m3]
theorem c_mtok {G : Gx} {σ : Sg} {t : Tk} {rest : List Tk} (h : MK σ (t :: rest)) (hk : t.1 ≠ 37) : Con G 6 mX12_token [.ref (G.2.2.2 + 82)] σ (pV (fun σ' => Fm [] [22, 23, 24, 25] σ σ' ∧ MK σ' rest)) := by
  have hd := h.hd
  obtain ⟨h1, t', rest', e, h2, h3, h4, h5, h6⟩ := h
  cases e
  obtain ⟨h7, h8⟩ := h6 hk
  refine Con_mono (c_X12_token h1 h7.1 h7.2 hd.2.1.2.2.2.2.2.2) ?_
  rintro r σ' ⟨e1, hp⟩
  exact ⟨e1, hp.1, by rw [h8]; exact MS.mk h1 h7.1 h7.2 hp⟩
/-- a fault is written down -/
def wr (σ : Sg) (k : Int) : Sg := sI (sI σ 82 26 k) 82 27 (σ.1 82 23)
theorem wr_F {σ : Sg} {k : Int} : Fm [] [26, 27] σ (wr σ k) := ((Fm.rf _ _ σ).s82 (by decide) _).s82 (by decide) _
theorem wr_f {σ : Sg} {k : Int} : (wr σ k).1 82 26 = k := by unfold wr; rw [sI_1, if_neg (by decide), sI_1, if_pos ⟨rfl, rfl⟩]
theorem wr_p {σ : Sg} {k : Int} : (wr σ k).1 82 27 = σ.1 82 23 := by unfold wr; rw [sI_1, if_pos ⟨rfl, rfl⟩]

theorem c_mwrong0 {G : Gx} {σ : Sg} {k : Int} (hf : σ.1 82 26 = 0)  : Con G 1 mX12_wrong [.ref (G.2.2.2 + 82), .int (iZ k)] σ (pV (fun σ' => σ' = wr σ k)) := by
  refine e_entry om_X12_wrong (Nat.le_of_ble_eq_true rfl) (L := [some (.ref (G.2.2.2 + 82)), some (.int (iZ k))]) rfl ?_
  refine e_aload_n (q := 1) (i := 0) dX12_wrong_0 rfl rfl rfl ?_
  refine e_getI (q := 4) (jz := 26) dX12_wrong_1 rfl fg_X12_190 rfl (by first | assumption | rfl) rfl ?_
  rw [hf]
  refine e_if_eq (q := 7) (tgt := 8) dX12_wrong_4 rfl (by decide) (fun c4 => ?_) (fun c4 => by exfalso; omega)
  refine e_aload_n (q := 9) (i := 0) dX12_wrong_8 rfl rfl rfl ?_
  refine e_iload_n (q := 10) (i := 1) dX12_wrong_9 rfl rfl rfl ?_
  refine e_putI (q := 13) (jz := 26) dX12_wrong_10 rfl fp_X12_190 rfl (by first | assumption | rfl) rfl ?_
  refine e_aload_n (q := 14) (i := 0) dX12_wrong_13 rfl rfl rfl ?_
  refine e_aload_n (q := 15) (i := 0) dX12_wrong_14 rfl rfl rfl ?_
  refine e_getI (q := 18) (jz := 23) dX12_wrong_15 rfl fg_X12_152 rfl (by first | assumption | rfl) rfl ?_
  refine e_putI (q := 21) (jz := 27) dX12_wrong_18 rfl fp_X12_193 rfl (by first | assumption | rfl) rfl ?_
  exact r_v dX12_wrong_21 rfl rfl

theorem c_mwrong1 {G : Gx} {σ : Sg} {k : Int} (hf : R32 (σ.1 82 26)) (hx : σ.1 82 26 ≠ 0)  : Con G 2 mX12_wrong [.ref (G.2.2.2 + 82), .int (iZ k)] σ (pV (fun σ' => σ' = σ)) := by
  refine e_entry om_X12_wrong (Nat.le_of_ble_eq_true rfl) (L := [some (.ref (G.2.2.2 + 82)), some (.int (iZ k))]) rfl ?_
  refine e_aload_n (q := 1) (i := 0) dX12_wrong_0 rfl rfl rfl ?_
  refine e_getI (q := 4) (jz := 26) dX12_wrong_1 rfl fg_X12_190 rfl (by first | assumption | rfl) rfl ?_
  refine e_if_eq (q := 7) (tgt := 8) dX12_wrong_4 rfl (by decide) (fun c4 => by exfalso; omega) (fun c4 => ?_) (hx := hf)
  exact r_v dX12_wrong_7 rfl rfl

theorem c_mWord {G : Gx} {σ : Sg} {t : Tk} {r : List Tk} {w : Int} (hC : MK σ (t :: r)) (hf : σ.1 82 26 = 0) (hw0 : 0 ≤ w) (hw1 : w ≤ 20) : Con G 1 mX12_isWord [.ref (G.2.2.2 + 82), .int (iZ w)] σ (pI (pE σ (if t.1 = w then 1 else 0))) := by
  obtain ⟨m1, m2, m3, m4⟩ := hC.hd
  have hs := m2.s m3.1 m3.2
  have hv := m2.2.2.2.2.2.2
  have hi := m2.w m3.1 m3.2 hw0 hw1
  refine e_entry om_X12_isWord (Nat.le_of_ble_eq_true rfl) (L := [some (.ref (G.2.2.2 + 82)), some (.int (iZ w))]) rfl ?_
  refine e_aload_n (q := 1) (i := 0) dX12_isWord_0 rfl rfl rfl ?_
  refine e_getI (q := 4) (jz := 26) dX12_isWord_1 rfl fg_X12_190 rfl (by first | assumption | rfl) rfl ?_
  rw [hf]
  refine e_if_ne (q := 7) (tgt := 26) dX12_isWord_4 rfl (by decide) (fun c4 => by exfalso; omega) (fun c4 => ?_)
  refine e_aload_n (q := 8) (i := 0) dX12_isWord_7 rfl rfl rfl ?_
  refine e_getI (q := 11) (jz := 24) dX12_isWord_8 rfl fg_X12_155 rfl (by first | assumption | rfl) rfl ?_
  refine e_if_ne (q := 14) (tgt := 26) dX12_isWord_11 rfl (by decide) (fun c11 => ?_) (fun c11 => ?_) (hx := ⟨by omega, by omega⟩)
  · refine e_iconst (q := 27) dX12_isWord_26 rfl ?_
    exact r_z dX12_isWord_27 rfl (by first | exact Or.inl rfl | exact Or.inr rfl | omega) ⟨by rw [if_neg (fun q => c11 (hi.2 q).1)], rfl⟩
  · refine e_aload_n (q := 15) (i := 0) dX12_isWord_14 rfl rfl rfl ?_
    refine e_getI (q := 18) (jz := 25) dX12_isWord_15 rfl fg_X12_165 rfl (by first | assumption | rfl) rfl ?_
    refine e_iload_n (q := 19) (i := 1) dX12_isWord_18 rfl rfl rfl ?_
    refine e_icmp_ne (q := 22) (tgt := 26) dX12_isWord_19 rfl (by decide) (fun c19 => ?_) (fun c19 => ?_) (hx := hv) (hy := ⟨by omega, by omega⟩)
    · refine e_iconst (q := 27) dX12_isWord_26 rfl ?_
      exact r_z dX12_isWord_27 rfl (by first | exact Or.inl rfl | exact Or.inr rfl | omega) ⟨by rw [if_neg (fun q => c19 (hi.2 q).2)], rfl⟩
    · refine e_iconst (q := 23) dX12_isWord_22 rfl ?_
      refine e_goto (tgt := 27) dX12_isWord_23 (by decide) ?_
      exact r_z dX12_isWord_27 rfl (by first | exact Or.inl rfl | exact Or.inr rfl | omega) ⟨by rw [if_pos (hi.1 ⟨by omega, by omega⟩)], rfl⟩

theorem c_mWord1 {G : Gx} {σ : Sg} {w : Int} (hf : R32 (σ.1 82 26)) (hx : σ.1 82 26 ≠ 0)  : Con G 1 mX12_isWord [.ref (G.2.2.2 + 82), .int (iZ w)] σ (pI (pE σ 0)) := by
  refine e_entry om_X12_isWord (Nat.le_of_ble_eq_true rfl) (L := [some (.ref (G.2.2.2 + 82)), some (.int (iZ w))]) rfl ?_
  refine e_aload_n (q := 1) (i := 0) dX12_isWord_0 rfl rfl rfl ?_
  refine e_getI (q := 4) (jz := 26) dX12_isWord_1 rfl fg_X12_190 rfl (by first | assumption | rfl) rfl ?_
  refine e_if_ne (q := 7) (tgt := 26) dX12_isWord_4 rfl (by decide) (fun c4 => ?_) (fun c4 => by exfalso; omega) (hx := hf)
  refine e_iconst (q := 27) dX12_isWord_26 rfl ?_
  exact r_z dX12_isWord_27 rfl (by first | exact Or.inl rfl | exact Or.inr rfl | omega) ⟨rfl, rfl⟩

theorem c_mSign {G : Gx} {σ : Sg} {t : Tk} {r : List Tk} {k w : Int} (hwk : sgC k = w) (hC : MK σ (t :: r)) (hf : σ.1 82 26 = 0) (hw0 : 23 ≤ k) (hw1 : k ≤ 35) : Con G 1 mX12_isSign [.ref (G.2.2.2 + 82), .int (iZ w)] σ (pI (pE σ (if t.1 = k then 1 else 0))) := by
  have hcr := sgC_rng k.toNat (by omega) (by omega)
  rw [show ((k.toNat : Nat) : Int) = k by omega] at hcr
  obtain ⟨m1, m2, m3, m4⟩ := hC.hd
  have hs := m2.s m3.1 m3.2
  have hv := m2.2.2.2.2.2.2
  have hi := m2.g m3.1 m3.2 hw0 hw1
  rw [hwk] at hi hcr
  refine e_entry om_X12_isSign (Nat.le_of_ble_eq_true rfl) (L := [some (.ref (G.2.2.2 + 82)), some (.int (iZ w))]) rfl ?_
  refine e_aload_n (q := 1) (i := 0) dX12_isSign_0 rfl rfl rfl ?_
  refine e_getI (q := 4) (jz := 26) dX12_isSign_1 rfl fg_X12_190 rfl (by first | assumption | rfl) rfl ?_
  rw [hf]
  refine e_if_ne (q := 7) (tgt := 27) dX12_isSign_4 rfl (by decide) (fun c4 => by exfalso; omega) (fun c4 => ?_)
  refine e_aload_n (q := 8) (i := 0) dX12_isSign_7 rfl rfl rfl ?_
  refine e_getI (q := 11) (jz := 24) dX12_isSign_8 rfl fg_X12_155 rfl (by first | assumption | rfl) rfl ?_
  refine e_iconst (q := 12) dX12_isSign_11 rfl ?_
  refine e_icmp_ne (q := 15) (tgt := 27) dX12_isSign_12 rfl (by decide) (fun c12 => ?_) (fun c12 => ?_) (hx := ⟨by omega, by omega⟩)
  · refine e_iconst (q := 28) dX12_isSign_27 rfl ?_
    exact r_z dX12_isSign_28 rfl (by first | exact Or.inl rfl | exact Or.inr rfl | omega) ⟨by rw [if_neg (fun q => c12 (hi.2 q).1)], rfl⟩
  · refine e_aload_n (q := 16) (i := 0) dX12_isSign_15 rfl rfl rfl ?_
    refine e_getI (q := 19) (jz := 25) dX12_isSign_16 rfl fg_X12_165 rfl (by first | assumption | rfl) rfl ?_
    refine e_iload_n (q := 20) (i := 1) dX12_isSign_19 rfl rfl rfl ?_
    refine e_icmp_ne (q := 23) (tgt := 27) dX12_isSign_20 rfl (by decide) (fun c20 => ?_) (fun c20 => ?_) (hx := hv) (hy := ⟨by omega, by omega⟩)
    · refine e_iconst (q := 28) dX12_isSign_27 rfl ?_
      exact r_z dX12_isSign_28 rfl (by first | exact Or.inl rfl | exact Or.inr rfl | omega) ⟨by rw [if_neg (fun q => c20 (hi.2 q).2)], rfl⟩
    · refine e_iconst (q := 24) dX12_isSign_23 rfl ?_
      refine e_goto (tgt := 28) dX12_isSign_24 (by decide) ?_
      exact r_z dX12_isSign_28 rfl (by first | exact Or.inl rfl | exact Or.inr rfl | omega) ⟨by rw [if_pos (hi.1 ⟨by omega, by omega⟩)], rfl⟩

theorem c_mSign1 {G : Gx} {σ : Sg} {w : Int} (hf : R32 (σ.1 82 26)) (hx : σ.1 82 26 ≠ 0)  : Con G 1 mX12_isSign [.ref (G.2.2.2 + 82), .int (iZ w)] σ (pI (pE σ 0)) := by
  refine e_entry om_X12_isSign (Nat.le_of_ble_eq_true rfl) (L := [some (.ref (G.2.2.2 + 82)), some (.int (iZ w))]) rfl ?_
  refine e_aload_n (q := 1) (i := 0) dX12_isSign_0 rfl rfl rfl ?_
  refine e_getI (q := 4) (jz := 26) dX12_isSign_1 rfl fg_X12_190 rfl (by first | assumption | rfl) rfl ?_
  refine e_if_ne (q := 7) (tgt := 27) dX12_isSign_4 rfl (by decide) (fun c4 => ?_) (fun c4 => by exfalso; omega) (hx := hf)
  refine e_iconst (q := 28) dX12_isSign_27 rfl ?_
  exact r_z dX12_isSign_28 rfl (by first | exact Or.inl rfl | exact Or.inr rfl | omega) ⟨rfl, rfl⟩

theorem c_mgoOn0 {G : Gx} {σ : Sg} {t : Tk} {r : List Tk} (hC : MK σ (t :: r)) (hk : t.1 ≠ 37) (hf : σ.1 82 26 = 0)  : Con G 7 mX12_goOn [.ref (G.2.2.2 + 82)] σ (pV (fun σ' => Fm [] [22, 23, 24, 25] σ σ' ∧ MK σ' r)) := by
  refine e_entry om_X12_goOn (Nat.le_of_ble_eq_true rfl) (L := [some (.ref (G.2.2.2 + 82))]) rfl ?_
  refine e_aload_n (q := 1) (i := 0) dX12_goOn_0 rfl rfl rfl ?_
  refine e_getI (q := 4) (jz := 26) dX12_goOn_1 rfl fg_X12_190 rfl (by first | assumption | rfl) rfl ?_
  rw [hf]
  refine e_if_ne (q := 7) (tgt := 11) dX12_goOn_4 rfl (by decide) (fun c4 => by exfalso; omega) (fun c4 => ?_)
  refine e_aload_n (q := 8) (i := 0) dX12_goOn_7 rfl rfl rfl ?_
  refine e_Vv (q := 11) (vs := []) ok_X12_token ml_X12_196 dX12_goOn_8 rfl ⟨_, _, rfl⟩ (by first | assumption | rfl) rfl rfl (Nat.le_of_ble_eq_true rfl) (by decide) (c_mtok hC hk) (fun s8 h8 => ?_)
  exact r_v dX12_goOn_11 rfl h8

theorem c_mgoOn1 {G : Gx} {σ : Sg} (hf : R32 (σ.1 82 26)) (hx : σ.1 82 26 ≠ 0)  : Con G 1 mX12_goOn [.ref (G.2.2.2 + 82)] σ (pV (fun σ' => σ' = σ)) := by
  refine e_entry om_X12_goOn (Nat.le_of_ble_eq_true rfl) (L := [some (.ref (G.2.2.2 + 82))]) rfl ?_
  refine e_aload_n (q := 1) (i := 0) dX12_goOn_0 rfl rfl rfl ?_
  refine e_getI (q := 4) (jz := 26) dX12_goOn_1 rfl fg_X12_190 rfl (by first | assumption | rfl) rfl ?_
  refine e_if_ne (q := 7) (tgt := 11) dX12_goOn_4 rfl (by decide) (fun c4 => ?_) (fun c4 => by exfalso; omega) (hx := hf)
  exact r_v dX12_goOn_11 rfl rfl

theorem c_X12_fresher {G : Gx} {σ : Sg} {j : Int} (h0 : 0 ≤ j) (h6 : j ≤ 6) : Con G 1 mX12_fresher [.ref (G.2.2.2 + 82), .int (iZ j)] σ (pI (pE σ (σ.1 84 (7 + j)))) := by
  refine e_entry om_X12_fresher (Nat.le_of_ble_eq_true rfl) (L := [some (.ref (G.2.2.2 + 82)), some (.int (iZ j))]) rfl ?_
  refine e_aload_n (q := 1) (i := 0) dX12_fresher_0 rfl rfl rfl ?_
  refine e_getR (q := 4) dX12_fresher_1 rfl fg_X12_13 (by first | assumption | rfl) rfl ?_
  refine e_bipush (q := 6) dX12_fresher_4 rfl (by decide) ?_
  refine e_iload_n (q := 7) (i := 1) dX12_fresher_6 rfl rfl rfl ?_
  refine e_iadd (q := 8) dX12_fresher_7 rfl ?_
  refine e_iald (q := 9) dX12_fresher_8 rfl (by first | assumption | rfl) ?_ (by omega) (by omega)
  exact r_i dX12_fresher_9 rfl ⟨rfl, rfl⟩

theorem c_X12_reads {G : Gx} {σ : Sg} {j v : Int} (h0 : 0 ≤ j) (h6 : j ≤ 6) : Con G 1 mX12_reads [.ref (G.2.2.2 + 82), .int (iZ j), .int (iZ v)] σ (pV (fun σ' => σ' = sI σ 84 (7 + j) v)) := by
  refine e_entry om_X12_reads (Nat.le_of_ble_eq_true rfl) (L := [some (.ref (G.2.2.2 + 82)), some (.int (iZ j)), some (.int (iZ v))]) rfl ?_
  refine e_aload_n (q := 1) (i := 0) dX12_reads_0 rfl rfl rfl ?_
  refine e_getR (q := 4) dX12_reads_1 rfl fg_X12_13 (by first | assumption | rfl) rfl ?_
  refine e_bipush (q := 6) dX12_reads_4 rfl (by decide) ?_
  refine e_iload_n (q := 7) (i := 1) dX12_reads_6 rfl rfl rfl ?_
  refine e_iadd (q := 8) dX12_reads_7 rfl ?_
  refine e_iload_n (q := 9) (i := 2) dX12_reads_8 rfl rfl rfl ?_
  refine e_iast (q := 10) dX12_reads_9 rfl (by first | assumption | rfl) ?_ (by omega) (by omega)
  exact r_v dX12_reads_10 rfl rfl

theorem c_mknot0 {G : Gx} {σ : Sg} (hc0 : 0 ≤ σ.1 82 31) (hc1 : σ.1 82 31 ≤ 64) (hf : σ.1 82 26 = 0)  : Con G 2 mX12_knot [.ref (G.2.2.2 + 82)] σ (pV (fun σ' => (σ.1 82 31 = 64 ∧ σ' = wr σ 2) ∨ (σ.1 82 31 < 64 ∧ σ' = sI σ 82 31 (σ.1 82 31 + 1)))) := by
  refine e_entry om_X12_knot (Nat.le_of_ble_eq_true rfl) (L := [some (.ref (G.2.2.2 + 82))]) rfl ?_
  refine e_aload_n (q := 1) (i := 0) dX12_knot_0 rfl rfl rfl ?_
  refine e_getI (q := 4) (jz := 26) dX12_knot_1 rfl fg_X12_190 rfl (by first | assumption | rfl) rfl ?_
  rw [hf]
  refine e_if_eq (q := 7) (tgt := 8) dX12_knot_4 rfl (by decide) (fun c4 => ?_) (fun c4 => by exfalso; omega)
  refine e_aload_n (q := 9) (i := 0) dX12_knot_8 rfl rfl rfl ?_
  refine e_getI (q := 12) (jz := 31) dX12_knot_9 rfl fg_X12_249 rfl (by first | assumption | rfl) rfl ?_
  refine e_bipush (q := 14) dX12_knot_12 rfl (by decide) ?_
  refine e_icmp_ne (q := 17) (tgt := 25) dX12_knot_14 rfl (by decide) (fun c14 => ?_) (fun c14 => ?_)
  · refine e_aload_n (q := 26) (i := 0) dX12_knot_25 rfl rfl rfl ?_
    refine e_dup (q := 27) dX12_knot_26 rfl rfl ?_
    refine e_getI (q := 30) (jz := 31) dX12_knot_27 rfl fg_X12_249 rfl (by first | assumption | rfl) rfl ?_
    refine e_iconst (q := 31) dX12_knot_30 rfl ?_
    refine e_iadd (q := 32) dX12_knot_31 rfl ?_
    refine e_putI (q := 35) (jz := 31) dX12_knot_32 rfl fp_X12_249 rfl (by first | assumption | rfl) rfl ?_
    exact r_v dX12_knot_35 rfl (Or.inr ⟨by omega, rfl⟩)
  · refine e_aload_n (q := 18) (i := 0) dX12_knot_17 rfl rfl rfl ?_
    refine e_iconst (q := 19) dX12_knot_18 rfl ?_
    refine e_Vv (q := 22) (vs := [_]) ok_X12_wrong ml_X12_199 dX12_knot_19 rfl ⟨_, _, rfl⟩ (by first | assumption | rfl) rfl rfl (Nat.le_of_ble_eq_true rfl) (by decide) (c_mwrong0 hf) (fun s9 h9 => ?_)
    refine e_goto (tgt := 35) dX12_knot_22 (by decide) ?_
    exact r_v dX12_knot_35 rfl (Or.inl ⟨by omega, h9⟩)

theorem c_mknot1 {G : Gx} {σ : Sg} (hf : R32 (σ.1 82 26)) (hx : σ.1 82 26 ≠ 0)  : Con G 2 mX12_knot [.ref (G.2.2.2 + 82)] σ (pV (fun σ' => σ' = σ)) := by
  refine e_entry om_X12_knot (Nat.le_of_ble_eq_true rfl) (L := [some (.ref (G.2.2.2 + 82))]) rfl ?_
  refine e_aload_n (q := 1) (i := 0) dX12_knot_0 rfl rfl rfl ?_
  refine e_getI (q := 4) (jz := 26) dX12_knot_1 rfl fg_X12_190 rfl (by first | assumption | rfl) rfl ?_
  refine e_if_eq (q := 7) (tgt := 8) dX12_knot_4 rfl (by decide) (fun c4 => by exfalso; omega) (fun c4 => ?_) (hx := hf)
  exact r_v dX12_knot_7 rfl rfl

theorem c_mputs0 {G : Gx} {σ : Sg} {s v : Int} (hu0 : 0 ≤ (σ.1 84 13)) (hu1 : (σ.1 84 13) < 64) (hf : σ.1 82 26 = 0)  : Con G 2 mX12_puts [.ref (G.2.2.2 + 82), .int (iZ s), .int (iZ v)] σ (pV (fun σ' => σ' = sI (sI (sI σ 98 (64 + (σ.1 84 13)) s) 99 (64 + (σ.1 84 13)) v) 84 13 ((σ.1 84 13) + 1))) := by
  refine e_entry om_X12_puts (Nat.le_of_ble_eq_true rfl) (L := [some (.ref (G.2.2.2 + 82)), some (.int (iZ s)), some (.int (iZ v))]) rfl ?_
  refine e_aload_n (q := 1) (i := 0) dX12_puts_0 rfl rfl rfl ?_
  refine e_getI (q := 4) (jz := 26) dX12_puts_1 rfl fg_X12_190 rfl (by first | assumption | rfl) rfl ?_
  rw [hf]
  refine e_if_eq (q := 7) (tgt := 8) dX12_puts_4 rfl (by decide) (fun c4 => ?_) (fun c4 => by exfalso; omega)
  refine e_aload_n (q := 9) (i := 0) dX12_puts_8 rfl rfl rfl ?_
  refine e_getR (q := 12) dX12_puts_9 rfl fg_X12_55 (by first | assumption | rfl) rfl ?_
  refine e_bipush (q := 14) dX12_puts_12 rfl (by decide) ?_
  refine e_aload_n (q := 15) (i := 0) dX12_puts_14 rfl rfl rfl ?_
  refine e_bipush (q := 17) dX12_puts_15 rfl (by decide) ?_
  refine e_Vip (q := 20) (vs := [_]) ok_X12_fresher ml_X12_209 dX12_puts_17 rfl ⟨_, _, rfl⟩ (by first | assumption | rfl) rfl rfl (Nat.le_of_ble_eq_true rfl) (by decide) (c_X12_fresher (by decide) (by decide)) ?_
  rw [show (7 : Int) + 6 = 13 from rfl]
  refine e_iadd (q := 21) dX12_puts_20 rfl ?_
  refine e_iload_n (q := 22) (i := 1) dX12_puts_21 rfl rfl rfl ?_
  refine e_iast (q := 23) dX12_puts_22 rfl (by first | assumption | rfl) ?_ (by omega) (by omega)
  refine e_aload_n (q := 24) (i := 0) dX12_puts_23 rfl rfl rfl ?_
  refine e_getR (q := 27) dX12_puts_24 rfl fg_X12_58 (by first | assumption | rfl) rfl ?_
  refine e_bipush (q := 29) dX12_puts_27 rfl (by decide) ?_
  refine e_aload_n (q := 30) (i := 0) dX12_puts_29 rfl rfl rfl ?_
  refine e_bipush (q := 32) dX12_puts_30 rfl (by decide) ?_
  refine e_Vip (q := 35) (vs := [_]) ok_X12_fresher ml_X12_209 dX12_puts_32 rfl ⟨_, _, rfl⟩ (by first | assumption | rfl) rfl rfl (Nat.le_of_ble_eq_true rfl) (by decide) (c_X12_fresher (by decide) (by decide)) ?_
  rw [show (7 : Int) + 6 = 13 from rfl, show (sI σ 98 (64 + (σ.1 84 13)) s).1 84 13 = (σ.1 84 13) from by rw [sI_ne _ (by decide)]]
  refine e_iadd (q := 36) dX12_puts_35 rfl ?_
  refine e_iload_n (q := 37) (i := 2) dX12_puts_36 rfl rfl rfl ?_
  refine e_iast (q := 38) dX12_puts_37 rfl (by first | assumption | rfl) ?_ (by omega) (by omega)
  refine e_aload_n (q := 39) (i := 0) dX12_puts_38 rfl rfl rfl ?_
  refine e_bipush (q := 41) dX12_puts_39 rfl (by decide) ?_
  refine e_aload_n (q := 42) (i := 0) dX12_puts_41 rfl rfl rfl ?_
  refine e_bipush (q := 44) dX12_puts_42 rfl (by decide) ?_
  refine e_Vip (q := 47) (vs := [_]) ok_X12_fresher ml_X12_209 dX12_puts_44 rfl ⟨_, _, rfl⟩ (by first | assumption | rfl) rfl rfl (Nat.le_of_ble_eq_true rfl) (by decide) (c_X12_fresher (by decide) (by decide)) ?_
  rw [show (7 : Int) + 6 = 13 from rfl, show (sI (sI σ 98 (64 + (σ.1 84 13)) s) 99 (64 + (σ.1 84 13)) v).1 84 13 = (σ.1 84 13) from by rw [sI_ne _ (by decide), sI_ne _ (by decide)]]
  refine e_iconst (q := 48) dX12_puts_47 rfl ?_
  refine e_iadd (q := 49) dX12_puts_48 rfl ?_
  refine e_Vv (q := 52) (vs := [_, _]) ok_X12_reads ml_X12_226 dX12_puts_49 rfl ⟨_, _, rfl⟩ (by first | assumption | rfl) rfl rfl (Nat.le_of_ble_eq_true rfl) (by decide) (c_X12_reads (by decide) (by decide)) (fun s9 h9 => ?_)
  subst h9
  exact r_v dX12_puts_52 rfl rfl

theorem c_mputs1 {G : Gx} {σ : Sg} {s v : Int} (hf : R32 (σ.1 82 26)) (hx : σ.1 82 26 ≠ 0)  : Con G 2 mX12_puts [.ref (G.2.2.2 + 82), .int (iZ s), .int (iZ v)] σ (pV (fun σ' => σ' = σ)) := by
  refine e_entry om_X12_puts (Nat.le_of_ble_eq_true rfl) (L := [some (.ref (G.2.2.2 + 82)), some (.int (iZ s)), some (.int (iZ v))]) rfl ?_
  refine e_aload_n (q := 1) (i := 0) dX12_puts_0 rfl rfl rfl ?_
  refine e_getI (q := 4) (jz := 26) dX12_puts_1 rfl fg_X12_190 rfl (by first | assumption | rfl) rfl ?_
  refine e_if_eq (q := 7) (tgt := 8) dX12_puts_4 rfl (by decide) (fun c4 => by exfalso; omega) (fun c4 => ?_) (hx := hf)
  exact r_v dX12_puts_7 rfl rfl

theorem c_X12_isFull {G : Gx} {σ : Sg} {x : Int} (hx : R32 x) (h8 : R32 (σ.1 84 8)) (h9 : R32 (σ.1 84 9)) (h10 : R32 (σ.1 84 10)) : Con G 2 mX12_isFull [.ref (G.2.2.2 + 82), .int (iZ x)] σ (pI (pE σ (if (x = 1 ∧ σ.1 84 8 = 4) ∨ (x = 2 ∧ σ.1 84 9 = 6) ∨ (x = 3 ∧ σ.1 84 10 = 12) then 1 else 0))) := by
  refine e_entry om_X12_isFull (Nat.le_of_ble_eq_true rfl) (L := [some (.ref (G.2.2.2 + 82)), some (.int (iZ x))]) rfl ?_
  refine e_iload_n (q := 1) (i := 1) dX12_isFull_0 rfl rfl rfl ?_
  refine e_iconst (q := 2) dX12_isFull_1 rfl ?_
  refine e_icmp_ne (q := 5) (tgt := 14) dX12_isFull_2 rfl (by decide) (fun c2 => ?_) (fun c2 => ?_)
  · refine e_iload_n (q := 15) (i := 1) dX12_isFull_14 rfl rfl rfl ?_
    refine e_iconst (q := 16) dX12_isFull_15 rfl ?_
    refine e_icmp_ne (q := 19) (tgt := 29) dX12_isFull_16 rfl (by decide) (fun c16 => ?_) (fun c16 => ?_)
    · refine e_iload_n (q := 30) (i := 1) dX12_isFull_29 rfl rfl rfl ?_
      refine e_iconst (q := 31) dX12_isFull_30 rfl ?_
      refine e_icmp_ne (q := 34) (tgt := 48) dX12_isFull_31 rfl (by decide) (fun c31 => ?_) (fun c31 => ?_)
      · refine e_iconst (q := 49) dX12_isFull_48 rfl ?_
        exact r_z dX12_isFull_49 rfl (by first | exact Or.inl rfl | exact Or.inr rfl | omega) ⟨by first | (rw [if_pos (by omega)]; done) | (rw [if_neg (by omega)]; done), rfl⟩
      · refine e_aload_n (q := 35) (i := 0) dX12_isFull_34 rfl rfl rfl ?_
        refine e_iconst (q := 36) dX12_isFull_35 rfl ?_
        refine e_Vip (q := 39) (vs := [_]) ok_X12_fresher ml_X12_209 dX12_isFull_36 rfl ⟨_, _, rfl⟩ (by first | assumption | rfl) rfl rfl (Nat.le_of_ble_eq_true rfl) (by decide) (c_X12_fresher (by decide) (by decide)) ?_
        rw [show (7 : Int) + 3 = 10 from rfl]
        refine e_bipush (q := 41) dX12_isFull_39 rfl (by decide) ?_
        refine e_icmp_ne (q := 44) (tgt := 48) dX12_isFull_41 rfl (by decide) (fun c41 => ?_) (fun c41 => ?_) (hx := h10)
        · refine e_iconst (q := 49) dX12_isFull_48 rfl ?_
          exact r_z dX12_isFull_49 rfl (by first | exact Or.inl rfl | exact Or.inr rfl | omega) ⟨by first | (rw [if_pos (by omega)]; done) | (rw [if_neg (by omega)]; done), rfl⟩
        · refine e_iconst (q := 45) dX12_isFull_44 rfl ?_
          refine e_goto (tgt := 49) dX12_isFull_45 (by decide) ?_
          exact r_z dX12_isFull_49 rfl (by first | exact Or.inl rfl | exact Or.inr rfl | omega) ⟨by first | (rw [if_pos (by omega)]; done) | (rw [if_neg (by omega)]; done), rfl⟩
    · refine e_aload_n (q := 20) (i := 0) dX12_isFull_19 rfl rfl rfl ?_
      refine e_iconst (q := 21) dX12_isFull_20 rfl ?_
      refine e_Vip (q := 24) (vs := [_]) ok_X12_fresher ml_X12_209 dX12_isFull_21 rfl ⟨_, _, rfl⟩ (by first | assumption | rfl) rfl rfl (Nat.le_of_ble_eq_true rfl) (by decide) (c_X12_fresher (by decide) (by decide)) ?_
      rw [show (7 : Int) + 2 = 9 from rfl]
      refine e_bipush (q := 26) dX12_isFull_24 rfl (by decide) ?_
      refine e_icmp_eq (q := 29) (tgt := 44) dX12_isFull_26 rfl (by decide) (fun c26 => ?_) (fun c26 => ?_) (hx := h9)
      · refine e_iconst (q := 45) dX12_isFull_44 rfl ?_
        refine e_goto (tgt := 49) dX12_isFull_45 (by decide) ?_
        exact r_z dX12_isFull_49 rfl (by first | exact Or.inl rfl | exact Or.inr rfl | omega) ⟨by first | (rw [if_pos (by omega)]; done) | (rw [if_neg (by omega)]; done), rfl⟩
      · refine e_iload_n (q := 30) (i := 1) dX12_isFull_29 rfl rfl rfl ?_
        refine e_iconst (q := 31) dX12_isFull_30 rfl ?_
        refine e_icmp_ne (q := 34) (tgt := 48) dX12_isFull_31 rfl (by decide) (fun c31 => ?_) (fun c31 => ?_)
        · refine e_iconst (q := 49) dX12_isFull_48 rfl ?_
          exact r_z dX12_isFull_49 rfl (by first | exact Or.inl rfl | exact Or.inr rfl | omega) ⟨by first | (rw [if_pos (by omega)]; done) | (rw [if_neg (by omega)]; done), rfl⟩
        · refine e_aload_n (q := 35) (i := 0) dX12_isFull_34 rfl rfl rfl ?_
          refine e_iconst (q := 36) dX12_isFull_35 rfl ?_
          refine e_Vip (q := 39) (vs := [_]) ok_X12_fresher ml_X12_209 dX12_isFull_36 rfl ⟨_, _, rfl⟩ (by first | assumption | rfl) rfl rfl (Nat.le_of_ble_eq_true rfl) (by decide) (c_X12_fresher (by decide) (by decide)) ?_
          rw [show (7 : Int) + 3 = 10 from rfl]
          refine e_bipush (q := 41) dX12_isFull_39 rfl (by decide) ?_
          refine e_icmp_ne (q := 44) (tgt := 48) dX12_isFull_41 rfl (by decide) (fun c41 => ?_) (fun c41 => ?_) (hx := h10)
          · refine e_iconst (q := 49) dX12_isFull_48 rfl ?_
            exact r_z dX12_isFull_49 rfl (by first | exact Or.inl rfl | exact Or.inr rfl | omega) ⟨by first | (rw [if_pos (by omega)]; done) | (rw [if_neg (by omega)]; done), rfl⟩
          · refine e_iconst (q := 45) dX12_isFull_44 rfl ?_
            refine e_goto (tgt := 49) dX12_isFull_45 (by decide) ?_
            exact r_z dX12_isFull_49 rfl (by first | exact Or.inl rfl | exact Or.inr rfl | omega) ⟨by first | (rw [if_pos (by omega)]; done) | (rw [if_neg (by omega)]; done), rfl⟩
  · refine e_aload_n (q := 6) (i := 0) dX12_isFull_5 rfl rfl rfl ?_
    refine e_iconst (q := 7) dX12_isFull_6 rfl ?_
    refine e_Vip (q := 10) (vs := [_]) ok_X12_fresher ml_X12_209 dX12_isFull_7 rfl ⟨_, _, rfl⟩ (by first | assumption | rfl) rfl rfl (Nat.le_of_ble_eq_true rfl) (by decide) (c_X12_fresher (by decide) (by decide)) ?_
    rw [show (7 : Int) + 1 = 8 from rfl]
    refine e_iconst (q := 11) dX12_isFull_10 rfl ?_
    refine e_icmp_eq (q := 14) (tgt := 44) dX12_isFull_11 rfl (by decide) (fun c11 => ?_) (fun c11 => ?_) (hx := h8)
    · refine e_iconst (q := 45) dX12_isFull_44 rfl ?_
      refine e_goto (tgt := 49) dX12_isFull_45 (by decide) ?_
      exact r_z dX12_isFull_49 rfl (by first | exact Or.inl rfl | exact Or.inr rfl | omega) ⟨by first | (rw [if_pos (by omega)]; done) | (rw [if_neg (by omega)]; done), rfl⟩
    · refine e_iload_n (q := 15) (i := 1) dX12_isFull_14 rfl rfl rfl ?_
      refine e_iconst (q := 16) dX12_isFull_15 rfl ?_
      refine e_icmp_ne (q := 19) (tgt := 29) dX12_isFull_16 rfl (by decide) (fun c16 => ?_) (fun c16 => ?_)
      · refine e_iload_n (q := 30) (i := 1) dX12_isFull_29 rfl rfl rfl ?_
        refine e_iconst (q := 31) dX12_isFull_30 rfl ?_
        refine e_icmp_ne (q := 34) (tgt := 48) dX12_isFull_31 rfl (by decide) (fun c31 => ?_) (fun c31 => ?_)
        · refine e_iconst (q := 49) dX12_isFull_48 rfl ?_
          exact r_z dX12_isFull_49 rfl (by first | exact Or.inl rfl | exact Or.inr rfl | omega) ⟨by first | (rw [if_pos (by omega)]; done) | (rw [if_neg (by omega)]; done), rfl⟩
        · refine e_aload_n (q := 35) (i := 0) dX12_isFull_34 rfl rfl rfl ?_
          refine e_iconst (q := 36) dX12_isFull_35 rfl ?_
          refine e_Vip (q := 39) (vs := [_]) ok_X12_fresher ml_X12_209 dX12_isFull_36 rfl ⟨_, _, rfl⟩ (by first | assumption | rfl) rfl rfl (Nat.le_of_ble_eq_true rfl) (by decide) (c_X12_fresher (by decide) (by decide)) ?_
          rw [show (7 : Int) + 3 = 10 from rfl]
          refine e_bipush (q := 41) dX12_isFull_39 rfl (by decide) ?_
          refine e_icmp_ne (q := 44) (tgt := 48) dX12_isFull_41 rfl (by decide) (fun c41 => ?_) (fun c41 => ?_) (hx := h10)
          · refine e_iconst (q := 49) dX12_isFull_48 rfl ?_
            exact r_z dX12_isFull_49 rfl (by first | exact Or.inl rfl | exact Or.inr rfl | omega) ⟨by first | (rw [if_pos (by omega)]; done) | (rw [if_neg (by omega)]; done), rfl⟩
          · refine e_iconst (q := 45) dX12_isFull_44 rfl ?_
            refine e_goto (tgt := 49) dX12_isFull_45 (by decide) ?_
            exact r_z dX12_isFull_49 rfl (by first | exact Or.inl rfl | exact Or.inr rfl | omega) ⟨by first | (rw [if_pos (by omega)]; done) | (rw [if_neg (by omega)]; done), rfl⟩
      · refine e_aload_n (q := 20) (i := 0) dX12_isFull_19 rfl rfl rfl ?_
        refine e_iconst (q := 21) dX12_isFull_20 rfl ?_
        refine e_Vip (q := 24) (vs := [_]) ok_X12_fresher ml_X12_209 dX12_isFull_21 rfl ⟨_, _, rfl⟩ (by first | assumption | rfl) rfl rfl (Nat.le_of_ble_eq_true rfl) (by decide) (c_X12_fresher (by decide) (by decide)) ?_
        rw [show (7 : Int) + 2 = 9 from rfl]
        refine e_bipush (q := 26) dX12_isFull_24 rfl (by decide) ?_
        refine e_icmp_eq (q := 29) (tgt := 44) dX12_isFull_26 rfl (by decide) (fun c26 => ?_) (fun c26 => ?_) (hx := h9)
        · refine e_iconst (q := 45) dX12_isFull_44 rfl ?_
          refine e_goto (tgt := 49) dX12_isFull_45 (by decide) ?_
          exact r_z dX12_isFull_49 rfl (by first | exact Or.inl rfl | exact Or.inr rfl | omega) ⟨by first | (rw [if_pos (by omega)]; done) | (rw [if_neg (by omega)]; done), rfl⟩
        · refine e_iload_n (q := 30) (i := 1) dX12_isFull_29 rfl rfl rfl ?_
          refine e_iconst (q := 31) dX12_isFull_30 rfl ?_
          refine e_icmp_ne (q := 34) (tgt := 48) dX12_isFull_31 rfl (by decide) (fun c31 => ?_) (fun c31 => ?_)
          · refine e_iconst (q := 49) dX12_isFull_48 rfl ?_
            exact r_z dX12_isFull_49 rfl (by first | exact Or.inl rfl | exact Or.inr rfl | omega) ⟨by first | (rw [if_pos (by omega)]; done) | (rw [if_neg (by omega)]; done), rfl⟩
          · refine e_aload_n (q := 35) (i := 0) dX12_isFull_34 rfl rfl rfl ?_
            refine e_iconst (q := 36) dX12_isFull_35 rfl ?_
            refine e_Vip (q := 39) (vs := [_]) ok_X12_fresher ml_X12_209 dX12_isFull_36 rfl ⟨_, _, rfl⟩ (by first | assumption | rfl) rfl rfl (Nat.le_of_ble_eq_true rfl) (by decide) (c_X12_fresher (by decide) (by decide)) ?_
            rw [show (7 : Int) + 3 = 10 from rfl]
            refine e_bipush (q := 41) dX12_isFull_39 rfl (by decide) ?_
            refine e_icmp_ne (q := 44) (tgt := 48) dX12_isFull_41 rfl (by decide) (fun c41 => ?_) (fun c41 => ?_) (hx := h10)
            · refine e_iconst (q := 49) dX12_isFull_48 rfl ?_
              exact r_z dX12_isFull_49 rfl (by first | exact Or.inl rfl | exact Or.inr rfl | omega) ⟨by first | (rw [if_pos (by omega)]; done) | (rw [if_neg (by omega)]; done), rfl⟩
            · refine e_iconst (q := 45) dX12_isFull_44 rfl ?_
              refine e_goto (tgt := 49) dX12_isFull_45 (by decide) ?_
              exact r_z dX12_isFull_49 rfl (by first | exact Or.inl rfl | exact Or.inr rfl | omega) ⟨by first | (rw [if_pos (by omega)]; done) | (rw [if_neg (by omega)]; done), rfl⟩

