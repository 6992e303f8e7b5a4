def MLW (σ σ' : Sg) (R : Rs) : Prop := match R with
  | .inl e => FM σ σ' e ∨ (σ'.1 82 26 = 0 ∧ MFr σ σ' ∧ ∃ t' r', MK σ' (t' :: r') ∧ t'.1 ≠ 23 ∧ e = (1, t'.2.1))
  | .inr q => σ'.1 82 26 = 0 ∧ MFr σ σ' ∧ MK σ' q.2 ∧ MD0 σ' q.1 ∧ MDb (σ'.1 82 19) q.1
theorem MD_law {σ τ : Sg} {δ : Dl} {k : Int} {K : Kn} (h : MD0 σ δ) (hk0 : 0 ≤ k) (hk3 : k < 3) (e84 : ∀ i, i ≠ 13 → τ.1 84 i = σ.1 84 i) (e96 : τ.1 96 = uf (σ.1 96) (3 + k) (δ 34 4)) (e97 : τ.1 97 = uf (σ.1 97) (3 + k) K.1) (hc : ∀ c : Nat, 85 ≤ c → c ≤ 95 → τ.1 c = σ.1 c) (hK : KR τ K) (h20 : τ.1 82 20 = σ.1 82 20) (h30 : τ.1 82 30 = 0) (h31 : τ.1 82 31 = K.1) : MD0 τ (dLaw δ k K) := by
  obtain ⟨⟨a1, a2, a3, a4, a5, a6, a7, a8, a9⟩, b, c, d, e, f, g⟩ := h
  have u4 : dLaw δ k K 34 4 = K.1 := by show uf (δ 34) 4 K.1 4 = K.1; unfold uf; rw [if_pos rfl]
  refine ⟨?_, ?_, ?_, ?_, ?_, ?_, ?_⟩
  · rw [e84 7 (by decide), e84 8 (by decide), e84 9 (by decide), e84 10 (by decide), e84 11 (by decide), e84 12 (by decide), h20, u4]
    exact ⟨a1, a2, a3, a4, a5, a6, a7, h30, h31⟩
  · rw [hc 85 (by decide) (by decide), hc 86 (by decide) (by decide), hc 87 (by decide) (by decide)]; exact b
  · rw [hc 88 (by decide) (by decide)]; exact c
  · rw [hc 89 (by decide) (by decide), hc 90 (by decide) (by decide), hc 91 (by decide) (by decide)]; exact d
  · rw [hc 92 (by decide) (by decide), hc 93 (by decide) (by decide), hc 94 (by decide) (by decide), hc 95 (by decide) (by decide)]; exact e
  · intro i p q
    rw [e96, e97]
    show uf (σ.1 96) (3 + k) (δ 34 4) (3 + i) = uf (δ 36) k (δ 34 4) i ∧ uf (σ.1 97) (3 + k) K.1 (3 + i) = uf (δ 37) k K.1 i
    unfold uf
    by_cases r : i = k
    · exact ⟨(if_pos (by omega)).trans (if_pos r).symm, (if_pos (by omega)).trans (if_pos r).symm⟩
    · have h0 := f i p q
      exact ⟨(if_neg (by omega)).trans (h0.1.trans (if_neg r).symm), (if_neg (by omega)).trans (h0.2.trans (if_neg r).symm)⟩
  · rw [u4]; exact hK
theorem MDb_law {T : Int} {δ : Dl} {k : Int} {K : Kn} (h : MDb T δ) (hk0 : 0 ≤ k) (hk3 : k < 3) (hlt : δ 34 4 < K.1) : MDb (stB T (16 + k).toNat) (dLaw δ k K) := by
  obtain ⟨h1, h2, h3, h4⟩ := h
  refine ⟨stB_in h1.1 h1.2 (by omega), ?_, ?_, fun j hj => ?_⟩
  · rw [stB_bt, show decide ((16 + k).toNat = 5) = false from decide_eq_false (by omega), Bool.or_false]; exact h2
  · rw [stB_bt, show decide ((16 + k).toNat = 6) = false from decide_eq_false (by omega), Bool.or_false]; exact h3
  · rw [stB_bt]
    show _ ↔ uf (δ 36) k (δ 34 4) j < uf (δ 37) k K.1 j
    unfold uf
    by_cases q : (j : Int) = k
    · rw [if_pos q, if_pos q, show decide ((16 + k).toNat = 16 + j) = true from decide_eq_true (by omega), Bool.or_true]
      exact ⟨fun _ => hlt, fun _ => rfl⟩
    · rw [if_neg q, if_neg q, show decide ((16 + k).toNat = 16 + j) = false from decide_eq_false (by omega), Bool.or_false]
      exact h4 j hj

set_option maxHeartbeats 16000000 in
theorem c_X12_lawLine {G : Gx} {σ : Sg} {t : Tk} {r : List Tk} {δ : Dl} (hC : MK σ (t :: r)) (hf : σ.1 82 26 = 0) (hD : MD0 σ δ) (hB : MDb (σ.1 82 19) δ) (hO : DOk δ) (hG : ∀ x ∈ t :: r, tkG x) : Con G 150 mX12_lawLine [.ref (G.2.2.2 + 82)] σ (pV (fun σ' => MLW σ σ' (lLaw δ (t :: r)))) := by
  obtain ⟨m1, m2, m3, m4⟩ := hC.hd
  have ms := m2.s m3.1 m3.2
  have mk := m2.k m3.1 m3.2
  have hv := m2.2.2.2.2.2.2
  obtain ⟨⟨b1, b2, b3, b4, b5, b6, b7, b8, b9⟩, -, -, -, -, -, hKR⟩ := id hD
  obtain ⟨o0, o1, o2, o3, o4, o5, o6, o7, o8, o9, oc, ob, ok, og, ou, ow, ox, ot, oz, oy⟩ := id hO
  obtain ⟨hT, hB5, hB6, hBk⟩ := id hB
  have hTd : ∀ {n : Nat}, σ.1 82 19 / 2 ^ n ≤ 2147483647 := fun {n} => by
    have := Int.ediv_le_self (b := 2 ^ n) hT.1
    omega
  refine e_entry om_X12_lawLine (Nat.le_of_ble_eq_true rfl) (L := [some (.ref (G.2.2.2 + 82)), none]) rfl ?_
  by_cases qb : t.1 < 8 ∨ 10 < t.1
  · have hw := m2.1 m3.1
    refine e_aload_n (q := 1) (i := 0) dX12_lawLine_0 rfl rfl rfl ?_
    refine e_getI (q := 4) (jz := 24) dX12_lawLine_1 rfl fg_X12_155 rfl (by first | assumption | rfl) rfl ?_
    refine e_if_ne (q := 7) (tgt := 25) dX12_lawLine_4 rfl (by decide) (fun c4 => ?_) (fun c4 => ?_) (hx := ⟨by omega, by omega⟩)
    · refine e_aload_n (q := 26) (i := 0) dX12_lawLine_25 rfl rfl rfl ?_
      refine e_iconst (q := 27) dX12_lawLine_26 rfl ?_
      refine e_Vv (q := 30) (vs := [_]) ok_X12_wrong ml_X12_199 dX12_lawLine_27 rfl ⟨_, _, rfl⟩ (by first | assumption | rfl) rfl rfl (Nat.le_of_ble_eq_true rfl) (by decide) (c_mwrong0 hf) (fun s27 h27 => ?_)
      subst h27
      refine e_aload_n (q := 31) (i := 0) dX12_lawLine_30 rfl rfl rfl ?_
      refine e_getI (q := 34) (jz := 25) dX12_lawLine_31 rfl fg_X12_165 rfl (by first | assumption | rfl) rfl ?_
      refine e_bipush (q := 36) dX12_lawLine_34 rfl (by decide) ?_
      refine e_isub (q := 37) dX12_lawLine_36 rfl ?_
      refine e_istore_n (q := 38) (i := 1) (L' := [_, _]) dX12_lawLine_37 rfl rfl (by decide) rfl rfl ?_
      refine e_aload_n (q := 39) (i := 0) dX12_lawLine_38 rfl rfl rfl ?_
      refine e_getI (q := 42) (jz := 26) dX12_lawLine_39 rfl fg_X12_190 rfl (by first | assumption | rfl) rfl ?_
      rw [show (wr σ 1).1 82 26 = 1 from wr_f]
      refine e_if_ne (q := 45) (tgt := 65) dX12_lawLine_42 rfl (by decide) (fun c42 => ?_) (fun c42 => by exfalso; omega)
      refine e_aload_n (q := 66) (i := 0) dX12_lawLine_65 rfl rfl rfl ?_
      refine e_getI (q := 69) (jz := 26) dX12_lawLine_66 rfl fg_X12_190 rfl (by first | assumption | rfl) rfl ?_
      rw [show (wr σ 1).1 82 26 = 1 from wr_f]
      refine e_if_eq (q := 72) (tgt := 73) dX12_lawLine_69 rfl (by decide) (fun c69 => by exfalso; omega) (fun c69 => ?_)
      exact r_v dX12_lawLine_72 rfl (by rw [show lLaw δ (t :: r) = .inl (1, t.2.1) from if_pos qb]; have := FM.wr (k := 1) (MFr.rf σ) (by decide); rw [m1] at this; exact Or.inl this)
    · refine e_aload_n (q := 8) (i := 0) dX12_lawLine_7 rfl rfl rfl ?_
      refine e_getI (q := 11) (jz := 25) dX12_lawLine_8 rfl fg_X12_165 rfl (by first | assumption | rfl) rfl ?_
      refine e_bipush (q := 13) dX12_lawLine_11 rfl (by decide) ?_
      refine e_icmp_lt (q := 16) (tgt := 25) dX12_lawLine_13 rfl (by decide) (fun c13 => ?_) (fun c13 => ?_) (hx := hv)
      · refine e_aload_n (q := 26) (i := 0) dX12_lawLine_25 rfl rfl rfl ?_
        refine e_iconst (q := 27) dX12_lawLine_26 rfl ?_
        refine e_Vv (q := 30) (vs := [_]) ok_X12_wrong ml_X12_199 dX12_lawLine_27 rfl ⟨_, _, rfl⟩ (by first | assumption | rfl) rfl rfl (Nat.le_of_ble_eq_true rfl) (by decide) (c_mwrong0 hf) (fun s27 h27 => ?_)
        subst h27
        refine e_aload_n (q := 31) (i := 0) dX12_lawLine_30 rfl rfl rfl ?_
        refine e_getI (q := 34) (jz := 25) dX12_lawLine_31 rfl fg_X12_165 rfl (by first | assumption | rfl) rfl ?_
        refine e_bipush (q := 36) dX12_lawLine_34 rfl (by decide) ?_
        refine e_isub (q := 37) dX12_lawLine_36 rfl ?_
        refine e_istore_n (q := 38) (i := 1) (L' := [_, _]) dX12_lawLine_37 rfl rfl (by decide) rfl rfl ?_
        refine e_aload_n (q := 39) (i := 0) dX12_lawLine_38 rfl rfl rfl ?_
        refine e_getI (q := 42) (jz := 26) dX12_lawLine_39 rfl fg_X12_190 rfl (by first | assumption | rfl) rfl ?_
        rw [show (wr σ 1).1 82 26 = 1 from wr_f]
        refine e_if_ne (q := 45) (tgt := 65) dX12_lawLine_42 rfl (by decide) (fun c42 => ?_) (fun c42 => by exfalso; omega)
        refine e_aload_n (q := 66) (i := 0) dX12_lawLine_65 rfl rfl rfl ?_
        refine e_getI (q := 69) (jz := 26) dX12_lawLine_66 rfl fg_X12_190 rfl (by first | assumption | rfl) rfl ?_
        rw [show (wr σ 1).1 82 26 = 1 from wr_f]
        refine e_if_eq (q := 72) (tgt := 73) dX12_lawLine_69 rfl (by decide) (fun c69 => by exfalso; omega) (fun c69 => ?_)
        exact r_v dX12_lawLine_72 rfl (by rw [show lLaw δ (t :: r) = .inl (1, t.2.1) from if_pos qb]; have := FM.wr (k := 1) (MFr.rf σ) (by decide); rw [m1] at this; exact Or.inl this)
      · refine e_aload_n (q := 17) (i := 0) dX12_lawLine_16 rfl rfl rfl ?_
        refine e_getI (q := 20) (jz := 25) dX12_lawLine_17 rfl fg_X12_165 rfl (by first | assumption | rfl) rfl ?_
        refine e_bipush (q := 22) dX12_lawLine_20 rfl (by decide) ?_
        refine e_icmp_le (q := 25) (tgt := 30) dX12_lawLine_22 rfl (by decide) (fun c22 => by exfalso; omega) (fun c22 => ?_) (hx := hv)
        refine e_aload_n (q := 26) (i := 0) dX12_lawLine_25 rfl rfl rfl ?_
        refine e_iconst (q := 27) dX12_lawLine_26 rfl ?_
        refine e_Vv (q := 30) (vs := [_]) ok_X12_wrong ml_X12_199 dX12_lawLine_27 rfl ⟨_, _, rfl⟩ (by first | assumption | rfl) rfl rfl (Nat.le_of_ble_eq_true rfl) (by decide) (c_mwrong0 hf) (fun s27 h27 => ?_)
        subst h27
        refine e_aload_n (q := 31) (i := 0) dX12_lawLine_30 rfl rfl rfl ?_
        refine e_getI (q := 34) (jz := 25) dX12_lawLine_31 rfl fg_X12_165 rfl (by first | assumption | rfl) rfl ?_
        refine e_bipush (q := 36) dX12_lawLine_34 rfl (by decide) ?_
        refine e_isub (q := 37) dX12_lawLine_36 rfl ?_
        refine e_istore_n (q := 38) (i := 1) (L' := [_, _]) dX12_lawLine_37 rfl rfl (by decide) rfl rfl ?_
        refine e_aload_n (q := 39) (i := 0) dX12_lawLine_38 rfl rfl rfl ?_
        refine e_getI (q := 42) (jz := 26) dX12_lawLine_39 rfl fg_X12_190 rfl (by first | assumption | rfl) rfl ?_
        rw [show (wr σ 1).1 82 26 = 1 from wr_f]
        refine e_if_ne (q := 45) (tgt := 65) dX12_lawLine_42 rfl (by decide) (fun c42 => ?_) (fun c42 => by exfalso; omega)
        refine e_aload_n (q := 66) (i := 0) dX12_lawLine_65 rfl rfl rfl ?_
        refine e_getI (q := 69) (jz := 26) dX12_lawLine_66 rfl fg_X12_190 rfl (by first | assumption | rfl) rfl ?_
        rw [show (wr σ 1).1 82 26 = 1 from wr_f]
        refine e_if_eq (q := 72) (tgt := 73) dX12_lawLine_69 rfl (by decide) (fun c69 => by exfalso; omega) (fun c69 => ?_)
        exact r_v dX12_lawLine_72 rfl (by rw [show lLaw δ (t :: r) = .inl (1, t.2.1) from if_pos qb]; have := FM.wr (k := 1) (MFr.rf σ) (by decide); rw [m1] at this; exact Or.inl this)
  have hv1 : σ.1 82 25 = t.1 := (m2.1 m3.1 (by omega)).2
  have hs0 : σ.1 82 24 = 0 := mk.1.2 (by omega)
  have hbit : σ.1 82 19 / 2 ^ (16 + (t.1 - 8)).toNat % 2 = 1 ↔ δ 36 (t.1 - 8) < δ 37 (t.1 - 8) := by
    have h1 := hBk (t.1 - 8).toNat (by omega)
    rw [show (((t.1 - 8).toNat : Nat) : Int) = t.1 - 8 by omega, show 16 + (t.1 - 8).toNat = (16 + (t.1 - 8)).toNat by omega] at h1
    exact (bt_iff hT.1 _).trans h1
  by_cases qt : δ 36 (t.1 - 8) < δ 37 (t.1 - 8)
  · refine e_aload_n (q := 1) (i := 0) dX12_lawLine_0 rfl rfl rfl ?_
    refine e_getI (q := 4) (jz := 24) dX12_lawLine_1 rfl fg_X12_155 rfl (by first | assumption | rfl) rfl ?_
    refine e_if_ne (q := 7) (tgt := 25) dX12_lawLine_4 rfl (by decide) (fun c4 => by exfalso; omega) (fun c4 => ?_) (hx := ⟨by omega, by omega⟩)
    refine e_aload_n (q := 8) (i := 0) dX12_lawLine_7 rfl rfl rfl ?_
    refine e_getI (q := 11) (jz := 25) dX12_lawLine_8 rfl fg_X12_165 rfl (by first | assumption | rfl) rfl ?_
    refine e_bipush (q := 13) dX12_lawLine_11 rfl (by decide) ?_
    refine e_icmp_lt (q := 16) (tgt := 25) dX12_lawLine_13 rfl (by decide) (fun c13 => by exfalso; omega) (fun c13 => ?_) (hx := hv)
    refine e_aload_n (q := 17) (i := 0) dX12_lawLine_16 rfl rfl rfl ?_
    refine e_getI (q := 20) (jz := 25) dX12_lawLine_17 rfl fg_X12_165 rfl (by first | assumption | rfl) rfl ?_
    refine e_bipush (q := 22) dX12_lawLine_20 rfl (by decide) ?_
    refine e_icmp_le (q := 25) (tgt := 30) dX12_lawLine_22 rfl (by decide) (fun c22 => ?_) (fun c22 => by exfalso; omega) (hx := hv)
    refine e_aload_n (q := 31) (i := 0) dX12_lawLine_30 rfl rfl rfl ?_
    refine e_getI (q := 34) (jz := 25) dX12_lawLine_31 rfl fg_X12_165 rfl (by first | assumption | rfl) rfl ?_
    rw [hv1]
    refine e_bipush (q := 36) dX12_lawLine_34 rfl (by decide) ?_
    refine e_isub (q := 37) dX12_lawLine_36 rfl ?_
    refine e_istore_n (q := 38) (i := 1) (L' := [_, _]) dX12_lawLine_37 rfl rfl (by decide) rfl rfl ?_
    refine e_aload_n (q := 39) (i := 0) dX12_lawLine_38 rfl rfl rfl ?_
    refine e_getI (q := 42) (jz := 26) dX12_lawLine_39 rfl fg_X12_190 rfl (by first | assumption | rfl) rfl ?_
    rw [hf]
    refine e_if_ne (q := 45) (tgt := 65) dX12_lawLine_42 rfl (by decide) (fun c42 => by exfalso; omega) (fun c42 => ?_)
    refine e_aload_n (q := 46) (i := 0) dX12_lawLine_45 rfl rfl rfl ?_
    refine e_getI (q := 49) (jz := 19) dX12_lawLine_46 rfl fg_X12_219 rfl (by first | assumption | rfl) rfl ?_
    refine e_bipush (q := 51) dX12_lawLine_49 rfl (by decide) ?_
    refine e_iload_n (q := 52) (i := 1) dX12_lawLine_51 rfl rfl rfl ?_
    refine e_iadd (q := 53) dX12_lawLine_52 rfl ?_
    refine e_ishr (q := 54) dX12_lawLine_53 rfl (iZ_shrk hT.1 (by omega) (by omega) (by omega)) ?_
    refine e_iconst (q := 55) dX12_lawLine_54 rfl ?_
    refine e_iand (q := 56) dX12_lawLine_55 rfl (iZ_and1 (Int.ediv_nonneg hT.1 (Int.pow_nonneg (by decide))) hTd) ?_
    refine e_iconst (q := 57) dX12_lawLine_56 rfl ?_
    rw [hbit.2 qt]
    refine e_icmp_ne (q := 60) (tgt := 65) dX12_lawLine_57 rfl (by decide) (fun c57 => by exfalso; omega) (fun c57 => ?_)
    refine e_aload_n (q := 61) (i := 0) dX12_lawLine_60 rfl rfl rfl ?_
    refine e_iconst (q := 62) dX12_lawLine_61 rfl ?_
    refine e_Vv (q := 65) (vs := [_]) ok_X12_wrong ml_X12_199 dX12_lawLine_62 rfl ⟨_, _, rfl⟩ (by first | assumption | rfl) rfl rfl (Nat.le_of_ble_eq_true rfl) (by decide) (c_mwrong0 hf) (fun s62 h62 => ?_)
    subst h62
    refine e_aload_n (q := 66) (i := 0) dX12_lawLine_65 rfl rfl rfl ?_
    refine e_getI (q := 69) (jz := 26) dX12_lawLine_66 rfl fg_X12_190 rfl (by first | assumption | rfl) rfl ?_
    rw [show (wr σ 3).1 82 26 = 3 from wr_f]
    refine e_if_eq (q := 72) (tgt := 73) dX12_lawLine_69 rfl (by decide) (fun c69 => by exfalso; omega) (fun c69 => ?_)
    exact r_v dX12_lawLine_72 rfl (by rw [show lLaw δ (t :: r) = .inl (3, t.2.1) from (if_neg qb).trans (if_pos qt)]; have := FM.wr (k := 3) (MFr.rf σ) (by decide); rw [m1] at this; exact Or.inl this)
  refine e_aload_n (q := 1) (i := 0) dX12_lawLine_0 rfl rfl rfl ?_
  refine e_getI (q := 4) (jz := 24) dX12_lawLine_1 rfl fg_X12_155 rfl (by first | assumption | rfl) rfl ?_
  refine e_if_ne (q := 7) (tgt := 25) dX12_lawLine_4 rfl (by decide) (fun c4 => by exfalso; omega) (fun c4 => ?_) (hx := ⟨by omega, by omega⟩)
  refine e_aload_n (q := 8) (i := 0) dX12_lawLine_7 rfl rfl rfl ?_
  refine e_getI (q := 11) (jz := 25) dX12_lawLine_8 rfl fg_X12_165 rfl (by first | assumption | rfl) rfl ?_
  refine e_bipush (q := 13) dX12_lawLine_11 rfl (by decide) ?_
  refine e_icmp_lt (q := 16) (tgt := 25) dX12_lawLine_13 rfl (by decide) (fun c13 => by exfalso; omega) (fun c13 => ?_) (hx := hv)
  refine e_aload_n (q := 17) (i := 0) dX12_lawLine_16 rfl rfl rfl ?_
  refine e_getI (q := 20) (jz := 25) dX12_lawLine_17 rfl fg_X12_165 rfl (by first | assumption | rfl) rfl ?_
  refine e_bipush (q := 22) dX12_lawLine_20 rfl (by decide) ?_
  refine e_icmp_le (q := 25) (tgt := 30) dX12_lawLine_22 rfl (by decide) (fun c22 => ?_) (fun c22 => by exfalso; omega) (hx := hv)
  refine e_aload_n (q := 31) (i := 0) dX12_lawLine_30 rfl rfl rfl ?_
  refine e_getI (q := 34) (jz := 25) dX12_lawLine_31 rfl fg_X12_165 rfl (by first | assumption | rfl) rfl ?_
  rw [hv1]
  refine e_bipush (q := 36) dX12_lawLine_34 rfl (by decide) ?_
  refine e_isub (q := 37) dX12_lawLine_36 rfl ?_
  refine e_istore_n (q := 38) (i := 1) (L' := [_, _]) dX12_lawLine_37 rfl rfl (by decide) rfl rfl ?_
  refine e_aload_n (q := 39) (i := 0) dX12_lawLine_38 rfl rfl rfl ?_
  refine e_getI (q := 42) (jz := 26) dX12_lawLine_39 rfl fg_X12_190 rfl (by first | assumption | rfl) rfl ?_
  rw [hf]
  refine e_if_ne (q := 45) (tgt := 65) dX12_lawLine_42 rfl (by decide) (fun c42 => by exfalso; omega) (fun c42 => ?_)
  refine e_aload_n (q := 46) (i := 0) dX12_lawLine_45 rfl rfl rfl ?_
  refine e_getI (q := 49) (jz := 19) dX12_lawLine_46 rfl fg_X12_219 rfl (by first | assumption | rfl) rfl ?_
  refine e_bipush (q := 51) dX12_lawLine_49 rfl (by decide) ?_
  refine e_iload_n (q := 52) (i := 1) dX12_lawLine_51 rfl rfl rfl ?_
  refine e_iadd (q := 53) dX12_lawLine_52 rfl ?_
  refine e_ishr (q := 54) dX12_lawLine_53 rfl (iZ_shrk hT.1 (by omega) (by omega) (by omega)) ?_
  refine e_iconst (q := 55) dX12_lawLine_54 rfl ?_
  refine e_iand (q := 56) dX12_lawLine_55 rfl (iZ_and1 (Int.ediv_nonneg hT.1 (Int.pow_nonneg (by decide))) hTd) ?_
  refine e_iconst (q := 57) dX12_lawLine_56 rfl ?_
  refine e_icmp_ne (q := 60) (tgt := 65) dX12_lawLine_57 rfl (by decide) (fun c57 => ?_) (fun c57 => by exfalso; exact qt (hbit.1 c57)) (hx := ⟨by omega, by omega⟩)
  refine e_aload_n (q := 66) (i := 0) dX12_lawLine_65 rfl rfl rfl ?_
  refine e_getI (q := 69) (jz := 26) dX12_lawLine_66 rfl fg_X12_190 rfl (by first | assumption | rfl) rfl ?_
  rw [hf]
  refine e_if_eq (q := 72) (tgt := 73) dX12_lawLine_69 rfl (by decide) (fun c69 => ?_) (fun c69 => by exfalso; omega)
  refine e_aload_n (q := 74) (i := 0) dX12_lawLine_73 rfl rfl rfl ?_
  refine e_dup (q := 75) dX12_lawLine_74 rfl rfl ?_
  refine e_getI (q := 78) (jz := 19) dX12_lawLine_75 rfl fg_X12_219 rfl (by first | assumption | rfl) rfl ?_
  refine e_iconst (q := 79) dX12_lawLine_78 rfl ?_
  refine e_bipush (q := 81) dX12_lawLine_79 rfl (by decide) ?_
  refine e_iload_n (q := 82) (i := 1) dX12_lawLine_81 rfl rfl rfl ?_
  refine e_iadd (q := 83) dX12_lawLine_82 rfl ?_
  refine e_ishl (q := 84) dX12_lawLine_83 rfl (iZ_shl1 (by omega) (by omega)) ?_
  refine e_ior (q := 85) dX12_lawLine_84 rfl (iZ_orB hT.1 hT.2 (by omega)) ?_
  refine e_putI (q := 88) (jz := 19) dX12_lawLine_85 rfl fp_X12_219 rfl (by first | assumption | rfl) rfl ?_
  refine e_aload_n (q := 89) (i := 0) dX12_lawLine_88 rfl rfl rfl ?_
  refine e_Vv (q := 92) (vs := []) ok_X12_token ml_X12_196 dX12_lawLine_89 rfl ⟨_, _, rfl⟩ (by first | assumption | rfl) rfl rfl (Nat.le_of_ble_eq_true rfl) (by decide) (c_mtok (σ := (sI σ 82 19 (stB (σ.1 82 19) (16 + (t.1 - 8)).toNat))) (hC.cg rfl (fun j a b => by rw [sI_1, if_neg (fun q => by have := q.2; omega)])) (by omega)) (fun s2 h2 => ?_)
  have F2 : MFr σ s2 := ((MFr.rf σ).s82 (by decide) _).tr (MFr.fm h2.1 (by decide))
  have n2 : ∀ c : Nat, 83 ≤ c → s2.1 c = σ.1 c := fun c hc => by rw [h2.1.c (a := c) (by simp only [List.mem_cons, List.not_mem_nil, or_false]; omega), sI_ne _ (by omega)]
  have u2 : s2.1 84 13 = δ 34 4 := by rw [n2 84 (by decide)]; exact hKR.1
  refine e_aload_n (q := 93) (i := 0) dX12_lawLine_92 rfl rfl rfl ?_
  refine e_getR (q := 96) dX12_lawLine_93 rfl fg_X12_49 (by first | assumption | rfl) rfl ?_
  refine e_iconst (q := 97) dX12_lawLine_96 rfl ?_
  refine e_iload_n (q := 98) (i := 1) dX12_lawLine_97 rfl rfl rfl ?_
  refine e_iadd (q := 99) dX12_lawLine_98 rfl ?_
  refine e_aload_n (q := 100) (i := 0) dX12_lawLine_99 rfl rfl rfl ?_
  refine e_bipush (q := 102) dX12_lawLine_100 rfl (by decide) ?_
  refine e_Vip (q := 105) (vs := [_]) ok_X12_fresher ml_X12_209 dX12_lawLine_102 rfl ⟨_, _, rfl⟩ (by first | assumption | rfl) rfl rfl (Nat.le_of_ble_eq_true rfl) (by decide) (c_X12_fresher (by decide) (by decide)) ?_
  rw [show s2.1 84 (7 + 6) = δ 34 4 from u2]
  refine e_iast (q := 106) dX12_lawLine_105 rfl (by first | assumption | rfl) ?_ (by omega) (by omega)
  obtain ⟨τ, hτ⟩ : ∃ τ, τ = sI s2 96 (3 + (t.1 - 8)) (δ 34 4) := ⟨_, rfl⟩
  rw [← hτ]
  have g82 : ∀ j, τ.1 82 j = s2.1 82 j := fun j => by rw [hτ, sI_ne _ (by decide)]
  have hES : ES τ r 0 (δ 34 4) (δ 34 4, δ 35) := ⟨by rw [g82, h2.1.2 26 (by decide)]; exact hf, h2.2.cg (by rw [hτ]; rfl) (fun j _ _ => g82 j), by rw [g82, h2.1.2 30 (by decide)]; exact b8, by rw [g82, h2.1.2 31 (by decide)]; exact b9, hKR.cg (by rw [hτ, sI_ne _ (by decide), n2 84 (by decide)]) (by rw [hτ, sI_ne _ (by decide), n2 98 (by decide)]) (by rw [hτ, sI_ne _ (by decide), n2 99 (by decide)])⟩
  have Gτ : MFr σ τ := by rw [hτ]; exact F2.si (by decide) (by decide) (by show (3 : Int) ≤ _; omega) _
  refine e_aload_n (q := 107) (i := 0) dX12_lawLine_106 rfl rfl rfl ?_
  refine e_Vv (q := 110) (vs := []) ok_X12_expression ml_X12_246 dX12_lawLine_107 rfl ⟨_, _, rfl⟩ (by first | assumption | rfl) rfl rfl (Nat.le_of_ble_eq_true rfl) (by unfold Dd; omega) (c_mexpr0 (S := []) hES ⟨fun s hs => (nomatch hs), by show δ 34 4 + 0 = δ 34 4; omega, rfl, ou.1, ou.2, by decide⟩ (by decide)) (fun s3 h3 => ?_)
  have hE0 : lLaw δ (t :: r) = match syRun r (1, [], 0, δ 34 4, (δ 34 4, δ 35)) with
        | .inl e => .inl e
        | .inr q => .inr (dLaw δ (t.1 - 8) q.2, q.1) := (if_neg qb).trans (if_neg qt)
  rcases h3 with ⟨f, p, hfr, g1, g2, g3, g4⟩ | ⟨ts2, P, c2, K1, g1, g2, g7, gc, g8, g9, g10, g11⟩
  · refine e_aload_n (q := 111) (i := 0) dX12_lawLine_110 rfl rfl rfl ?_
    refine e_getR (q := 114) dX12_lawLine_111 rfl fg_X12_52 (by first | assumption | rfl) rfl ?_
    refine e_iconst (q := 115) dX12_lawLine_114 rfl ?_
    refine e_iload_n (q := 116) (i := 1) dX12_lawLine_115 rfl rfl rfl ?_
    refine e_iadd (q := 117) dX12_lawLine_116 rfl ?_
    refine e_aload_n (q := 118) (i := 0) dX12_lawLine_117 rfl rfl rfl ?_
    refine e_bipush (q := 120) dX12_lawLine_118 rfl (by decide) ?_
    refine e_Vip (q := 123) (vs := [_]) ok_X12_fresher ml_X12_209 dX12_lawLine_120 rfl ⟨_, _, rfl⟩ (by first | assumption | rfl) rfl rfl (Nat.le_of_ble_eq_true rfl) (by decide) (c_X12_fresher (by decide) (by decide)) ?_
    refine e_iast (q := 124) dX12_lawLine_123 rfl (by first | assumption | rfl) ?_ (by omega) (by omega)
    exact r_v dX12_lawLine_124 rfl (by rw [hE0, g4]; exact Or.inl (FM.si (e := (f, p)) ⟨Gτ.tr (MFr.ef g1), g2, g3, hfr⟩ (k := 97) (by decide) (by decide) (by show (3 : Int) ≤ _; omega) _))
  rw [List.append_nil] at g7 g8 g11
  obtain ⟨d26, d3, d30, d31, dK⟩ := id g2
  obtain ⟨t2, r2, et⟩ := d3.ne
  subst et
  obtain ⟨n1, nV, n3, n4⟩ := d3.hd
  have G3 : MFr σ s3 := Gτ.tr (MFr.ef g1)
  refine e_aload_n (q := 111) (i := 0) dX12_lawLine_110 rfl rfl rfl ?_
  refine e_getR (q := 114) dX12_lawLine_111 rfl fg_X12_52 (by first | assumption | rfl) rfl ?_
  refine e_iconst (q := 115) dX12_lawLine_114 rfl ?_
  refine e_iload_n (q := 116) (i := 1) dX12_lawLine_115 rfl rfl rfl ?_
  refine e_iadd (q := 117) dX12_lawLine_116 rfl ?_
  refine e_aload_n (q := 118) (i := 0) dX12_lawLine_117 rfl rfl rfl ?_
  refine e_bipush (q := 120) dX12_lawLine_118 rfl (by decide) ?_
  refine e_Vip (q := 123) (vs := [_]) ok_X12_fresher ml_X12_209 dX12_lawLine_120 rfl ⟨_, _, rfl⟩ (by first | assumption | rfl) rfl rfl (Nat.le_of_ble_eq_true rfl) (by decide) (c_X12_fresher (by decide) (by decide)) ?_
  rw [show s3.1 84 (7 + 6) = (fl P K1).1 from dK.1]
  refine e_iast (q := 124) dX12_lawLine_123 rfl (by first | assumption | rfl) ?_ (by omega) (by omega)
  have G4 : MFr σ (sI s3 97 (3 + (t.1 - 8)) (fl P K1).1) := G3.si (by decide) (by decide) (by show (3 : Int) ≤ _; omega) _
  have k4 : MK (sI s3 97 (3 + (t.1 - 8)) (fl P K1).1) (t2 :: r2) := d3.cg rfl (fun j _ _ => by rw [sI_ne _ (by decide)])
  have f4 : (sI s3 97 (3 + (t.1 - 8)) (fl P K1).1).1 82 26 = 0 := by rw [sI_ne _ (by decide)]; exact d26
  by_cases q23 : t2.1 = 23
  · have hend : syRun r (1, [], 0, δ 34 4, (δ 34 4, δ 35)) = .inr (t2 :: r2, fl P K1) := by
      rw [g8, syRun_end ⟨by show (0 : Int) ≠ 1; decide, q23, rfl⟩]
      have := sySet_to (S := []) (K := K1) g9 (by decide)
      rw [List.append_nil] at this
      show Sum.inr (t2 :: r2, (sySet 1 P K1).2) = _
      rw [this]
    have hdp := law_dp (fun x hx => hG x (List.mem_cons_of_mem _ hx)) ou.1 ou.2 hend
    have hc2 : c2 = (fl P K1).1 := by
      obtain ⟨-, i2, -⟩ := g7
      rw [fl_len, ← i2, sgn_all (Int.le_refl 1) P g9]
    refine r_v dX12_lawLine_124 rfl ?_
    rw [hE0, hend]
    refine ⟨f4, G4, k4, ?_, ?_⟩
    · refine MD_law hD (by omega) (by omega) ?_ ?_ ?_ ?_ ?_ ?_ ?_ ?_
      · intro i hi
        rw [sI_ne _ (by decide), g1.2.2.1 i hi, hτ, sI_ne _ (by decide), n2 84 (by decide)]
      · rw [sI_ne _ (by decide), (g1.1 96 (by decide)).1, hτ, sI_uf, n2 96 (by decide)]
      · rw [sI_uf, (g1.1 97 (by decide)).1, hτ, sI_ne _ (by decide), n2 97 (by decide)]
      · intro c a b
        rw [sI_ne _ (by omega), (g1.1 c (by simp only [List.mem_cons, List.not_mem_nil, or_false]; omega)).1, hτ, sI_ne _ (by omega), n2 c (by omega)]
      · exact dK.cg (by rw [sI_ne _ (by decide)]) (by rw [sI_ne _ (by decide)]) (by rw [sI_ne _ (by decide)])
      · rw [sI_ne _ (by decide), g1.2.1 20 (by decide), g82, h2.1.2 20 (by decide)]; rfl
      · rw [sI_ne _ (by decide)]; exact d30
      · rw [sI_ne _ (by decide), d31, hc2]
    · rw [sI_ne _ (by decide), g1.2.1 19 (by decide), g82, h2.1.2 19 (by decide), sI_1, if_pos ⟨rfl, rfl⟩]
      exact MDb_law hB (by omega) (by omega) hdp.2
  · have hend : syRun r (1, [], 0, δ 34 4, (δ 34 4, δ 35)) = .inl (1, t2.2.1) := g8.trans (sy_stop g11 (fun q => absurd q.2 (by decide)) (fun q => q23 q.1))
    refine r_v dX12_lawLine_124 rfl ?_
    rw [hE0, hend]
    exact Or.inr ⟨f4, G4, t2, r2, k4, q23, rfl⟩

