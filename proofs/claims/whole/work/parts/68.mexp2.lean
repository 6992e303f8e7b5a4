theorem ES.hd {σ : Sg} {t : Tk} {r : List Tk} {o c : Int} {K : Kn} (h : ES σ (t :: r) o c K) : σ.1 82 23 = t.2.1 ∧ MV t (σ.1 82 24) (σ.1 82 25) ∧ (0 ≤ t.1 ∧ t.1 ≤ 37) ∧ (0 ≤ t.2.1 ∧ t.2.1 ≤ 700) := h.2.1.hd
theorem wr_EF {σ : Sg} {k : Int} (hk : k ≠ 0 := by omega) : EF σ (wr σ k) := ⟨wr_F.1.mono (by decide), fun j q => wr_F.2 j (fun r => q (by simp only [List.mem_cons, List.not_mem_nil, or_false] at r ⊢; omega)), fun i _ => by rw [wr_F.c (a := 84) (by decide)], fun i _ => by rw [wr_F.c (a := 98) (by decide), wr_F.c (a := 99) (by decide)]; exact ⟨rfl, rfl⟩, fun q => absurd (wr_f.symm.trans q) hk⟩
theorem EO_wr {σ τ : Sg} {l : Int} {X : Xt} {ts : List Tk} {S : List Int} {o c : Int} {K : Kn} {t : Tk} {k : Int} (hk : 1 ≤ k ∧ k ≤ 4) (hF : EF σ τ) (hp : τ.1 82 23 = t.2.1) (hE : syRun ts (1, S, o, c, K) = .inl (k, t.2.1)) : EO σ (wr τ k) l X ts S o c K := Or.inl ⟨k, t.2.1, hk, hF.tr wr_EF, wr_f, wr_p.trans hp, hE⟩
theorem syRun_f {t : Tk} {r : List Tk} {w : Int} {S : List Int} {o c : Int} {K : Kn} {f : Int} (hw : w = 1 ∨ t.1 ≠ 23) (h : sy1 t (w, S, o, c, K) = .inl f) : syRun (t :: r) (w, S, o, c, K) = .inl (f, t.2.1) := by
  rw [syRun_go (fun q => by rcases hw with e | e; exact q.1 e; exact e q.2.1), h]
theorem syRun_s {t : Tk} {r : List Tk} {w : Int} {S : List Int} {o c : Int} {K : Kn} {s : Sy} (hw : w = 1 ∨ t.1 ≠ 23) (h : sy1 t (w, S, o, c, K) = .inr s) : syRun (t :: r) (w, S, o, c, K) = syRun r s := by
  rw [syRun_go (fun q => by rcases hw with e | e; exact q.1 e; exact e q.2.1), h]

set_option maxHeartbeats 16000000 in
theorem prim_of {G : Gx} {N : Nat} (hE : LvC G mX12_expression N 5 1 1 Xe) : LvC G mX12_primary (N + 1) 0 7 7 Xp := by
  intro σ ts S o c K hN hES0 hI hb hp13
  obtain ⟨t, r, et⟩ := hES0.2.1.ne
  subst et
  obtain ⟨hf, hC, e30, e31, hK⟩ := id hES0
  obtain ⟨m1, m2, m3, m4⟩ := hC.hd
  have hs := m2.s m3.1 m3.2
  have hk := m2.k m3.1 m3.2
  have hv := m2.2.2.2.2.2.2
  have hp13 : t.1 = 13 → (7 : Int) ≤ 3 ∨ 3 < syTr S := hp13
  obtain ⟨i1, i2, i3, i4, i5, i6⟩ := id hI
  have hgl := sg_len S
  have hk1 := hK.1
  simp only [List.length_cons] at hN
  refine e_entry om_X12_primary (Nat.le_of_ble_eq_true rfl) (L := [some (.ref (G.2.2.2 + 82)), none]) rfl ?_
  by_cases q24 : t.1 = 24
  · refine e_aload_n (q := 1) (i := 0) dX12_primary_0 rfl rfl rfl ?_
    refine e_getI (q := 4) (jz := 26) dX12_primary_1 rfl fg_X12_190 rfl (by first | assumption | rfl) rfl ?_
    rw [hf]
    refine e_if_eq (q := 7) (tgt := 8) dX12_primary_4 rfl (by decide) (fun c4 => ?_) (fun c4 => by exfalso; omega)
    refine e_aload_n (q := 9) (i := 0) dX12_primary_8 rfl rfl rfl ?_
    refine e_bipush (q := 11) dX12_primary_9 rfl (by decide) ?_
    refine e_Vip (q := 14) (vs := [_]) ok_X12_isSign ml_X12_243 dX12_primary_11 rfl ⟨_, _, rfl⟩ (by first | assumption | rfl) rfl rfl (Nat.le_of_ble_eq_true rfl) (by unfold Dd; omega) (c_mSign (k := 24) rfl hC hf (by decide) (by decide)) ?_
    rw [if_pos q24]
    refine e_if_eq (q := 17) (tgt := 101) dX12_primary_14 rfl (by decide) (fun c14 => by exfalso; omega) (fun c14 => ?_)
    refine e_aload_n (q := 18) (i := 0) dX12_primary_17 rfl rfl rfl ?_
    refine e_getI (q := 21) (jz := 30) dX12_primary_18 rfl fg_X12_276 rfl (by first | assumption | rfl) rfl ?_
    refine e_bipush (q := 23) dX12_primary_21 rfl (by decide) ?_
    refine e_icmp_ne (q := 26) (tgt := 31) dX12_primary_23 rfl (by decide) (fun c23 => ?_) (fun c23 => ?_) (hx := ⟨by omega, by omega⟩)
    · refine e_aload_n (q := 32) (i := 0) dX12_primary_31 rfl rfl rfl ?_
      refine e_getI (q := 35) (jz := 26) dX12_primary_32 rfl fg_X12_190 rfl (by first | assumption | rfl) rfl ?_
      rw [hf]
      refine e_if_eq (q := 38) (tgt := 39) dX12_primary_35 rfl (by decide) (fun c35 => ?_) (fun c35 => by exfalso; omega)
      refine e_aload_n (q := 40) (i := 0) dX12_primary_39 rfl rfl rfl ?_
      refine e_dup (q := 41) dX12_primary_40 rfl rfl ?_
      refine e_getI (q := 44) (jz := 30) dX12_primary_41 rfl fg_X12_276 rfl (by first | assumption | rfl) rfl ?_
      refine e_iconst (q := 45) dX12_primary_44 rfl ?_
      refine e_iadd (q := 46) dX12_primary_45 rfl ?_
      refine e_putI (q := 49) (jz := 30) dX12_primary_46 rfl fp_X12_276 rfl (by first | assumption | rfl) rfl ?_
      refine e_aload_n (q := 50) (i := 0) dX12_primary_49 rfl rfl rfl ?_
      refine e_Vv (q := 53) (vs := []) ok_X12_token ml_X12_196 dX12_primary_50 rfl ⟨_, _, rfl⟩ (by first | assumption | rfl) rfl rfl (Nat.le_of_ble_eq_true rfl) (by unfold Dd; omega) (c_mtok (σ := (sI σ 82 30 (σ.1 82 30 + 1))) (hC.cg rfl (fun j a b => by rw [sI_1, if_neg (fun q => by have := q.2; omega)])) (by omega)) (fun s50 h50 => ?_)
      have hsy : sy1 t (1, S, o, c, K) = .inr (1, 24 :: S, o + 1, c, K) := by rw [sy_opn q24, if_neg (by omega)]
      have hI2 := (sy_I (Or.inr rfl) hI hsy).1
      have hgo : syRun (t :: r) (1, S, o, c, K) = syRun r (1, 24 :: S, o + 1, c, K) := syRun_s (Or.inl rfl) hsy
      have f50 : EF σ s50 := (EF.fm (F := [30]) ((Fm.rf _ _ σ).s82 (by decide) _) (by decide)).tr (EF.fm h50.1 (by decide))
      have hES : ES s50 r (o + 1) c K := ⟨by rw [h50.1.2 26 (by decide)]; exact hf, h50.2, by rw [h50.1.2 30 (by decide), sI_1, if_pos ⟨rfl, rfl⟩, e30], by rw [h50.1.2 31 (by decide)]; exact e31, hK.cg (by rw [h50.1.c (a := 84) (by decide)]; rfl) (h50.1.c (by decide)) (h50.1.c (by decide))⟩
      refine e_aload_n (q := 54) (i := 0) dX12_primary_53 rfl rfl rfl ?_
      refine e_Vv (q := 57) (vs := []) ok_X12_expression ml_X12_246 dX12_primary_54 rfl ⟨_, _, rfl⟩ (by first | assumption | rfl) rfl rfl (Nat.le_of_ble_eq_true rfl) (by unfold Dd; omega) (hE s50 r (24 :: S) (o + 1) c K (by omega) hES hI2 (by show rk 24 < 1; rw [rk24]; decide) (fun _ => Or.inl (by decide))) (fun s54 h54 => ?_)
      rcases h54 with ⟨f, p, hfr, g1, g2, g3, g4⟩ | ⟨ts2, P, c2, K1, g1, ⟨g2, g3, g4, g5, g6⟩, g7, gc, g8, g9, g10, g11⟩
      · refine e_aload_n (q := 58) (i := 0) dX12_primary_57 rfl rfl rfl ?_
        refine e_getI (q := 61) (jz := 26) dX12_primary_58 rfl fg_X12_190 rfl (by first | assumption | rfl) rfl ?_
        rw [g2]
        refine e_if_ne (q := 64) (tgt := 78) dX12_primary_61 rfl (by decide) (fun c61 => ?_) (fun c61 => by exfalso; omega) (hx := ⟨by omega, by omega⟩)
        refine e_aload_n (q := 79) (i := 0) dX12_primary_78 rfl rfl rfl ?_
        refine e_getI (q := 82) (jz := 26) dX12_primary_79 rfl fg_X12_190 rfl (by first | assumption | rfl) rfl ?_
        rw [g2]
        refine e_if_eq (q := 85) (tgt := 86) dX12_primary_82 rfl (by decide) (fun c82 => by exfalso; omega) (fun c82 => ?_) (hx := ⟨by omega, by omega⟩)
        exact r_v dX12_primary_85 rfl (Or.inl ⟨f, p, hfr, f50.tr g1, g2, g3, hgo.trans g4⟩)
      obtain ⟨t2, r2, et⟩ := g3.ne
      subst et
      obtain ⟨n1, n2, n3, n4⟩ := g3.hd
      by_cases q25 : t2.1 = 25
      · refine e_aload_n (q := 58) (i := 0) dX12_primary_57 rfl rfl rfl ?_
        refine e_getI (q := 61) (jz := 26) dX12_primary_58 rfl fg_X12_190 rfl (by first | assumption | rfl) rfl ?_
        rw [g2]
        refine e_if_ne (q := 64) (tgt := 78) dX12_primary_61 rfl (by decide) (fun c61 => by exfalso; omega) (fun c61 => ?_)
        refine e_aload_n (q := 65) (i := 0) dX12_primary_64 rfl rfl rfl ?_
        refine e_bipush (q := 67) dX12_primary_65 rfl (by decide) ?_
        refine e_Vip (q := 70) (vs := [_]) ok_X12_isSign ml_X12_243 dX12_primary_67 rfl ⟨_, _, rfl⟩ (by first | assumption | rfl) rfl rfl (Nat.le_of_ble_eq_true rfl) (by unfold Dd; omega) (c_mSign (k := 25) rfl g3 g2 (by decide) (by decide)) ?_
        rw [if_pos q25]
        refine e_if_ne (q := 73) (tgt := 78) dX12_primary_70 rfl (by decide) (fun c70 => ?_) (fun c70 => by exfalso; omega)
        refine e_aload_n (q := 79) (i := 0) dX12_primary_78 rfl rfl rfl ?_
        refine e_getI (q := 82) (jz := 26) dX12_primary_79 rfl fg_X12_190 rfl (by first | assumption | rfl) rfl ?_
        rw [g2]
        refine e_if_eq (q := 85) (tgt := 86) dX12_primary_82 rfl (by decide) (fun c82 => ?_) (fun c82 => by exfalso; omega)
        refine e_aload_n (q := 87) (i := 0) dX12_primary_86 rfl rfl rfl ?_
        refine e_dup (q := 88) dX12_primary_87 rfl rfl ?_
        refine e_getI (q := 91) (jz := 30) dX12_primary_88 rfl fg_X12_276 rfl (by first | assumption | rfl) rfl ?_
        refine e_iconst (q := 92) dX12_primary_91 rfl ?_
        refine e_isub (q := 93) dX12_primary_92 rfl ?_
        refine e_putI (q := 96) (jz := 30) dX12_primary_93 rfl fp_X12_276 rfl (by first | assumption | rfl) rfl ?_
        refine e_aload_n (q := 97) (i := 0) dX12_primary_96 rfl rfl rfl ?_
        refine e_Vv (q := 100) (vs := []) ok_X12_token ml_X12_196 dX12_primary_97 rfl ⟨_, _, rfl⟩ (by first | assumption | rfl) rfl rfl (Nat.le_of_ble_eq_true rfl) (by unfold Dd; omega) (c_mtok (σ := (sI s54 82 30 (s54.1 82 30 - 1))) (g3.cg rfl (fun j a b => by rw [sI_1, if_neg (fun q => by have := q.2; omega)])) (by omega)) (fun s97 h97 => ?_)
        have hset : sySet 1 (P ++ 24 :: S) K1 = (24 :: S, fl P K1) := sySet_to g9 (by show rk 24 < 1; rw [rk24]; decide)
        have hsy2 : sy1 t2 (0, P ++ 24 :: S, o + 1, c2, K1) = .inr (0, S, o, c2, fl P K1) := by
          rw [sy_cls q25 (by omega), hset, show o + 1 - 1 = o by omega]
          rfl
        have hI3 := (sy_I (Or.inl rfl) g7 hsy2).1
        refine r_v dX12_primary_100 rfl (Or.inr ⟨r2, [], c2, fl P K1, ((f50.tr g1).tr (EF.fm (F := [30]) ((Fm.rf _ _ s54).s82 (by decide) _) (by decide))).tr (EF.fm h97.1 (by decide)), ⟨?_, h97.2, ?_, ?_, ?_⟩, hI3, gc, (hgo.trans g8).trans (syRun_s (Or.inr (by omega)) hsy2), fun s hs => (nomatch hs), by simp only [List.length_cons] at g10 ⊢; omega, trivial⟩)
        · rw [h97.1.2 26 (by decide)]; exact g2
        · rw [h97.1.2 30 (by decide), sI_1, if_pos ⟨rfl, rfl⟩, g4]; omega
        · rw [h97.1.2 31 (by decide)]; exact g5
        · exact g6.cg (by rw [h97.1.c (a := 84) (by decide)]; rfl) (h97.1.c (by decide)) (h97.1.c (by decide))
      refine e_aload_n (q := 58) (i := 0) dX12_primary_57 rfl rfl rfl ?_
      refine e_getI (q := 61) (jz := 26) dX12_primary_58 rfl fg_X12_190 rfl (by first | assumption | rfl) rfl ?_
      rw [g2]
      refine e_if_ne (q := 64) (tgt := 78) dX12_primary_61 rfl (by decide) (fun c61 => by exfalso; omega) (fun c61 => ?_)
      refine e_aload_n (q := 65) (i := 0) dX12_primary_64 rfl rfl rfl ?_
      refine e_bipush (q := 67) dX12_primary_65 rfl (by decide) ?_
      refine e_Vip (q := 70) (vs := [_]) ok_X12_isSign ml_X12_243 dX12_primary_67 rfl ⟨_, _, rfl⟩ (by first | assumption | rfl) rfl rfl (Nat.le_of_ble_eq_true rfl) (by unfold Dd; omega) (c_mSign (k := 25) rfl g3 g2 (by decide) (by decide)) ?_
      rw [if_neg q25]
      refine e_if_ne (q := 73) (tgt := 78) dX12_primary_70 rfl (by decide) (fun c70 => by exfalso; omega) (fun c70 => ?_)
      refine e_aload_n (q := 74) (i := 0) dX12_primary_73 rfl rfl rfl ?_
      refine e_iconst (q := 75) dX12_primary_74 rfl ?_
      refine e_Vv (q := 78) (vs := [_]) ok_X12_wrong ml_X12_199 dX12_primary_75 rfl ⟨_, _, rfl⟩ (by first | assumption | rfl) rfl rfl (Nat.le_of_ble_eq_true rfl) (by unfold Dd; omega) (c_mwrong0 g2) (fun s75 h75 => ?_)
      subst h75
      refine e_aload_n (q := 79) (i := 0) dX12_primary_78 rfl rfl rfl ?_
      refine e_getI (q := 82) (jz := 26) dX12_primary_79 rfl fg_X12_190 rfl (by first | assumption | rfl) rfl ?_
      rw [show (wr s54 1).1 82 26 = 1 from wr_f]
      refine e_if_eq (q := 85) (tgt := 86) dX12_primary_82 rfl (by decide) (fun c82 => by exfalso; omega) (fun c82 => ?_)
      exact r_v dX12_primary_85 rfl (EO_wr (t := t2) (by decide) (f50.tr g1) n1 ((hgo.trans g8).trans (sy_stop g11 (fun q => q25 q.1) (fun q => by have := q.2; omega))))
    · refine e_aload_n (q := 27) (i := 0) dX12_primary_26 rfl rfl rfl ?_
      refine e_iconst (q := 28) dX12_primary_27 rfl ?_
      refine e_Vv (q := 31) (vs := [_]) ok_X12_wrong ml_X12_199 dX12_primary_28 rfl ⟨_, _, rfl⟩ (by first | assumption | rfl) rfl rfl (Nat.le_of_ble_eq_true rfl) (by unfold Dd; omega) (c_mwrong0 hf) (fun s28 h28 => ?_)
      subst h28
      refine e_aload_n (q := 32) (i := 0) dX12_primary_31 rfl rfl rfl ?_
      refine e_getI (q := 35) (jz := 26) dX12_primary_32 rfl fg_X12_190 rfl (by first | assumption | rfl) rfl ?_
      rw [show (wr σ 2).1 82 26 = 2 from wr_f]
      refine e_if_eq (q := 38) (tgt := 39) dX12_primary_35 rfl (by decide) (fun c35 => by exfalso; omega) (fun c35 => ?_)
      exact r_v dX12_primary_38 rfl (EO_wr (t := t) (by decide) (EF.rf _) m1 (syRun_f (Or.inl rfl) (by rw [sy_opn q24, if_pos (by omega)])))
  by_cases q22 : t.1 = 22
  · have hv2 := m2.2.2.1 q22
    by_cases qa : 9999 < t.2.2
    · refine e_aload_n (q := 1) (i := 0) dX12_primary_0 rfl rfl rfl ?_
      refine e_getI (q := 4) (jz := 26) dX12_primary_1 rfl fg_X12_190 rfl (by first | assumption | rfl) rfl ?_
      rw [hf]
      refine e_if_eq (q := 7) (tgt := 8) dX12_primary_4 rfl (by decide) (fun c4 => ?_) (fun c4 => by exfalso; omega)
      refine e_aload_n (q := 9) (i := 0) dX12_primary_8 rfl rfl rfl ?_
      refine e_bipush (q := 11) dX12_primary_9 rfl (by decide) ?_
      refine e_Vip (q := 14) (vs := [_]) ok_X12_isSign ml_X12_243 dX12_primary_11 rfl ⟨_, _, rfl⟩ (by first | assumption | rfl) rfl rfl (Nat.le_of_ble_eq_true rfl) (by unfold Dd; omega) (c_mSign (k := 24) rfl hC hf (by decide) (by decide)) ?_
      rw [if_neg q24]
      refine e_if_eq (q := 17) (tgt := 101) dX12_primary_14 rfl (by decide) (fun c14 => ?_) (fun c14 => by exfalso; omega)
      refine e_aload_n (q := 102) (i := 0) dX12_primary_101 rfl rfl rfl ?_
      refine e_getI (q := 105) (jz := 24) dX12_primary_102 rfl fg_X12_155 rfl (by first | assumption | rfl) rfl ?_
      refine e_iconst (q := 106) dX12_primary_105 rfl ?_
      refine e_icmp_ne (q := 109) (tgt := 113) dX12_primary_106 rfl (by decide) (fun c106 => by exfalso; omega) (fun c106 => ?_) (hx := ⟨by omega, by omega⟩)
      refine e_iconst (q := 110) dX12_primary_109 rfl ?_
      refine e_goto (tgt := 114) dX12_primary_110 (by decide) ?_
      refine e_istore_n (q := 115) (i := 1) (L' := [_, _]) dX12_primary_114 rfl rfl (by decide) rfl rfl ?_
      refine e_iload_n (q := 116) (i := 1) dX12_primary_115 rfl rfl rfl ?_
      refine e_if_eq (q := 119) (tgt := 137) dX12_primary_116 rfl (by decide) (fun c116 => by exfalso; omega) (fun c116 => ?_)
      refine e_aload_n (q := 120) (i := 0) dX12_primary_119 rfl rfl rfl ?_
      refine e_getI (q := 123) (jz := 25) dX12_primary_120 rfl fg_X12_165 rfl (by first | assumption | rfl) rfl ?_
      refine e_sipush (q := 126) dX12_primary_123 rfl (by decide) ?_
      refine e_icmp_le (q := 129) (tgt := 137) dX12_primary_126 rfl (by decide) (fun c126 => by exfalso; omega) (fun c126 => ?_) (hx := hv)
      refine e_aload_n (q := 130) (i := 0) dX12_primary_129 rfl rfl rfl ?_
      refine e_iconst (q := 131) dX12_primary_130 rfl ?_
      refine e_Vv (q := 134) (vs := [_]) ok_X12_wrong ml_X12_199 dX12_primary_131 rfl ⟨_, _, rfl⟩ (by first | assumption | rfl) rfl rfl (Nat.le_of_ble_eq_true rfl) (by unfold Dd; omega) (c_mwrong0 hf) (fun s31 h31 => ?_)
      subst h31
      refine e_goto (tgt := 162) dX12_primary_134 (by decide) ?_
      refine e_aload_n (q := 163) (i := 0) dX12_primary_162 rfl rfl rfl ?_
      refine e_Vv (q := 166) (vs := []) ok_X12_knot ml_X12_258 dX12_primary_163 rfl ⟨_, _, rfl⟩ (by first | assumption | rfl) rfl rfl (Nat.le_of_ble_eq_true rfl) (by unfold Dd; omega) (c_mknot1 (by rw [wr_f]; exact ⟨by decide, by decide⟩) (by rw [wr_f]; decide)) (fun s63 h63 => ?_)
      subst h63
      refine e_aload_n (q := 167) (i := 0) dX12_primary_166 rfl rfl rfl ?_
      refine e_iload_n (q := 168) (i := 1) dX12_primary_167 rfl rfl rfl ?_
      refine e_if_eq (q := 171) (tgt := 175) dX12_primary_168 rfl (by decide) (fun c168 => by exfalso; omega) (fun c168 => ?_)
      refine e_iconst (q := 172) dX12_primary_171 rfl ?_
      refine e_goto (tgt := 176) dX12_primary_172 (by decide) ?_
      refine e_iload_n (q := 177) (i := 1) dX12_primary_176 rfl rfl rfl ?_
      refine e_if_eq (q := 180) (tgt := 187) dX12_primary_177 rfl (by decide) (fun c177 => by exfalso; omega) (fun c177 => ?_)
      refine e_aload_n (q := 181) (i := 0) dX12_primary_180 rfl rfl rfl ?_
      refine e_getI (q := 184) (jz := 25) dX12_primary_181 rfl fg_X12_165 rfl (by first | assumption | rfl) rfl ?_
      refine e_goto (tgt := 194) dX12_primary_184 (by decide) ?_
      refine e_Vv (q := 197) (vs := [_, _]) ok_X12_puts ml_X12_261 dX12_primary_194 rfl ⟨_, _, rfl⟩ (by first | assumption | rfl) rfl rfl (Nat.le_of_ble_eq_true rfl) (by unfold Dd; omega) (c_mputs1 (by rw [wr_f]; exact ⟨by decide, by decide⟩) (by rw [wr_f]; decide)) (fun s94 h94 => ?_)
      subst h94
      refine e_aload_n (q := 198) (i := 0) dX12_primary_197 rfl rfl rfl ?_
      refine e_Vv (q := 201) (vs := []) ok_X12_goOn ml_X12_206 dX12_primary_198 rfl ⟨_, _, rfl⟩ (by first | assumption | rfl) rfl rfl (Nat.le_of_ble_eq_true rfl) (by unfold Dd; omega) (c_mgoOn1 (by rw [wr_f]; exact ⟨by decide, by decide⟩) (by rw [wr_f]; decide)) (fun s98 h98 => ?_)
      subst h98
      exact r_v dX12_primary_201 rfl (EO_wr (t := t) (by decide) (EF.rf _) m1 (syRun_f (Or.inl rfl) (by rw [sy_num q22, if_pos (by omega)])))
    by_cases qc : 64 ≤ c
    · refine e_aload_n (q := 1) (i := 0) dX12_primary_0 rfl rfl rfl ?_
      refine e_getI (q := 4) (jz := 26) dX12_primary_1 rfl fg_X12_190 rfl (by first | assumption | rfl) rfl ?_
      rw [hf]
      refine e_if_eq (q := 7) (tgt := 8) dX12_primary_4 rfl (by decide) (fun c4 => ?_) (fun c4 => by exfalso; omega)
      refine e_aload_n (q := 9) (i := 0) dX12_primary_8 rfl rfl rfl ?_
      refine e_bipush (q := 11) dX12_primary_9 rfl (by decide) ?_
      refine e_Vip (q := 14) (vs := [_]) ok_X12_isSign ml_X12_243 dX12_primary_11 rfl ⟨_, _, rfl⟩ (by first | assumption | rfl) rfl rfl (Nat.le_of_ble_eq_true rfl) (by unfold Dd; omega) (c_mSign (k := 24) rfl hC hf (by decide) (by decide)) ?_
      rw [if_neg q24]
      refine e_if_eq (q := 17) (tgt := 101) dX12_primary_14 rfl (by decide) (fun c14 => ?_) (fun c14 => by exfalso; omega)
      refine e_aload_n (q := 102) (i := 0) dX12_primary_101 rfl rfl rfl ?_
      refine e_getI (q := 105) (jz := 24) dX12_primary_102 rfl fg_X12_155 rfl (by first | assumption | rfl) rfl ?_
      refine e_iconst (q := 106) dX12_primary_105 rfl ?_
      refine e_icmp_ne (q := 109) (tgt := 113) dX12_primary_106 rfl (by decide) (fun c106 => by exfalso; omega) (fun c106 => ?_) (hx := ⟨by omega, by omega⟩)
      refine e_iconst (q := 110) dX12_primary_109 rfl ?_
      refine e_goto (tgt := 114) dX12_primary_110 (by decide) ?_
      refine e_istore_n (q := 115) (i := 1) (L' := [_, _]) dX12_primary_114 rfl rfl (by decide) rfl rfl ?_
      refine e_iload_n (q := 116) (i := 1) dX12_primary_115 rfl rfl rfl ?_
      refine e_if_eq (q := 119) (tgt := 137) dX12_primary_116 rfl (by decide) (fun c116 => by exfalso; omega) (fun c116 => ?_)
      refine e_aload_n (q := 120) (i := 0) dX12_primary_119 rfl rfl rfl ?_
      refine e_getI (q := 123) (jz := 25) dX12_primary_120 rfl fg_X12_165 rfl (by first | assumption | rfl) rfl ?_
      refine e_sipush (q := 126) dX12_primary_123 rfl (by decide) ?_
      refine e_icmp_le (q := 129) (tgt := 137) dX12_primary_126 rfl (by decide) (fun c126 => ?_) (fun c126 => by exfalso; omega) (hx := hv)
      refine e_iload_n (q := 138) (i := 1) dX12_primary_137 rfl rfl rfl ?_
      refine e_if_ne (q := 141) (tgt := 162) dX12_primary_138 rfl (by decide) (fun c138 => ?_) (fun c138 => by exfalso; omega)
      refine e_aload_n (q := 163) (i := 0) dX12_primary_162 rfl rfl rfl ?_
      refine e_Vv (q := 166) (vs := []) ok_X12_knot ml_X12_258 dX12_primary_163 rfl ⟨_, _, rfl⟩ (by first | assumption | rfl) rfl rfl (Nat.le_of_ble_eq_true rfl) (by unfold Dd; omega) (c_mknot0 (by omega) (by omega) hf) (fun s63 h63 => ?_)
      obtain ⟨-, e63⟩ := h63.resolve_right (fun q => by have := q.1; omega)
      subst e63
      refine e_aload_n (q := 167) (i := 0) dX12_primary_166 rfl rfl rfl ?_
      refine e_iload_n (q := 168) (i := 1) dX12_primary_167 rfl rfl rfl ?_
      refine e_if_eq (q := 171) (tgt := 175) dX12_primary_168 rfl (by decide) (fun c168 => by exfalso; omega) (fun c168 => ?_)
      refine e_iconst (q := 172) dX12_primary_171 rfl ?_
      refine e_goto (tgt := 176) dX12_primary_172 (by decide) ?_
      refine e_iload_n (q := 177) (i := 1) dX12_primary_176 rfl rfl rfl ?_
      refine e_if_eq (q := 180) (tgt := 187) dX12_primary_177 rfl (by decide) (fun c177 => by exfalso; omega) (fun c177 => ?_)
      refine e_aload_n (q := 181) (i := 0) dX12_primary_180 rfl rfl rfl ?_
      refine e_getI (q := 184) (jz := 25) dX12_primary_181 rfl fg_X12_165 rfl (by first | assumption | rfl) rfl ?_
      refine e_goto (tgt := 194) dX12_primary_184 (by decide) ?_
      refine e_Vv (q := 197) (vs := [_, _]) ok_X12_puts ml_X12_261 dX12_primary_194 rfl ⟨_, _, rfl⟩ (by first | assumption | rfl) rfl rfl (Nat.le_of_ble_eq_true rfl) (by unfold Dd; omega) (c_mputs1 (by rw [wr_f]; exact ⟨by decide, by decide⟩) (by rw [wr_f]; decide)) (fun s94 h94 => ?_)
      subst h94
      refine e_aload_n (q := 198) (i := 0) dX12_primary_197 rfl rfl rfl ?_
      refine e_Vv (q := 201) (vs := []) ok_X12_goOn ml_X12_206 dX12_primary_198 rfl ⟨_, _, rfl⟩ (by first | assumption | rfl) rfl rfl (Nat.le_of_ble_eq_true rfl) (by unfold Dd; omega) (c_mgoOn1 (by rw [wr_f]; exact ⟨by decide, by decide⟩) (by rw [wr_f]; decide)) (fun s98 h98 => ?_)
      subst h98
      exact r_v dX12_primary_201 rfl (EO_wr (t := t) (by decide) (EF.rf _) m1 (syRun_f (Or.inl rfl) (by rw [sy_num q22, if_neg (by omega), if_pos (by omega)])))
    refine e_aload_n (q := 1) (i := 0) dX12_primary_0 rfl rfl rfl ?_
    refine e_getI (q := 4) (jz := 26) dX12_primary_1 rfl fg_X12_190 rfl (by first | assumption | rfl) rfl ?_
    rw [hf]
    refine e_if_eq (q := 7) (tgt := 8) dX12_primary_4 rfl (by decide) (fun c4 => ?_) (fun c4 => by exfalso; omega)
    refine e_aload_n (q := 9) (i := 0) dX12_primary_8 rfl rfl rfl ?_
    refine e_bipush (q := 11) dX12_primary_9 rfl (by decide) ?_
    refine e_Vip (q := 14) (vs := [_]) ok_X12_isSign ml_X12_243 dX12_primary_11 rfl ⟨_, _, rfl⟩ (by first | assumption | rfl) rfl rfl (Nat.le_of_ble_eq_true rfl) (by unfold Dd; omega) (c_mSign (k := 24) rfl hC hf (by decide) (by decide)) ?_
    rw [if_neg q24]
    refine e_if_eq (q := 17) (tgt := 101) dX12_primary_14 rfl (by decide) (fun c14 => ?_) (fun c14 => by exfalso; omega)
    refine e_aload_n (q := 102) (i := 0) dX12_primary_101 rfl rfl rfl ?_
    refine e_getI (q := 105) (jz := 24) dX12_primary_102 rfl fg_X12_155 rfl (by first | assumption | rfl) rfl ?_
    refine e_iconst (q := 106) dX12_primary_105 rfl ?_
    refine e_icmp_ne (q := 109) (tgt := 113) dX12_primary_106 rfl (by decide) (fun c106 => by exfalso; omega) (fun c106 => ?_) (hx := ⟨by omega, by omega⟩)
    refine e_iconst (q := 110) dX12_primary_109 rfl ?_
    refine e_goto (tgt := 114) dX12_primary_110 (by decide) ?_
    refine e_istore_n (q := 115) (i := 1) (L' := [_, _]) dX12_primary_114 rfl rfl (by decide) rfl rfl ?_
    refine e_iload_n (q := 116) (i := 1) dX12_primary_115 rfl rfl rfl ?_
    refine e_if_eq (q := 119) (tgt := 137) dX12_primary_116 rfl (by decide) (fun c116 => by exfalso; omega) (fun c116 => ?_)
    refine e_aload_n (q := 120) (i := 0) dX12_primary_119 rfl rfl rfl ?_
    refine e_getI (q := 123) (jz := 25) dX12_primary_120 rfl fg_X12_165 rfl (by first | assumption | rfl) rfl ?_
    refine e_sipush (q := 126) dX12_primary_123 rfl (by decide) ?_
    refine e_icmp_le (q := 129) (tgt := 137) dX12_primary_126 rfl (by decide) (fun c126 => ?_) (fun c126 => by exfalso; omega) (hx := hv)
    refine e_iload_n (q := 138) (i := 1) dX12_primary_137 rfl rfl rfl ?_
    refine e_if_ne (q := 141) (tgt := 162) dX12_primary_138 rfl (by decide) (fun c138 => ?_) (fun c138 => by exfalso; omega)
    refine e_aload_n (q := 163) (i := 0) dX12_primary_162 rfl rfl rfl ?_
    refine e_Vv (q := 166) (vs := []) ok_X12_knot ml_X12_258 dX12_primary_163 rfl ⟨_, _, rfl⟩ (by first | assumption | rfl) rfl rfl (Nat.le_of_ble_eq_true rfl) (by unfold Dd; omega) (c_mknot0 (by omega) (by omega) hf) (fun s63 h63 => ?_)
    obtain ⟨-, e63⟩ := h63.resolve_left (fun q => by have := q.1; omega)
    subst e63
    refine e_aload_n (q := 167) (i := 0) dX12_primary_166 rfl rfl rfl ?_
    refine e_iload_n (q := 168) (i := 1) dX12_primary_167 rfl rfl rfl ?_
    refine e_if_eq (q := 171) (tgt := 175) dX12_primary_168 rfl (by decide) (fun c168 => by exfalso; omega) (fun c168 => ?_)
    refine e_iconst (q := 172) dX12_primary_171 rfl ?_
    refine e_goto (tgt := 176) dX12_primary_172 (by decide) ?_
    refine e_iload_n (q := 177) (i := 1) dX12_primary_176 rfl rfl rfl ?_
    refine e_if_eq (q := 180) (tgt := 187) dX12_primary_177 rfl (by decide) (fun c177 => by exfalso; omega) (fun c177 => ?_)
    refine e_aload_n (q := 181) (i := 0) dX12_primary_180 rfl rfl rfl ?_
    refine e_getI (q := 184) (jz := 25) dX12_primary_181 rfl fg_X12_165 rfl (by first | assumption | rfl) rfl ?_
    rw [show (sI σ 82 31 (σ.1 82 31 + 1)).1 82 25 = t.2.2 from (show σ.1 82 25 = t.2.2 by omega)]
    refine e_goto (tgt := 194) dX12_primary_184 (by decide) ?_
    refine e_Vv (q := 197) (vs := [_, _]) ok_X12_puts ml_X12_261 dX12_primary_194 rfl ⟨_, _, rfl⟩ (by first | assumption | rfl) rfl rfl (Nat.le_of_ble_eq_true rfl) (by unfold Dd; omega) (c_mputs0 (σ := (sI σ 82 31 (σ.1 82 31 + 1))) (show 0 ≤ σ.1 84 13 by omega) (show σ.1 84 13 < 64 by omega) (show σ.1 82 26 = 0 from hf)) (fun s94 h94 => ?_)
    have h94 : s94 = ptS (sI σ 82 31 (σ.1 82 31 + 1)) 0 t.2.2 := h94
    subst h94
    have hC2 : MK (ptS (sI σ 82 31 (σ.1 82 31 + 1)) 0 t.2.2) (t :: r) := hC.cg rfl (fun j a b => by show (ptS (sI σ 82 31 (σ.1 82 31 + 1)) 0 t.2.2).1 82 j = _; unfold ptS; rw [sI_ne _ (by decide), sI_ne _ (by decide), sI_ne _ (by decide), sI_1, if_neg (fun q => by have := q.2; omega)])
    have hK2 : KR (ptS (sI σ 82 31 (σ.1 82 31 + 1)) 0 t.2.2) (kput K t.2.2) := KR.put (hK.cg rfl rfl rfl) (Or.inl ⟨rfl, by omega, by omega, rfl⟩)
    refine e_aload_n (q := 198) (i := 0) dX12_primary_197 rfl rfl rfl ?_
    refine e_Vv (q := 201) (vs := []) ok_X12_goOn ml_X12_206 dX12_primary_198 rfl ⟨_, _, rfl⟩ (by first | assumption | rfl) rfl rfl (Nat.le_of_ble_eq_true rfl) (by unfold Dd; omega) (c_mgoOn0 hC2 (by omega) (show σ.1 82 26 = 0 from hf)) (fun s98 h98 => ?_)
    have hsy : sy1 t (1, S, o, c, K) = .inr (0, S, o, c + 1, kput K t.2.2) := by rw [sy_num q22, if_neg (by omega), if_neg (by omega)]
    have hI2 := (sy_I (Or.inr rfl) hI hsy).1
    have hEF : EF σ s98 := ((EF.fm (F := [31]) ((Fm.rf _ _ σ).s82 (by decide) _) (by decide)).tr (EF.pt (show 0 ≤ σ.1 84 13 by omega))).tr (EF.fm h98.1 (by decide))
    refine r_v dX12_primary_201 rfl (Or.inr ⟨r, [], c + 1, kput K t.2.2, hEF, ⟨?_, h98.2, ?_, ?_, ?_⟩, hI2, by omega, syRun_s (Or.inl rfl) hsy, fun s hs => (nomatch hs), by simp only [List.length_cons]; omega, trivial⟩)
    · rw [h98.1.2 26 (by decide)]; exact hf
    · rw [h98.1.2 30 (by decide)]; exact e30
    · rw [h98.1.2 31 (by decide)]
      show (ptS (sI σ 82 31 (σ.1 82 31 + 1)) 0 t.2.2).1 82 31 = c + 1
      unfold ptS
      rw [sI_ne _ (by decide), sI_ne _ (by decide), sI_ne _ (by decide), sI_1, if_pos ⟨rfl, rfl⟩, e31]
    · exact hK2.cg (by rw [h98.1.c (a := 84) (by decide)]) (h98.1.c (by decide)) (h98.1.c (by decide))
  by_cases q14 : 14 ≤ t.1 ∧ t.1 ≤ 20
  · have hv1 := m2.1 m3.1 q14.2
    by_cases qc : 64 ≤ c
    · refine e_aload_n (q := 1) (i := 0) dX12_primary_0 rfl rfl rfl ?_
      refine e_getI (q := 4) (jz := 26) dX12_primary_1 rfl fg_X12_190 rfl (by first | assumption | rfl) rfl ?_
      rw [hf]
      refine e_if_eq (q := 7) (tgt := 8) dX12_primary_4 rfl (by decide) (fun c4 => ?_) (fun c4 => by exfalso; omega)
      refine e_aload_n (q := 9) (i := 0) dX12_primary_8 rfl rfl rfl ?_
      refine e_bipush (q := 11) dX12_primary_9 rfl (by decide) ?_
      refine e_Vip (q := 14) (vs := [_]) ok_X12_isSign ml_X12_243 dX12_primary_11 rfl ⟨_, _, rfl⟩ (by first | assumption | rfl) rfl rfl (Nat.le_of_ble_eq_true rfl) (by unfold Dd; omega) (c_mSign (k := 24) rfl hC hf (by decide) (by decide)) ?_
      rw [if_neg q24]
      refine e_if_eq (q := 17) (tgt := 101) dX12_primary_14 rfl (by decide) (fun c14 => ?_) (fun c14 => by exfalso; omega)
      refine e_aload_n (q := 102) (i := 0) dX12_primary_101 rfl rfl rfl ?_
      refine e_getI (q := 105) (jz := 24) dX12_primary_102 rfl fg_X12_155 rfl (by first | assumption | rfl) rfl ?_
      refine e_iconst (q := 106) dX12_primary_105 rfl ?_
      refine e_icmp_ne (q := 109) (tgt := 113) dX12_primary_106 rfl (by decide) (fun c106 => ?_) (fun c106 => by exfalso; omega) (hx := ⟨by omega, by omega⟩)
      refine e_iconst (q := 114) dX12_primary_113 rfl ?_
      refine e_istore_n (q := 115) (i := 1) (L' := [_, _]) dX12_primary_114 rfl rfl (by decide) rfl rfl ?_
      refine e_iload_n (q := 116) (i := 1) dX12_primary_115 rfl rfl rfl ?_
      refine e_if_eq (q := 119) (tgt := 137) dX12_primary_116 rfl (by decide) (fun c116 => ?_) (fun c116 => by exfalso; omega)
      refine e_iload_n (q := 138) (i := 1) dX12_primary_137 rfl rfl rfl ?_
      refine e_if_ne (q := 141) (tgt := 162) dX12_primary_138 rfl (by decide) (fun c138 => by exfalso; omega) (fun c138 => ?_)
      refine e_aload_n (q := 142) (i := 0) dX12_primary_141 rfl rfl rfl ?_
      refine e_getI (q := 145) (jz := 24) dX12_primary_142 rfl fg_X12_155 rfl (by first | assumption | rfl) rfl ?_
      refine e_if_ne (q := 148) (tgt := 157) dX12_primary_145 rfl (by decide) (fun c145 => by exfalso; omega) (fun c145 => ?_) (hx := ⟨by omega, by omega⟩)
      refine e_aload_n (q := 149) (i := 0) dX12_primary_148 rfl rfl rfl ?_
      refine e_getI (q := 152) (jz := 25) dX12_primary_149 rfl fg_X12_165 rfl (by first | assumption | rfl) rfl ?_
      refine e_bipush (q := 154) dX12_primary_152 rfl (by decide) ?_
      refine e_icmp_ge (q := 157) (tgt := 162) dX12_primary_154 rfl (by decide) (fun c154 => ?_) (fun c154 => by exfalso; omega) (hx := hv)
      refine e_aload_n (q := 163) (i := 0) dX12_primary_162 rfl rfl rfl ?_
      refine e_Vv (q := 166) (vs := []) ok_X12_knot ml_X12_258 dX12_primary_163 rfl ⟨_, _, rfl⟩ (by first | assumption | rfl) rfl rfl (Nat.le_of_ble_eq_true rfl) (by unfold Dd; omega) (c_mknot0 (by omega) (by omega) hf) (fun s63 h63 => ?_)
      obtain ⟨-, e63⟩ := h63.resolve_right (fun q => by have := q.1; omega)
      subst e63
      refine e_aload_n (q := 167) (i := 0) dX12_primary_166 rfl rfl rfl ?_
      refine e_iload_n (q := 168) (i := 1) dX12_primary_167 rfl rfl rfl ?_
      refine e_if_eq (q := 171) (tgt := 175) dX12_primary_168 rfl (by decide) (fun c168 => ?_) (fun c168 => by exfalso; omega)
      refine e_iconst (q := 176) dX12_primary_175 rfl ?_
      refine e_iload_n (q := 177) (i := 1) dX12_primary_176 rfl rfl rfl ?_
      refine e_if_eq (q := 180) (tgt := 187) dX12_primary_177 rfl (by decide) (fun c177 => ?_) (fun c177 => by exfalso; omega)
      refine e_aload_n (q := 188) (i := 0) dX12_primary_187 rfl rfl rfl ?_
      refine e_getI (q := 191) (jz := 25) dX12_primary_188 rfl fg_X12_165 rfl (by first | assumption | rfl) rfl ?_
      refine e_bipush (q := 193) dX12_primary_191 rfl (by decide) ?_
      refine e_isub (q := 194) dX12_primary_193 rfl ?_
      refine e_Vv (q := 197) (vs := [_, _]) ok_X12_puts ml_X12_261 dX12_primary_194 rfl ⟨_, _, rfl⟩ (by first | assumption | rfl) rfl rfl (Nat.le_of_ble_eq_true rfl) (by unfold Dd; omega) (c_mputs1 (by rw [wr_f]; exact ⟨by decide, by decide⟩) (by rw [wr_f]; decide)) (fun s94 h94 => ?_)
      subst h94
      refine e_aload_n (q := 198) (i := 0) dX12_primary_197 rfl rfl rfl ?_
      refine e_Vv (q := 201) (vs := []) ok_X12_goOn ml_X12_206 dX12_primary_198 rfl ⟨_, _, rfl⟩ (by first | assumption | rfl) rfl rfl (Nat.le_of_ble_eq_true rfl) (by unfold Dd; omega) (c_mgoOn1 (by rw [wr_f]; exact ⟨by decide, by decide⟩) (by rw [wr_f]; decide)) (fun s98 h98 => ?_)
      subst h98
      exact r_v dX12_primary_201 rfl (EO_wr (t := t) (by decide) (EF.rf _) m1 (syRun_f (Or.inl rfl) (by rw [sy_nam q14, if_pos (by omega)])))
    refine e_aload_n (q := 1) (i := 0) dX12_primary_0 rfl rfl rfl ?_
    refine e_getI (q := 4) (jz := 26) dX12_primary_1 rfl fg_X12_190 rfl (by first | assumption | rfl) rfl ?_
    rw [hf]
    refine e_if_eq (q := 7) (tgt := 8) dX12_primary_4 rfl (by decide) (fun c4 => ?_) (fun c4 => by exfalso; omega)
    refine e_aload_n (q := 9) (i := 0) dX12_primary_8 rfl rfl rfl ?_
    refine e_bipush (q := 11) dX12_primary_9 rfl (by decide) ?_
    refine e_Vip (q := 14) (vs := [_]) ok_X12_isSign ml_X12_243 dX12_primary_11 rfl ⟨_, _, rfl⟩ (by first | assumption | rfl) rfl rfl (Nat.le_of_ble_eq_true rfl) (by unfold Dd; omega) (c_mSign (k := 24) rfl hC hf (by decide) (by decide)) ?_
    rw [if_neg q24]
    refine e_if_eq (q := 17) (tgt := 101) dX12_primary_14 rfl (by decide) (fun c14 => ?_) (fun c14 => by exfalso; omega)
    refine e_aload_n (q := 102) (i := 0) dX12_primary_101 rfl rfl rfl ?_
    refine e_getI (q := 105) (jz := 24) dX12_primary_102 rfl fg_X12_155 rfl (by first | assumption | rfl) rfl ?_
    refine e_iconst (q := 106) dX12_primary_105 rfl ?_
    refine e_icmp_ne (q := 109) (tgt := 113) dX12_primary_106 rfl (by decide) (fun c106 => ?_) (fun c106 => by exfalso; omega) (hx := ⟨by omega, by omega⟩)
    refine e_iconst (q := 114) dX12_primary_113 rfl ?_
    refine e_istore_n (q := 115) (i := 1) (L' := [_, _]) dX12_primary_114 rfl rfl (by decide) rfl rfl ?_
    refine e_iload_n (q := 116) (i := 1) dX12_primary_115 rfl rfl rfl ?_
    refine e_if_eq (q := 119) (tgt := 137) dX12_primary_116 rfl (by decide) (fun c116 => ?_) (fun c116 => by exfalso; omega)
    refine e_iload_n (q := 138) (i := 1) dX12_primary_137 rfl rfl rfl ?_
    refine e_if_ne (q := 141) (tgt := 162) dX12_primary_138 rfl (by decide) (fun c138 => by exfalso; omega) (fun c138 => ?_)
    refine e_aload_n (q := 142) (i := 0) dX12_primary_141 rfl rfl rfl ?_
    refine e_getI (q := 145) (jz := 24) dX12_primary_142 rfl fg_X12_155 rfl (by first | assumption | rfl) rfl ?_
    refine e_if_ne (q := 148) (tgt := 157) dX12_primary_145 rfl (by decide) (fun c145 => by exfalso; omega) (fun c145 => ?_) (hx := ⟨by omega, by omega⟩)
    refine e_aload_n (q := 149) (i := 0) dX12_primary_148 rfl rfl rfl ?_
    refine e_getI (q := 152) (jz := 25) dX12_primary_149 rfl fg_X12_165 rfl (by first | assumption | rfl) rfl ?_
    refine e_bipush (q := 154) dX12_primary_152 rfl (by decide) ?_
    refine e_icmp_ge (q := 157) (tgt := 162) dX12_primary_154 rfl (by decide) (fun c154 => ?_) (fun c154 => by exfalso; omega) (hx := hv)
    refine e_aload_n (q := 163) (i := 0) dX12_primary_162 rfl rfl rfl ?_
    refine e_Vv (q := 166) (vs := []) ok_X12_knot ml_X12_258 dX12_primary_163 rfl ⟨_, _, rfl⟩ (by first | assumption | rfl) rfl rfl (Nat.le_of_ble_eq_true rfl) (by unfold Dd; omega) (c_mknot0 (by omega) (by omega) hf) (fun s63 h63 => ?_)
    obtain ⟨-, e63⟩ := h63.resolve_left (fun q => by have := q.1; omega)
    subst e63
    refine e_aload_n (q := 167) (i := 0) dX12_primary_166 rfl rfl rfl ?_
    refine e_iload_n (q := 168) (i := 1) dX12_primary_167 rfl rfl rfl ?_
    refine e_if_eq (q := 171) (tgt := 175) dX12_primary_168 rfl (by decide) (fun c168 => ?_) (fun c168 => by exfalso; omega)
    refine e_iconst (q := 176) dX12_primary_175 rfl ?_
    refine e_iload_n (q := 177) (i := 1) dX12_primary_176 rfl rfl rfl ?_
    refine e_if_eq (q := 180) (tgt := 187) dX12_primary_177 rfl (by decide) (fun c177 => ?_) (fun c177 => by exfalso; omega)
    refine e_aload_n (q := 188) (i := 0) dX12_primary_187 rfl rfl rfl ?_
    refine e_getI (q := 191) (jz := 25) dX12_primary_188 rfl fg_X12_165 rfl (by first | assumption | rfl) rfl ?_
    rw [show (sI σ 82 31 (σ.1 82 31 + 1)).1 82 25 = t.1 from (show σ.1 82 25 = t.1 by omega)]
    refine e_bipush (q := 193) dX12_primary_191 rfl (by decide) ?_
    refine e_isub (q := 194) dX12_primary_193 rfl ?_
    refine e_Vv (q := 197) (vs := [_, _]) ok_X12_puts ml_X12_261 dX12_primary_194 rfl ⟨_, _, rfl⟩ (by first | assumption | rfl) rfl rfl (Nat.le_of_ble_eq_true rfl) (by unfold Dd; omega) (c_mputs0 (σ := (sI σ 82 31 (σ.1 82 31 + 1))) (show 0 ≤ σ.1 84 13 by omega) (show σ.1 84 13 < 64 by omega) (show σ.1 82 26 = 0 from hf)) (fun s94 h94 => ?_)
    have h94 : s94 = ptS (sI σ 82 31 (σ.1 82 31 + 1)) 1 (t.1 - 14) := h94
    subst h94
    have hC2 : MK (ptS (sI σ 82 31 (σ.1 82 31 + 1)) 1 (t.1 - 14)) (t :: r) := hC.cg rfl (fun j a b => by show (ptS (sI σ 82 31 (σ.1 82 31 + 1)) 1 (t.1 - 14)).1 82 j = _; unfold ptS; rw [sI_ne _ (by decide), sI_ne _ (by decide), sI_ne _ (by decide), sI_1, if_neg (fun q => by have := q.2; omega)])
    have hK2 : KR (ptS (sI σ 82 31 (σ.1 82 31 + 1)) 1 (t.1 - 14)) (kput K (-t.1)) := KR.put (hK.cg rfl rfl rfl) (Or.inr (Or.inl ⟨rfl, by omega, by omega, by omega⟩))
    refine e_aload_n (q := 198) (i := 0) dX12_primary_197 rfl rfl rfl ?_
    refine e_Vv (q := 201) (vs := []) ok_X12_goOn ml_X12_206 dX12_primary_198 rfl ⟨_, _, rfl⟩ (by first | assumption | rfl) rfl rfl (Nat.le_of_ble_eq_true rfl) (by unfold Dd; omega) (c_mgoOn0 hC2 (by omega) (show σ.1 82 26 = 0 from hf)) (fun s98 h98 => ?_)
    have hsy : sy1 t (1, S, o, c, K) = .inr (0, S, o, c + 1, kput K (-t.1)) := by rw [sy_nam q14, if_neg (by omega)]
    have hI2 := (sy_I (Or.inr rfl) hI hsy).1
    have hEF : EF σ s98 := ((EF.fm (F := [31]) ((Fm.rf _ _ σ).s82 (by decide) _) (by decide)).tr (EF.pt (show 0 ≤ σ.1 84 13 by omega))).tr (EF.fm h98.1 (by decide))
    refine r_v dX12_primary_201 rfl (Or.inr ⟨r, [], c + 1, kput K (-t.1), hEF, ⟨?_, h98.2, ?_, ?_, ?_⟩, hI2, by omega, syRun_s (Or.inl rfl) hsy, fun s hs => (nomatch hs), by simp only [List.length_cons]; omega, trivial⟩)
    · rw [h98.1.2 26 (by decide)]; exact hf
    · rw [h98.1.2 30 (by decide)]; exact e30
    · rw [h98.1.2 31 (by decide)]
      show (ptS (sI σ 82 31 (σ.1 82 31 + 1)) 1 (t.1 - 14)).1 82 31 = c + 1
      unfold ptS
      rw [sI_ne _ (by decide), sI_ne _ (by decide), sI_ne _ (by decide), sI_1, if_pos ⟨rfl, rfl⟩, e31]
    · exact hK2.cg (by rw [h98.1.c (a := 84) (by decide)]) (h98.1.c (by decide)) (h98.1.c (by decide))
  have hv1 : t.1 ≤ 20 → σ.1 82 25 < 14 := fun q => by have := (m2.1 m3.1 q).2; omega
  refine e_aload_n (q := 1) (i := 0) dX12_primary_0 rfl rfl rfl ?_
  refine e_getI (q := 4) (jz := 26) dX12_primary_1 rfl fg_X12_190 rfl (by first | assumption | rfl) rfl ?_
  rw [hf]
  refine e_if_eq (q := 7) (tgt := 8) dX12_primary_4 rfl (by decide) (fun c4 => ?_) (fun c4 => by exfalso; omega)
  refine e_aload_n (q := 9) (i := 0) dX12_primary_8 rfl rfl rfl ?_
  refine e_bipush (q := 11) dX12_primary_9 rfl (by decide) ?_
  refine e_Vip (q := 14) (vs := [_]) ok_X12_isSign ml_X12_243 dX12_primary_11 rfl ⟨_, _, rfl⟩ (by first | assumption | rfl) rfl rfl (Nat.le_of_ble_eq_true rfl) (by unfold Dd; omega) (c_mSign (k := 24) rfl hC hf (by decide) (by decide)) ?_
  rw [if_neg q24]
  refine e_if_eq (q := 17) (tgt := 101) dX12_primary_14 rfl (by decide) (fun c14 => ?_) (fun c14 => by exfalso; omega)
  refine e_aload_n (q := 102) (i := 0) dX12_primary_101 rfl rfl rfl ?_
  refine e_getI (q := 105) (jz := 24) dX12_primary_102 rfl fg_X12_155 rfl (by first | assumption | rfl) rfl ?_
  refine e_iconst (q := 106) dX12_primary_105 rfl ?_
  refine e_icmp_ne (q := 109) (tgt := 113) dX12_primary_106 rfl (by decide) (fun c106 => ?_) (fun c106 => by exfalso; omega) (hx := ⟨by omega, by omega⟩)
  refine e_iconst (q := 114) dX12_primary_113 rfl ?_
  refine e_istore_n (q := 115) (i := 1) (L' := [_, _]) dX12_primary_114 rfl rfl (by decide) rfl rfl ?_
  refine e_iload_n (q := 116) (i := 1) dX12_primary_115 rfl rfl rfl ?_
  refine e_if_eq (q := 119) (tgt := 137) dX12_primary_116 rfl (by decide) (fun c116 => ?_) (fun c116 => by exfalso; omega)
  refine e_iload_n (q := 138) (i := 1) dX12_primary_137 rfl rfl rfl ?_
  refine e_if_ne (q := 141) (tgt := 162) dX12_primary_138 rfl (by decide) (fun c138 => by exfalso; omega) (fun c138 => ?_)
  refine e_aload_n (q := 142) (i := 0) dX12_primary_141 rfl rfl rfl ?_
  refine e_getI (q := 145) (jz := 24) dX12_primary_142 rfl fg_X12_155 rfl (by first | assumption | rfl) rfl ?_
  refine e_if_ne (q := 148) (tgt := 157) dX12_primary_145 rfl (by decide) (fun c145 => ?_) (fun c145 => ?_) (hx := ⟨by omega, by omega⟩)
  · refine e_aload_n (q := 158) (i := 0) dX12_primary_157 rfl rfl rfl ?_
    refine e_iconst (q := 159) dX12_primary_158 rfl ?_
    refine e_Vv (q := 162) (vs := [_]) ok_X12_wrong ml_X12_199 dX12_primary_159 rfl ⟨_, _, rfl⟩ (by first | assumption | rfl) rfl rfl (Nat.le_of_ble_eq_true rfl) (by unfold Dd; omega) (c_mwrong0 hf) (fun s59 h59 => ?_)
    subst h59
    refine e_aload_n (q := 163) (i := 0) dX12_primary_162 rfl rfl rfl ?_
    refine e_Vv (q := 166) (vs := []) ok_X12_knot ml_X12_258 dX12_primary_163 rfl ⟨_, _, rfl⟩ (by first | assumption | rfl) rfl rfl (Nat.le_of_ble_eq_true rfl) (by unfold Dd; omega) (c_mknot1 (by rw [wr_f]; exact ⟨by decide, by decide⟩) (by rw [wr_f]; decide)) (fun s63 h63 => ?_)
    subst h63
    refine e_aload_n (q := 167) (i := 0) dX12_primary_166 rfl rfl rfl ?_
    refine e_iload_n (q := 168) (i := 1) dX12_primary_167 rfl rfl rfl ?_
    refine e_if_eq (q := 171) (tgt := 175) dX12_primary_168 rfl (by decide) (fun c168 => ?_) (fun c168 => by exfalso; omega)
    refine e_iconst (q := 176) dX12_primary_175 rfl ?_
    refine e_iload_n (q := 177) (i := 1) dX12_primary_176 rfl rfl rfl ?_
    refine e_if_eq (q := 180) (tgt := 187) dX12_primary_177 rfl (by decide) (fun c177 => ?_) (fun c177 => by exfalso; omega)
    refine e_aload_n (q := 188) (i := 0) dX12_primary_187 rfl rfl rfl ?_
    refine e_getI (q := 191) (jz := 25) dX12_primary_188 rfl fg_X12_165 rfl (by first | assumption | rfl) rfl ?_
    refine e_bipush (q := 193) dX12_primary_191 rfl (by decide) ?_
    refine e_isub (q := 194) dX12_primary_193 rfl ?_
    refine e_Vv (q := 197) (vs := [_, _]) ok_X12_puts ml_X12_261 dX12_primary_194 rfl ⟨_, _, rfl⟩ (by first | assumption | rfl) rfl rfl (Nat.le_of_ble_eq_true rfl) (by unfold Dd; omega) (c_mputs1 (by rw [wr_f]; exact ⟨by decide, by decide⟩) (by rw [wr_f]; decide)) (fun s94 h94 => ?_)
    subst h94
    refine e_aload_n (q := 198) (i := 0) dX12_primary_197 rfl rfl rfl ?_
    refine e_Vv (q := 201) (vs := []) ok_X12_goOn ml_X12_206 dX12_primary_198 rfl ⟨_, _, rfl⟩ (by first | assumption | rfl) rfl rfl (Nat.le_of_ble_eq_true rfl) (by unfold Dd; omega) (c_mgoOn1 (by rw [wr_f]; exact ⟨by decide, by decide⟩) (by rw [wr_f]; decide)) (fun s98 h98 => ?_)
    subst h98
    exact r_v dX12_primary_201 rfl (EO_wr (t := t) (by decide) (EF.rf _) m1 (syRun_f (Or.inl rfl) (by by_cases q13 : t.1 = 13; (rw [sy_not q13, if_pos (by have := hp13 q13; omega)]); exact sy_bad q22 q14 q13 q24)))
  · refine e_aload_n (q := 149) (i := 0) dX12_primary_148 rfl rfl rfl ?_
    refine e_getI (q := 152) (jz := 25) dX12_primary_149 rfl fg_X12_165 rfl (by first | assumption | rfl) rfl ?_
    refine e_bipush (q := 154) dX12_primary_152 rfl (by decide) ?_
    refine e_icmp_ge (q := 157) (tgt := 162) dX12_primary_154 rfl (by decide) (fun c154 => by exfalso; omega) (fun c154 => ?_) (hx := hv)
    refine e_aload_n (q := 158) (i := 0) dX12_primary_157 rfl rfl rfl ?_
    refine e_iconst (q := 159) dX12_primary_158 rfl ?_
    refine e_Vv (q := 162) (vs := [_]) ok_X12_wrong ml_X12_199 dX12_primary_159 rfl ⟨_, _, rfl⟩ (by first | assumption | rfl) rfl rfl (Nat.le_of_ble_eq_true rfl) (by unfold Dd; omega) (c_mwrong0 hf) (fun s59 h59 => ?_)
    subst h59
    refine e_aload_n (q := 163) (i := 0) dX12_primary_162 rfl rfl rfl ?_
    refine e_Vv (q := 166) (vs := []) ok_X12_knot ml_X12_258 dX12_primary_163 rfl ⟨_, _, rfl⟩ (by first | assumption | rfl) rfl rfl (Nat.le_of_ble_eq_true rfl) (by unfold Dd; omega) (c_mknot1 (by rw [wr_f]; exact ⟨by decide, by decide⟩) (by rw [wr_f]; decide)) (fun s63 h63 => ?_)
    subst h63
    refine e_aload_n (q := 167) (i := 0) dX12_primary_166 rfl rfl rfl ?_
    refine e_iload_n (q := 168) (i := 1) dX12_primary_167 rfl rfl rfl ?_
    refine e_if_eq (q := 171) (tgt := 175) dX12_primary_168 rfl (by decide) (fun c168 => ?_) (fun c168 => by exfalso; omega)
    refine e_iconst (q := 176) dX12_primary_175 rfl ?_
    refine e_iload_n (q := 177) (i := 1) dX12_primary_176 rfl rfl rfl ?_
    refine e_if_eq (q := 180) (tgt := 187) dX12_primary_177 rfl (by decide) (fun c177 => ?_) (fun c177 => by exfalso; omega)
    refine e_aload_n (q := 188) (i := 0) dX12_primary_187 rfl rfl rfl ?_
    refine e_getI (q := 191) (jz := 25) dX12_primary_188 rfl fg_X12_165 rfl (by first | assumption | rfl) rfl ?_
    refine e_bipush (q := 193) dX12_primary_191 rfl (by decide) ?_
    refine e_isub (q := 194) dX12_primary_193 rfl ?_
    refine e_Vv (q := 197) (vs := [_, _]) ok_X12_puts ml_X12_261 dX12_primary_194 rfl ⟨_, _, rfl⟩ (by first | assumption | rfl) rfl rfl (Nat.le_of_ble_eq_true rfl) (by unfold Dd; omega) (c_mputs1 (by rw [wr_f]; exact ⟨by decide, by decide⟩) (by rw [wr_f]; decide)) (fun s94 h94 => ?_)
    subst h94
    refine e_aload_n (q := 198) (i := 0) dX12_primary_197 rfl rfl rfl ?_
    refine e_Vv (q := 201) (vs := []) ok_X12_goOn ml_X12_206 dX12_primary_198 rfl ⟨_, _, rfl⟩ (by first | assumption | rfl) rfl rfl (Nat.le_of_ble_eq_true rfl) (by unfold Dd; omega) (c_mgoOn1 (by rw [wr_f]; exact ⟨by decide, by decide⟩) (by rw [wr_f]; decide)) (fun s98 h98 => ?_)
    subst h98
    exact r_v dX12_primary_201 rfl (EO_wr (t := t) (by decide) (EF.rf _) m1 (syRun_f (Or.inl rfl) (by by_cases q13 : t.1 = 13; (rw [sy_not q13, if_pos (by have := hp13 q13; omega)]); exact sy_bad q22 q14 q13 q24)))

