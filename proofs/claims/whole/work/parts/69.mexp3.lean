theorem fl_snoc (P : List Int) (s : Int) (K : Kn) : fl (P ++ [s]) K = kput (fl P K) (-s) := fl_app P [s] K
/-- an operator put behind its second part -/
theorem ES_put {τ : Sg} {ts : List Tk} {o c : Int} {P S : List Int} {s v : Int} {K : Kn} {l : Int} (h : ES τ ts o c (fl P K)) (hv : v = 260 ∨ isBin v) (hs : sgT v = s) : ES (ptS τ 2 v) ts o c (fl (P ++ [s]) K) := by
  obtain ⟨h1, h2, h3, h4, h5⟩ := h
  have e82 : ∀ j, (ptS τ 2 v).1 82 j = τ.1 82 j := fun j => by unfold ptS; rw [sI_ne _ (by decide), sI_ne _ (by decide), sI_ne _ (by decide)]
  refine ⟨by rw [e82]; exact h1, h2.cg rfl (fun j _ _ => e82 j), by rw [e82]; exact h3, by rw [e82]; exact h4, ?_⟩
  rw [fl_snoc]
  exact h5.put (Or.inr (Or.inr ⟨rfl, hv, by rw [hs]⟩))
theorem ES_lim {τ : Sg} {ts : List Tk} {o c : Int} {P S : List Int} {s : Int} {K : Kn} {l : Int} (hl : 1 ≤ l) (h : ES τ ts o c (fl P K)) (hP : ∀ x ∈ P, l ≤ rk x) (hs : s ≠ 24) (hI : SyI (P ++ s :: S) o c K) : 0 ≤ τ.1 84 13 ∧ τ.1 84 13 < 64 := by
  obtain ⟨-, -, -, -, h5⟩ := h
  obtain ⟨-, i2, -, i4, i5, -⟩ := hI
  have e := h5.1
  have f := fl_len P K
  have g := sgn_app P (s :: S)
  have hh := sgn_all hl P hP
  have hg := sg_len S
  have e2 : sgn (s :: S) = sgn S + 1 := by show sgn S + (if s = 24 then 0 else 1) = _; rw [if_neg hs]
  omega
theorem sgC_op : ∀ a : Nat, a < 36 → 26 ≤ a → (isBin (sgC (a : Int)) ∧ sgT (sgC (a : Int)) = a) := by
  intro a h1 h2
  unfold isBin
  rcases (show a = 26 ∨ a = 27 ∨ a = 28 ∨ a = 29 ∨ a = 30 ∨ a = 31 ∨ a = 32 ∨ a = 33 ∨ a = 34 ∨ a = 35 by omega) with rfl | rfl | rfl | rfl | rfl | rfl | rfl | rfl | rfl | rfl <;> exact ⟨by decide, by decide⟩
theorem sgC_opz {t : Int} (h1 : 26 ≤ t) (h2 : t ≤ 35) : isBin (sgC t) ∧ sgT (sgC t) = t := by
  have := sgC_op t.toNat (by omega) (by omega)
  rw [show ((t.toNat : Nat) : Int) = t by omega] at this
  exact this

set_option maxHeartbeats 16000000 in
theorem prod_of {G : Gx} {N : Nat} (hP : LvC G mX12_primary N 0 7 7 Xp) : LvC G mX12_product N 1 6 6 Xm := by
  intro σ ts S o c K hN hES0 hI0 hb hp13
  have lf : ∀ (τ : Sg) (f p : Int) (x1 : Option Value) , (1 ≤ f ∧ f ≤ 4) → EF σ τ → τ.1 82 26 = f → τ.1 82 27 = p → syRun ts (1, S, o, c, K) = .inl (f, p) → J G (Dd o c + 1) mX12_product (pV (fun σ' => EO σ σ' 6 Xm ts S o c K)) τ 4 [some (.ref (G.2.2.2 + 82)), x1] [] := by
    intro τ f p x1 hfr hF e26 e27 hE
    refine e_aload_n (q := 5) (i := 0) dX12_product_4 rfl rfl rfl ?_
    refine e_bipush (q := 7) dX12_product_5 rfl (by decide) ?_
    refine e_Vip (q := 10) (vs := [_]) ok_X12_isSign ml_X12_243 dX12_product_7 rfl ⟨_, _, rfl⟩ (by first | assumption | rfl) rfl rfl (Nat.le_of_ble_eq_true rfl) (by unfold Dd; omega) (c_mSign1 (by rw [e26]; exact ⟨by omega, by omega⟩) (by rw [e26]; omega)) ?_
    refine e_if_ne (q := 13) (tgt := 22) dX12_product_10 rfl (by decide) (fun c10 => by exfalso; omega) (fun c10 => ?_)
    refine e_aload_n (q := 14) (i := 0) dX12_product_13 rfl rfl rfl ?_
    refine e_bipush (q := 16) dX12_product_14 rfl (by decide) ?_
    refine e_Vip (q := 19) (vs := [_]) ok_X12_isSign ml_X12_243 dX12_product_16 rfl ⟨_, _, rfl⟩ (by first | assumption | rfl) rfl rfl (Nat.le_of_ble_eq_true rfl) (by unfold Dd; omega) (c_mSign1 (by rw [e26]; exact ⟨by omega, by omega⟩) (by rw [e26]; omega)) ?_
    refine e_if_eq (q := 22) (tgt := 48) dX12_product_19 rfl (by decide) (fun c19 => ?_) (fun c19 => by exfalso; omega)
    exact r_v dX12_product_48 rfl (Or.inl ⟨f, p, hfr, hF, e26, e27, hE⟩)
  have lp : ∀ (n : Nat) (τ : Sg) (ts1 : List Tk) (P : List Int) (c1 : Int) (K1 : Kn) (x1 : Option Value) , ts1.length ≤ n → ts1.length < ts.length → EF σ τ → ES τ ts1 o c1 (fl P K1) → SyI (P ++ S) o c1 K1 → c ≤ c1 → syRun ts (1, S, o, c, K) = syRun ts1 (0, P ++ S, o, c1, K1) → (∀ s ∈ P, 6 ≤ rk s) → Xp ts1 (P ++ S) K1 → J G (Dd o c + 1) mX12_product (pV (fun σ' => EO σ σ' 6 Xm ts S o c K)) τ 4 [some (.ref (G.2.2.2 + 82)), x1] [] := by
    intro n
    induction n with
    | zero =>
      intro τ ts1 P c1 K1 x1 hn hlt hF hES hI hc hE hPr hX
      obtain ⟨t, r, et⟩ := hES.2.1.ne
      subst et
      exact absurd hn (by simp)
    | succ n ih =>
      intro τ ts1 P c1 K1 x1 hn hlt hF hES hI hc hE hPr hX
      obtain ⟨t, r, et⟩ := hES.2.1.ne
      subst et
      obtain ⟨hf, hC, e30, e31, hK⟩ := id hES
      obtain ⟨m1, m2, m3, m4⟩ := hC.hd
      have hv := m2.2.2.2.2.2.2
      obtain ⟨i1, i2, i3, i4, i5, i6⟩ := id hI
      have hgl := sg_len (P ++ S)
      simp only [List.length_cons] at hn hlt
      by_cases qop : t.1 = 28 ∨ t.1 = 29
      · have hr : rk t.1 = 6 := by rcases qop with q | q <;> rw [q] <;> decide
        have hop : 11 ≤ t.1 ∧ t.1 ≤ 35 ∧ t.1 ≠ 13 ∧ t.1 ≠ 23 ∧ t.1 ≠ 24 ∧ t.1 ≠ 37 := by omega
        have hset : sySet 6 (P ++ S) K1 = (S, fl P K1) := sySet_to hPr hb
        have hrun := sy_op (t := t) (S := P ++ S) (o := o) (c := c1) (K := K1) (by omega) (by omega) (by omega)
        rw [hr, hset] at hrun
        have hvv := (m2.2.2.2.1 (by omega) (by omega)).2
        have hbin := sgC_opz (t := t.1) (by omega) (by omega)
        by_cases qc : 64 ≤ c1
        · refine e_aload_n (q := 5) (i := 0) dX12_product_4 rfl rfl rfl ?_
          refine e_bipush (q := 7) dX12_product_5 rfl (by decide) ?_
          refine e_Vip (q := 10) (vs := [_]) ok_X12_isSign ml_X12_243 dX12_product_7 rfl ⟨_, _, rfl⟩ (by first | assumption | rfl) rfl rfl (Nat.le_of_ble_eq_true rfl) (by unfold Dd; omega) (c_mSign (k := 28) rfl hC hf (by decide) (by decide)) ?_
          refine e_if_ne (q := 13) (tgt := 22) dX12_product_10 rfl (by decide) (fun c10 => ?_) (fun c10 => ?_) (hx := by split <;> exact ⟨by decide, by decide⟩)
          · refine e_aload_n (q := 23) (i := 0) dX12_product_22 rfl rfl rfl ?_
            refine e_getI (q := 26) (jz := 25) dX12_product_23 rfl fg_X12_165 rfl (by first | assumption | rfl) rfl ?_
            refine e_istore_n (q := 27) (i := 1) (L' := [_, _]) dX12_product_26 rfl rfl (by decide) rfl rfl ?_
            refine e_aload_n (q := 28) (i := 0) dX12_product_27 rfl rfl rfl ?_
            refine e_Vv (q := 31) (vs := []) ok_X12_knot ml_X12_258 dX12_product_28 rfl ⟨_, _, rfl⟩ (by first | assumption | rfl) rfl rfl (Nat.le_of_ble_eq_true rfl) (by unfold Dd; omega) (c_mknot0 (by omega) (by omega) hf) (fun s1 h1 => ?_)
            obtain ⟨-, e1⟩ := h1.resolve_right (fun q => by have := q.1; omega)
            subst e1
            refine e_aload_n (q := 32) (i := 0) dX12_product_31 rfl rfl rfl ?_
            refine e_Vv (q := 35) (vs := []) ok_X12_goOn ml_X12_206 dX12_product_32 rfl ⟨_, _, rfl⟩ (by first | assumption | rfl) rfl rfl (Nat.le_of_ble_eq_true rfl) (by unfold Dd; omega) (c_mgoOn1 (by rw [wr_f]; exact ⟨by decide, by decide⟩) (by rw [wr_f]; decide)) (fun s2 h2 => ?_)
            subst h2
            refine e_aload_n (q := 36) (i := 0) dX12_product_35 rfl rfl rfl ?_
            refine e_Vv (q := 39) (vs := []) ok_X12_primary ml_X12_273 dX12_product_36 rfl ⟨_, _, rfl⟩ (by first | assumption | rfl) rfl rfl (Nat.le_of_ble_eq_true rfl) (by unfold Dd; omega) (c_mprim1 (by rw [wr_f]; exact ⟨by decide, by decide⟩) (by rw [wr_f]; decide)) (fun s3 h3 => ?_)
            subst h3
            refine e_aload_n (q := 40) (i := 0) dX12_product_39 rfl rfl rfl ?_
            refine e_iconst (q := 41) dX12_product_40 rfl ?_
            refine e_iload_n (q := 42) (i := 1) dX12_product_41 rfl rfl rfl ?_
            refine e_Vv (q := 45) (vs := [_, _]) ok_X12_puts ml_X12_261 dX12_product_42 rfl ⟨_, _, rfl⟩ (by first | assumption | rfl) rfl rfl (Nat.le_of_ble_eq_true rfl) (by unfold Dd; omega) (c_mputs1 (by rw [wr_f]; exact ⟨by decide, by decide⟩) (by rw [wr_f]; decide)) (fun s4 h4 => ?_)
            subst h4
            refine e_goto (tgt := 4) dX12_product_45 (by decide) ?_
            exact lf _ 2 t.2.1 _ (by decide) (hF.tr wr_EF) wr_f (wr_p.trans m1) (hE.trans (syRun_f (Or.inr (by omega)) (by rw [hrun, if_pos qc])))
          · refine e_aload_n (q := 14) (i := 0) dX12_product_13 rfl rfl rfl ?_
            refine e_bipush (q := 16) dX12_product_14 rfl (by decide) ?_
            refine e_Vip (q := 19) (vs := [_]) ok_X12_isSign ml_X12_243 dX12_product_16 rfl ⟨_, _, rfl⟩ (by first | assumption | rfl) rfl rfl (Nat.le_of_ble_eq_true rfl) (by unfold Dd; omega) (c_mSign (k := 29) rfl hC hf (by decide) (by decide)) ?_
            rw [if_pos (show t.1 = 29 by rcases qop with q | q; (rw [if_pos q] at c10; exact absurd c10 (by decide)); exact q)]
            refine e_if_eq (q := 22) (tgt := 48) dX12_product_19 rfl (by decide) (fun c19 => by exfalso; omega) (fun c19 => ?_)
            refine e_aload_n (q := 23) (i := 0) dX12_product_22 rfl rfl rfl ?_
            refine e_getI (q := 26) (jz := 25) dX12_product_23 rfl fg_X12_165 rfl (by first | assumption | rfl) rfl ?_
            refine e_istore_n (q := 27) (i := 1) (L' := [_, _]) dX12_product_26 rfl rfl (by decide) rfl rfl ?_
            refine e_aload_n (q := 28) (i := 0) dX12_product_27 rfl rfl rfl ?_
            refine e_Vv (q := 31) (vs := []) ok_X12_knot ml_X12_258 dX12_product_28 rfl ⟨_, _, rfl⟩ (by first | assumption | rfl) rfl rfl (Nat.le_of_ble_eq_true rfl) (by unfold Dd; omega) (c_mknot0 (by omega) (by omega) hf) (fun s1 h1 => ?_)
            obtain ⟨-, e1⟩ := h1.resolve_right (fun q => by have := q.1; omega)
            subst e1
            refine e_aload_n (q := 32) (i := 0) dX12_product_31 rfl rfl rfl ?_
            refine e_Vv (q := 35) (vs := []) ok_X12_goOn ml_X12_206 dX12_product_32 rfl ⟨_, _, rfl⟩ (by first | assumption | rfl) rfl rfl (Nat.le_of_ble_eq_true rfl) (by unfold Dd; omega) (c_mgoOn1 (by rw [wr_f]; exact ⟨by decide, by decide⟩) (by rw [wr_f]; decide)) (fun s2 h2 => ?_)
            subst h2
            refine e_aload_n (q := 36) (i := 0) dX12_product_35 rfl rfl rfl ?_
            refine e_Vv (q := 39) (vs := []) ok_X12_primary ml_X12_273 dX12_product_36 rfl ⟨_, _, rfl⟩ (by first | assumption | rfl) rfl rfl (Nat.le_of_ble_eq_true rfl) (by unfold Dd; omega) (c_mprim1 (by rw [wr_f]; exact ⟨by decide, by decide⟩) (by rw [wr_f]; decide)) (fun s3 h3 => ?_)
            subst h3
            refine e_aload_n (q := 40) (i := 0) dX12_product_39 rfl rfl rfl ?_
            refine e_iconst (q := 41) dX12_product_40 rfl ?_
            refine e_iload_n (q := 42) (i := 1) dX12_product_41 rfl rfl rfl ?_
            refine e_Vv (q := 45) (vs := [_, _]) ok_X12_puts ml_X12_261 dX12_product_42 rfl ⟨_, _, rfl⟩ (by first | assumption | rfl) rfl rfl (Nat.le_of_ble_eq_true rfl) (by unfold Dd; omega) (c_mputs1 (by rw [wr_f]; exact ⟨by decide, by decide⟩) (by rw [wr_f]; decide)) (fun s4 h4 => ?_)
            subst h4
            refine e_goto (tgt := 4) dX12_product_45 (by decide) ?_
            exact lf _ 2 t.2.1 _ (by decide) (hF.tr wr_EF) wr_f (wr_p.trans m1) (hE.trans (syRun_f (Or.inr (by omega)) (by rw [hrun, if_pos qc])))
        refine e_aload_n (q := 5) (i := 0) dX12_product_4 rfl rfl rfl ?_
        refine e_bipush (q := 7) dX12_product_5 rfl (by decide) ?_
        refine e_Vip (q := 10) (vs := [_]) ok_X12_isSign ml_X12_243 dX12_product_7 rfl ⟨_, _, rfl⟩ (by first | assumption | rfl) rfl rfl (Nat.le_of_ble_eq_true rfl) (by unfold Dd; omega) (c_mSign (k := 28) rfl hC hf (by decide) (by decide)) ?_
        refine e_if_ne (q := 13) (tgt := 22) dX12_product_10 rfl (by decide) (fun c10 => ?_) (fun c10 => ?_) (hx := by split <;> exact ⟨by decide, by decide⟩)
        · refine e_aload_n (q := 23) (i := 0) dX12_product_22 rfl rfl rfl ?_
          refine e_getI (q := 26) (jz := 25) dX12_product_23 rfl fg_X12_165 rfl (by first | assumption | rfl) rfl ?_
          rw [hvv]
          refine e_istore_n (q := 27) (i := 1) (L' := [_, _]) dX12_product_26 rfl rfl (by decide) rfl rfl ?_
          refine e_aload_n (q := 28) (i := 0) dX12_product_27 rfl rfl rfl ?_
          refine e_Vv (q := 31) (vs := []) ok_X12_knot ml_X12_258 dX12_product_28 rfl ⟨_, _, rfl⟩ (by first | assumption | rfl) rfl rfl (Nat.le_of_ble_eq_true rfl) (by unfold Dd; omega) (c_mknot0 (by omega) (by omega) hf) (fun s1 h1 => ?_)
          obtain ⟨-, e1⟩ := h1.resolve_left (fun q => by have := q.1; omega)
          subst e1
          refine e_aload_n (q := 32) (i := 0) dX12_product_31 rfl rfl rfl ?_
          refine e_Vv (q := 35) (vs := []) ok_X12_goOn ml_X12_206 dX12_product_32 rfl ⟨_, _, rfl⟩ (by first | assumption | rfl) rfl rfl (Nat.le_of_ble_eq_true rfl) (by unfold Dd; omega) (c_mgoOn0 (σ := (sI τ 82 31 (τ.1 82 31 + 1))) (hC.cg rfl (fun j a b => by rw [sI_1, if_neg (fun q => by have := q.2; omega)])) (by omega) (show τ.1 82 26 = 0 from hf)) (fun s2 h2 => ?_)
          rw [if_neg qc] at hrun
          have hI2 := (sy_I (Or.inl rfl) hI hrun).1
          have f2 : EF σ s2 := (hF.tr (EF.fm (F := [31]) ((Fm.rf _ _ τ).s82 (by decide) _) (by decide))).tr (EF.fm h2.1 (by decide))
          have hgo : syRun ts (1, S, o, c, K) = syRun r (1, t.1 :: S, o, c1 + 1, fl P K1) := hE.trans (syRun_s (Or.inr (by omega)) hrun)
          have hES2 : ES s2 r o (c1 + 1) (fl P K1) := ⟨by rw [h2.1.2 26 (by decide)]; exact hf, h2.2, by rw [h2.1.2 30 (by decide)]; exact e30, by rw [h2.1.2 31 (by decide), sI_1, if_pos ⟨rfl, rfl⟩, e31], hK.cg (by rw [h2.1.c (a := 84) (by decide)]; rfl) (h2.1.c (by decide)) (h2.1.c (by decide))⟩
          refine e_aload_n (q := 36) (i := 0) dX12_product_35 rfl rfl rfl ?_
          refine e_Vv (q := 39) (vs := []) ok_X12_primary ml_X12_273 dX12_product_36 rfl ⟨_, _, rfl⟩ (by first | assumption | rfl) rfl rfl (Nat.le_of_ble_eq_true rfl) (by unfold Dd; omega) (hP s2 r (t.1 :: S) o (c1 + 1) (fl P K1) (by omega) hES2 hI2 (by show rk t.1 < 7; omega) (fun _ => Or.inr (by show 3 < rk t.1; omega))) (fun s3 h3 => ?_)
          rcases h3 with ⟨f, p, hfr, g1, g2, g3, g4⟩ | ⟨ts2, P2, c2, K2, g1, g2, g7, gc, g8, g9, g10, g11⟩
          · refine e_aload_n (q := 40) (i := 0) dX12_product_39 rfl rfl rfl ?_
            refine e_iconst (q := 41) dX12_product_40 rfl ?_
            refine e_iload_n (q := 42) (i := 1) dX12_product_41 rfl rfl rfl ?_
            refine e_Vv (q := 45) (vs := [_, _]) ok_X12_puts ml_X12_261 dX12_product_42 rfl ⟨_, _, rfl⟩ (by first | assumption | rfl) rfl rfl (Nat.le_of_ble_eq_true rfl) (by unfold Dd; omega) (c_mputs1 (by rw [g2]; exact ⟨by omega, by omega⟩) (by rw [g2]; omega)) (fun s4 h4 => ?_)
            subst h4
            refine e_goto (tgt := 4) dX12_product_45 (by decide) ?_
            exact lf _ f p _ hfr (f2.tr g1) g2 g3 (hgo.trans g4)
          have hlm := ES_lim (l := 7) (by decide) g2 g9 (by omega) g7
          refine e_aload_n (q := 40) (i := 0) dX12_product_39 rfl rfl rfl ?_
          refine e_iconst (q := 41) dX12_product_40 rfl ?_
          refine e_iload_n (q := 42) (i := 1) dX12_product_41 rfl rfl rfl ?_
          refine e_Vv (q := 45) (vs := [_, _]) ok_X12_puts ml_X12_261 dX12_product_42 rfl ⟨_, _, rfl⟩ (by first | assumption | rfl) rfl rfl (Nat.le_of_ble_eq_true rfl) (by unfold Dd; omega) (c_mputs0 hlm.1 hlm.2 g2.1) (fun s4 h4 => ?_)
          have h4 : s4 = ptS s3 2 (sgC t.1) := h4
          subst h4
          refine e_goto (tgt := 4) dX12_product_45 (by decide) ?_
          refine ih _ ts2 (P2 ++ [t.1]) c2 K2 _ (by omega) (by omega) ((f2.tr g1).tr (EF.pt hlm.1)) (ES_put (S := S) (l := 6) g2 (Or.inr hbin.1) hbin.2) ?_ (by omega) ?_ ?_ ?_
          · rw [List.append_assoc]; exact g7
          · rw [List.append_assoc]; exact hgo.trans g8
          · intro s hs
            rcases List.mem_append.mp hs with q | q
            · have := g9 s q; omega
            · rw [List.mem_singleton.mp q]; omega
          · rw [List.append_assoc]; exact g11
        · refine e_aload_n (q := 14) (i := 0) dX12_product_13 rfl rfl rfl ?_
          refine e_bipush (q := 16) dX12_product_14 rfl (by decide) ?_
          refine e_Vip (q := 19) (vs := [_]) ok_X12_isSign ml_X12_243 dX12_product_16 rfl ⟨_, _, rfl⟩ (by first | assumption | rfl) rfl rfl (Nat.le_of_ble_eq_true rfl) (by unfold Dd; omega) (c_mSign (k := 29) rfl hC hf (by decide) (by decide)) ?_
          rw [if_pos (show t.1 = 29 by rcases qop with q | q; (rw [if_pos q] at c10; exact absurd c10 (by decide)); exact q)]
          refine e_if_eq (q := 22) (tgt := 48) dX12_product_19 rfl (by decide) (fun c19 => by exfalso; omega) (fun c19 => ?_)
          refine e_aload_n (q := 23) (i := 0) dX12_product_22 rfl rfl rfl ?_
          refine e_getI (q := 26) (jz := 25) dX12_product_23 rfl fg_X12_165 rfl (by first | assumption | rfl) rfl ?_
          rw [hvv]
          refine e_istore_n (q := 27) (i := 1) (L' := [_, _]) dX12_product_26 rfl rfl (by decide) rfl rfl ?_
          refine e_aload_n (q := 28) (i := 0) dX12_product_27 rfl rfl rfl ?_
          refine e_Vv (q := 31) (vs := []) ok_X12_knot ml_X12_258 dX12_product_28 rfl ⟨_, _, rfl⟩ (by first | assumption | rfl) rfl rfl (Nat.le_of_ble_eq_true rfl) (by unfold Dd; omega) (c_mknot0 (by omega) (by omega) hf) (fun s1 h1 => ?_)
          obtain ⟨-, e1⟩ := h1.resolve_left (fun q => by have := q.1; omega)
          subst e1
          refine e_aload_n (q := 32) (i := 0) dX12_product_31 rfl rfl rfl ?_
          refine e_Vv (q := 35) (vs := []) ok_X12_goOn ml_X12_206 dX12_product_32 rfl ⟨_, _, rfl⟩ (by first | assumption | rfl) rfl rfl (Nat.le_of_ble_eq_true rfl) (by unfold Dd; omega) (c_mgoOn0 (σ := (sI τ 82 31 (τ.1 82 31 + 1))) (hC.cg rfl (fun j a b => by rw [sI_1, if_neg (fun q => by have := q.2; omega)])) (by omega) (show τ.1 82 26 = 0 from hf)) (fun s2 h2 => ?_)
          rw [if_neg qc] at hrun
          have hI2 := (sy_I (Or.inl rfl) hI hrun).1
          have f2 : EF σ s2 := (hF.tr (EF.fm (F := [31]) ((Fm.rf _ _ τ).s82 (by decide) _) (by decide))).tr (EF.fm h2.1 (by decide))
          have hgo : syRun ts (1, S, o, c, K) = syRun r (1, t.1 :: S, o, c1 + 1, fl P K1) := hE.trans (syRun_s (Or.inr (by omega)) hrun)
          have hES2 : ES s2 r o (c1 + 1) (fl P K1) := ⟨by rw [h2.1.2 26 (by decide)]; exact hf, h2.2, by rw [h2.1.2 30 (by decide)]; exact e30, by rw [h2.1.2 31 (by decide), sI_1, if_pos ⟨rfl, rfl⟩, e31], hK.cg (by rw [h2.1.c (a := 84) (by decide)]; rfl) (h2.1.c (by decide)) (h2.1.c (by decide))⟩
          refine e_aload_n (q := 36) (i := 0) dX12_product_35 rfl rfl rfl ?_
          refine e_Vv (q := 39) (vs := []) ok_X12_primary ml_X12_273 dX12_product_36 rfl ⟨_, _, rfl⟩ (by first | assumption | rfl) rfl rfl (Nat.le_of_ble_eq_true rfl) (by unfold Dd; omega) (hP s2 r (t.1 :: S) o (c1 + 1) (fl P K1) (by omega) hES2 hI2 (by show rk t.1 < 7; omega) (fun _ => Or.inr (by show 3 < rk t.1; omega))) (fun s3 h3 => ?_)
          rcases h3 with ⟨f, p, hfr, g1, g2, g3, g4⟩ | ⟨ts2, P2, c2, K2, g1, g2, g7, gc, g8, g9, g10, g11⟩
          · refine e_aload_n (q := 40) (i := 0) dX12_product_39 rfl rfl rfl ?_
            refine e_iconst (q := 41) dX12_product_40 rfl ?_
            refine e_iload_n (q := 42) (i := 1) dX12_product_41 rfl rfl rfl ?_
            refine e_Vv (q := 45) (vs := [_, _]) ok_X12_puts ml_X12_261 dX12_product_42 rfl ⟨_, _, rfl⟩ (by first | assumption | rfl) rfl rfl (Nat.le_of_ble_eq_true rfl) (by unfold Dd; omega) (c_mputs1 (by rw [g2]; exact ⟨by omega, by omega⟩) (by rw [g2]; omega)) (fun s4 h4 => ?_)
            subst h4
            refine e_goto (tgt := 4) dX12_product_45 (by decide) ?_
            exact lf _ f p _ hfr (f2.tr g1) g2 g3 (hgo.trans g4)
          have hlm := ES_lim (l := 7) (by decide) g2 g9 (by omega) g7
          refine e_aload_n (q := 40) (i := 0) dX12_product_39 rfl rfl rfl ?_
          refine e_iconst (q := 41) dX12_product_40 rfl ?_
          refine e_iload_n (q := 42) (i := 1) dX12_product_41 rfl rfl rfl ?_
          refine e_Vv (q := 45) (vs := [_, _]) ok_X12_puts ml_X12_261 dX12_product_42 rfl ⟨_, _, rfl⟩ (by first | assumption | rfl) rfl rfl (Nat.le_of_ble_eq_true rfl) (by unfold Dd; omega) (c_mputs0 hlm.1 hlm.2 g2.1) (fun s4 h4 => ?_)
          have h4 : s4 = ptS s3 2 (sgC t.1) := h4
          subst h4
          refine e_goto (tgt := 4) dX12_product_45 (by decide) ?_
          refine ih _ ts2 (P2 ++ [t.1]) c2 K2 _ (by omega) (by omega) ((f2.tr g1).tr (EF.pt hlm.1)) (ES_put (S := S) (l := 6) g2 (Or.inr hbin.1) hbin.2) ?_ (by omega) ?_ ?_ ?_
          · rw [List.append_assoc]; exact g7
          · rw [List.append_assoc]; exact hgo.trans g8
          · intro s hs
            rcases List.mem_append.mp hs with q | q
            · have := g9 s q; omega
            · rw [List.mem_singleton.mp q]; omega
          · rw [List.append_assoc]; exact g11
      refine e_aload_n (q := 5) (i := 0) dX12_product_4 rfl rfl rfl ?_
      refine e_bipush (q := 7) dX12_product_5 rfl (by decide) ?_
      refine e_Vip (q := 10) (vs := [_]) ok_X12_isSign ml_X12_243 dX12_product_7 rfl ⟨_, _, rfl⟩ (by first | assumption | rfl) rfl rfl (Nat.le_of_ble_eq_true rfl) (by unfold Dd; omega) (c_mSign (k := 28) rfl hC hf (by decide) (by decide)) ?_
      rw [if_neg (fun q => qop (Or.inl q))]
      refine e_if_ne (q := 13) (tgt := 22) dX12_product_10 rfl (by decide) (fun c10 => by exfalso; omega) (fun c10 => ?_)
      refine e_aload_n (q := 14) (i := 0) dX12_product_13 rfl rfl rfl ?_
      refine e_bipush (q := 16) dX12_product_14 rfl (by decide) ?_
      refine e_Vip (q := 19) (vs := [_]) ok_X12_isSign ml_X12_243 dX12_product_16 rfl ⟨_, _, rfl⟩ (by first | assumption | rfl) rfl rfl (Nat.le_of_ble_eq_true rfl) (by unfold Dd; omega) (c_mSign (k := 29) rfl hC hf (by decide) (by decide)) ?_
      rw [if_neg (fun q => qop (Or.inr q))]
      refine e_if_eq (q := 22) (tgt := 48) dX12_product_19 rfl (by decide) (fun c19 => ?_) (fun c19 => by exfalso; omega)
      exact r_v dX12_product_48 rfl (Or.inr ⟨t :: r, P, c1, K1, hF, hES, hI, hc, hE, hPr, by simp only [List.length_cons]; omega, ⟨fun q => qop (Or.inl q), fun q => qop (Or.inr q)⟩⟩)
  refine e_entry om_X12_product (Nat.le_of_ble_eq_true rfl) (L := [some (.ref (G.2.2.2 + 82)), none]) rfl ?_
  refine e_aload_n (q := 1) (i := 0) dX12_product_0 rfl rfl rfl ?_
  refine e_Vv (q := 4) (vs := []) ok_X12_primary ml_X12_273 dX12_product_1 rfl ⟨_, _, rfl⟩ (by first | assumption | rfl) rfl rfl (Nat.le_of_ble_eq_true rfl) (by unfold Dd; omega) (hP σ ts S o c K hN hES0 hI0 (by omega) (fun q => Or.inr (by rcases hp13 q with e | e; omega; exact e))) (fun s1 h1 => ?_)
  rcases h1 with ⟨f, p, hfr, g1, g2, g3, g4⟩ | ⟨ts2, P2, c2, K2, g1, g2, g7, gc, g8, g9, g10, g11⟩
  · exact lf _ f p _ hfr g1 g2 g3 g4
  · exact lp ts2.length s1 ts2 P2 c2 K2 _ (Nat.le_refl _) g10 g1 g2 g7 gc g8 (fun s hs => by have := g9 s hs; omega) g11

set_option maxHeartbeats 16000000 in
theorem sum_of {G : Gx} {N : Nat} (hP : LvC G mX12_product N 1 6 6 Xm) : LvC G mX12_sum N 2 5 5 Xs := by
  intro σ ts S o c K hN hES0 hI0 hb hp13
  have lf : ∀ (τ : Sg) (f p : Int) (x1 : Option Value) , (1 ≤ f ∧ f ≤ 4) → EF σ τ → τ.1 82 26 = f → τ.1 82 27 = p → syRun ts (1, S, o, c, K) = .inl (f, p) → J G (Dd o c + 2) mX12_sum (pV (fun σ' => EO σ σ' 5 Xs ts S o c K)) τ 4 [some (.ref (G.2.2.2 + 82)), x1] [] := by
    intro τ f p x1 hfr hF e26 e27 hE
    refine e_aload_n (q := 5) (i := 0) dX12_sum_4 rfl rfl rfl ?_
    refine e_bipush (q := 7) dX12_sum_5 rfl (by decide) ?_
    refine e_Vip (q := 10) (vs := [_]) ok_X12_isSign ml_X12_243 dX12_sum_7 rfl ⟨_, _, rfl⟩ (by first | assumption | rfl) rfl rfl (Nat.le_of_ble_eq_true rfl) (by unfold Dd; omega) (c_mSign1 (by rw [e26]; exact ⟨by omega, by omega⟩) (by rw [e26]; omega)) ?_
    refine e_if_ne (q := 13) (tgt := 22) dX12_sum_10 rfl (by decide) (fun c10 => by exfalso; omega) (fun c10 => ?_)
    refine e_aload_n (q := 14) (i := 0) dX12_sum_13 rfl rfl rfl ?_
    refine e_bipush (q := 16) dX12_sum_14 rfl (by decide) ?_
    refine e_Vip (q := 19) (vs := [_]) ok_X12_isSign ml_X12_243 dX12_sum_16 rfl ⟨_, _, rfl⟩ (by first | assumption | rfl) rfl rfl (Nat.le_of_ble_eq_true rfl) (by unfold Dd; omega) (c_mSign1 (by rw [e26]; exact ⟨by omega, by omega⟩) (by rw [e26]; omega)) ?_
    refine e_if_eq (q := 22) (tgt := 48) dX12_sum_19 rfl (by decide) (fun c19 => ?_) (fun c19 => by exfalso; omega)
    exact r_v dX12_sum_48 rfl (Or.inl ⟨f, p, hfr, hF, e26, e27, hE⟩)
  have lp : ∀ (n : Nat) (τ : Sg) (ts1 : List Tk) (P : List Int) (c1 : Int) (K1 : Kn) (x1 : Option Value) , ts1.length ≤ n → ts1.length < ts.length → EF σ τ → ES τ ts1 o c1 (fl P K1) → SyI (P ++ S) o c1 K1 → c ≤ c1 → syRun ts (1, S, o, c, K) = syRun ts1 (0, P ++ S, o, c1, K1) → (∀ s ∈ P, 5 ≤ rk s) → Xm ts1 (P ++ S) K1 → J G (Dd o c + 2) mX12_sum (pV (fun σ' => EO σ σ' 5 Xs ts S o c K)) τ 4 [some (.ref (G.2.2.2 + 82)), x1] [] := by
    intro n
    induction n with
    | zero =>
      intro τ ts1 P c1 K1 x1 hn hlt hF hES hI hc hE hPr hX
      obtain ⟨t, r, et⟩ := hES.2.1.ne
      subst et
      exact absurd hn (by simp)
    | succ n ih =>
      intro τ ts1 P c1 K1 x1 hn hlt hF hES hI hc hE hPr hX
      obtain ⟨t, r, et⟩ := hES.2.1.ne
      subst et
      obtain ⟨hf, hC, e30, e31, hK⟩ := id hES
      obtain ⟨m1, m2, m3, m4⟩ := hC.hd
      have hv := m2.2.2.2.2.2.2
      obtain ⟨i1, i2, i3, i4, i5, i6⟩ := id hI
      have hgl := sg_len (P ++ S)
      simp only [List.length_cons] at hn hlt
      by_cases qop : t.1 = 26 ∨ t.1 = 27
      · have hr : rk t.1 = 5 := by rcases qop with q | q <;> rw [q] <;> decide
        have hop : 11 ≤ t.1 ∧ t.1 ≤ 35 ∧ t.1 ≠ 13 ∧ t.1 ≠ 23 ∧ t.1 ≠ 24 ∧ t.1 ≠ 37 := by omega
        have hset : sySet 5 (P ++ S) K1 = (S, fl P K1) := sySet_to hPr hb
        have hrun := sy_op (t := t) (S := P ++ S) (o := o) (c := c1) (K := K1) (by omega) (by omega) (by omega)
        rw [hr, hset] at hrun
        have hvv := (m2.2.2.2.1 (by omega) (by omega)).2
        have hbin := sgC_opz (t := t.1) (by omega) (by omega)
        by_cases qc : 64 ≤ c1
        · refine e_aload_n (q := 5) (i := 0) dX12_sum_4 rfl rfl rfl ?_
          refine e_bipush (q := 7) dX12_sum_5 rfl (by decide) ?_
          refine e_Vip (q := 10) (vs := [_]) ok_X12_isSign ml_X12_243 dX12_sum_7 rfl ⟨_, _, rfl⟩ (by first | assumption | rfl) rfl rfl (Nat.le_of_ble_eq_true rfl) (by unfold Dd; omega) (c_mSign (k := 26) rfl hC hf (by decide) (by decide)) ?_
          refine e_if_ne (q := 13) (tgt := 22) dX12_sum_10 rfl (by decide) (fun c10 => ?_) (fun c10 => ?_) (hx := by split <;> exact ⟨by decide, by decide⟩)
          · refine e_aload_n (q := 23) (i := 0) dX12_sum_22 rfl rfl rfl ?_
            refine e_getI (q := 26) (jz := 25) dX12_sum_23 rfl fg_X12_165 rfl (by first | assumption | rfl) rfl ?_
            refine e_istore_n (q := 27) (i := 1) (L' := [_, _]) dX12_sum_26 rfl rfl (by decide) rfl rfl ?_
            refine e_aload_n (q := 28) (i := 0) dX12_sum_27 rfl rfl rfl ?_
            refine e_Vv (q := 31) (vs := []) ok_X12_knot ml_X12_258 dX12_sum_28 rfl ⟨_, _, rfl⟩ (by first | assumption | rfl) rfl rfl (Nat.le_of_ble_eq_true rfl) (by unfold Dd; omega) (c_mknot0 (by omega) (by omega) hf) (fun s1 h1 => ?_)
            obtain ⟨-, e1⟩ := h1.resolve_right (fun q => by have := q.1; omega)
            subst e1
            refine e_aload_n (q := 32) (i := 0) dX12_sum_31 rfl rfl rfl ?_
            refine e_Vv (q := 35) (vs := []) ok_X12_goOn ml_X12_206 dX12_sum_32 rfl ⟨_, _, rfl⟩ (by first | assumption | rfl) rfl rfl (Nat.le_of_ble_eq_true rfl) (by unfold Dd; omega) (c_mgoOn1 (by rw [wr_f]; exact ⟨by decide, by decide⟩) (by rw [wr_f]; decide)) (fun s2 h2 => ?_)
            subst h2
            refine e_aload_n (q := 36) (i := 0) dX12_sum_35 rfl rfl rfl ?_
            refine e_Vv (q := 39) (vs := []) ok_X12_product ml_X12_270 dX12_sum_36 rfl ⟨_, _, rfl⟩ (by first | assumption | rfl) rfl rfl (Nat.le_of_ble_eq_true rfl) (by unfold Dd; omega) (c_mproduct1 (by rw [wr_f]; exact ⟨by decide, by decide⟩) (by rw [wr_f]; decide)) (fun s3 h3 => ?_)
            subst h3
            refine e_aload_n (q := 40) (i := 0) dX12_sum_39 rfl rfl rfl ?_
            refine e_iconst (q := 41) dX12_sum_40 rfl ?_
            refine e_iload_n (q := 42) (i := 1) dX12_sum_41 rfl rfl rfl ?_
            refine e_Vv (q := 45) (vs := [_, _]) ok_X12_puts ml_X12_261 dX12_sum_42 rfl ⟨_, _, rfl⟩ (by first | assumption | rfl) rfl rfl (Nat.le_of_ble_eq_true rfl) (by unfold Dd; omega) (c_mputs1 (by rw [wr_f]; exact ⟨by decide, by decide⟩) (by rw [wr_f]; decide)) (fun s4 h4 => ?_)
            subst h4
            refine e_goto (tgt := 4) dX12_sum_45 (by decide) ?_
            exact lf _ 2 t.2.1 _ (by decide) (hF.tr wr_EF) wr_f (wr_p.trans m1) (hE.trans (syRun_f (Or.inr (by omega)) (by rw [hrun, if_pos qc])))
          · refine e_aload_n (q := 14) (i := 0) dX12_sum_13 rfl rfl rfl ?_
            refine e_bipush (q := 16) dX12_sum_14 rfl (by decide) ?_
            refine e_Vip (q := 19) (vs := [_]) ok_X12_isSign ml_X12_243 dX12_sum_16 rfl ⟨_, _, rfl⟩ (by first | assumption | rfl) rfl rfl (Nat.le_of_ble_eq_true rfl) (by unfold Dd; omega) (c_mSign (k := 27) rfl hC hf (by decide) (by decide)) ?_
            rw [if_pos (show t.1 = 27 by rcases qop with q | q; (rw [if_pos q] at c10; exact absurd c10 (by decide)); exact q)]
            refine e_if_eq (q := 22) (tgt := 48) dX12_sum_19 rfl (by decide) (fun c19 => by exfalso; omega) (fun c19 => ?_)
            refine e_aload_n (q := 23) (i := 0) dX12_sum_22 rfl rfl rfl ?_
            refine e_getI (q := 26) (jz := 25) dX12_sum_23 rfl fg_X12_165 rfl (by first | assumption | rfl) rfl ?_
            refine e_istore_n (q := 27) (i := 1) (L' := [_, _]) dX12_sum_26 rfl rfl (by decide) rfl rfl ?_
            refine e_aload_n (q := 28) (i := 0) dX12_sum_27 rfl rfl rfl ?_
            refine e_Vv (q := 31) (vs := []) ok_X12_knot ml_X12_258 dX12_sum_28 rfl ⟨_, _, rfl⟩ (by first | assumption | rfl) rfl rfl (Nat.le_of_ble_eq_true rfl) (by unfold Dd; omega) (c_mknot0 (by omega) (by omega) hf) (fun s1 h1 => ?_)
            obtain ⟨-, e1⟩ := h1.resolve_right (fun q => by have := q.1; omega)
            subst e1
            refine e_aload_n (q := 32) (i := 0) dX12_sum_31 rfl rfl rfl ?_
            refine e_Vv (q := 35) (vs := []) ok_X12_goOn ml_X12_206 dX12_sum_32 rfl ⟨_, _, rfl⟩ (by first | assumption | rfl) rfl rfl (Nat.le_of_ble_eq_true rfl) (by unfold Dd; omega) (c_mgoOn1 (by rw [wr_f]; exact ⟨by decide, by decide⟩) (by rw [wr_f]; decide)) (fun s2 h2 => ?_)
            subst h2
            refine e_aload_n (q := 36) (i := 0) dX12_sum_35 rfl rfl rfl ?_
            refine e_Vv (q := 39) (vs := []) ok_X12_product ml_X12_270 dX12_sum_36 rfl ⟨_, _, rfl⟩ (by first | assumption | rfl) rfl rfl (Nat.le_of_ble_eq_true rfl) (by unfold Dd; omega) (c_mproduct1 (by rw [wr_f]; exact ⟨by decide, by decide⟩) (by rw [wr_f]; decide)) (fun s3 h3 => ?_)
            subst h3
            refine e_aload_n (q := 40) (i := 0) dX12_sum_39 rfl rfl rfl ?_
            refine e_iconst (q := 41) dX12_sum_40 rfl ?_
            refine e_iload_n (q := 42) (i := 1) dX12_sum_41 rfl rfl rfl ?_
            refine e_Vv (q := 45) (vs := [_, _]) ok_X12_puts ml_X12_261 dX12_sum_42 rfl ⟨_, _, rfl⟩ (by first | assumption | rfl) rfl rfl (Nat.le_of_ble_eq_true rfl) (by unfold Dd; omega) (c_mputs1 (by rw [wr_f]; exact ⟨by decide, by decide⟩) (by rw [wr_f]; decide)) (fun s4 h4 => ?_)
            subst h4
            refine e_goto (tgt := 4) dX12_sum_45 (by decide) ?_
            exact lf _ 2 t.2.1 _ (by decide) (hF.tr wr_EF) wr_f (wr_p.trans m1) (hE.trans (syRun_f (Or.inr (by omega)) (by rw [hrun, if_pos qc])))
        refine e_aload_n (q := 5) (i := 0) dX12_sum_4 rfl rfl rfl ?_
        refine e_bipush (q := 7) dX12_sum_5 rfl (by decide) ?_
        refine e_Vip (q := 10) (vs := [_]) ok_X12_isSign ml_X12_243 dX12_sum_7 rfl ⟨_, _, rfl⟩ (by first | assumption | rfl) rfl rfl (Nat.le_of_ble_eq_true rfl) (by unfold Dd; omega) (c_mSign (k := 26) rfl hC hf (by decide) (by decide)) ?_
        refine e_if_ne (q := 13) (tgt := 22) dX12_sum_10 rfl (by decide) (fun c10 => ?_) (fun c10 => ?_) (hx := by split <;> exact ⟨by decide, by decide⟩)
        · refine e_aload_n (q := 23) (i := 0) dX12_sum_22 rfl rfl rfl ?_
          refine e_getI (q := 26) (jz := 25) dX12_sum_23 rfl fg_X12_165 rfl (by first | assumption | rfl) rfl ?_
          rw [hvv]
          refine e_istore_n (q := 27) (i := 1) (L' := [_, _]) dX12_sum_26 rfl rfl (by decide) rfl rfl ?_
          refine e_aload_n (q := 28) (i := 0) dX12_sum_27 rfl rfl rfl ?_
          refine e_Vv (q := 31) (vs := []) ok_X12_knot ml_X12_258 dX12_sum_28 rfl ⟨_, _, rfl⟩ (by first | assumption | rfl) rfl rfl (Nat.le_of_ble_eq_true rfl) (by unfold Dd; omega) (c_mknot0 (by omega) (by omega) hf) (fun s1 h1 => ?_)
          obtain ⟨-, e1⟩ := h1.resolve_left (fun q => by have := q.1; omega)
          subst e1
          refine e_aload_n (q := 32) (i := 0) dX12_sum_31 rfl rfl rfl ?_
          refine e_Vv (q := 35) (vs := []) ok_X12_goOn ml_X12_206 dX12_sum_32 rfl ⟨_, _, rfl⟩ (by first | assumption | rfl) rfl rfl (Nat.le_of_ble_eq_true rfl) (by unfold Dd; omega) (c_mgoOn0 (σ := (sI τ 82 31 (τ.1 82 31 + 1))) (hC.cg rfl (fun j a b => by rw [sI_1, if_neg (fun q => by have := q.2; omega)])) (by omega) (show τ.1 82 26 = 0 from hf)) (fun s2 h2 => ?_)
          rw [if_neg qc] at hrun
          have hI2 := (sy_I (Or.inl rfl) hI hrun).1
          have f2 : EF σ s2 := (hF.tr (EF.fm (F := [31]) ((Fm.rf _ _ τ).s82 (by decide) _) (by decide))).tr (EF.fm h2.1 (by decide))
          have hgo : syRun ts (1, S, o, c, K) = syRun r (1, t.1 :: S, o, c1 + 1, fl P K1) := hE.trans (syRun_s (Or.inr (by omega)) hrun)
          have hES2 : ES s2 r o (c1 + 1) (fl P K1) := ⟨by rw [h2.1.2 26 (by decide)]; exact hf, h2.2, by rw [h2.1.2 30 (by decide)]; exact e30, by rw [h2.1.2 31 (by decide), sI_1, if_pos ⟨rfl, rfl⟩, e31], hK.cg (by rw [h2.1.c (a := 84) (by decide)]; rfl) (h2.1.c (by decide)) (h2.1.c (by decide))⟩
          refine e_aload_n (q := 36) (i := 0) dX12_sum_35 rfl rfl rfl ?_
          refine e_Vv (q := 39) (vs := []) ok_X12_product ml_X12_270 dX12_sum_36 rfl ⟨_, _, rfl⟩ (by first | assumption | rfl) rfl rfl (Nat.le_of_ble_eq_true rfl) (by unfold Dd; omega) (hP s2 r (t.1 :: S) o (c1 + 1) (fl P K1) (by omega) hES2 hI2 (by show rk t.1 < 6; omega) (fun _ => Or.inr (by show 3 < rk t.1; omega))) (fun s3 h3 => ?_)
          rcases h3 with ⟨f, p, hfr, g1, g2, g3, g4⟩ | ⟨ts2, P2, c2, K2, g1, g2, g7, gc, g8, g9, g10, g11⟩
          · refine e_aload_n (q := 40) (i := 0) dX12_sum_39 rfl rfl rfl ?_
            refine e_iconst (q := 41) dX12_sum_40 rfl ?_
            refine e_iload_n (q := 42) (i := 1) dX12_sum_41 rfl rfl rfl ?_
            refine e_Vv (q := 45) (vs := [_, _]) ok_X12_puts ml_X12_261 dX12_sum_42 rfl ⟨_, _, rfl⟩ (by first | assumption | rfl) rfl rfl (Nat.le_of_ble_eq_true rfl) (by unfold Dd; omega) (c_mputs1 (by rw [g2]; exact ⟨by omega, by omega⟩) (by rw [g2]; omega)) (fun s4 h4 => ?_)
            subst h4
            refine e_goto (tgt := 4) dX12_sum_45 (by decide) ?_
            exact lf _ f p _ hfr (f2.tr g1) g2 g3 (hgo.trans g4)
          have hlm := ES_lim (l := 6) (by decide) g2 g9 (by omega) g7
          refine e_aload_n (q := 40) (i := 0) dX12_sum_39 rfl rfl rfl ?_
          refine e_iconst (q := 41) dX12_sum_40 rfl ?_
          refine e_iload_n (q := 42) (i := 1) dX12_sum_41 rfl rfl rfl ?_
          refine e_Vv (q := 45) (vs := [_, _]) ok_X12_puts ml_X12_261 dX12_sum_42 rfl ⟨_, _, rfl⟩ (by first | assumption | rfl) rfl rfl (Nat.le_of_ble_eq_true rfl) (by unfold Dd; omega) (c_mputs0 hlm.1 hlm.2 g2.1) (fun s4 h4 => ?_)
          have h4 : s4 = ptS s3 2 (sgC t.1) := h4
          subst h4
          refine e_goto (tgt := 4) dX12_sum_45 (by decide) ?_
          refine ih _ ts2 (P2 ++ [t.1]) c2 K2 _ (by omega) (by omega) ((f2.tr g1).tr (EF.pt hlm.1)) (ES_put (S := S) (l := 5) g2 (Or.inr hbin.1) hbin.2) ?_ (by omega) ?_ ?_ ?_
          · rw [List.append_assoc]; exact g7
          · rw [List.append_assoc]; exact hgo.trans g8
          · intro s hs
            rcases List.mem_append.mp hs with q | q
            · have := g9 s q; omega
            · rw [List.mem_singleton.mp q]; omega
          · rw [List.append_assoc]; exact g11
        · refine e_aload_n (q := 14) (i := 0) dX12_sum_13 rfl rfl rfl ?_
          refine e_bipush (q := 16) dX12_sum_14 rfl (by decide) ?_
          refine e_Vip (q := 19) (vs := [_]) ok_X12_isSign ml_X12_243 dX12_sum_16 rfl ⟨_, _, rfl⟩ (by first | assumption | rfl) rfl rfl (Nat.le_of_ble_eq_true rfl) (by unfold Dd; omega) (c_mSign (k := 27) rfl hC hf (by decide) (by decide)) ?_
          rw [if_pos (show t.1 = 27 by rcases qop with q | q; (rw [if_pos q] at c10; exact absurd c10 (by decide)); exact q)]
          refine e_if_eq (q := 22) (tgt := 48) dX12_sum_19 rfl (by decide) (fun c19 => by exfalso; omega) (fun c19 => ?_)
          refine e_aload_n (q := 23) (i := 0) dX12_sum_22 rfl rfl rfl ?_
          refine e_getI (q := 26) (jz := 25) dX12_sum_23 rfl fg_X12_165 rfl (by first | assumption | rfl) rfl ?_
          rw [hvv]
          refine e_istore_n (q := 27) (i := 1) (L' := [_, _]) dX12_sum_26 rfl rfl (by decide) rfl rfl ?_
          refine e_aload_n (q := 28) (i := 0) dX12_sum_27 rfl rfl rfl ?_
          refine e_Vv (q := 31) (vs := []) ok_X12_knot ml_X12_258 dX12_sum_28 rfl ⟨_, _, rfl⟩ (by first | assumption | rfl) rfl rfl (Nat.le_of_ble_eq_true rfl) (by unfold Dd; omega) (c_mknot0 (by omega) (by omega) hf) (fun s1 h1 => ?_)
          obtain ⟨-, e1⟩ := h1.resolve_left (fun q => by have := q.1; omega)
          subst e1
          refine e_aload_n (q := 32) (i := 0) dX12_sum_31 rfl rfl rfl ?_
          refine e_Vv (q := 35) (vs := []) ok_X12_goOn ml_X12_206 dX12_sum_32 rfl ⟨_, _, rfl⟩ (by first | assumption | rfl) rfl rfl (Nat.le_of_ble_eq_true rfl) (by unfold Dd; omega) (c_mgoOn0 (σ := (sI τ 82 31 (τ.1 82 31 + 1))) (hC.cg rfl (fun j a b => by rw [sI_1, if_neg (fun q => by have := q.2; omega)])) (by omega) (show τ.1 82 26 = 0 from hf)) (fun s2 h2 => ?_)
          rw [if_neg qc] at hrun
          have hI2 := (sy_I (Or.inl rfl) hI hrun).1
          have f2 : EF σ s2 := (hF.tr (EF.fm (F := [31]) ((Fm.rf _ _ τ).s82 (by decide) _) (by decide))).tr (EF.fm h2.1 (by decide))
          have hgo : syRun ts (1, S, o, c, K) = syRun r (1, t.1 :: S, o, c1 + 1, fl P K1) := hE.trans (syRun_s (Or.inr (by omega)) hrun)
          have hES2 : ES s2 r o (c1 + 1) (fl P K1) := ⟨by rw [h2.1.2 26 (by decide)]; exact hf, h2.2, by rw [h2.1.2 30 (by decide)]; exact e30, by rw [h2.1.2 31 (by decide), sI_1, if_pos ⟨rfl, rfl⟩, e31], hK.cg (by rw [h2.1.c (a := 84) (by decide)]; rfl) (h2.1.c (by decide)) (h2.1.c (by decide))⟩
          refine e_aload_n (q := 36) (i := 0) dX12_sum_35 rfl rfl rfl ?_
          refine e_Vv (q := 39) (vs := []) ok_X12_product ml_X12_270 dX12_sum_36 rfl ⟨_, _, rfl⟩ (by first | assumption | rfl) rfl rfl (Nat.le_of_ble_eq_true rfl) (by unfold Dd; omega) (hP s2 r (t.1 :: S) o (c1 + 1) (fl P K1) (by omega) hES2 hI2 (by show rk t.1 < 6; omega) (fun _ => Or.inr (by show 3 < rk t.1; omega))) (fun s3 h3 => ?_)
          rcases h3 with ⟨f, p, hfr, g1, g2, g3, g4⟩ | ⟨ts2, P2, c2, K2, g1, g2, g7, gc, g8, g9, g10, g11⟩
          · refine e_aload_n (q := 40) (i := 0) dX12_sum_39 rfl rfl rfl ?_
            refine e_iconst (q := 41) dX12_sum_40 rfl ?_
            refine e_iload_n (q := 42) (i := 1) dX12_sum_41 rfl rfl rfl ?_
            refine e_Vv (q := 45) (vs := [_, _]) ok_X12_puts ml_X12_261 dX12_sum_42 rfl ⟨_, _, rfl⟩ (by first | assumption | rfl) rfl rfl (Nat.le_of_ble_eq_true rfl) (by unfold Dd; omega) (c_mputs1 (by rw [g2]; exact ⟨by omega, by omega⟩) (by rw [g2]; omega)) (fun s4 h4 => ?_)
            subst h4
            refine e_goto (tgt := 4) dX12_sum_45 (by decide) ?_
            exact lf _ f p _ hfr (f2.tr g1) g2 g3 (hgo.trans g4)
          have hlm := ES_lim (l := 6) (by decide) g2 g9 (by omega) g7
          refine e_aload_n (q := 40) (i := 0) dX12_sum_39 rfl rfl rfl ?_
          refine e_iconst (q := 41) dX12_sum_40 rfl ?_
          refine e_iload_n (q := 42) (i := 1) dX12_sum_41 rfl rfl rfl ?_
          refine e_Vv (q := 45) (vs := [_, _]) ok_X12_puts ml_X12_261 dX12_sum_42 rfl ⟨_, _, rfl⟩ (by first | assumption | rfl) rfl rfl (Nat.le_of_ble_eq_true rfl) (by unfold Dd; omega) (c_mputs0 hlm.1 hlm.2 g2.1) (fun s4 h4 => ?_)
          have h4 : s4 = ptS s3 2 (sgC t.1) := h4
          subst h4
          refine e_goto (tgt := 4) dX12_sum_45 (by decide) ?_
          refine ih _ ts2 (P2 ++ [t.1]) c2 K2 _ (by omega) (by omega) ((f2.tr g1).tr (EF.pt hlm.1)) (ES_put (S := S) (l := 5) g2 (Or.inr hbin.1) hbin.2) ?_ (by omega) ?_ ?_ ?_
          · rw [List.append_assoc]; exact g7
          · rw [List.append_assoc]; exact hgo.trans g8
          · intro s hs
            rcases List.mem_append.mp hs with q | q
            · have := g9 s q; omega
            · rw [List.mem_singleton.mp q]; omega
          · rw [List.append_assoc]; exact g11
      refine e_aload_n (q := 5) (i := 0) dX12_sum_4 rfl rfl rfl ?_
      refine e_bipush (q := 7) dX12_sum_5 rfl (by decide) ?_
      refine e_Vip (q := 10) (vs := [_]) ok_X12_isSign ml_X12_243 dX12_sum_7 rfl ⟨_, _, rfl⟩ (by first | assumption | rfl) rfl rfl (Nat.le_of_ble_eq_true rfl) (by unfold Dd; omega) (c_mSign (k := 26) rfl hC hf (by decide) (by decide)) ?_
      rw [if_neg (fun q => qop (Or.inl q))]
      refine e_if_ne (q := 13) (tgt := 22) dX12_sum_10 rfl (by decide) (fun c10 => by exfalso; omega) (fun c10 => ?_)
      refine e_aload_n (q := 14) (i := 0) dX12_sum_13 rfl rfl rfl ?_
      refine e_bipush (q := 16) dX12_sum_14 rfl (by decide) ?_
      refine e_Vip (q := 19) (vs := [_]) ok_X12_isSign ml_X12_243 dX12_sum_16 rfl ⟨_, _, rfl⟩ (by first | assumption | rfl) rfl rfl (Nat.le_of_ble_eq_true rfl) (by unfold Dd; omega) (c_mSign (k := 27) rfl hC hf (by decide) (by decide)) ?_
      rw [if_neg (fun q => qop (Or.inr q))]
      refine e_if_eq (q := 22) (tgt := 48) dX12_sum_19 rfl (by decide) (fun c19 => ?_) (fun c19 => by exfalso; omega)
      exact r_v dX12_sum_48 rfl (Or.inr ⟨t :: r, P, c1, K1, hF, hES, hI, hc, hE, hPr, by simp only [List.length_cons]; omega, ⟨hX, fun q => qop (Or.inl q), fun q => qop (Or.inr q)⟩⟩)
  refine e_entry om_X12_sum (Nat.le_of_ble_eq_true rfl) (L := [some (.ref (G.2.2.2 + 82)), none]) rfl ?_
  refine e_aload_n (q := 1) (i := 0) dX12_sum_0 rfl rfl rfl ?_
  refine e_Vv (q := 4) (vs := []) ok_X12_product ml_X12_270 dX12_sum_1 rfl ⟨_, _, rfl⟩ (by first | assumption | rfl) rfl rfl (Nat.le_of_ble_eq_true rfl) (by unfold Dd; omega) (hP σ ts S o c K hN hES0 hI0 (by omega) (fun q => Or.inr (by rcases hp13 q with e | e; omega; exact e))) (fun s1 h1 => ?_)
  rcases h1 with ⟨f, p, hfr, g1, g2, g3, g4⟩ | ⟨ts2, P2, c2, K2, g1, g2, g7, gc, g8, g9, g10, g11⟩
  · exact lf _ f p _ hfr g1 g2 g3 g4
  · exact lp ts2.length s1 ts2 P2 c2 K2 _ (Nat.le_refl _) g10 g1 g2 g7 gc g8 (fun s hs => by have := g9 s hs; omega) g11

set_option maxHeartbeats 16000000 in
theorem conj_of {G : Gx} {N : Nat} (hP : LvC G mX12_negation N 3 3 4 Xn) : LvC G mX12_conjunction N 4 2 2 Xc := by
  intro σ ts S o c K hN hES0 hI0 hb hp13
  have lf : ∀ (τ : Sg) (f p : Int) , (1 ≤ f ∧ f ≤ 4) → EF σ τ → τ.1 82 26 = f → τ.1 82 27 = p → syRun ts (1, S, o, c, K) = .inl (f, p) → J G (Dd o c + 4) mX12_conjunction (pV (fun σ' => EO σ σ' 2 Xc ts S o c K)) τ 4 [some (.ref (G.2.2.2 + 82))] [] := by
    intro τ f p hfr hF e26 e27 hE
    refine e_aload_n (q := 5) (i := 0) dX12_conjunction_4 rfl rfl rfl ?_
    refine e_bipush (q := 7) dX12_conjunction_5 rfl (by decide) ?_
    refine e_Vip (q := 10) (vs := [_]) ok_X12_isWord ml_X12_255 dX12_conjunction_7 rfl ⟨_, _, rfl⟩ (by first | assumption | rfl) rfl rfl (Nat.le_of_ble_eq_true rfl) (by unfold Dd; omega) (c_mWord1 (by rw [e26]; exact ⟨by omega, by omega⟩) (by rw [e26]; omega)) ?_
    refine e_if_eq (q := 13) (tgt := 36) dX12_conjunction_10 rfl (by decide) (fun c10 => ?_) (fun c10 => by exfalso; omega)
    exact r_v dX12_conjunction_36 rfl (Or.inl ⟨f, p, hfr, hF, e26, e27, hE⟩)
  have lp : ∀ (n : Nat) (τ : Sg) (ts1 : List Tk) (P : List Int) (c1 : Int) (K1 : Kn) , ts1.length ≤ n → ts1.length < ts.length → EF σ τ → ES τ ts1 o c1 (fl P K1) → SyI (P ++ S) o c1 K1 → c ≤ c1 → syRun ts (1, S, o, c, K) = syRun ts1 (0, P ++ S, o, c1, K1) → (∀ s ∈ P, 2 ≤ rk s) → Xn ts1 (P ++ S) K1 → J G (Dd o c + 4) mX12_conjunction (pV (fun σ' => EO σ σ' 2 Xc ts S o c K)) τ 4 [some (.ref (G.2.2.2 + 82))] [] := by
    intro n
    induction n with
    | zero =>
      intro τ ts1 P c1 K1 hn hlt hF hES hI hc hE hPr hX
      obtain ⟨t, r, et⟩ := hES.2.1.ne
      subst et
      exact absurd hn (by simp)
    | succ n ih =>
      intro τ ts1 P c1 K1 hn hlt hF hES hI hc hE hPr hX
      obtain ⟨t, r, et⟩ := hES.2.1.ne
      subst et
      obtain ⟨hf, hC, e30, e31, hK⟩ := id hES
      obtain ⟨m1, m2, m3, m4⟩ := hC.hd
      have hv := m2.2.2.2.2.2.2
      obtain ⟨i1, i2, i3, i4, i5, i6⟩ := id hI
      have hgl := sg_len (P ++ S)
      simp only [List.length_cons] at hn hlt
      by_cases qop : t.1 = 12
      · have hr : rk t.1 = 2 := by rw [qop]; decide
        have hop : 11 ≤ t.1 ∧ t.1 ≤ 35 ∧ t.1 ≠ 13 ∧ t.1 ≠ 23 ∧ t.1 ≠ 24 ∧ t.1 ≠ 37 := by omega
        have hset : sySet 2 (P ++ S) K1 = (S, fl P K1) := sySet_to hPr hb
        have hrun := sy_op (t := t) (S := P ++ S) (o := o) (c := c1) (K := K1) (by omega) (by omega) (by omega)
        rw [hr, hset] at hrun
        by_cases qc : 64 ≤ c1
        · refine e_aload_n (q := 5) (i := 0) dX12_conjunction_4 rfl rfl rfl ?_
          refine e_bipush (q := 7) dX12_conjunction_5 rfl (by decide) ?_
          refine e_Vip (q := 10) (vs := [_]) ok_X12_isWord ml_X12_255 dX12_conjunction_7 rfl ⟨_, _, rfl⟩ (by first | assumption | rfl) rfl rfl (Nat.le_of_ble_eq_true rfl) (by unfold Dd; omega) (c_mWord (w := 12) hC hf (by decide) (by decide)) ?_
          rw [if_pos qop]
          refine e_if_eq (q := 13) (tgt := 36) dX12_conjunction_10 rfl (by decide) (fun c10 => by exfalso; omega) (fun c10 => ?_)
          refine e_aload_n (q := 14) (i := 0) dX12_conjunction_13 rfl rfl rfl ?_
          refine e_Vv (q := 17) (vs := []) ok_X12_knot ml_X12_258 dX12_conjunction_14 rfl ⟨_, _, rfl⟩ (by first | assumption | rfl) rfl rfl (Nat.le_of_ble_eq_true rfl) (by unfold Dd; omega) (c_mknot0 (by omega) (by omega) hf) (fun s1 h1 => ?_)
          obtain ⟨-, e1⟩ := h1.resolve_right (fun q => by have := q.1; omega)
          subst e1
          refine e_aload_n (q := 18) (i := 0) dX12_conjunction_17 rfl rfl rfl ?_
          refine e_Vv (q := 21) (vs := []) ok_X12_goOn ml_X12_206 dX12_conjunction_18 rfl ⟨_, _, rfl⟩ (by first | assumption | rfl) rfl rfl (Nat.le_of_ble_eq_true rfl) (by unfold Dd; omega) (c_mgoOn1 (by rw [wr_f]; exact ⟨by decide, by decide⟩) (by rw [wr_f]; decide)) (fun s2 h2 => ?_)
          subst h2
          refine e_aload_n (q := 22) (i := 0) dX12_conjunction_21 rfl rfl rfl ?_
          refine e_Vv (q := 25) (vs := []) ok_X12_negation ml_X12_264 dX12_conjunction_22 rfl ⟨_, _, rfl⟩ (by first | assumption | rfl) rfl rfl (Nat.le_of_ble_eq_true rfl) (by unfold Dd; omega) (c_mnegation1 (by rw [wr_f]; exact ⟨by decide, by decide⟩) (by rw [wr_f]; decide)) (fun s3 h3 => ?_)
          subst h3
          refine e_aload_n (q := 26) (i := 0) dX12_conjunction_25 rfl rfl rfl ?_
          refine e_iconst (q := 27) dX12_conjunction_26 rfl ?_
          refine e_sipush (q := 30) dX12_conjunction_27 rfl (by decide) ?_
          refine e_Vv (q := 33) (vs := [_, _]) ok_X12_puts ml_X12_261 dX12_conjunction_30 rfl ⟨_, _, rfl⟩ (by first | assumption | rfl) rfl rfl (Nat.le_of_ble_eq_true rfl) (by unfold Dd; omega) (c_mputs1 (by rw [wr_f]; exact ⟨by decide, by decide⟩) (by rw [wr_f]; decide)) (fun s4 h4 => ?_)
          subst h4
          refine e_goto (tgt := 4) dX12_conjunction_33 (by decide) ?_
          exact lf _ 2 t.2.1 (by decide) (hF.tr wr_EF) wr_f (wr_p.trans m1) (hE.trans (syRun_f (Or.inr (by omega)) (by rw [hrun, if_pos qc])))
        refine e_aload_n (q := 5) (i := 0) dX12_conjunction_4 rfl rfl rfl ?_
        refine e_bipush (q := 7) dX12_conjunction_5 rfl (by decide) ?_
        refine e_Vip (q := 10) (vs := [_]) ok_X12_isWord ml_X12_255 dX12_conjunction_7 rfl ⟨_, _, rfl⟩ (by first | assumption | rfl) rfl rfl (Nat.le_of_ble_eq_true rfl) (by unfold Dd; omega) (c_mWord (w := 12) hC hf (by decide) (by decide)) ?_
        rw [if_pos qop]
        refine e_if_eq (q := 13) (tgt := 36) dX12_conjunction_10 rfl (by decide) (fun c10 => by exfalso; omega) (fun c10 => ?_)
        refine e_aload_n (q := 14) (i := 0) dX12_conjunction_13 rfl rfl rfl ?_
        refine e_Vv (q := 17) (vs := []) ok_X12_knot ml_X12_258 dX12_conjunction_14 rfl ⟨_, _, rfl⟩ (by first | assumption | rfl) rfl rfl (Nat.le_of_ble_eq_true rfl) (by unfold Dd; omega) (c_mknot0 (by omega) (by omega) hf) (fun s1 h1 => ?_)
        obtain ⟨-, e1⟩ := h1.resolve_left (fun q => by have := q.1; omega)
        subst e1
        refine e_aload_n (q := 18) (i := 0) dX12_conjunction_17 rfl rfl rfl ?_
        refine e_Vv (q := 21) (vs := []) ok_X12_goOn ml_X12_206 dX12_conjunction_18 rfl ⟨_, _, rfl⟩ (by first | assumption | rfl) rfl rfl (Nat.le_of_ble_eq_true rfl) (by unfold Dd; omega) (c_mgoOn0 (σ := (sI τ 82 31 (τ.1 82 31 + 1))) (hC.cg rfl (fun j a b => by rw [sI_1, if_neg (fun q => by have := q.2; omega)])) (by omega) (show τ.1 82 26 = 0 from hf)) (fun s2 h2 => ?_)
        rw [if_neg qc] at hrun
        have hI2 := (sy_I (Or.inl rfl) hI hrun).1
        have f2 : EF σ s2 := (hF.tr (EF.fm (F := [31]) ((Fm.rf _ _ τ).s82 (by decide) _) (by decide))).tr (EF.fm h2.1 (by decide))
        have hgo : syRun ts (1, S, o, c, K) = syRun r (1, t.1 :: S, o, c1 + 1, fl P K1) := hE.trans (syRun_s (Or.inr (by omega)) hrun)
        have hES2 : ES s2 r o (c1 + 1) (fl P K1) := ⟨by rw [h2.1.2 26 (by decide)]; exact hf, h2.2, by rw [h2.1.2 30 (by decide)]; exact e30, by rw [h2.1.2 31 (by decide), sI_1, if_pos ⟨rfl, rfl⟩, e31], hK.cg (by rw [h2.1.c (a := 84) (by decide)]; rfl) (h2.1.c (by decide)) (h2.1.c (by decide))⟩
        refine e_aload_n (q := 22) (i := 0) dX12_conjunction_21 rfl rfl rfl ?_
        refine e_Vv (q := 25) (vs := []) ok_X12_negation ml_X12_264 dX12_conjunction_22 rfl ⟨_, _, rfl⟩ (by first | assumption | rfl) rfl rfl (Nat.le_of_ble_eq_true rfl) (by unfold Dd; omega) (hP s2 r (t.1 :: S) o (c1 + 1) (fl P K1) (by omega) hES2 hI2 (by show rk t.1 < 4; omega) (fun _ => Or.inl (by decide))) (fun s3 h3 => ?_)
        rcases h3 with ⟨f, p, hfr, g1, g2, g3, g4⟩ | ⟨ts2, P2, c2, K2, g1, g2, g7, gc, g8, g9, g10, g11⟩
        · refine e_aload_n (q := 26) (i := 0) dX12_conjunction_25 rfl rfl rfl ?_
          refine e_iconst (q := 27) dX12_conjunction_26 rfl ?_
          refine e_sipush (q := 30) dX12_conjunction_27 rfl (by decide) ?_
          refine e_Vv (q := 33) (vs := [_, _]) ok_X12_puts ml_X12_261 dX12_conjunction_30 rfl ⟨_, _, rfl⟩ (by first | assumption | rfl) rfl rfl (Nat.le_of_ble_eq_true rfl) (by unfold Dd; omega) (c_mputs1 (by rw [g2]; exact ⟨by omega, by omega⟩) (by rw [g2]; omega)) (fun s4 h4 => ?_)
          subst h4
          refine e_goto (tgt := 4) dX12_conjunction_33 (by decide) ?_
          exact lf _ f p hfr (f2.tr g1) g2 g3 (hgo.trans g4)
        have hlm := ES_lim (l := 3) (by decide) g2 g9 (by omega) g7
        refine e_aload_n (q := 26) (i := 0) dX12_conjunction_25 rfl rfl rfl ?_
        refine e_iconst (q := 27) dX12_conjunction_26 rfl ?_
        refine e_sipush (q := 30) dX12_conjunction_27 rfl (by decide) ?_
        refine e_Vv (q := 33) (vs := [_, _]) ok_X12_puts ml_X12_261 dX12_conjunction_30 rfl ⟨_, _, rfl⟩ (by first | assumption | rfl) rfl rfl (Nat.le_of_ble_eq_true rfl) (by unfold Dd; omega) (c_mputs0 hlm.1 hlm.2 g2.1) (fun s4 h4 => ?_)
        have h4 : s4 = ptS s3 2 261 := h4
        subst h4
        refine e_goto (tgt := 4) dX12_conjunction_33 (by decide) ?_
        refine ih _ ts2 (P2 ++ [t.1]) c2 K2 (by omega) (by omega) ((f2.tr g1).tr (EF.pt hlm.1)) (ES_put (S := S) (l := 2) g2 (Or.inr (by unfold isBin; decide)) (by rw [qop]; decide)) ?_ (by omega) ?_ ?_ ?_
        · rw [List.append_assoc]; exact g7
        · rw [List.append_assoc]; exact hgo.trans g8
        · intro s hs
          rcases List.mem_append.mp hs with q | q
          · have := g9 s q; omega
          · rw [List.mem_singleton.mp q]; omega
        · rw [List.append_assoc]; exact g11
      refine e_aload_n (q := 5) (i := 0) dX12_conjunction_4 rfl rfl rfl ?_
      refine e_bipush (q := 7) dX12_conjunction_5 rfl (by decide) ?_
      refine e_Vip (q := 10) (vs := [_]) ok_X12_isWord ml_X12_255 dX12_conjunction_7 rfl ⟨_, _, rfl⟩ (by first | assumption | rfl) rfl rfl (Nat.le_of_ble_eq_true rfl) (by unfold Dd; omega) (c_mWord (w := 12) hC hf (by decide) (by decide)) ?_
      rw [if_neg qop]
      refine e_if_eq (q := 13) (tgt := 36) dX12_conjunction_10 rfl (by decide) (fun c10 => ?_) (fun c10 => by exfalso; omega)
      exact r_v dX12_conjunction_36 rfl (Or.inr ⟨t :: r, P, c1, K1, hF, hES, hI, hc, hE, hPr, by simp only [List.length_cons]; omega, ⟨hX, fun q => qop q⟩⟩)
  refine e_entry om_X12_conjunction (Nat.le_of_ble_eq_true rfl) (L := [some (.ref (G.2.2.2 + 82))]) rfl ?_
  refine e_aload_n (q := 1) (i := 0) dX12_conjunction_0 rfl rfl rfl ?_
  refine e_Vv (q := 4) (vs := []) ok_X12_negation ml_X12_264 dX12_conjunction_1 rfl ⟨_, _, rfl⟩ (by first | assumption | rfl) rfl rfl (Nat.le_of_ble_eq_true rfl) (by unfold Dd; omega) (hP σ ts S o c K hN hES0 hI0 (by omega) (fun _ => Or.inl (by decide))) (fun s1 h1 => ?_)
  rcases h1 with ⟨f, p, hfr, g1, g2, g3, g4⟩ | ⟨ts2, P2, c2, K2, g1, g2, g7, gc, g8, g9, g10, g11⟩
  · exact lf _ f p hfr g1 g2 g3 g4
  · exact lp ts2.length s1 ts2 P2 c2 K2 (Nat.le_refl _) g10 g1 g2 g7 gc g8 (fun s hs => by have := g9 s hs; omega) g11

set_option maxHeartbeats 16000000 in
theorem expr_of {G : Gx} {N : Nat} (hP : LvC G mX12_conjunction N 4 2 2 Xc) : LvC G mX12_expression N 5 1 1 Xe := by
  intro σ ts S o c K hN hES0 hI0 hb hp13
  have lf : ∀ (τ : Sg) (f p : Int) , (1 ≤ f ∧ f ≤ 4) → EF σ τ → τ.1 82 26 = f → τ.1 82 27 = p → syRun ts (1, S, o, c, K) = .inl (f, p) → J G (Dd o c + 5) mX12_expression (pV (fun σ' => EO σ σ' 1 Xe ts S o c K)) τ 4 [some (.ref (G.2.2.2 + 82))] [] := by
    intro τ f p hfr hF e26 e27 hE
    refine e_aload_n (q := 5) (i := 0) dX12_expression_4 rfl rfl rfl ?_
    refine e_bipush (q := 7) dX12_expression_5 rfl (by decide) ?_
    refine e_Vip (q := 10) (vs := [_]) ok_X12_isWord ml_X12_255 dX12_expression_7 rfl ⟨_, _, rfl⟩ (by first | assumption | rfl) rfl rfl (Nat.le_of_ble_eq_true rfl) (by unfold Dd; omega) (c_mWord1 (by rw [e26]; exact ⟨by omega, by omega⟩) (by rw [e26]; omega)) ?_
    refine e_if_eq (q := 13) (tgt := 36) dX12_expression_10 rfl (by decide) (fun c10 => ?_) (fun c10 => by exfalso; omega)
    exact r_v dX12_expression_36 rfl (Or.inl ⟨f, p, hfr, hF, e26, e27, hE⟩)
  have lp : ∀ (n : Nat) (τ : Sg) (ts1 : List Tk) (P : List Int) (c1 : Int) (K1 : Kn) , ts1.length ≤ n → ts1.length < ts.length → EF σ τ → ES τ ts1 o c1 (fl P K1) → SyI (P ++ S) o c1 K1 → c ≤ c1 → syRun ts (1, S, o, c, K) = syRun ts1 (0, P ++ S, o, c1, K1) → (∀ s ∈ P, 1 ≤ rk s) → Xc ts1 (P ++ S) K1 → J G (Dd o c + 5) mX12_expression (pV (fun σ' => EO σ σ' 1 Xe ts S o c K)) τ 4 [some (.ref (G.2.2.2 + 82))] [] := by
    intro n
    induction n with
    | zero =>
      intro τ ts1 P c1 K1 hn hlt hF hES hI hc hE hPr hX
      obtain ⟨t, r, et⟩ := hES.2.1.ne
      subst et
      exact absurd hn (by simp)
    | succ n ih =>
      intro τ ts1 P c1 K1 hn hlt hF hES hI hc hE hPr hX
      obtain ⟨t, r, et⟩ := hES.2.1.ne
      subst et
      obtain ⟨hf, hC, e30, e31, hK⟩ := id hES
      obtain ⟨m1, m2, m3, m4⟩ := hC.hd
      have hv := m2.2.2.2.2.2.2
      obtain ⟨i1, i2, i3, i4, i5, i6⟩ := id hI
      have hgl := sg_len (P ++ S)
      simp only [List.length_cons] at hn hlt
      by_cases qop : t.1 = 11
      · have hr : rk t.1 = 1 := by rw [qop]; decide
        have hop : 11 ≤ t.1 ∧ t.1 ≤ 35 ∧ t.1 ≠ 13 ∧ t.1 ≠ 23 ∧ t.1 ≠ 24 ∧ t.1 ≠ 37 := by omega
        have hset : sySet 1 (P ++ S) K1 = (S, fl P K1) := sySet_to hPr hb
        have hrun := sy_op (t := t) (S := P ++ S) (o := o) (c := c1) (K := K1) (by omega) (by omega) (by omega)
        rw [hr, hset] at hrun
        by_cases qc : 64 ≤ c1
        · refine e_aload_n (q := 5) (i := 0) dX12_expression_4 rfl rfl rfl ?_
          refine e_bipush (q := 7) dX12_expression_5 rfl (by decide) ?_
          refine e_Vip (q := 10) (vs := [_]) ok_X12_isWord ml_X12_255 dX12_expression_7 rfl ⟨_, _, rfl⟩ (by first | assumption | rfl) rfl rfl (Nat.le_of_ble_eq_true rfl) (by unfold Dd; omega) (c_mWord (w := 11) hC hf (by decide) (by decide)) ?_
          rw [if_pos qop]
          refine e_if_eq (q := 13) (tgt := 36) dX12_expression_10 rfl (by decide) (fun c10 => by exfalso; omega) (fun c10 => ?_)
          refine e_aload_n (q := 14) (i := 0) dX12_expression_13 rfl rfl rfl ?_
          refine e_Vv (q := 17) (vs := []) ok_X12_knot ml_X12_258 dX12_expression_14 rfl ⟨_, _, rfl⟩ (by first | assumption | rfl) rfl rfl (Nat.le_of_ble_eq_true rfl) (by unfold Dd; omega) (c_mknot0 (by omega) (by omega) hf) (fun s1 h1 => ?_)
          obtain ⟨-, e1⟩ := h1.resolve_right (fun q => by have := q.1; omega)
          subst e1
          refine e_aload_n (q := 18) (i := 0) dX12_expression_17 rfl rfl rfl ?_
          refine e_Vv (q := 21) (vs := []) ok_X12_goOn ml_X12_206 dX12_expression_18 rfl ⟨_, _, rfl⟩ (by first | assumption | rfl) rfl rfl (Nat.le_of_ble_eq_true rfl) (by unfold Dd; omega) (c_mgoOn1 (by rw [wr_f]; exact ⟨by decide, by decide⟩) (by rw [wr_f]; decide)) (fun s2 h2 => ?_)
          subst h2
          refine e_aload_n (q := 22) (i := 0) dX12_expression_21 rfl rfl rfl ?_
          refine e_Vv (q := 25) (vs := []) ok_X12_conjunction ml_X12_252 dX12_expression_22 rfl ⟨_, _, rfl⟩ (by first | assumption | rfl) rfl rfl (Nat.le_of_ble_eq_true rfl) (by unfold Dd; omega) (c_mconjunction1 (by rw [wr_f]; exact ⟨by decide, by decide⟩) (by rw [wr_f]; decide)) (fun s3 h3 => ?_)
          subst h3
          refine e_aload_n (q := 26) (i := 0) dX12_expression_25 rfl rfl rfl ?_
          refine e_iconst (q := 27) dX12_expression_26 rfl ?_
          refine e_sipush (q := 30) dX12_expression_27 rfl (by decide) ?_
          refine e_Vv (q := 33) (vs := [_, _]) ok_X12_puts ml_X12_261 dX12_expression_30 rfl ⟨_, _, rfl⟩ (by first | assumption | rfl) rfl rfl (Nat.le_of_ble_eq_true rfl) (by unfold Dd; omega) (c_mputs1 (by rw [wr_f]; exact ⟨by decide, by decide⟩) (by rw [wr_f]; decide)) (fun s4 h4 => ?_)
          subst h4
          refine e_goto (tgt := 4) dX12_expression_33 (by decide) ?_
          exact lf _ 2 t.2.1 (by decide) (hF.tr wr_EF) wr_f (wr_p.trans m1) (hE.trans (syRun_f (Or.inr (by omega)) (by rw [hrun, if_pos qc])))
        refine e_aload_n (q := 5) (i := 0) dX12_expression_4 rfl rfl rfl ?_
        refine e_bipush (q := 7) dX12_expression_5 rfl (by decide) ?_
        refine e_Vip (q := 10) (vs := [_]) ok_X12_isWord ml_X12_255 dX12_expression_7 rfl ⟨_, _, rfl⟩ (by first | assumption | rfl) rfl rfl (Nat.le_of_ble_eq_true rfl) (by unfold Dd; omega) (c_mWord (w := 11) hC hf (by decide) (by decide)) ?_
        rw [if_pos qop]
        refine e_if_eq (q := 13) (tgt := 36) dX12_expression_10 rfl (by decide) (fun c10 => by exfalso; omega) (fun c10 => ?_)
        refine e_aload_n (q := 14) (i := 0) dX12_expression_13 rfl rfl rfl ?_
        refine e_Vv (q := 17) (vs := []) ok_X12_knot ml_X12_258 dX12_expression_14 rfl ⟨_, _, rfl⟩ (by first | assumption | rfl) rfl rfl (Nat.le_of_ble_eq_true rfl) (by unfold Dd; omega) (c_mknot0 (by omega) (by omega) hf) (fun s1 h1 => ?_)
        obtain ⟨-, e1⟩ := h1.resolve_left (fun q => by have := q.1; omega)
        subst e1
        refine e_aload_n (q := 18) (i := 0) dX12_expression_17 rfl rfl rfl ?_
        refine e_Vv (q := 21) (vs := []) ok_X12_goOn ml_X12_206 dX12_expression_18 rfl ⟨_, _, rfl⟩ (by first | assumption | rfl) rfl rfl (Nat.le_of_ble_eq_true rfl) (by unfold Dd; omega) (c_mgoOn0 (σ := (sI τ 82 31 (τ.1 82 31 + 1))) (hC.cg rfl (fun j a b => by rw [sI_1, if_neg (fun q => by have := q.2; omega)])) (by omega) (show τ.1 82 26 = 0 from hf)) (fun s2 h2 => ?_)
        rw [if_neg qc] at hrun
        have hI2 := (sy_I (Or.inl rfl) hI hrun).1
        have f2 : EF σ s2 := (hF.tr (EF.fm (F := [31]) ((Fm.rf _ _ τ).s82 (by decide) _) (by decide))).tr (EF.fm h2.1 (by decide))
        have hgo : syRun ts (1, S, o, c, K) = syRun r (1, t.1 :: S, o, c1 + 1, fl P K1) := hE.trans (syRun_s (Or.inr (by omega)) hrun)
        have hES2 : ES s2 r o (c1 + 1) (fl P K1) := ⟨by rw [h2.1.2 26 (by decide)]; exact hf, h2.2, by rw [h2.1.2 30 (by decide)]; exact e30, by rw [h2.1.2 31 (by decide), sI_1, if_pos ⟨rfl, rfl⟩, e31], hK.cg (by rw [h2.1.c (a := 84) (by decide)]; rfl) (h2.1.c (by decide)) (h2.1.c (by decide))⟩
        refine e_aload_n (q := 22) (i := 0) dX12_expression_21 rfl rfl rfl ?_
        refine e_Vv (q := 25) (vs := []) ok_X12_conjunction ml_X12_252 dX12_expression_22 rfl ⟨_, _, rfl⟩ (by first | assumption | rfl) rfl rfl (Nat.le_of_ble_eq_true rfl) (by unfold Dd; omega) (hP s2 r (t.1 :: S) o (c1 + 1) (fl P K1) (by omega) hES2 hI2 (by show rk t.1 < 2; omega) (fun _ => Or.inl (by decide))) (fun s3 h3 => ?_)
        rcases h3 with ⟨f, p, hfr, g1, g2, g3, g4⟩ | ⟨ts2, P2, c2, K2, g1, g2, g7, gc, g8, g9, g10, g11⟩
        · refine e_aload_n (q := 26) (i := 0) dX12_expression_25 rfl rfl rfl ?_
          refine e_iconst (q := 27) dX12_expression_26 rfl ?_
          refine e_sipush (q := 30) dX12_expression_27 rfl (by decide) ?_
          refine e_Vv (q := 33) (vs := [_, _]) ok_X12_puts ml_X12_261 dX12_expression_30 rfl ⟨_, _, rfl⟩ (by first | assumption | rfl) rfl rfl (Nat.le_of_ble_eq_true rfl) (by unfold Dd; omega) (c_mputs1 (by rw [g2]; exact ⟨by omega, by omega⟩) (by rw [g2]; omega)) (fun s4 h4 => ?_)
          subst h4
          refine e_goto (tgt := 4) dX12_expression_33 (by decide) ?_
          exact lf _ f p hfr (f2.tr g1) g2 g3 (hgo.trans g4)
        have hlm := ES_lim (l := 2) (by decide) g2 g9 (by omega) g7
        refine e_aload_n (q := 26) (i := 0) dX12_expression_25 rfl rfl rfl ?_
        refine e_iconst (q := 27) dX12_expression_26 rfl ?_
        refine e_sipush (q := 30) dX12_expression_27 rfl (by decide) ?_
        refine e_Vv (q := 33) (vs := [_, _]) ok_X12_puts ml_X12_261 dX12_expression_30 rfl ⟨_, _, rfl⟩ (by first | assumption | rfl) rfl rfl (Nat.le_of_ble_eq_true rfl) (by unfold Dd; omega) (c_mputs0 hlm.1 hlm.2 g2.1) (fun s4 h4 => ?_)
        have h4 : s4 = ptS s3 2 262 := h4
        subst h4
        refine e_goto (tgt := 4) dX12_expression_33 (by decide) ?_
        refine ih _ ts2 (P2 ++ [t.1]) c2 K2 (by omega) (by omega) ((f2.tr g1).tr (EF.pt hlm.1)) (ES_put (S := S) (l := 1) g2 (Or.inr (by unfold isBin; decide)) (by rw [qop]; decide)) ?_ (by omega) ?_ ?_ ?_
        · rw [List.append_assoc]; exact g7
        · rw [List.append_assoc]; exact hgo.trans g8
        · intro s hs
          rcases List.mem_append.mp hs with q | q
          · have := g9 s q; omega
          · rw [List.mem_singleton.mp q]; omega
        · rw [List.append_assoc]; exact g11
      refine e_aload_n (q := 5) (i := 0) dX12_expression_4 rfl rfl rfl ?_
      refine e_bipush (q := 7) dX12_expression_5 rfl (by decide) ?_
      refine e_Vip (q := 10) (vs := [_]) ok_X12_isWord ml_X12_255 dX12_expression_7 rfl ⟨_, _, rfl⟩ (by first | assumption | rfl) rfl rfl (Nat.le_of_ble_eq_true rfl) (by unfold Dd; omega) (c_mWord (w := 11) hC hf (by decide) (by decide)) ?_
      rw [if_neg qop]
      refine e_if_eq (q := 13) (tgt := 36) dX12_expression_10 rfl (by decide) (fun c10 => ?_) (fun c10 => by exfalso; omega)
      exact r_v dX12_expression_36 rfl (Or.inr ⟨t :: r, P, c1, K1, hF, hES, hI, hc, hE, hPr, by simp only [List.length_cons]; omega, ⟨hX, fun q => qop q⟩⟩)
  refine e_entry om_X12_expression (Nat.le_of_ble_eq_true rfl) (L := [some (.ref (G.2.2.2 + 82))]) rfl ?_
  refine e_aload_n (q := 1) (i := 0) dX12_expression_0 rfl rfl rfl ?_
  refine e_Vv (q := 4) (vs := []) ok_X12_conjunction ml_X12_252 dX12_expression_1 rfl ⟨_, _, rfl⟩ (by first | assumption | rfl) rfl rfl (Nat.le_of_ble_eq_true rfl) (by unfold Dd; omega) (hP σ ts S o c K hN hES0 hI0 (by omega) (fun _ => Or.inl (by decide))) (fun s1 h1 => ?_)
  rcases h1 with ⟨f, p, hfr, g1, g2, g3, g4⟩ | ⟨ts2, P2, c2, K2, g1, g2, g7, gc, g8, g9, g10, g11⟩
  · exact lf _ f p hfr g1 g2 g3 g4
  · exact lp ts2.length s1 ts2 P2 c2 K2 (Nat.le_refl _) g10 g1 g2 g7 gc g8 (fun s hs => by have := g9 s hs; omega) g11

set_option maxHeartbeats 16000000 in
theorem neg_of {G : Gx} {N : Nat} (hS : LvC G mX12_sum (N + 1) 2 5 5 Xs) (hN : LvC G mX12_negation N 3 3 4 Xn) : LvC G mX12_negation (N + 1) 3 3 4 Xn := by
  intro σ ts S o c K hlen hES0 hI hb hp13
  obtain ⟨t, r, et⟩ := hES0.2.1.ne
  subst et
  obtain ⟨hf, hC, e30, e31, hK⟩ := id hES0
  obtain ⟨m1, m2, m3, m4⟩ := hC.hd
  obtain ⟨i1, i2, i3, i4, i5, i6⟩ := id hI
  have hgl := sg_len S
  have hlen2 : r.length + 1 ≤ N + 1 := hlen
  refine e_entry om_X12_negation (Nat.le_of_ble_eq_true rfl) (L := [some (.ref (G.2.2.2 + 82)), none]) rfl ?_
  by_cases q13 : t.1 = 13
  · by_cases qc : 64 ≤ c
    · refine e_aload_n (q := 1) (i := 0) dX12_negation_0 rfl rfl rfl ?_
      refine e_bipush (q := 3) dX12_negation_1 rfl (by decide) ?_
      refine e_Vip (q := 6) (vs := [_]) ok_X12_isWord ml_X12_255 dX12_negation_3 rfl ⟨_, _, rfl⟩ (by first | assumption | rfl) rfl rfl (Nat.le_of_ble_eq_true rfl) (by unfold Dd; omega) (c_mWord (w := 13) hC hf (by decide) (by decide)) ?_
      rw [if_pos q13]
      refine e_if_eq (q := 9) (tgt := 30) dX12_negation_6 rfl (by decide) (fun c6 => by exfalso; omega) (fun c6 => ?_)
      refine e_aload_n (q := 10) (i := 0) dX12_negation_9 rfl rfl rfl ?_
      refine e_Vv (q := 13) (vs := []) ok_X12_knot ml_X12_258 dX12_negation_10 rfl ⟨_, _, rfl⟩ (by first | assumption | rfl) rfl rfl (Nat.le_of_ble_eq_true rfl) (by unfold Dd; omega) (c_mknot0 (by omega) (by omega) hf) (fun s1 h1 => ?_)
      obtain ⟨-, e1⟩ := h1.resolve_right (fun q => by have := q.1; omega)
      subst e1
      refine e_aload_n (q := 14) (i := 0) dX12_negation_13 rfl rfl rfl ?_
      refine e_Vv (q := 17) (vs := []) ok_X12_goOn ml_X12_206 dX12_negation_14 rfl ⟨_, _, rfl⟩ (by first | assumption | rfl) rfl rfl (Nat.le_of_ble_eq_true rfl) (by unfold Dd; omega) (c_mgoOn1 (by rw [wr_f]; exact ⟨by decide, by decide⟩) (by rw [wr_f]; decide)) (fun s2 h2 => ?_)
      subst h2
      refine e_aload_n (q := 18) (i := 0) dX12_negation_17 rfl rfl rfl ?_
      refine e_Vv (q := 21) (vs := []) ok_X12_negation ml_X12_264 dX12_negation_18 rfl ⟨_, _, rfl⟩ (by first | assumption | rfl) rfl rfl (Nat.le_of_ble_eq_true rfl) (by unfold Dd; omega) (c_mnegation1 (by rw [wr_f]; exact ⟨by decide, by decide⟩) (by rw [wr_f]; decide)) (fun s3 h3 => ?_)
      subst h3
      refine e_aload_n (q := 22) (i := 0) dX12_negation_21 rfl rfl rfl ?_
      refine e_iconst (q := 23) dX12_negation_22 rfl ?_
      refine e_sipush (q := 26) dX12_negation_23 rfl (by decide) ?_
      refine e_Vv (q := 29) (vs := [_, _]) ok_X12_puts ml_X12_261 dX12_negation_26 rfl ⟨_, _, rfl⟩ (by first | assumption | rfl) rfl rfl (Nat.le_of_ble_eq_true rfl) (by unfold Dd; omega) (c_mputs1 (by rw [wr_f]; exact ⟨by decide, by decide⟩) (by rw [wr_f]; decide)) (fun s4 h4 => ?_)
      subst h4
      exact r_v dX12_negation_29 rfl (EO_wr (t := t) (by decide) (EF.rf _) m1 (syRun_f (Or.inl rfl) (by rw [sy_not q13, if_neg (by omega), if_pos qc])))
    refine e_aload_n (q := 1) (i := 0) dX12_negation_0 rfl rfl rfl ?_
    refine e_bipush (q := 3) dX12_negation_1 rfl (by decide) ?_
    refine e_Vip (q := 6) (vs := [_]) ok_X12_isWord ml_X12_255 dX12_negation_3 rfl ⟨_, _, rfl⟩ (by first | assumption | rfl) rfl rfl (Nat.le_of_ble_eq_true rfl) (by unfold Dd; omega) (c_mWord (w := 13) hC hf (by decide) (by decide)) ?_
    rw [if_pos q13]
    refine e_if_eq (q := 9) (tgt := 30) dX12_negation_6 rfl (by decide) (fun c6 => by exfalso; omega) (fun c6 => ?_)
    refine e_aload_n (q := 10) (i := 0) dX12_negation_9 rfl rfl rfl ?_
    refine e_Vv (q := 13) (vs := []) ok_X12_knot ml_X12_258 dX12_negation_10 rfl ⟨_, _, rfl⟩ (by first | assumption | rfl) rfl rfl (Nat.le_of_ble_eq_true rfl) (by unfold Dd; omega) (c_mknot0 (by omega) (by omega) hf) (fun s1 h1 => ?_)
    obtain ⟨-, e1⟩ := h1.resolve_left (fun q => by have := q.1; omega)
    subst e1
    refine e_aload_n (q := 14) (i := 0) dX12_negation_13 rfl rfl rfl ?_
    refine e_Vv (q := 17) (vs := []) ok_X12_goOn ml_X12_206 dX12_negation_14 rfl ⟨_, _, rfl⟩ (by first | assumption | rfl) rfl rfl (Nat.le_of_ble_eq_true rfl) (by unfold Dd; omega) (c_mgoOn0 (σ := (sI σ 82 31 (σ.1 82 31 + 1))) (hC.cg rfl (fun j a b => by rw [sI_1, if_neg (fun q => by have := q.2; omega)])) (by omega) (show σ.1 82 26 = 0 from hf)) (fun s2 h2 => ?_)
    have hrun : sy1 t (1, S, o, c, K) = .inr (1, 13 :: S, o, c + 1, K) := by rw [sy_not q13, if_neg (by omega), if_neg qc]
    have hI2 := (sy_I (Or.inr rfl) hI hrun).1
    have f2 : EF σ s2 := ((EF.rf σ).tr (EF.fm (F := [31]) ((Fm.rf _ _ σ).s82 (by decide) _) (by decide))).tr (EF.fm h2.1 (by decide))
    have hgo : syRun (t :: r) (1, S, o, c, K) = syRun r (1, 13 :: S, o, c + 1, K) := syRun_s (Or.inl rfl) hrun
    have hES2 : ES s2 r o (c + 1) K := ⟨by rw [h2.1.2 26 (by decide)]; exact hf, h2.2, by rw [h2.1.2 30 (by decide)]; exact e30, by rw [h2.1.2 31 (by decide), sI_1, if_pos ⟨rfl, rfl⟩, e31], hK.cg (by rw [h2.1.c (a := 84) (by decide)]; rfl) (h2.1.c (by decide)) (h2.1.c (by decide))⟩
    refine e_aload_n (q := 18) (i := 0) dX12_negation_17 rfl rfl rfl ?_
    refine e_Vv (q := 21) (vs := []) ok_X12_negation ml_X12_264 dX12_negation_18 rfl ⟨_, _, rfl⟩ (by first | assumption | rfl) rfl rfl (Nat.le_of_ble_eq_true rfl) (by unfold Dd; omega) (hN s2 r (13 :: S) o (c + 1) K (by omega) hES2 hI2 (by show rk 13 < 4; decide) (fun _ => Or.inl (by decide))) (fun s3 h3 => ?_)
    rcases h3 with ⟨f, p, hfr, g1, g2, g3, g4⟩ | ⟨ts2, P2, c2, K2, g1, g2, g7, gc, g8, g9, g10, g11⟩
    · refine e_aload_n (q := 22) (i := 0) dX12_negation_21 rfl rfl rfl ?_
      refine e_iconst (q := 23) dX12_negation_22 rfl ?_
      refine e_sipush (q := 26) dX12_negation_23 rfl (by decide) ?_
      refine e_Vv (q := 29) (vs := [_, _]) ok_X12_puts ml_X12_261 dX12_negation_26 rfl ⟨_, _, rfl⟩ (by first | assumption | rfl) rfl rfl (Nat.le_of_ble_eq_true rfl) (by unfold Dd; omega) (c_mputs1 (by rw [g2]; exact ⟨by omega, by omega⟩) (by rw [g2]; omega)) (fun s4 h4 => ?_)
      subst h4
      exact r_v dX12_negation_29 rfl (Or.inl ⟨f, p, hfr, f2.tr g1, g2, g3, hgo.trans g4⟩)
    have hlm := ES_lim (l := 3) (by decide) g2 g9 (by decide) g7
    refine e_aload_n (q := 22) (i := 0) dX12_negation_21 rfl rfl rfl ?_
    refine e_iconst (q := 23) dX12_negation_22 rfl ?_
    refine e_sipush (q := 26) dX12_negation_23 rfl (by decide) ?_
    refine e_Vv (q := 29) (vs := [_, _]) ok_X12_puts ml_X12_261 dX12_negation_26 rfl ⟨_, _, rfl⟩ (by first | assumption | rfl) rfl rfl (Nat.le_of_ble_eq_true rfl) (by unfold Dd; omega) (c_mputs0 hlm.1 hlm.2 g2.1) (fun s4 h4 => ?_)
    have h4 : s4 = ptS s3 2 260 := h4
    subst h4
    refine r_v dX12_negation_29 rfl (Or.inr ⟨ts2, P2 ++ [13], c2, K2, (f2.tr g1).tr (EF.pt hlm.1), ES_put (S := S) (l := 3) g2 (Or.inl rfl) (by decide), by rw [List.append_assoc]; exact g7, by omega, by rw [List.append_assoc]; exact hgo.trans g8, ?_, by simp only [List.length_cons] at *; omega, ?_⟩)
    · intro x hx
      rcases List.mem_append.mp hx with q | q
      · have := g9 x q; omega
      · rw [List.mem_singleton.mp q]; decide
    · rw [List.append_assoc]; exact g11
  refine e_aload_n (q := 1) (i := 0) dX12_negation_0 rfl rfl rfl ?_
  refine e_bipush (q := 3) dX12_negation_1 rfl (by decide) ?_
  refine e_Vip (q := 6) (vs := [_]) ok_X12_isWord ml_X12_255 dX12_negation_3 rfl ⟨_, _, rfl⟩ (by first | assumption | rfl) rfl rfl (Nat.le_of_ble_eq_true rfl) (by unfold Dd; omega) (c_mWord (w := 13) hC hf (by decide) (by decide)) ?_
  rw [if_neg q13]
  refine e_if_eq (q := 9) (tgt := 30) dX12_negation_6 rfl (by decide) (fun c6 => ?_) (fun c6 => by exfalso; omega)
  refine e_aload_n (q := 31) (i := 0) dX12_negation_30 rfl rfl rfl ?_
  refine e_Vv (q := 34) (vs := []) ok_X12_sum ml_X12_267 dX12_negation_31 rfl ⟨_, _, rfl⟩ (by first | assumption | rfl) rfl rfl (Nat.le_of_ble_eq_true rfl) (by unfold Dd; omega) (hS σ (t :: r) S o c K hlen hES0 hI (by omega) (fun q => absurd q q13)) (fun s1 h1 => ?_)
  rcases h1 with ⟨f, p, hfr, g1, g2, g3, g4⟩ | ⟨ts1, P, c1, K1, hF, hES1, hI1, hc1, hE1, hPr, hlt1, hX1⟩
  · refine e_aload_n (q := 35) (i := 0) dX12_negation_34 rfl rfl rfl ?_
    refine e_getI (q := 38) (jz := 26) dX12_negation_35 rfl fg_X12_190 rfl (by first | assumption | rfl) rfl ?_
    rw [g2]
    refine e_if_ne (q := 41) (tgt := 86) dX12_negation_38 rfl (by decide) (fun c38 => ?_) (fun c38 => by exfalso; omega) (hx := ⟨by omega, by omega⟩)
    exact r_v dX12_negation_86 rfl (Or.inl ⟨f, p, hfr, g1, g2, g3, g4⟩)
  obtain ⟨t1, r1, et1⟩ := hES1.2.1.ne
  subst et1
  obtain ⟨hf1, hC1, d30, d31, hK1⟩ := id hES1
  obtain ⟨n1, n2, n3, n4⟩ := hC1.hd
  have nv := n2.2.2.2.2.2.2
  have ns := n2.s n3.1 n3.2
  have nk := n2.k n3.1 n3.2
  obtain ⟨y1, y2, y3, y4, y5, y6⟩ := id hI1
  have hgl1 := sg_len (P ++ S)
  simp only [List.length_cons] at hlt1
  have hcv : 23 ≤ t1.1 → t1.1 ≤ 35 → (30 ≤ t1.1 ∧ (s1.1 82 25 = 60 ∨ s1.1 82 25 = 62 ∨ s1.1 82 25 = 61 ∨ 256 ≤ s1.1 82 25)) ∨ (t1.1 < 30 ∧ s1.1 82 25 ≠ 60 ∧ s1.1 82 25 ≠ 62 ∧ s1.1 82 25 ≠ 61 ∧ s1.1 82 25 < 256) := fun a b => by
    rw [(n2.2.2.2.1 a b).2]
    have hh : ∀ k : Nat, k < 36 → 23 ≤ k → (30 ≤ k ∧ (sgC (k : Int) = 60 ∨ sgC (k : Int) = 62 ∨ sgC (k : Int) = 61 ∨ 256 ≤ sgC (k : Int))) ∨ (k < 30 ∧ sgC (k : Int) ≠ 60 ∧ sgC (k : Int) ≠ 62 ∧ sgC (k : Int) ≠ 61 ∧ sgC (k : Int) < 256) := by decide +kernel
    have := hh t1.1.toNat (by omega) (by omega)
    rw [show ((t1.1.toNat : Nat) : Int) = t1.1 by omega] at this
    omega
  by_cases qop : 30 ≤ t1.1 ∧ t1.1 ≤ 35
  · have hcv := hcv (by omega) (by omega)
    have hs3 := nk.2.2.2.1.2 ⟨by omega, by omega⟩
    have hr : rk t1.1 = 4 := by unfold rk; rw [if_neg (by omega), if_neg (by omega), if_neg (by omega), if_neg (by omega), if_neg (by omega), if_pos qop]
    have hset : sySet 5 (P ++ S) K1 = (S, fl P K1) := sySet_to hPr (by omega)
    have hrun := sy_cmp (t := t1) (S := P ++ S) (o := o) (c := c1) (K := K1) hr
    rw [hset, if_neg (show ¬ syTr (S, fl P K1).1 = 4 from by show ¬ syTr S = 4; omega)] at hrun
    have hvv := (n2.2.2.2.1 (by omega) (by omega)).2
    have hbin := sgC_opz (t := t1.1) (by omega) (by omega)
    by_cases qc1 : 64 ≤ c1
    · have tB : J G (Dd o c + 3) mX12_negation (pV (fun σ' => EO σ σ' 3 Xn (t :: r) S o c K)) s1 87 [some (.ref (G.2.2.2 + 82)), none] [] := by
          refine e_aload_n (q := 88) (i := 0) dX12_negation_87 rfl rfl rfl ?_
          refine e_getI (q := 91) (jz := 25) dX12_negation_88 rfl fg_X12_165 rfl (by first | assumption | rfl) rfl ?_
          refine e_istore_n (q := 92) (i := 1) (L' := [_, _]) dX12_negation_91 rfl rfl (by decide) rfl rfl ?_
          refine e_aload_n (q := 93) (i := 0) dX12_negation_92 rfl rfl rfl ?_
          refine e_Vv (q := 96) (vs := []) ok_X12_knot ml_X12_258 dX12_negation_93 rfl ⟨_, _, rfl⟩ (by first | assumption | rfl) rfl rfl (Nat.le_of_ble_eq_true rfl) (by unfold Dd; omega) (c_mknot0 (by omega) (by omega) hf1) (fun s5 h5 => ?_)
          obtain ⟨-, e5⟩ := h5.resolve_right (fun q => by have := q.1; omega)
          subst e5
          refine e_aload_n (q := 97) (i := 0) dX12_negation_96 rfl rfl rfl ?_
          refine e_Vv (q := 100) (vs := []) ok_X12_goOn ml_X12_206 dX12_negation_97 rfl ⟨_, _, rfl⟩ (by first | assumption | rfl) rfl rfl (Nat.le_of_ble_eq_true rfl) (by unfold Dd; omega) (c_mgoOn1 (by rw [wr_f]; exact ⟨by decide, by decide⟩) (by rw [wr_f]; decide)) (fun s6 h6 => ?_)
          subst h6
          refine e_aload_n (q := 101) (i := 0) dX12_negation_100 rfl rfl rfl ?_
          refine e_Vv (q := 104) (vs := []) ok_X12_sum ml_X12_267 dX12_negation_101 rfl ⟨_, _, rfl⟩ (by first | assumption | rfl) rfl rfl (Nat.le_of_ble_eq_true rfl) (by unfold Dd; omega) (c_msum1 (by rw [wr_f]; exact ⟨by decide, by decide⟩) (by rw [wr_f]; decide)) (fun s7 h7 => ?_)
          subst h7
          refine e_aload_n (q := 105) (i := 0) dX12_negation_104 rfl rfl rfl ?_
          refine e_iconst (q := 106) dX12_negation_105 rfl ?_
          refine e_iload_n (q := 107) (i := 1) dX12_negation_106 rfl rfl rfl ?_
          refine e_Vv (q := 110) (vs := [_, _]) ok_X12_puts ml_X12_261 dX12_negation_107 rfl ⟨_, _, rfl⟩ (by first | assumption | rfl) rfl rfl (Nat.le_of_ble_eq_true rfl) (by unfold Dd; omega) (c_mputs1 (by rw [wr_f]; exact ⟨by decide, by decide⟩) (by rw [wr_f]; decide)) (fun s8 h8 => ?_)
          subst h8
          exact r_v dX12_negation_110 rfl (EO_wr (t := t1) (by decide) hF n1 (hE1.trans (syRun_f (Or.inr (by omega)) (by rw [hrun, if_pos qc1]))))
      refine e_aload_n (q := 35) (i := 0) dX12_negation_34 rfl rfl rfl ?_
      refine e_getI (q := 38) (jz := 26) dX12_negation_35 rfl fg_X12_190 rfl (by first | assumption | rfl) rfl ?_
      rw [hf1]
      refine e_if_ne (q := 41) (tgt := 86) dX12_negation_38 rfl (by decide) (fun c38 => by exfalso; omega) (fun c38 => ?_)
      refine e_aload_n (q := 42) (i := 0) dX12_negation_41 rfl rfl rfl ?_
      refine e_getI (q := 45) (jz := 24) dX12_negation_42 rfl fg_X12_155 rfl (by first | assumption | rfl) rfl ?_
      refine e_iconst (q := 46) dX12_negation_45 rfl ?_
      refine e_icmp_ne (q := 49) (tgt := 86) dX12_negation_46 rfl (by decide) (fun c46 => by exfalso; omega) (fun c46 => ?_) (hx := ⟨by omega, by omega⟩)
      refine e_aload_n (q := 50) (i := 0) dX12_negation_49 rfl rfl rfl ?_
      refine e_getI (q := 53) (jz := 25) dX12_negation_50 rfl fg_X12_165 rfl (by first | assumption | rfl) rfl ?_
      refine e_bipush (q := 55) dX12_negation_53 rfl (by decide) ?_
      refine e_icmp_eq (q := 58) (tgt := 87) dX12_negation_55 rfl (by decide) (fun c55 => ?_) (fun c55 => ?_) (hx := nv)
      · exact tB
      · refine e_aload_n (q := 59) (i := 0) dX12_negation_58 rfl rfl rfl ?_
        refine e_getI (q := 62) (jz := 25) dX12_negation_59 rfl fg_X12_165 rfl (by first | assumption | rfl) rfl ?_
        refine e_bipush (q := 64) dX12_negation_62 rfl (by decide) ?_
        refine e_icmp_eq (q := 67) (tgt := 87) dX12_negation_64 rfl (by decide) (fun c64 => ?_) (fun c64 => ?_) (hx := nv)
        · exact tB
        · refine e_aload_n (q := 68) (i := 0) dX12_negation_67 rfl rfl rfl ?_
          refine e_getI (q := 71) (jz := 25) dX12_negation_68 rfl fg_X12_165 rfl (by first | assumption | rfl) rfl ?_
          refine e_bipush (q := 73) dX12_negation_71 rfl (by decide) ?_
          refine e_icmp_eq (q := 76) (tgt := 87) dX12_negation_73 rfl (by decide) (fun c73 => ?_) (fun c73 => ?_) (hx := nv)
          · exact tB
          · refine e_aload_n (q := 77) (i := 0) dX12_negation_76 rfl rfl rfl ?_
            refine e_getI (q := 80) (jz := 25) dX12_negation_77 rfl fg_X12_165 rfl (by first | assumption | rfl) rfl ?_
            refine e_sipush (q := 83) dX12_negation_80 rfl (by decide) ?_
            refine e_icmp_ge (q := 86) (tgt := 87) dX12_negation_83 rfl (by decide) (fun c83 => ?_) (fun c83 => by exfalso; omega) (hx := nv)
            exact tB
    have tC : J G (Dd o c + 3) mX12_negation (pV (fun σ' => EO σ σ' 3 Xn (t :: r) S o c K)) s1 87 [some (.ref (G.2.2.2 + 82)), none] [] := by
      refine e_aload_n (q := 88) (i := 0) dX12_negation_87 rfl rfl rfl ?_
      refine e_getI (q := 91) (jz := 25) dX12_negation_88 rfl fg_X12_165 rfl (by first | assumption | rfl) rfl ?_
      rw [hvv]
      refine e_istore_n (q := 92) (i := 1) (L' := [_, _]) dX12_negation_91 rfl rfl (by decide) rfl rfl ?_
      refine e_aload_n (q := 93) (i := 0) dX12_negation_92 rfl rfl rfl ?_
      refine e_Vv (q := 96) (vs := []) ok_X12_knot ml_X12_258 dX12_negation_93 rfl ⟨_, _, rfl⟩ (by first | assumption | rfl) rfl rfl (Nat.le_of_ble_eq_true rfl) (by unfold Dd; omega) (c_mknot0 (by omega) (by omega) hf1) (fun s5 h5 => ?_)
      obtain ⟨-, e5⟩ := h5.resolve_left (fun q => by have := q.1; omega)
      subst e5
      refine e_aload_n (q := 97) (i := 0) dX12_negation_96 rfl rfl rfl ?_
      refine e_Vv (q := 100) (vs := []) ok_X12_goOn ml_X12_206 dX12_negation_97 rfl ⟨_, _, rfl⟩ (by first | assumption | rfl) rfl rfl (Nat.le_of_ble_eq_true rfl) (by unfold Dd; omega) (c_mgoOn0 (σ := (sI s1 82 31 (s1.1 82 31 + 1))) (hC1.cg rfl (fun j a b => by rw [sI_1, if_neg (fun q => by have := q.2; omega)])) (by omega) (show s1.1 82 26 = 0 from hf1)) (fun s2 h2 => ?_)
      rw [if_neg qc1] at hrun
      have hI2 := (sy_I (Or.inl rfl) hI1 hrun).1
      have f2 : EF σ s2 := (hF.tr (EF.fm (F := [31]) ((Fm.rf _ _ s1).s82 (by decide) _) (by decide))).tr (EF.fm h2.1 (by decide))
      have hgo : syRun (t :: r) (1, S, o, c, K) = syRun r1 (1, t1.1 :: S, o, c1 + 1, fl P K1) := hE1.trans (syRun_s (Or.inr (by omega)) hrun)
      have hES2 : ES s2 r1 o (c1 + 1) (fl P K1) := ⟨by rw [h2.1.2 26 (by decide)]; exact hf1, h2.2, by rw [h2.1.2 30 (by decide)]; exact d30, by rw [h2.1.2 31 (by decide), sI_1, if_pos ⟨rfl, rfl⟩, d31], hK1.cg (by rw [h2.1.c (a := 84) (by decide)]; rfl) (h2.1.c (by decide)) (h2.1.c (by decide))⟩
      refine e_aload_n (q := 101) (i := 0) dX12_negation_100 rfl rfl rfl ?_
      refine e_Vv (q := 104) (vs := []) ok_X12_sum ml_X12_267 dX12_negation_101 rfl ⟨_, _, rfl⟩ (by first | assumption | rfl) rfl rfl (Nat.le_of_ble_eq_true rfl) (by unfold Dd; omega) (hS s2 r1 (t1.1 :: S) o (c1 + 1) (fl P K1) (by omega) hES2 hI2 (by show rk t1.1 < 5; omega) (fun _ => Or.inr (by show 3 < rk t1.1; omega))) (fun s3 h3 => ?_)
      rcases h3 with ⟨f, p, hfr, g1, g2, g3, g4⟩ | ⟨ts2, P2, c2, K2, g1, g2, g7, gc, g8, g9, g10, g11⟩
      · refine e_aload_n (q := 105) (i := 0) dX12_negation_104 rfl rfl rfl ?_
        refine e_iconst (q := 106) dX12_negation_105 rfl ?_
        refine e_iload_n (q := 107) (i := 1) dX12_negation_106 rfl rfl rfl ?_
        refine e_Vv (q := 110) (vs := [_, _]) ok_X12_puts ml_X12_261 dX12_negation_107 rfl ⟨_, _, rfl⟩ (by first | assumption | rfl) rfl rfl (Nat.le_of_ble_eq_true rfl) (by unfold Dd; omega) (c_mputs1 (by rw [g2]; exact ⟨by omega, by omega⟩) (by rw [g2]; omega)) (fun s4 h4 => ?_)
        subst h4
        exact r_v dX12_negation_110 rfl (Or.inl ⟨f, p, hfr, f2.tr g1, g2, g3, hgo.trans g4⟩)
      have hlm := ES_lim (l := 5) (by decide) g2 g9 (by omega) g7
      refine e_aload_n (q := 105) (i := 0) dX12_negation_104 rfl rfl rfl ?_
      refine e_iconst (q := 106) dX12_negation_105 rfl ?_
      refine e_iload_n (q := 107) (i := 1) dX12_negation_106 rfl rfl rfl ?_
      refine e_Vv (q := 110) (vs := [_, _]) ok_X12_puts ml_X12_261 dX12_negation_107 rfl ⟨_, _, rfl⟩ (by first | assumption | rfl) rfl rfl (Nat.le_of_ble_eq_true rfl) (by unfold Dd; omega) (c_mputs0 hlm.1 hlm.2 g2.1) (fun s4 h4 => ?_)
      have h4 : s4 = ptS s3 2 (sgC t1.1) := h4
      subst h4
      refine r_v dX12_negation_110 rfl (Or.inr ⟨ts2, P2 ++ [t1.1], c2, K2, (f2.tr g1).tr (EF.pt hlm.1), ES_put (S := S) (l := 3) g2 (Or.inr hbin.1) hbin.2, by rw [List.append_assoc]; exact g7, by omega, by rw [List.append_assoc]; exact hgo.trans g8, ?_, by simp only [List.length_cons] at *; omega, ?_⟩)
      · intro x hx
        rcases List.mem_append.mp hx with q | q
        · have := g9 x q; omega
        · rw [List.mem_singleton.mp q]; omega
      · rw [List.append_assoc]; exact ⟨g11, fun _ _ => by rw [show P2 ++ ([t1.1] ++ S) = P2 ++ t1.1 :: S from rfl, sySet_to g9 (show syTr (t1.1 :: S) < 5 by show rk t1.1 < 5; omega)]; exact hr⟩
    refine e_aload_n (q := 35) (i := 0) dX12_negation_34 rfl rfl rfl ?_
    refine e_getI (q := 38) (jz := 26) dX12_negation_35 rfl fg_X12_190 rfl (by first | assumption | rfl) rfl ?_
    rw [hf1]
    refine e_if_ne (q := 41) (tgt := 86) dX12_negation_38 rfl (by decide) (fun c38 => by exfalso; omega) (fun c38 => ?_)
    refine e_aload_n (q := 42) (i := 0) dX12_negation_41 rfl rfl rfl ?_
    refine e_getI (q := 45) (jz := 24) dX12_negation_42 rfl fg_X12_155 rfl (by first | assumption | rfl) rfl ?_
    refine e_iconst (q := 46) dX12_negation_45 rfl ?_
    refine e_icmp_ne (q := 49) (tgt := 86) dX12_negation_46 rfl (by decide) (fun c46 => by exfalso; omega) (fun c46 => ?_) (hx := ⟨by omega, by omega⟩)
    refine e_aload_n (q := 50) (i := 0) dX12_negation_49 rfl rfl rfl ?_
    refine e_getI (q := 53) (jz := 25) dX12_negation_50 rfl fg_X12_165 rfl (by first | assumption | rfl) rfl ?_
    refine e_bipush (q := 55) dX12_negation_53 rfl (by decide) ?_
    refine e_icmp_eq (q := 58) (tgt := 87) dX12_negation_55 rfl (by decide) (fun c55 => ?_) (fun c55 => ?_) (hx := nv)
    · exact tC
    · refine e_aload_n (q := 59) (i := 0) dX12_negation_58 rfl rfl rfl ?_
      refine e_getI (q := 62) (jz := 25) dX12_negation_59 rfl fg_X12_165 rfl (by first | assumption | rfl) rfl ?_
      refine e_bipush (q := 64) dX12_negation_62 rfl (by decide) ?_
      refine e_icmp_eq (q := 67) (tgt := 87) dX12_negation_64 rfl (by decide) (fun c64 => ?_) (fun c64 => ?_) (hx := nv)
      · exact tC
      · refine e_aload_n (q := 68) (i := 0) dX12_negation_67 rfl rfl rfl ?_
        refine e_getI (q := 71) (jz := 25) dX12_negation_68 rfl fg_X12_165 rfl (by first | assumption | rfl) rfl ?_
        refine e_bipush (q := 73) dX12_negation_71 rfl (by decide) ?_
        refine e_icmp_eq (q := 76) (tgt := 87) dX12_negation_73 rfl (by decide) (fun c73 => ?_) (fun c73 => ?_) (hx := nv)
        · exact tC
        · refine e_aload_n (q := 77) (i := 0) dX12_negation_76 rfl rfl rfl ?_
          refine e_getI (q := 80) (jz := 25) dX12_negation_77 rfl fg_X12_165 rfl (by first | assumption | rfl) rfl ?_
          refine e_sipush (q := 83) dX12_negation_80 rfl (by decide) ?_
          refine e_icmp_ge (q := 86) (tgt := 87) dX12_negation_83 rfl (by decide) (fun c83 => ?_) (fun c83 => by exfalso; omega) (hx := nv)
          exact tC
  refine e_aload_n (q := 35) (i := 0) dX12_negation_34 rfl rfl rfl ?_
  refine e_getI (q := 38) (jz := 26) dX12_negation_35 rfl fg_X12_190 rfl (by first | assumption | rfl) rfl ?_
  rw [hf1]
  refine e_if_ne (q := 41) (tgt := 86) dX12_negation_38 rfl (by decide) (fun c38 => by exfalso; omega) (fun c38 => ?_)
  refine e_aload_n (q := 42) (i := 0) dX12_negation_41 rfl rfl rfl ?_
  refine e_getI (q := 45) (jz := 24) dX12_negation_42 rfl fg_X12_155 rfl (by first | assumption | rfl) rfl ?_
  refine e_iconst (q := 46) dX12_negation_45 rfl ?_
  refine e_icmp_ne (q := 49) (tgt := 86) dX12_negation_46 rfl (by decide) (fun c46 => ?_) (fun c46 => ?_) (hx := ⟨by omega, by omega⟩)
  · exact r_v dX12_negation_86 rfl (Or.inr ⟨t1 :: r1, P, c1, K1, hF, hES1, hI1, hc1, hE1, fun s hs => by have := hPr s hs; omega, by simp only [List.length_cons]; omega, hX1, fun a b => absurd ⟨a, b⟩ qop⟩)
  · have hcv := hcv (nk.2.2.2.1.1 (by omega)).1 (nk.2.2.2.1.1 (by omega)).2
    refine e_aload_n (q := 50) (i := 0) dX12_negation_49 rfl rfl rfl ?_
    refine e_getI (q := 53) (jz := 25) dX12_negation_50 rfl fg_X12_165 rfl (by first | assumption | rfl) rfl ?_
    refine e_bipush (q := 55) dX12_negation_53 rfl (by decide) ?_
    refine e_icmp_eq (q := 58) (tgt := 87) dX12_negation_55 rfl (by decide) (fun c55 => by exfalso; omega) (fun c55 => ?_) (hx := nv)
    refine e_aload_n (q := 59) (i := 0) dX12_negation_58 rfl rfl rfl ?_
    refine e_getI (q := 62) (jz := 25) dX12_negation_59 rfl fg_X12_165 rfl (by first | assumption | rfl) rfl ?_
    refine e_bipush (q := 64) dX12_negation_62 rfl (by decide) ?_
    refine e_icmp_eq (q := 67) (tgt := 87) dX12_negation_64 rfl (by decide) (fun c64 => by exfalso; omega) (fun c64 => ?_) (hx := nv)
    refine e_aload_n (q := 68) (i := 0) dX12_negation_67 rfl rfl rfl ?_
    refine e_getI (q := 71) (jz := 25) dX12_negation_68 rfl fg_X12_165 rfl (by first | assumption | rfl) rfl ?_
    refine e_bipush (q := 73) dX12_negation_71 rfl (by decide) ?_
    refine e_icmp_eq (q := 76) (tgt := 87) dX12_negation_73 rfl (by decide) (fun c73 => by exfalso; omega) (fun c73 => ?_) (hx := nv)
    refine e_aload_n (q := 77) (i := 0) dX12_negation_76 rfl rfl rfl ?_
    refine e_getI (q := 80) (jz := 25) dX12_negation_77 rfl fg_X12_165 rfl (by first | assumption | rfl) rfl ?_
    refine e_sipush (q := 83) dX12_negation_80 rfl (by decide) ?_
    refine e_icmp_ge (q := 86) (tgt := 87) dX12_negation_83 rfl (by decide) (fun c83 => by exfalso; omega) (fun c83 => ?_) (hx := nv)
    exact r_v dX12_negation_86 rfl (Or.inr ⟨t1 :: r1, P, c1, K1, hF, hES1, hI1, hc1, hE1, fun s hs => by have := hPr s hs; omega, by simp only [List.length_cons]; omega, hX1, fun a b => absurd ⟨a, b⟩ qop⟩)

/-- an E of any length -/
theorem expr_all (G : Gx) : ∀ N : Nat, LvC G mX12_expression N 5 1 1 Xe ∧ LvC G mX12_negation N 3 3 4 Xn
  | 0 => by
    constructor
    · intro σ ts S o c K hN hES
      obtain ⟨t, r, et⟩ := hES.2.1.ne
      subst et
      exact absurd hN (by simp)
    · intro σ ts S o c K hN hES
      obtain ⟨t, r, et⟩ := hES.2.1.ne
      subst et
      exact absurd hN (by simp)
  | N + 1 => by
    obtain ⟨h1, h2⟩ := expr_all G N
    have hn := neg_of (sum_of (prod_of (prim_of h1))) h2
    exact ⟨expr_of (conj_of hn), hn⟩
theorem c_mexpr0 {G : Gx} {σ : Sg} {ts : List Tk} {S : List Int} {o c : Int} {K : Kn} (hES : ES σ ts o c K) (hI : SyI S o c K) (hb : syTr S < 1) : Con G (Dd o c + 5) mX12_expression [.ref (G.2.2.2 + 82)] σ (pV (fun σ' => EO σ σ' 1 Xe ts S o c K)) := (expr_all G ts.length).1 σ ts S o c K (Nat.le_refl _) hES hI hb (fun _ => Or.inl (by decide))

