/-- what a line's body does to the model -/
def MLR (σ σ' : Sg) (R : Rs) : Prop := match R with
  | .inl e => FM σ σ' e
  | .inr q => σ'.1 82 26 = 0 ∧ MFr σ σ' ∧ MK σ' q.2 ∧ MD0 σ' q.1 ∧ σ'.1 82 19 = σ.1 82 19
noncomputable def bPar (δ : Dl) (r : List Tk) : Rs := bnd (pNew (δ 26) (δ 23 2) r) (fun l r => bnd (pNum 0 (δ 23 0 - 1) r) (fun ro r2 => bnd (pNum 0 (δ 23 0 - 1) r2) (fun co r => @ite Rs (hasCh δ ro co) (Classical.propDecidable _) (.inl (3, hpl r2)) (.inr (u2 (u2 (u2 (u2 δ 26 (δ 23 2) l) 24 (δ 23 2) ro) 25 (δ 23 2) co) 23 2 (δ 23 2 + 1), r)))))

set_option maxHeartbeats 16000000 in
theorem c_X12_parishLine {G : Gx} {σ : Sg} {t : Tk} {r : List Tk} {δ : Dl} (hC : MK σ (t :: r)) (hf : σ.1 82 26 = 0) (hD : MD0 σ δ) (hO : DOk δ) (h4 : ¬ 4 ≤ δ 23 2) : Con G 8 mX12_parishLine [.ref (G.2.2.2 + 82)] σ (pV (fun σ' => MLR σ σ' (bPar δ (t :: r)))) := by
  obtain ⟨R0, hR0⟩ : ∃ R, R = bPar δ (t :: r) := ⟨_, rfl⟩
  rw [← hR0]
  obtain ⟨m, hm⟩ : ∃ m, δ 23 2 = m := ⟨_, rfl⟩
  obtain ⟨⟨b1, b2, b3, b4, b5, b6, b7, b8, b9⟩, hb, -⟩ := id hD
  obtain ⟨o0, o1, o2, o3, o4, o5, o6, o7, o8, o9, oc, ob, ok, og, ou, ow, ox, ot, oz, oy⟩ := id hO
  rw [hm] at b2 hb h4 o2 o9
  have hR85 : ∀ i, 0 ≤ i → i < m → R32 (σ.1 85 (4 + i)) := fun i a b => by rw [(hb i a b).1]; exact (o8 i a (by omega)).2.2.2.2
  have f107 : ∀ (τ : Sg) (e : Int × Int) (x2 : Option Value), R0 = .inl e → FM σ τ e → J G 8 mX12_parishLine (pV (fun σ' => MLR σ σ' R0)) τ 107 [some (.ref (G.2.2.2 + 82)), some (.int (iZ (4 + m))), x2] [] := by
    intro τ e x2 hR hE
    refine e_aload_n (q := 108) (i := 0) dX12_parishLine_107 rfl rfl rfl ?_
    refine e_getR (q := 111) dX12_parishLine_108 rfl fg_X12_22 (by first | assumption | rfl) rfl ?_
    refine e_iload_n (q := 112) (i := 1) dX12_parishLine_111 rfl rfl rfl ?_
    refine e_aload_n (q := 113) (i := 0) dX12_parishLine_112 rfl rfl rfl ?_
    refine e_iconst (q := 114) dX12_parishLine_113 rfl ?_
    refine e_aload_n (q := 115) (i := 0) dX12_parishLine_114 rfl rfl rfl ?_
    refine e_iconst (q := 116) dX12_parishLine_115 rfl ?_
    refine e_Vip (q := 119) (vs := [_]) ok_X12_fresher ml_X12_209 dX12_parishLine_116 rfl ⟨_, _, rfl⟩ (by first | assumption | rfl) rfl rfl (Nat.le_of_ble_eq_true rfl) (by decide) (c_X12_fresher (by decide) (by decide)) ?_
    refine e_iconst (q := 120) dX12_parishLine_119 rfl ?_
    refine e_isub (q := 121) dX12_parishLine_120 rfl ?_
    refine e_Vip (q := 124) (vs := [_, _]) ok_X12_numeral ml_X12_222 dX12_parishLine_121 rfl ⟨_, _, rfl⟩ (by first | assumption | rfl) rfl rfl (Nat.le_of_ble_eq_true rfl) (by decide) (c_mnum1 hE.rf hE.ne) ?_
    refine e_iast (q := 125) dX12_parishLine_124 rfl (by first | assumption | rfl) ?_ (by omega) (by omega)
    refine e_aload_n (q := 126) (i := 0) dX12_parishLine_125 rfl rfl rfl ?_
    refine e_iconst (q := 127) dX12_parishLine_126 rfl ?_
    refine e_aload_n (q := 128) (i := 0) dX12_parishLine_127 rfl rfl rfl ?_
    refine e_iconst (q := 129) dX12_parishLine_128 rfl ?_
    refine e_Vip (q := 132) (vs := [_]) ok_X12_fresher ml_X12_209 dX12_parishLine_129 rfl ⟨_, _, rfl⟩ (by first | assumption | rfl) rfl rfl (Nat.le_of_ble_eq_true rfl) (by decide) (c_X12_fresher (by decide) (by decide)) ?_
    refine e_iconst (q := 133) dX12_parishLine_132 rfl ?_
    refine e_iadd (q := 134) dX12_parishLine_133 rfl ?_
    refine e_Vv (q := 137) (vs := [_, _]) ok_X12_reads ml_X12_226 dX12_parishLine_134 rfl ⟨_, _, rfl⟩ (by first | assumption | rfl) rfl rfl (Nat.le_of_ble_eq_true rfl) (by decide) (c_X12_reads (by decide) (by decide)) (fun s34 h34 => ?_)
    subst h34
    exact r_v dX12_parishLine_137 rfl (by rw [hR]; exact (hE.si (k := 87) (by decide) (by decide) (by unfold hf2; rw [if_neg (by decide), if_pos (by decide)]; omega) _).si (k := 84) (by decide) (by decide) (by decide) _)
  have f48 : ∀ (n : Nat) (τ : Sg) (e : Int × Int) (i : Int), R0 = .inl e → FM σ τ e → 4 ≤ i → i ≤ 7 → i + n = (4 + m) → J G 8 mX12_parishLine (pV (fun σ' => MLR σ σ' R0)) τ 48 [some (.ref (G.2.2.2 + 82)), some (.int (iZ (4 + m))), some (.int (iZ i))] [] := by
    intro n
    induction n with
    | zero =>
      intro τ e i hR hE h4 h7 hi
      refine e_iload_n (q := 49) (i := 2) dX12_parishLine_48 rfl rfl rfl ?_
      refine e_iload_n (q := 50) (i := 1) dX12_parishLine_49 rfl rfl rfl ?_
      refine e_icmp_ge (q := 53) (tgt := 107) dX12_parishLine_50 rfl (by decide) (fun c50 => ?_) (fun c50 => by exfalso; omega)
      exact f107 τ e _ hR hE
    | succ n ih =>
      intro τ e i hR hE h4 h7 hi
      refine e_iload_n (q := 49) (i := 2) dX12_parishLine_48 rfl rfl rfl ?_
      refine e_iload_n (q := 50) (i := 1) dX12_parishLine_49 rfl rfl rfl ?_
      refine e_icmp_ge (q := 53) (tgt := 107) dX12_parishLine_50 rfl (by decide) (fun c50 => by exfalso; omega) (fun c50 => ?_)
      refine e_aload_n (q := 54) (i := 0) dX12_parishLine_53 rfl rfl rfl ?_
      refine e_getI (q := 57) (jz := 26) dX12_parishLine_54 rfl fg_X12_190 rfl (by first | assumption | rfl) rfl ?_
      refine e_if_ne (q := 60) (tgt := 101) dX12_parishLine_57 rfl (by decide) (fun c57 => ?_) (fun c57 => by exfalso; exact hE.ne c57) (hx := hE.rf)
      refine e_iinc (q := 104) (L' := [_, _, _]) dX12_parishLine_101 rfl rfl (by decide) rfl rfl ?_
      refine e_goto (tgt := 48) dX12_parishLine_104 (by decide) ?_
      exact ih τ e (i + 1) hR hE (by omega) (by omega) (by omega)
  have f28 : ∀ (τ : Sg) (e : Int × Int) (x2 : Option Value), R0 = .inl e → FM σ τ e → J G 8 mX12_parishLine (pV (fun σ' => MLR σ σ' R0)) τ 28 [some (.ref (G.2.2.2 + 82)), some (.int (iZ (4 + m))), x2] [] := by
    intro τ e x2 hR hE
    refine e_aload_n (q := 29) (i := 0) dX12_parishLine_28 rfl rfl rfl ?_
    refine e_getR (q := 32) dX12_parishLine_29 rfl fg_X12_19 (by first | assumption | rfl) rfl ?_
    refine e_iload_n (q := 33) (i := 1) dX12_parishLine_32 rfl rfl rfl ?_
    refine e_aload_n (q := 34) (i := 0) dX12_parishLine_33 rfl rfl rfl ?_
    refine e_iconst (q := 35) dX12_parishLine_34 rfl ?_
    refine e_aload_n (q := 36) (i := 0) dX12_parishLine_35 rfl rfl rfl ?_
    refine e_iconst (q := 37) dX12_parishLine_36 rfl ?_
    refine e_Vip (q := 40) (vs := [_]) ok_X12_fresher ml_X12_209 dX12_parishLine_37 rfl ⟨_, _, rfl⟩ (by first | assumption | rfl) rfl rfl (Nat.le_of_ble_eq_true rfl) (by decide) (c_X12_fresher (by decide) (by decide)) ?_
    refine e_iconst (q := 41) dX12_parishLine_40 rfl ?_
    refine e_isub (q := 42) dX12_parishLine_41 rfl ?_
    refine e_Vip (q := 45) (vs := [_, _]) ok_X12_numeral ml_X12_222 dX12_parishLine_42 rfl ⟨_, _, rfl⟩ (by first | assumption | rfl) rfl rfl (Nat.le_of_ble_eq_true rfl) (by decide) (c_mnum1 hE.rf hE.ne) ?_
    refine e_iast (q := 46) dX12_parishLine_45 rfl (by first | assumption | rfl) ?_ (by omega) (by omega)
    refine e_iconst (q := 47) dX12_parishLine_46 rfl ?_
    refine e_istore_n (q := 48) (i := 2) (L' := [_, _, _]) dX12_parishLine_47 rfl rfl (by decide) rfl rfl ?_
    exact f48 m.toNat _ e 4 hR (hE.si (k := 86) (by decide) (by decide) (by unfold hf2; rw [if_neg (by decide), if_pos (by decide)]; omega) _) (by decide) (by decide) (by omega)
  refine e_entry om_X12_parishLine (Nat.le_of_ble_eq_true rfl) (L := [some (.ref (G.2.2.2 + 82)), none, none]) rfl ?_
  refine e_iconst (q := 1) dX12_parishLine_0 rfl ?_
  refine e_aload_n (q := 2) (i := 0) dX12_parishLine_1 rfl rfl rfl ?_
  refine e_iconst (q := 3) dX12_parishLine_2 rfl ?_
  refine e_Vip (q := 6) (vs := [_]) ok_X12_fresher ml_X12_209 dX12_parishLine_3 rfl ⟨_, _, rfl⟩ (by first | assumption | rfl) rfl rfl (Nat.le_of_ble_eq_true rfl) (by decide) (c_X12_fresher (by decide) (by decide)) ?_
  rw [show σ.1 84 (7 + 1) = m from b2]
  refine e_iadd (q := 7) dX12_parishLine_6 rfl ?_
  refine e_istore_n (q := 8) (i := 1) (L' := [_, _, _]) dX12_parishLine_7 rfl rfl (by decide) rfl rfl ?_
  refine e_aload_n (q := 9) (i := 0) dX12_parishLine_8 rfl rfl rfl ?_
  refine e_getR (q := 12) dX12_parishLine_9 rfl fg_X12_16 (by first | assumption | rfl) rfl ?_
  refine e_iload_n (q := 13) (i := 1) dX12_parishLine_12 rfl rfl rfl ?_
  refine e_aload_n (q := 14) (i := 0) dX12_parishLine_13 rfl rfl rfl ?_
  refine e_aload_n (q := 15) (i := 0) dX12_parishLine_14 rfl rfl rfl ?_
  refine e_getR (q := 18) dX12_parishLine_15 rfl fg_X12_16 (by first | assumption | rfl) rfl ?_
  refine e_iconst (q := 19) dX12_parishLine_18 rfl ?_
  refine e_aload_n (q := 20) (i := 0) dX12_parishLine_19 rfl rfl rfl ?_
  refine e_iconst (q := 21) dX12_parishLine_20 rfl ?_
  refine e_Vip (q := 24) (vs := [_]) ok_X12_fresher ml_X12_209 dX12_parishLine_21 rfl ⟨_, _, rfl⟩ (by first | assumption | rfl) rfl rfl (Nat.le_of_ble_eq_true rfl) (by decide) (c_X12_fresher (by decide) (by decide)) ?_
  rw [show σ.1 84 (7 + 1) = m from b2]
  refine e_Vi (q := 27) (vs := [_, _, _]) ok_X12_fresh ml_X12_233 dX12_parishLine_24 rfl ⟨_, _, rfl⟩ (by first | assumption | rfl) rfl rfl (Nat.le_of_ble_eq_true rfl) (by decide) (c_mfresh0 (k := 85) (mN := 8) (a := 4) (m := m) rfl (by decide) (by decide) (by omega) (by omega) hR85 hC hf) (fun z1 s1 h1 => ?_)
  rw [pNew_cg (g := δ 26) (by omega) (fun i a b => (hb i a (by omega)).1)] at h1
  cases hr1 : pNew (δ 26) m (t :: r) with
  | inl e =>
    rw [hr1] at h1
    have hE := FM.mn (MFr.rf σ) h1
    refine e_iast (q := 28) dX12_parishLine_27 rfl (by first | assumption | rfl) ?_ (by omega) (by omega)
    exact f28 _ e _ (by rw [hR0]; unfold bPar; rw [hm, hr1]; rfl) (hE.si (k := 85) (by decide) (by decide) (by unfold hf2; rw [if_neg (by decide), if_pos (by decide)]; omega) _)
  | inr q1 =>
    obtain ⟨l, r1⟩ := q1
    rw [hr1] at h1
    obtain ⟨z1e, F1, k1⟩ := h1
    have z1e : z1 = l := z1e
    have k1 : MK s1 r1 := k1
    subst z1e
    refine e_iast (q := 28) dX12_parishLine_27 rfl (by first | assumption | rfl) ?_ (by omega) (by omega)
    obtain ⟨t1, u1, e1⟩ := k1.ne
    subst e1
    have k1 : MK (sI s1 85 (4 + m) z1) (t1 :: u1) := k1.cg rfl (fun j _ _ => by rw [sI_ne _ (by decide)])
    have f1 : (sI s1 85 (4 + m) z1).1 82 26 = 0 := by rw [sI_ne _ (by decide), F1.2 26 (by decide)]; exact hf
    have G1 : MFr σ (sI s1 85 (4 + m) z1) := (MFr.fm F1 (by decide)).si (by decide) (by decide) (by unfold hf2; rw [if_neg (by decide), if_pos (by decide)]; omega) _
    have n1 : ∀ j, (sI s1 85 (4 + m) z1).1 84 j = σ.1 84 j := fun j => by rw [sI_ne _ (by decide), F1.c (a := 84) (by decide)]
    refine e_aload_n (q := 29) (i := 0) dX12_parishLine_28 rfl rfl rfl ?_
    refine e_getR (q := 32) dX12_parishLine_29 rfl fg_X12_19 (by first | assumption | rfl) rfl ?_
    refine e_iload_n (q := 33) (i := 1) dX12_parishLine_32 rfl rfl rfl ?_
    refine e_aload_n (q := 34) (i := 0) dX12_parishLine_33 rfl rfl rfl ?_
    refine e_iconst (q := 35) dX12_parishLine_34 rfl ?_
    refine e_aload_n (q := 36) (i := 0) dX12_parishLine_35 rfl rfl rfl ?_
    refine e_iconst (q := 37) dX12_parishLine_36 rfl ?_
    refine e_Vip (q := 40) (vs := [_]) ok_X12_fresher ml_X12_209 dX12_parishLine_37 rfl ⟨_, _, rfl⟩ (by first | assumption | rfl) rfl rfl (Nat.le_of_ble_eq_true rfl) (by decide) (c_X12_fresher (by decide) (by decide)) ?_
    rw [show (sI s1 85 (4 + m) z1).1 84 (7 + 0) = δ 23 0 from (n1 7).trans b1]
    refine e_iconst (q := 41) dX12_parishLine_40 rfl ?_
    refine e_isub (q := 42) dX12_parishLine_41 rfl ?_
    refine e_Vi (q := 45) (vs := [_, _]) ok_X12_numeral ml_X12_222 dX12_parishLine_42 rfl ⟨_, _, rfl⟩ (by first | assumption | rfl) rfl rfl (Nat.le_of_ble_eq_true rfl) (by decide) (c_mnum0 (lo := 0) (hi := δ 23 0 - 1) k1 f1 (by decide) (by decide) (by omega) (by omega)) (fun z2 s2 h2 => ?_)
    cases hr2 : pNum 0 (δ 23 0 - 1) (t1 :: u1) with
    | inl e =>
      rw [hr2] at h2
      have hE := FM.mn G1 h2
      have z0 : z2 = 0 := h2.1
      refine e_iast (q := 46) dX12_parishLine_45 rfl (by first | assumption | rfl) ?_ (by omega) (by omega)
      refine e_iconst (q := 47) dX12_parishLine_46 rfl ?_
      refine e_istore_n (q := 48) (i := 2) (L' := [_, _, _]) dX12_parishLine_47 rfl rfl (by decide) rfl rfl ?_
      exact f48 m.toNat _ e 4 (by rw [hR0]; unfold bPar; rw [hm, hr1, bnd_r, hr2]; rfl) (hE.si (k := 86) (by decide) (by decide) (by unfold hf2; rw [if_neg (by decide), if_pos (by decide)]; omega) _) (by decide) (by decide) (by omega)
    | inr q2 =>
      obtain ⟨ro, r2⟩ := q2
      rw [hr2] at h2
      obtain ⟨z2e, F2, k2⟩ := h2
      have z2e : z2 = ro := z2e
      have k2 : MK s2 r2 := k2
      subst z2e
      have ok2 := pNum_ok hr2
      refine e_iast (q := 46) dX12_parishLine_45 rfl (by first | assumption | rfl) ?_ (by omega) (by omega)
      obtain ⟨t2, u2', e2⟩ := k2.ne
      subst e2
      obtain ⟨τ, hτ⟩ : ∃ τ, τ = sI s2 86 (4 + m) z2 := ⟨_, rfl⟩
      rw [← hτ]
      have k2 : MK τ (t2 :: u2') := k2.cg (by rw [hτ]; rfl) (fun j _ _ => by rw [hτ, sI_ne _ (by decide)])
      have f2 : τ.1 82 26 = 0 := by rw [hτ, sI_ne _ (by decide), F2.2 26 (by decide)]; exact f1
      have G2 : MFr σ τ := by rw [hτ]; exact (G1.tr (MFr.fm F2 (by decide))).si (by decide) (by decide) (by unfold hf2; rw [if_neg (by decide), if_pos (by decide)]; omega) _
      have n2 : ∀ j, τ.1 84 j = σ.1 84 j := fun j => by rw [hτ, sI_ne _ (by decide), F2.c (a := 84) (by decide)]; exact n1 j
      have r86 : ∀ j, τ.1 86 j = if j = 4 + m then z2 else σ.1 86 j := fun j => by
        rw [hτ, sI_1]
        by_cases q : j = 4 + m
        · rw [if_pos ⟨rfl, q⟩, if_pos q]
        · rw [if_neg (fun w => q w.2), if_neg q, F2.c (a := 86) (by decide), sI_ne _ (by decide), F1.c (a := 86) (by decide)]
      have r87 : ∀ j, τ.1 87 j = σ.1 87 j := fun j => by rw [hτ, sI_ne _ (by decide), F2.c (a := 87) (by decide), sI_ne _ (by decide), F1.c (a := 87) (by decide)]
      obtain ⟨m1, m2, m3, m4⟩ := k2.hd
      have ms := m2.s m3.1 m3.2
      have mk := m2.k m3.1 m3.2
      have mv := m2.2.2.2.2.2.2
      have hBR : R0 = bnd (pNum 0 (δ 23 0 - 1) (t2 :: u2')) (fun co r => @ite Rs (hasCh δ z2 co) (Classical.propDecidable _) (.inl (3, hpl (t2 :: u2'))) (.inr (u2 (u2 (u2 (u2 δ 26 (δ 23 2) z1) 24 (δ 23 2) z2) 25 (δ 23 2) co) 23 2 (δ 23 2 + 1), r))) := by
        rw [hR0]; unfold bPar; rw [hm, hr1, bnd_r, hr2, bnd_r]
      have tl : (∀ k, 0 ≤ k → k < m → ¬ (t2.1 = 22 ∧ δ 24 k = z2 ∧ δ 25 k = t2.2.2)) → J G 8 mX12_parishLine (pV (fun σ' => MLR σ σ' R0)) τ 107 [some (.ref (G.2.2.2 + 82)), some (.int (iZ (4 + m))), some (.int (iZ (4 + m)))] [] := by
        intro hno
        refine e_aload_n (q := 108) (i := 0) dX12_parishLine_107 rfl rfl rfl ?_
        refine e_getR (q := 111) dX12_parishLine_108 rfl fg_X12_22 (by first | assumption | rfl) rfl ?_
        refine e_iload_n (q := 112) (i := 1) dX12_parishLine_111 rfl rfl rfl ?_
        refine e_aload_n (q := 113) (i := 0) dX12_parishLine_112 rfl rfl rfl ?_
        refine e_iconst (q := 114) dX12_parishLine_113 rfl ?_
        refine e_aload_n (q := 115) (i := 0) dX12_parishLine_114 rfl rfl rfl ?_
        refine e_iconst (q := 116) dX12_parishLine_115 rfl ?_
        refine e_Vip (q := 119) (vs := [_]) ok_X12_fresher ml_X12_209 dX12_parishLine_116 rfl ⟨_, _, rfl⟩ (by first | assumption | rfl) rfl rfl (Nat.le_of_ble_eq_true rfl) (by decide) (c_X12_fresher (by decide) (by decide)) ?_
        rw [show τ.1 84 (7 + 0) = δ 23 0 from (n2 7).trans b1]
        refine e_iconst (q := 120) dX12_parishLine_119 rfl ?_
        refine e_isub (q := 121) dX12_parishLine_120 rfl ?_
        refine e_Vi (q := 124) (vs := [_, _]) ok_X12_numeral ml_X12_222 dX12_parishLine_121 rfl ⟨_, _, rfl⟩ (by first | assumption | rfl) rfl rfl (Nat.le_of_ble_eq_true rfl) (by decide) (c_mnum0 (lo := 0) (hi := δ 23 0 - 1) k2 f2 (by decide) (by decide) (by omega) (by omega)) (fun z3 s3 h3 => ?_)
        cases hr3 : pNum 0 (δ 23 0 - 1) (t2 :: u2') with
        | inl e =>
          rw [hr3] at h3
          have hE := FM.mn G2 h3
          have z0 : z3 = 0 := h3.1
          refine e_iast (q := 125) dX12_parishLine_124 rfl (by first | assumption | rfl) ?_ (by omega) (by omega)
          refine e_aload_n (q := 126) (i := 0) dX12_parishLine_125 rfl rfl rfl ?_
          refine e_iconst (q := 127) dX12_parishLine_126 rfl ?_
          refine e_aload_n (q := 128) (i := 0) dX12_parishLine_127 rfl rfl rfl ?_
          refine e_iconst (q := 129) dX12_parishLine_128 rfl ?_
          refine e_Vip (q := 132) (vs := [_]) ok_X12_fresher ml_X12_209 dX12_parishLine_129 rfl ⟨_, _, rfl⟩ (by first | assumption | rfl) rfl rfl (Nat.le_of_ble_eq_true rfl) (by decide) (c_X12_fresher (by decide) (by decide)) ?_
          refine e_iconst (q := 133) dX12_parishLine_132 rfl ?_
          refine e_iadd (q := 134) dX12_parishLine_133 rfl ?_
          refine e_Vv (q := 137) (vs := [_, _]) ok_X12_reads ml_X12_226 dX12_parishLine_134 rfl ⟨_, _, rfl⟩ (by first | assumption | rfl) rfl rfl (Nat.le_of_ble_eq_true rfl) (by decide) (c_X12_reads (by decide) (by decide)) (fun s34 h34 => ?_)
          subst h34
          exact r_v dX12_parishLine_137 rfl (by rw [hBR, hr3]; exact (hE.si (k := 87) (by decide) (by decide) (by unfold hf2; rw [if_neg (by decide), if_pos (by decide)]; omega) _).si (k := 84) (by decide) (by decide) (by decide) _)
        | inr q3 =>
          obtain ⟨co, r3⟩ := q3
          have ok3 := pNum_ok hr3
          rw [hr3] at h3
          obtain ⟨z3e, F3, k3⟩ := h3
          have z3e : z3 = co := z3e
          have k3 : MK s3 r3 := k3
          subst z3e
          refine e_iast (q := 125) dX12_parishLine_124 rfl (by first | assumption | rfl) ?_ (by omega) (by omega)
          refine e_aload_n (q := 126) (i := 0) dX12_parishLine_125 rfl rfl rfl ?_
          refine e_iconst (q := 127) dX12_parishLine_126 rfl ?_
          refine e_aload_n (q := 128) (i := 0) dX12_parishLine_127 rfl rfl rfl ?_
          refine e_iconst (q := 129) dX12_parishLine_128 rfl ?_
          refine e_Vip (q := 132) (vs := [_]) ok_X12_fresher ml_X12_209 dX12_parishLine_129 rfl ⟨_, _, rfl⟩ (by first | assumption | rfl) rfl rfl (Nat.le_of_ble_eq_true rfl) (by decide) (c_X12_fresher (by decide) (by decide)) ?_
          rw [show (sI s3 87 (4 + m) z3).1 84 (7 + 1) = m from by rw [sI_ne _ (by decide), F3.c (a := 84) (by decide), n2]; exact b2]
          refine e_iconst (q := 133) dX12_parishLine_132 rfl ?_
          refine e_iadd (q := 134) dX12_parishLine_133 rfl ?_
          refine e_Vv (q := 137) (vs := [_, _]) ok_X12_reads ml_X12_226 dX12_parishLine_134 rfl ⟨_, _, rfl⟩ (by first | assumption | rfl) rfl rfl (Nat.le_of_ble_eq_true rfl) (by decide) (c_X12_reads (by decide) (by decide)) (fun s34 h34 => ?_)
          subst h34
          have hnc : ¬ hasCh δ z2 z3 := by
            rintro ⟨k, a1, a2, a3, a4⟩
            obtain ⟨-, -, tt, et, ht⟩ := ok3
            cases et
            simp only [pNum] at hr3
            by_cases w22 : t2.1 ≠ 22
            · rw [if_pos w22] at hr3; cases hr3
            rw [if_neg w22] at hr3
            by_cases w23 : t2.2.2 < 0 ∨ δ 23 0 - 1 < t2.2.2
            · rw [if_pos w23] at hr3; cases hr3
            rw [if_neg w23] at hr3
            cases hr3
            exact hno k a1 (by omega) ⟨by omega, a3, a4⟩
          refine r_v dX12_parishLine_137 rfl ?_
          rw [hBR, hr3, bnd_r, @if_neg _ (Classical.propDecidable _) hnc]
          refine ⟨?_, ?_, ?_, ?_, ?_⟩
          · rw [sI_ne _ (by decide), sI_ne _ (by decide), F3.2 26 (by decide)]; exact f2
          · exact ((G2.tr (MFr.fm F3 (by decide))).si (k := 87) (by decide) (by decide) (by unfold hf2; rw [if_neg (by decide), if_pos (by decide)]; omega) _).si (k := 84) (by decide) (by decide) (by decide) _
          · exact k3.cg rfl (fun j _ _ => by rw [sI_ne _ (by decide), sI_ne _ (by decide)])
          · have w8 : ∀ j : Int, j ∈ ([19, 20, 30, 31] : List Int) → s3.1 82 j = σ.1 82 j := fun j hj => by
              have hj' : j ∉ ([22, 23, 24, 25] : List Int) := by
                simp only [List.mem_cons, List.not_mem_nil, or_false] at hj ⊢
                omega
              rw [F3.2 j hj', hτ, sI_ne _ (by decide), F2.2 j hj', sI_ne _ (by decide), F1.2 j hj']
            refine MD_par hD (by omega) ?_ ?_ ?_ ?_ ?_ ?_
            · rw [sI_uf, sI_ne _ (by decide), F3.c (a := 84) (by decide), hm, show τ.1 84 = σ.1 84 from funext n2]; rfl
            · rw [sI_ne _ (by decide), sI_ne _ (by decide), F3.c (a := 85) (by decide), hτ, sI_ne _ (by decide), F2.c (a := 85) (by decide), sI_uf, F1.c (a := 85) (by decide), hm]
            · rw [sI_ne _ (by decide), sI_ne _ (by decide), F3.c (a := 86) (by decide), hτ, sI_uf, F2.c (a := 86) (by decide), sI_ne _ (by decide), F1.c (a := 86) (by decide), hm]
            · rw [sI_ne _ (by decide), sI_uf, F3.c (a := 87) (by decide), show τ.1 87 = σ.1 87 from funext r87, hm]
            · intro c a b
              rw [sI_ne _ (by omega), sI_ne _ (by omega), F3.c (a := c) (by simp only [List.mem_cons, List.not_mem_nil, or_false]; omega), hτ, sI_ne _ (by omega), F2.c (a := c) (by simp only [List.mem_cons, List.not_mem_nil, or_false]; omega), sI_ne _ (by omega), F1.c (a := c) (by simp only [List.mem_cons, List.not_mem_nil, or_false]; omega)]
            · intro j hj
              rw [sI_ne _ (by decide), sI_ne _ (by decide)]
              exact w8 j (List.mem_cons_of_mem _ hj)
          · have hj' : (19 : Int) ∉ ([22, 23, 24, 25] : List Int) := by decide
            rw [sI_ne _ (by decide), sI_ne _ (by decide), F3.2 19 hj', hτ, sI_ne _ (by decide), F2.2 19 hj', sI_ne _ (by decide), F1.2 19 hj']
      have hbk : ∀ k, 0 ≤ k → k < m → σ.1 85 (4 + k) = δ 26 k ∧ σ.1 86 (4 + k) = δ 24 k ∧ σ.1 87 (4 + k) = δ 25 k := fun k a b => hb k a (by omega)
      have lp : ∀ (n : Nat) (i : Int), 4 ≤ i → i + n = (4 + m) → (∀ k, 0 ≤ k → k < i - 4 → ¬ (t2.1 = 22 ∧ δ 24 k = z2 ∧ δ 25 k = t2.2.2)) → J G 8 mX12_parishLine (pV (fun σ' => MLR σ σ' R0)) τ 48 [some (.ref (G.2.2.2 + 82)), some (.int (iZ (4 + m))), some (.int (iZ i))] [] := by
        intro n
        induction n with
        | zero =>
          intro i h4 hi hno
          have hbi : i < 4 + m → (σ.1 86 i = δ 24 (i - 4) ∧ σ.1 87 i = δ 25 (i - 4) ∧ 0 ≤ δ 24 (i - 4) ∧ δ 24 (i - 4) < δ 23 0 ∧ 0 ≤ δ 25 (i - 4) ∧ δ 25 (i - 4) < δ 23 0) := fun q => by
            have h1 := hb (i - 4) (by omega) (by omega)
            rw [show 4 + (i - 4) = i by omega] at h1
            have h2 := o8 (i - 4) (by omega) (by omega)
            have h3 := o9 (i - 4) (by omega) (by omega)
            exact ⟨h1.2.1, h1.2.2, by omega, by omega, by omega, by omega⟩
          refine e_iload_n (q := 49) (i := 2) dX12_parishLine_48 rfl rfl rfl ?_
          refine e_iload_n (q := 50) (i := 1) dX12_parishLine_49 rfl rfl rfl ?_
          refine e_icmp_ge (q := 53) (tgt := 107) dX12_parishLine_50 rfl (by decide) (fun c50 => ?_) (fun c50 => by exfalso; omega)
          rw [show i = 4 + m by omega]
          exact tl (fun k a b => hno k a (by omega))
        | succ n ih =>
          intro i h4 hi hno
          have hbi : i < 4 + m → (σ.1 86 i = δ 24 (i - 4) ∧ σ.1 87 i = δ 25 (i - 4) ∧ 0 ≤ δ 24 (i - 4) ∧ δ 24 (i - 4) < δ 23 0 ∧ 0 ≤ δ 25 (i - 4) ∧ δ 25 (i - 4) < δ 23 0) := fun q => by
            have h1 := hb (i - 4) (by omega) (by omega)
            rw [show 4 + (i - 4) = i by omega] at h1
            have h2 := o8 (i - 4) (by omega) (by omega)
            have h3 := o9 (i - 4) (by omega) (by omega)
            exact ⟨h1.2.1, h1.2.2, by omega, by omega, by omega, by omega⟩
          refine e_iload_n (q := 49) (i := 2) dX12_parishLine_48 rfl rfl rfl ?_
          refine e_iload_n (q := 50) (i := 1) dX12_parishLine_49 rfl rfl rfl ?_
          refine e_icmp_ge (q := 53) (tgt := 107) dX12_parishLine_50 rfl (by decide) (fun c50 => by exfalso; omega) (fun c50 => ?_)
          refine e_aload_n (q := 54) (i := 0) dX12_parishLine_53 rfl rfl rfl ?_
          refine e_getI (q := 57) (jz := 26) dX12_parishLine_54 rfl fg_X12_190 rfl (by first | assumption | rfl) rfl ?_
          rw [f2]
          refine e_if_ne (q := 60) (tgt := 101) dX12_parishLine_57 rfl (by decide) (fun c57 => by exfalso; omega) (fun c57 => ?_)
          refine e_aload_n (q := 61) (i := 0) dX12_parishLine_60 rfl rfl rfl ?_
          refine e_getI (q := 64) (jz := 24) dX12_parishLine_61 rfl fg_X12_155 rfl (by first | assumption | rfl) rfl ?_
          refine e_iconst (q := 65) dX12_parishLine_64 rfl ?_
          refine e_icmp_ne (q := 68) (tgt := 101) dX12_parishLine_65 rfl (by decide) (fun c65 => ?_) (fun c65 => ?_) (hx := ⟨by omega, by omega⟩)
          · refine e_iinc (q := 104) (L' := [_, _, _]) dX12_parishLine_101 rfl rfl (by decide) rfl rfl ?_
            refine e_goto (tgt := 48) dX12_parishLine_104 (by decide) ?_
            exact ih (i + 1) (by omega) (by omega) (fun k a b => by rcases (show k < i - 4 ∨ k = i - 4 by omega) with q | q; exact hno k a q; exact fun w => c65 (mk.2.2.1.2 w.1))
          · refine e_aload_n (q := 69) (i := 0) dX12_parishLine_68 rfl rfl rfl ?_
            refine e_getR (q := 72) dX12_parishLine_69 rfl fg_X12_19 (by first | assumption | rfl) rfl ?_
            refine e_iload_n (q := 73) (i := 2) dX12_parishLine_72 rfl rfl rfl ?_
            refine e_iald (q := 74) dX12_parishLine_73 rfl (by first | assumption | rfl) ?_ (by omega) (by omega)
            refine e_aload_n (q := 75) (i := 0) dX12_parishLine_74 rfl rfl rfl ?_
            refine e_getR (q := 78) dX12_parishLine_75 rfl fg_X12_19 (by first | assumption | rfl) rfl ?_
            refine e_iload_n (q := 79) (i := 1) dX12_parishLine_78 rfl rfl rfl ?_
            rw [r86, if_neg (by omega)]
            refine e_iald (q := 80) dX12_parishLine_79 rfl (by first | assumption | rfl) ?_ (by omega) (by omega)
            rw [r86, if_pos rfl]
            refine e_icmp_ne (q := 83) (tgt := 101) dX12_parishLine_80 rfl (by decide) (fun c80 => ?_) (fun c80 => ?_) (hx := ⟨by omega, by omega⟩) (hy := ⟨by omega, by omega⟩)
            · refine e_iinc (q := 104) (L' := [_, _, _]) dX12_parishLine_101 rfl rfl (by decide) rfl rfl ?_
              refine e_goto (tgt := 48) dX12_parishLine_104 (by decide) ?_
              exact ih (i + 1) (by omega) (by omega) (fun k a b => by rcases (show k < i - 4 ∨ k = i - 4 by omega) with q | q; exact hno k a q; exact fun w => c80 (by rw [show i = 4 + k by omega, (hbk k a (by omega)).2.1]; exact w.2.1))
            · refine e_aload_n (q := 84) (i := 0) dX12_parishLine_83 rfl rfl rfl ?_
              refine e_getR (q := 87) dX12_parishLine_84 rfl fg_X12_22 (by first | assumption | rfl) rfl ?_
              refine e_iload_n (q := 88) (i := 2) dX12_parishLine_87 rfl rfl rfl ?_
              refine e_iald (q := 89) dX12_parishLine_88 rfl (by first | assumption | rfl) ?_ (by omega) (by omega)
              refine e_aload_n (q := 90) (i := 0) dX12_parishLine_89 rfl rfl rfl ?_
              refine e_getI (q := 93) (jz := 25) dX12_parishLine_90 rfl fg_X12_165 rfl (by first | assumption | rfl) rfl ?_
              rw [r87]
              refine e_icmp_ne (q := 96) (tgt := 101) dX12_parishLine_93 rfl (by decide) (fun c93 => ?_) (fun c93 => ?_) (hx := ⟨by omega, by omega⟩) (hy := mv)
              · refine e_iinc (q := 104) (L' := [_, _, _]) dX12_parishLine_101 rfl rfl (by decide) rfl rfl ?_
                refine e_goto (tgt := 48) dX12_parishLine_104 (by decide) ?_
                exact ih (i + 1) (by omega) (by omega) (fun k a b => by rcases (show k < i - 4 ∨ k = i - 4 by omega) with q | q; exact hno k a q; exact fun w => c93 (by rw [show i = 4 + k by omega, (hbk k a (by omega)).2.2, w.2.2]; have := (m2.2.2.1 w.1).2; have := o8 k a (by omega); omega))
              · refine e_aload_n (q := 97) (i := 0) dX12_parishLine_96 rfl rfl rfl ?_
                refine e_iconst (q := 98) dX12_parishLine_97 rfl ?_
                refine e_Vv (q := 101) (vs := [_]) ok_X12_wrong ml_X12_199 dX12_parishLine_98 rfl ⟨_, _, rfl⟩ (by first | assumption | rfl) rfl rfl (Nat.le_of_ble_eq_true rfl) (by decide) (c_mwrong0 f2) (fun s98 h98 => ?_)
                subst h98
                have hv2 := m2.2.2.1 (mk.2.2.1.1 c65)
                have hpn : pNum 0 (δ 23 0 - 1) (t2 :: u2') = .inr (t2.2.2, u2') := by
                  simp only [pNum]
                  rw [if_neg (fun q => q (mk.2.2.1.1 c65)), if_neg (by omega)]
                refine e_iinc (q := 104) (L' := [_, _, _]) dX12_parishLine_101 rfl rfl (by decide) rfl rfl ?_
                refine e_goto (tgt := 48) dX12_parishLine_104 (by decide) ?_
                exact f48 n (wr τ 3) (3, τ.1 82 23) (i + 1) (by rw [hBR, hpn, bnd_r, @if_pos _ (Classical.propDecidable _) ⟨i - 4, by omega, by omega, by omega, by omega⟩, m1]; rfl) (FM.wr G2 (by decide)) (by omega) (by omega) (by omega)
      refine e_iconst (q := 47) dX12_parishLine_46 rfl ?_
      refine e_istore_n (q := 48) (i := 2) (L' := [_, _, _]) dX12_parishLine_47 rfl rfl (by decide) rfl rfl ?_
      exact lp m.toNat 4 (by decide) (by omega) (fun k a b => absurd b (by omega))

