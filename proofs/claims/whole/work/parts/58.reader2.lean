set_option maxHeartbeats 8000000 in
theorem c_X5_landLine {G : Gx} {σ : Sg} {t : Tk} {r : List Tk} {δ : Dl} (hC : CK σ (t :: r)) (hD : DR σ δ) (hO : DOk δ) (hG : ∀ x ∈ t :: r, tkG x) (hk : t.1 = 0) : Con G 7 mX5_landLine [.ref (G.2.2.2 + 18)] σ (pI (fun z σ' => RdL σ σ' z (lLand δ t r))) := by
  obtain ⟨k4, k5, kv, kr, kp⟩ := hC.hd
  obtain ⟨o0, o1, o2, o3, o4, o5, o6, o7, o8, o9, oc, ob, ok, og, ou, ow, ox, ot, oz, oy⟩ := id hO
  have d23 : σ.1 23 = δ 23 := hD.c (by decide)
  refine e_entry om_X5_landLine (Nat.le_of_ble_eq_true rfl) (L := [some (.ref (G.2.2.2 + 18)), none]) rfl ?_
  refine e_aload_n (q := 1) (i := 0) dX5_landLine_0 rfl rfl rfl ?_
  refine e_getR (q := 4) dX5_landLine_1 rfl fg_X5_32 (by first | assumption | rfl) rfl ?_
  refine e_getI (q := 7) (jz := 1) dX5_landLine_4 rfl fg_X5_61 rfl (by first | assumption | rfl) rfl ?_
  rw [d23]
  refine e_if_le (q := 10) (tgt := 19) dX5_landLine_7 rfl (by decide) (fun c7 => ?_) (fun c7 => ?_) (hx := ⟨by omega, by omega⟩)
  · refine e_aload_n (q := 20) (i := 0) dX5_landLine_19 rfl rfl rfl ?_
    refine e_getR (q := 23) dX5_landLine_20 rfl fg_X5_14 (by first | assumption | rfl) rfl ?_
    refine e_Vv (q := 26) (vs := []) ok_X8_step ml_X5_92 dX5_landLine_23 rfl ⟨_, _, rfl⟩ (by first | assumption | rfl) rfl rfl (Nat.le_of_ble_eq_true rfl) (by decide) (c_step hC (by omega)) (fun ss hs => ?_)
    obtain ⟨hT, ck0⟩ := hs
    have Fs : Fr [19] σ ss := hT.1
    have Ls : ss.1 19 2 = σ.1 19 2 := hT.n
    have P7s : ss.1 19 7 = σ.1 19 7 := hT.2 7 (by decide) (by decide) (by decide) (by decide)
    have P8s : ss.1 19 8 = σ.1 19 8 := hT.2 8 (by decide) (by decide) (by decide) (by decide)
    have Ds : DR ss δ := hD.fr Fs
    have Gs : ∀ x ∈ r, tkG x := fun x hx => hG x (List.mem_cons_of_mem _ hx)
    obtain ⟨t0, q0, e0⟩ := ck0.ne
    subst e0
    refine e_aload_n (q := 27) (i := 0) dX5_landLine_26 rfl rfl rfl ?_
    refine e_iconst (q := 28) dX5_landLine_27 rfl ?_
    refine e_bipush (q := 30) dX5_landLine_28 rfl (by decide) ?_
    refine e_Vi (q := 33) (vs := [_, _]) ok_X5_number ml_X5_105 dX5_landLine_30 rfl ⟨_, _, rfl⟩ (by first | assumption | rfl) rfl rfl (Nat.le_of_ble_eq_true rfl) (by decide) (c_X5_number ck0 (by decide) (by decide) (by first | decide | omega) (by first | decide | omega)) (fun z0 s0 h0 => ?_)
    obtain ⟨⟨hf0, hl0⟩, hm0⟩ := h0
    have F0 : Fr [19] σ s0 := Fs.tr hf0
    have L0 : s0.1 19 2 = σ.1 19 2 := hl0.trans Ls
    cases hr0 : pNum 5 40 (t0 :: q0) with
    | inl e =>
      rw [hr0] at hm0
      obtain ⟨m1, m2, m3⟩ := (show z0 = -1 ∧ s0.1 19 7 = e.1 ∧ s0.1 19 8 = e.2 from hm0)
      subst m1
      have hE : lLand δ t (t0 :: q0) = .inl e := by
        unfold lLand
        rw [if_neg (by omega)]
        rw [hr0]
        rfl
      refine e_istore_n (q := 34) (i := 1) (L' := [_, _]) dX5_landLine_33 rfl rfl (by decide) rfl rfl ?_
      refine e_iload_n (q := 35) (i := 1) dX5_landLine_34 rfl rfl rfl ?_
      refine e_iconst (q := 36) dX5_landLine_35 rfl ?_
      refine e_icmp_ne (q := 39) (tgt := 41) dX5_landLine_36 rfl (by decide) (fun c36 => by exfalso; omega) (fun c36 => ?_)
      refine e_iconst (q := 40) dX5_landLine_39 rfl ?_
      exact r_z dX5_landLine_40 rfl (by first | exact Or.inl rfl | exact Or.inr rfl | omega) (by rw [hE]; exact ⟨⟨F0.mono (by decide), L0⟩, rfl, m2, m3, F0.mono (by decide)⟩)
    | inr q =>
      obtain ⟨v0, r0⟩ := q
      rw [hr0] at hm0
      obtain ⟨m1, ck1, p7, p8⟩ := (show z0 = v0 ∧ CK s0 r0 ∧ s0.1 19 7 = ss.1 19 7 ∧ s0.1 19 8 = ss.1 19 8 from hm0)
      have m1 := m1.symm
      subst m1
      have P7_0 : s0.1 19 7 = σ.1 19 7 := p7.trans P7s
      have P8_0 : s0.1 19 8 = σ.1 19 8 := p8.trans P8s
      have D0 : DR s0 δ := hD.fr F0
      have ok0 := pNum_ok hr0
      have G0 : ∀ x ∈ r0, tkG x := by
        obtain ⟨tt, ett, -⟩ := ok0.2.2
        intro x hx
        exact Gs x (by rw [ett]; exact List.mem_cons_of_mem _ hx)
      obtain ⟨t1, q1, e1⟩ := ck1.ne
      subst e1
      refine e_istore_n (q := 34) (i := 1) (L' := [_, _]) dX5_landLine_33 rfl rfl (by decide) rfl rfl ?_
      refine e_iload_n (q := 35) (i := 1) dX5_landLine_34 rfl rfl rfl ?_
      refine e_iconst (q := 36) dX5_landLine_35 rfl ?_
      refine e_icmp_ne (q := 39) (tgt := 41) dX5_landLine_36 rfl (by decide) (fun c36 => ?_) (fun c36 => by exfalso; omega)
      refine e_aload_n (q := 42) (i := 0) dX5_landLine_41 rfl rfl rfl ?_
      refine e_getR (q := 45) dX5_landLine_42 rfl fg_X5_32 (by first | assumption | rfl) rfl ?_
      refine e_iload_n (q := 46) (i := 1) dX5_landLine_45 rfl rfl rfl ?_
      refine e_putI (q := 49) (jz := 0) dX5_landLine_46 rfl fp_X5_109 rfl (by first | assumption | rfl) rfl ?_
      refine e_iconst (q := 50) dX5_landLine_49 rfl ?_
      have hE : lLand δ t (t0 :: q0) = .inr (u2 δ 23 0 v0, t1 :: q1) := by
        unfold lLand
        rw [if_neg (by omega), hr0, bnd_r]
      exact r_z dX5_landLine_50 rfl (by first | exact Or.inl rfl | exact Or.inr rfl | omega) (by rw [hE]; exact ⟨⟨(F0.mono (by decide)).sI (by decide) _ _, by rw [sI_ne _ (by decide)]; exact L0⟩, rfl, D0.s 23 0 v0, ck1.fr ((Fr.rf [23] s0).sI (by decide) _ _) (by decide) (by decide) (fun j _ _ => by rw [sI_ne _ (by decide)]), by rw [sI_ne _ (by decide)]; exact P7_0, by rw [sI_ne _ (by decide)]; exact P8_0⟩)
  · refine e_aload_n (q := 11) (i := 0) dX5_landLine_10 rfl rfl rfl ?_
    refine e_getR (q := 14) dX5_landLine_11 rfl fg_X5_14 (by first | assumption | rfl) rfl ?_
    refine e_iconst (q := 15) dX5_landLine_14 rfl ?_
    refine e_Vi (q := 18) (vs := [_]) ok_X8_fail ml_X5_88 dX5_landLine_15 rfl ⟨_, _, rfl⟩ (by first | assumption | rfl) rfl rfl (Nat.le_of_ble_eq_true rfl) (by decide) (c_X8_fail) (fun zf sf hf => ?_)
    obtain ⟨rfl, rfl⟩ := hf
    rw [k5]
    exact r_z dX5_landLine_18 rfl (Or.inl rfl) (by rw [show lLand δ t r = .inl (1, t.2.1) from if_pos (by omega)]; exact fail_L (Fr.rf _ _) rfl)

set_option maxHeartbeats 8000000 in
theorem c_X5_childLine {G : Gx} {σ : Sg} {t : Tk} {r : List Tk} {δ : Dl} (hC : CK σ (t :: r)) (hD : DR σ δ) (hO : DOk δ) (hG : ∀ x ∈ t :: r, tkG x) (hk : t.1 = 2) : Con G 7 mX5_childLine [.ref (G.2.2.2 + 18)] σ (pI (fun z σ' => RdL σ σ' z (lChi δ t r))) := by
  obtain ⟨k4, k5, kv, kr, kp⟩ := hC.hd
  obtain ⟨o0, o1, o2, o3, o4, o5, o6, o7, o8, o9, oc, ob, ok, og, ou, ow, ox, ot, oz, oy⟩ := id hO
  have d23 : σ.1 23 = δ 23 := hD.c (by decide)
  refine e_entry om_X5_childLine (Nat.le_of_ble_eq_true rfl) (L := [some (.ref (G.2.2.2 + 18)), none, none, none, none]) rfl ?_
  refine e_aload_n (q := 1) (i := 0) dX5_childLine_0 rfl rfl rfl ?_
  refine e_getR (q := 4) dX5_childLine_1 rfl fg_X5_32 (by first | assumption | rfl) rfl ?_
  refine e_getI (q := 7) (jz := 3) dX5_childLine_4 rfl fg_X5_139 rfl (by first | assumption | rfl) rfl ?_
  rw [d23]
  refine e_istore_n (q := 8) (i := 1) (L' := [_, _, _, _, _]) dX5_childLine_7 rfl rfl (by decide) rfl rfl ?_
  refine e_iload_n (q := 9) (i := 1) dX5_childLine_8 rfl rfl rfl ?_
  refine e_bipush (q := 11) dX5_childLine_9 rfl (by decide) ?_
  refine e_icmp_lt (q := 14) (tgt := 23) dX5_childLine_11 rfl (by decide) (fun c11 => ?_) (fun c11 => ?_) (hx := ⟨by omega, by omega⟩)
  · refine e_aload_n (q := 24) (i := 0) dX5_childLine_23 rfl rfl rfl ?_
    refine e_getR (q := 27) dX5_childLine_24 rfl fg_X5_14 (by first | assumption | rfl) rfl ?_
    refine e_Vv (q := 30) (vs := []) ok_X8_step ml_X5_92 dX5_childLine_27 rfl ⟨_, _, rfl⟩ (by first | assumption | rfl) rfl rfl (Nat.le_of_ble_eq_true rfl) (by decide) (c_step hC (by omega)) (fun ss hs => ?_)
    obtain ⟨hT, ck0⟩ := hs
    have Fs : Fr [19] σ ss := hT.1
    have Ls : ss.1 19 2 = σ.1 19 2 := hT.n
    have P7s : ss.1 19 7 = σ.1 19 7 := hT.2 7 (by decide) (by decide) (by decide) (by decide)
    have P8s : ss.1 19 8 = σ.1 19 8 := hT.2 8 (by decide) (by decide) (by decide) (by decide)
    have Ds : DR ss δ := hD.fr Fs
    have Gs : ∀ x ∈ r, tkG x := fun x hx => hG x (List.mem_cons_of_mem _ hx)
    obtain ⟨t0, q0, e0⟩ := ck0.ne
    subst e0
    refine e_aload_n (q := 31) (i := 0) dX5_childLine_30 rfl rfl rfl ?_
    refine e_iconst (q := 32) dX5_childLine_31 rfl ?_
    have dn0 : ss.1 23 3 = δ 23 3 := by rw [Ds.c (by decide)]
    have dm0 : ss.1 29 = δ 29 := Ds.c (by decide)
    refine e_Vi (q := 35) (vs := [_]) ok_X5_newName ml_X5_115 dX5_childLine_32 rfl ⟨_, _, rfl⟩ (by first | assumption | rfl) rfl rfl (Nat.le_of_ble_eq_true rfl) (by decide) ((show Con G 5 mX5_newName _ _ (pI (fun z σ' => RdN ss σ' 0 z (pNew (δ 29) (δ 23 3) (t0 :: q0)))) from by rw [← dn0, ← dm0]; exact c_X5_newName_c ck0 (by omega) (by omega) (fun i a b => by rw [dm0]; exact (oc i a (by omega)).2.2.2.2))) (fun z0 s0 h0 => ?_)
    obtain ⟨⟨hf0, hl0⟩, hm0⟩ := h0
    have F0 : Fr [19] σ s0 := Fs.tr hf0
    have L0 : s0.1 19 2 = σ.1 19 2 := hl0.trans Ls
    cases hr0 : pNew (δ 29) (δ 23 3) (t0 :: q0) with
    | inl e =>
      rw [hr0] at hm0
      obtain ⟨m1, m2, m3⟩ := (show z0 = 0 ∧ s0.1 19 7 = e.1 ∧ s0.1 19 8 = e.2 from hm0)
      subst m1
      have hE : lChi δ t (t0 :: q0) = .inl e := by
        unfold lChi
        rw [if_neg (by omega)]
        rw [hr0]
        rfl
      refine e_istore_n (q := 36) (i := 2) (L' := [_, _, _, _, _]) dX5_childLine_35 rfl rfl (by decide) rfl rfl ?_
      refine e_iload_n (q := 37) (i := 2) dX5_childLine_36 rfl rfl rfl ?_
      refine e_if_ne (q := 40) (tgt := 44) dX5_childLine_37 rfl (by decide) (fun c37 => by exfalso; omega) (fun c37 => ?_)
      refine e_iconst (q := 41) dX5_childLine_40 rfl ?_
      refine e_goto (tgt := 51) dX5_childLine_41 (by decide) ?_
      refine e_istore_n (q := 52) (i := 3) (L' := [_, _, _, _, _]) dX5_childLine_51 rfl rfl (by decide) rfl rfl ?_
      refine e_iload_n (q := 53) (i := 3) dX5_childLine_52 rfl rfl rfl ?_
      refine e_iconst (q := 54) dX5_childLine_53 rfl ?_
      refine e_icmp_ne (q := 57) (tgt := 61) dX5_childLine_54 rfl (by decide) (fun c54 => by exfalso; omega) (fun c54 => ?_)
      refine e_iconst (q := 58) dX5_childLine_57 rfl ?_
      refine e_goto (tgt := 68) dX5_childLine_58 (by decide) ?_
      refine e_istore (q := 70) (L' := [_, _, _, _, _]) dX5_childLine_68 rfl (by decide) rfl rfl ?_
      refine e_iload (q := 72) dX5_childLine_70 rfl rfl ?_
      refine e_iconst (q := 73) dX5_childLine_72 rfl ?_
      refine e_icmp_ne (q := 76) (tgt := 78) dX5_childLine_73 rfl (by decide) (fun c73 => by exfalso; omega) (fun c73 => ?_)
      refine e_iconst (q := 77) dX5_childLine_76 rfl ?_
      exact r_z dX5_childLine_77 rfl (by first | exact Or.inl rfl | exact Or.inr rfl | omega) (by rw [hE]; exact ⟨⟨F0.mono (by decide), L0⟩, rfl, m2, m3, F0.mono (by decide)⟩)
    | inr q =>
      obtain ⟨v0, r0⟩ := q
      rw [hr0] at hm0
      obtain ⟨m1, ck1, p7, p8⟩ := (show z0 = v0 ∧ CK s0 r0 ∧ s0.1 19 7 = ss.1 19 7 ∧ s0.1 19 8 = ss.1 19 8 from hm0)
      have m1 := m1.symm
      subst m1
      have P7_0 : s0.1 19 7 = σ.1 19 7 := p7.trans P7s
      have P8_0 : s0.1 19 8 = σ.1 19 8 := p8.trans P8s
      have D0 : DR s0 δ := hD.fr F0
      have ok0 := pNew_ok Gs hr0
      have G0 : ∀ x ∈ r0, tkG x := by
        obtain ⟨tt, ett, -⟩ := ok0.2.2.2
        intro x hx
        exact Gs x (by rw [ett]; exact List.mem_cons_of_mem _ hx)
      obtain ⟨t1, q1, e1⟩ := ck1.ne
      subst e1
      refine e_istore_n (q := 36) (i := 2) (L' := [_, _, _, _, _]) dX5_childLine_35 rfl rfl (by decide) rfl rfl ?_
      refine e_iload_n (q := 37) (i := 2) dX5_childLine_36 rfl rfl rfl ?_
      refine e_if_ne (q := 40) (tgt := 44) dX5_childLine_37 rfl (by decide) (fun c37 => ?_) (fun c37 => by exfalso; omega)
      refine e_aload_n (q := 45) (i := 0) dX5_childLine_44 rfl rfl rfl ?_
      refine e_iconst (q := 46) dX5_childLine_45 rfl ?_
      refine e_bipush (q := 48) dX5_childLine_46 rfl (by decide) ?_
      refine e_Vi (q := 51) (vs := [_, _]) ok_X5_number ml_X5_105 dX5_childLine_48 rfl ⟨_, _, rfl⟩ (by first | assumption | rfl) rfl rfl (Nat.le_of_ble_eq_true rfl) (by decide) (c_X5_number ck1 (by decide) (by decide) (by first | decide | omega) (by first | decide | omega)) (fun z1 s1 h1 => ?_)
      obtain ⟨⟨hf1, hl1⟩, hm1⟩ := h1
      have F1 : Fr [19] σ s1 := F0.tr hf1
      have L1 : s1.1 19 2 = σ.1 19 2 := hl1.trans L0
      cases hr1 : pNum 1 30 (t1 :: q1) with
      | inl e =>
        rw [hr1] at hm1
        obtain ⟨m1, m2, m3⟩ := (show z1 = -1 ∧ s1.1 19 7 = e.1 ∧ s1.1 19 8 = e.2 from hm1)
        subst m1
        have hE : lChi δ t (t0 :: q0) = .inl e := by
          unfold lChi
          rw [if_neg (by omega)]
          rw [hr0, bnd_r]
          rw [hr1]
          rfl
        refine e_istore_n (q := 52) (i := 3) (L' := [_, _, _, _, _]) dX5_childLine_51 rfl rfl (by decide) rfl rfl ?_
        refine e_iload_n (q := 53) (i := 3) dX5_childLine_52 rfl rfl rfl ?_
        refine e_iconst (q := 54) dX5_childLine_53 rfl ?_
        refine e_icmp_ne (q := 57) (tgt := 61) dX5_childLine_54 rfl (by decide) (fun c54 => by exfalso; omega) (fun c54 => ?_)
        refine e_iconst (q := 58) dX5_childLine_57 rfl ?_
        refine e_goto (tgt := 68) dX5_childLine_58 (by decide) ?_
        refine e_istore (q := 70) (L' := [_, _, _, _, _]) dX5_childLine_68 rfl (by decide) rfl rfl ?_
        refine e_iload (q := 72) dX5_childLine_70 rfl rfl ?_
        refine e_iconst (q := 73) dX5_childLine_72 rfl ?_
        refine e_icmp_ne (q := 76) (tgt := 78) dX5_childLine_73 rfl (by decide) (fun c73 => by exfalso; omega) (fun c73 => ?_)
        refine e_iconst (q := 77) dX5_childLine_76 rfl ?_
        exact r_z dX5_childLine_77 rfl (by first | exact Or.inl rfl | exact Or.inr rfl | omega) (by rw [hE]; exact ⟨⟨F1.mono (by decide), L1⟩, rfl, m2, m3, F1.mono (by decide)⟩)
      | inr q =>
        obtain ⟨v1, r1⟩ := q
        rw [hr1] at hm1
        obtain ⟨m1, ck2, p7, p8⟩ := (show z1 = v1 ∧ CK s1 r1 ∧ s1.1 19 7 = s0.1 19 7 ∧ s1.1 19 8 = s0.1 19 8 from hm1)
        have m1 := m1.symm
        subst m1
        have P7_1 : s1.1 19 7 = σ.1 19 7 := p7.trans P7_0
        have P8_1 : s1.1 19 8 = σ.1 19 8 := p8.trans P8_0
        have D1 : DR s1 δ := hD.fr F1
        have ok1 := pNum_ok hr1
        have G1 : ∀ x ∈ r1, tkG x := by
          obtain ⟨tt, ett, -⟩ := ok1.2.2
          intro x hx
          exact G0 x (by rw [ett]; exact List.mem_cons_of_mem _ hx)
        obtain ⟨t2, q2, e2⟩ := ck2.ne
        subst e2
        refine e_istore_n (q := 52) (i := 3) (L' := [_, _, _, _, _]) dX5_childLine_51 rfl rfl (by decide) rfl rfl ?_
        refine e_iload_n (q := 53) (i := 3) dX5_childLine_52 rfl rfl rfl ?_
        refine e_iconst (q := 54) dX5_childLine_53 rfl ?_
        refine e_icmp_ne (q := 57) (tgt := 61) dX5_childLine_54 rfl (by decide) (fun c54 => ?_) (fun c54 => by exfalso; omega)
        refine e_aload_n (q := 62) (i := 0) dX5_childLine_61 rfl rfl rfl ?_
        refine e_iconst (q := 63) dX5_childLine_62 rfl ?_
        refine e_bipush (q := 65) dX5_childLine_63 rfl (by decide) ?_
        refine e_Vi (q := 68) (vs := [_, _]) ok_X5_number ml_X5_105 dX5_childLine_65 rfl ⟨_, _, rfl⟩ (by first | assumption | rfl) rfl rfl (Nat.le_of_ble_eq_true rfl) (by decide) (c_X5_number ck2 (by decide) (by decide) (by first | decide | omega) (by first | decide | omega)) (fun z2 s2 h2 => ?_)
        obtain ⟨⟨hf2, hl2⟩, hm2⟩ := h2
        have F2 : Fr [19] σ s2 := F1.tr hf2
        have L2 : s2.1 19 2 = σ.1 19 2 := hl2.trans L1
        cases hr2 : pNum 0 9 (t2 :: q2) with
        | inl e =>
          rw [hr2] at hm2
          obtain ⟨m1, m2, m3⟩ := (show z2 = -1 ∧ s2.1 19 7 = e.1 ∧ s2.1 19 8 = e.2 from hm2)
          subst m1
          have hE : lChi δ t (t0 :: q0) = .inl e := by
            unfold lChi
            rw [if_neg (by omega)]
            rw [hr0, bnd_r]
            rw [hr1, bnd_r]
            rw [hr2]
            rfl
          refine e_istore (q := 70) (L' := [_, _, _, _, _]) dX5_childLine_68 rfl (by decide) rfl rfl ?_
          refine e_iload (q := 72) dX5_childLine_70 rfl rfl ?_
          refine e_iconst (q := 73) dX5_childLine_72 rfl ?_
          refine e_icmp_ne (q := 76) (tgt := 78) dX5_childLine_73 rfl (by decide) (fun c73 => by exfalso; omega) (fun c73 => ?_)
          refine e_iconst (q := 77) dX5_childLine_76 rfl ?_
          exact r_z dX5_childLine_77 rfl (by first | exact Or.inl rfl | exact Or.inr rfl | omega) (by rw [hE]; exact ⟨⟨F2.mono (by decide), L2⟩, rfl, m2, m3, F2.mono (by decide)⟩)
        | inr q =>
          obtain ⟨v2, r2⟩ := q
          rw [hr2] at hm2
          obtain ⟨m1, ck3, p7, p8⟩ := (show z2 = v2 ∧ CK s2 r2 ∧ s2.1 19 7 = s1.1 19 7 ∧ s2.1 19 8 = s1.1 19 8 from hm2)
          have m1 := m1.symm
          subst m1
          have P7_2 : s2.1 19 7 = σ.1 19 7 := p7.trans P7_1
          have P8_2 : s2.1 19 8 = σ.1 19 8 := p8.trans P8_1
          have D2 : DR s2 δ := hD.fr F2
          have ok2 := pNum_ok hr2
          have G2 : ∀ x ∈ r2, tkG x := by
            obtain ⟨tt, ett, -⟩ := ok2.2.2
            intro x hx
            exact G1 x (by rw [ett]; exact List.mem_cons_of_mem _ hx)
          obtain ⟨t3, q3, e3⟩ := ck3.ne
          subst e3
          refine e_istore (q := 70) (L' := [_, _, _, _, _]) dX5_childLine_68 rfl (by decide) rfl rfl ?_
          refine e_iload (q := 72) dX5_childLine_70 rfl rfl ?_
          refine e_iconst (q := 73) dX5_childLine_72 rfl ?_
          refine e_icmp_ne (q := 76) (tgt := 78) dX5_childLine_73 rfl (by decide) (fun c73 => ?_) (fun c73 => by exfalso; omega)
          have dx : s2.1 23 3 = δ 23 3 := by rw [D2.c (by decide)]
          refine e_aload_n (q := 79) (i := 0) dX5_childLine_78 rfl rfl rfl ?_
          refine e_getR (q := 82) dX5_childLine_79 rfl fg_X5_32 (by first | assumption | rfl) rfl ?_
          refine e_getR (q := 85) dX5_childLine_82 rfl fg_X5_142 (by first | assumption | rfl) rfl ?_
          refine e_iload_n (q := 86) (i := 1) dX5_childLine_85 rfl rfl rfl ?_
          refine e_iload_n (q := 87) (i := 2) dX5_childLine_86 rfl rfl rfl ?_
          refine e_iast (q := 88) dX5_childLine_87 rfl (by first | assumption | rfl) ?_
          refine e_aload_n (q := 89) (i := 0) dX5_childLine_88 rfl rfl rfl ?_
          refine e_getR (q := 92) dX5_childLine_89 rfl fg_X5_32 (by first | assumption | rfl) rfl ?_
          refine e_getR (q := 95) dX5_childLine_92 rfl fg_X5_145 (by first | assumption | rfl) rfl ?_
          refine e_iload_n (q := 96) (i := 1) dX5_childLine_95 rfl rfl rfl ?_
          refine e_iload_n (q := 97) (i := 3) dX5_childLine_96 rfl rfl rfl ?_
          refine e_iast (q := 98) dX5_childLine_97 rfl (by first | assumption | rfl) ?_
          refine e_aload_n (q := 99) (i := 0) dX5_childLine_98 rfl rfl rfl ?_
          refine e_getR (q := 102) dX5_childLine_99 rfl fg_X5_32 (by first | assumption | rfl) rfl ?_
          refine e_getR (q := 105) dX5_childLine_102 rfl fg_X5_148 (by first | assumption | rfl) rfl ?_
          refine e_iload_n (q := 106) (i := 1) dX5_childLine_105 rfl rfl rfl ?_
          refine e_iload (q := 108) dX5_childLine_106 rfl rfl ?_
          refine e_iast (q := 109) dX5_childLine_108 rfl (by first | assumption | rfl) ?_
          refine e_aload_n (q := 110) (i := 0) dX5_childLine_109 rfl rfl rfl ?_
          refine e_getR (q := 113) dX5_childLine_110 rfl fg_X5_32 (by first | assumption | rfl) rfl ?_
          refine e_dup (q := 114) dX5_childLine_113 rfl rfl ?_
          refine e_getI (q := 117) (jz := 3) dX5_childLine_114 rfl fg_X5_139 rfl (by first | assumption | rfl) rfl ?_
          rw [show (sI (sI (sI s2 29 (δ 23 3) v0) 27 (δ 23 3) v1) 28 (δ 23 3) v2).1 23 3 = (δ 23 3) from by rw [sI_ne _ (by decide), sI_ne _ (by decide), sI_ne _ (by decide)]; exact dx]
          refine e_iconst (q := 118) dX5_childLine_117 rfl ?_
          refine e_iadd (q := 119) dX5_childLine_118 rfl ?_
          refine e_putI (q := 122) (jz := 3) dX5_childLine_119 rfl fp_X5_139 rfl (by first | assumption | rfl) rfl ?_
          refine e_iconst (q := 123) dX5_childLine_122 rfl ?_
          have hE : lChi δ t (t0 :: q0) = .inr ((u2 (u2 (u2 (u2 δ 29 (δ 23 3) v0) 27 (δ 23 3) v1) 28 (δ 23 3) v2) 23 3 (δ 23 3 + 1)), t3 :: q3) := by
            unfold lChi
            rw [if_neg (by omega)]
            rw [hr0, bnd_r]
            rw [hr1, bnd_r]
            rw [hr2, bnd_r]
          exact r_z dX5_childLine_123 rfl (by first | exact Or.inl rfl | exact Or.inr rfl | omega) (by rw [hE]; exact ⟨⟨(((((F2.mono (by decide)).sI (by decide) _ _).sI (by decide) _ _).sI (by decide) _ _).sI (by decide) _ _), by rw [sI_ne _ (by decide), sI_ne _ (by decide), sI_ne _ (by decide), sI_ne _ (by decide)]; exact L2⟩, rfl, ((((D2.s 29 (δ 23 3) v0).s 27 (δ 23 3) v1).s 28 (δ 23 3) v2).s 23 3 (δ 23 3 + 1)), ck3.fr (C := [29, 27, 28, 23]) (((((Fr.rf _ s2).sI (by decide) _ _).sI (by decide) _ _).sI (by decide) _ _).sI (by decide) _ _) (by decide) (by decide) (fun j _ _ => by rw [sI_ne _ (by decide), sI_ne _ (by decide), sI_ne _ (by decide), sI_ne _ (by decide)]), by rw [sI_ne _ (by decide), sI_ne _ (by decide), sI_ne _ (by decide), sI_ne _ (by decide)]; exact P7_2, by rw [sI_ne _ (by decide), sI_ne _ (by decide), sI_ne _ (by decide), sI_ne _ (by decide)]; exact P8_2⟩)
  · refine e_aload_n (q := 15) (i := 0) dX5_childLine_14 rfl rfl rfl ?_
    refine e_getR (q := 18) dX5_childLine_15 rfl fg_X5_14 (by first | assumption | rfl) rfl ?_
    refine e_iconst (q := 19) dX5_childLine_18 rfl ?_
    refine e_Vi (q := 22) (vs := [_]) ok_X8_fail ml_X5_88 dX5_childLine_19 rfl ⟨_, _, rfl⟩ (by first | assumption | rfl) rfl rfl (Nat.le_of_ble_eq_true rfl) (by decide) (c_X8_fail) (fun zf sf hf => ?_)
    obtain ⟨rfl, rfl⟩ := hf
    rw [k5]
    exact r_z dX5_childLine_22 rfl (Or.inl rfl) (by rw [show lChi δ t r = .inl (2, t.2.1) from if_pos (by omega)]; exact fail_L (Fr.rf _ _) rfl)

set_option maxHeartbeats 8000000 in
theorem c_X5_parishLine {G : Gx} {σ : Sg} {t : Tk} {r : List Tk} {δ : Dl} (hC : CK σ (t :: r)) (hD : DR σ δ) (hO : DOk δ) (hG : ∀ x ∈ t :: r, tkG x) (hk : t.1 = 1) : Con G 7 mX5_parishLine [.ref (G.2.2.2 + 18)] σ (pI (fun z σ' => RdL σ σ' z (lPar δ t r))) := by
  obtain ⟨k4, k5, kv, kr, kp⟩ := hC.hd
  obtain ⟨o0, o1, o2, o3, o4, o5, o6, o7, o8, o9, oc, ob, ok, og, ou, ow, ox, ot, oz, oy⟩ := id hO
  have d23 : σ.1 23 = δ 23 := hD.c (by decide)
  refine e_entry om_X5_parishLine (Nat.le_of_ble_eq_true rfl) (L := [some (.ref (G.2.2.2 + 18)), none, none, none, none, none]) rfl ?_
  refine e_aload_n (q := 1) (i := 0) dX5_parishLine_0 rfl rfl rfl ?_
  refine e_getR (q := 4) dX5_parishLine_1 rfl fg_X5_32 (by first | assumption | rfl) rfl ?_
  refine e_getI (q := 7) (jz := 2) dX5_parishLine_4 rfl fg_X5_112 rfl (by first | assumption | rfl) rfl ?_
  rw [d23]
  refine e_istore_n (q := 8) (i := 1) (L' := [_, _, _, _, _, _]) dX5_parishLine_7 rfl rfl (by decide) rfl rfl ?_
  refine e_iload_n (q := 9) (i := 1) dX5_parishLine_8 rfl rfl rfl ?_
  refine e_iconst (q := 10) dX5_parishLine_9 rfl ?_
  refine e_icmp_lt (q := 13) (tgt := 22) dX5_parishLine_10 rfl (by decide) (fun c10 => ?_) (fun c10 => ?_) (hx := ⟨by omega, by omega⟩)
  · refine e_aload_n (q := 23) (i := 0) dX5_parishLine_22 rfl rfl rfl ?_
    refine e_getR (q := 26) dX5_parishLine_23 rfl fg_X5_14 (by first | assumption | rfl) rfl ?_
    refine e_Vv (q := 29) (vs := []) ok_X8_step ml_X5_92 dX5_parishLine_26 rfl ⟨_, _, rfl⟩ (by first | assumption | rfl) rfl rfl (Nat.le_of_ble_eq_true rfl) (by decide) (c_step hC (by omega)) (fun ss hs => ?_)
    obtain ⟨hT, ck0⟩ := hs
    have Fs : Fr [19] σ ss := hT.1
    have Ls : ss.1 19 2 = σ.1 19 2 := hT.n
    have P7s : ss.1 19 7 = σ.1 19 7 := hT.2 7 (by decide) (by decide) (by decide) (by decide)
    have P8s : ss.1 19 8 = σ.1 19 8 := hT.2 8 (by decide) (by decide) (by decide) (by decide)
    have Ds : DR ss δ := hD.fr Fs
    have Gs : ∀ x ∈ r, tkG x := fun x hx => hG x (List.mem_cons_of_mem _ hx)
    obtain ⟨t0, q0, e0⟩ := ck0.ne
    subst e0
    refine e_aload_n (q := 30) (i := 0) dX5_parishLine_29 rfl rfl rfl ?_
    refine e_iconst (q := 31) dX5_parishLine_30 rfl ?_
    have dn0 : ss.1 23 2 = δ 23 2 := by rw [Ds.c (by decide)]
    have dm0 : ss.1 26 = δ 26 := Ds.c (by decide)
    refine e_Vi (q := 34) (vs := [_]) ok_X5_newName ml_X5_115 dX5_parishLine_31 rfl ⟨_, _, rfl⟩ (by first | assumption | rfl) rfl rfl (Nat.le_of_ble_eq_true rfl) (by decide) ((show Con G 5 mX5_newName _ _ (pI (fun z σ' => RdN ss σ' 0 z (pNew (δ 26) (δ 23 2) (t0 :: q0)))) from by rw [← dn0, ← dm0]; exact c_X5_newName_p ck0 (by omega) (by omega) (fun i a b => by rw [dm0]; exact (o8 i a (by omega)).2.2.2.2))) (fun z0 s0 h0 => ?_)
    obtain ⟨⟨hf0, hl0⟩, hm0⟩ := h0
    have F0 : Fr [19] σ s0 := Fs.tr hf0
    have L0 : s0.1 19 2 = σ.1 19 2 := hl0.trans Ls
    cases hr0 : pNew (δ 26) (δ 23 2) (t0 :: q0) with
    | inl e =>
      rw [hr0] at hm0
      obtain ⟨m1, m2, m3⟩ := (show z0 = 0 ∧ s0.1 19 7 = e.1 ∧ s0.1 19 8 = e.2 from hm0)
      subst m1
      have hE : lPar δ t (t0 :: q0) = .inl e := by
        unfold lPar
        rw [if_neg (by omega)]
        rw [hr0]
        rfl
      refine e_istore_n (q := 35) (i := 2) (L' := [_, _, _, _, _, _]) dX5_parishLine_34 rfl rfl (by decide) rfl rfl ?_
      refine e_iload_n (q := 36) (i := 2) dX5_parishLine_35 rfl rfl rfl ?_
      refine e_if_ne (q := 39) (tgt := 43) dX5_parishLine_36 rfl (by decide) (fun c36 => by exfalso; omega) (fun c36 => ?_)
      refine e_iconst (q := 40) dX5_parishLine_39 rfl ?_
      refine e_goto (tgt := 57) dX5_parishLine_40 (by decide) ?_
      refine e_istore_n (q := 58) (i := 3) (L' := [_, _, _, _, _, _]) dX5_parishLine_57 rfl rfl (by decide) rfl rfl ?_
      refine e_aload_n (q := 59) (i := 0) dX5_parishLine_58 rfl rfl rfl ?_
      refine e_getR (q := 62) dX5_parishLine_59 rfl fg_X5_14 (by first | assumption | rfl) rfl ?_
      refine e_getI (q := 65) (jz := 5) dX5_parishLine_62 rfl fg_X5_119 rfl (by first | assumption | rfl) rfl ?_
      refine e_istore (q := 67) (L' := [_, _, _, _, _, _]) dX5_parishLine_65 rfl (by decide) rfl rfl ?_
      refine e_iload_n (q := 68) (i := 3) dX5_parishLine_67 rfl rfl rfl ?_
      refine e_iconst (q := 69) dX5_parishLine_68 rfl ?_
      refine e_icmp_ne (q := 72) (tgt := 76) dX5_parishLine_69 rfl (by decide) (fun c69 => by exfalso; omega) (fun c69 => ?_)
      refine e_iconst (q := 73) dX5_parishLine_72 rfl ?_
      refine e_goto (tgt := 90) dX5_parishLine_73 (by decide) ?_
      refine e_istore (q := 92) (L' := [_, _, _, _, _, _]) dX5_parishLine_90 rfl (by decide) rfl rfl ?_
      refine e_iload (q := 94) dX5_parishLine_92 rfl rfl ?_
      refine e_iconst (q := 95) dX5_parishLine_94 rfl ?_
      refine e_icmp_ne (q := 98) (tgt := 100) dX5_parishLine_95 rfl (by decide) (fun c95 => by exfalso; omega) (fun c95 => ?_)
      refine e_iconst (q := 99) dX5_parishLine_98 rfl ?_
      exact r_z dX5_parishLine_99 rfl (by first | exact Or.inl rfl | exact Or.inr rfl | omega) (by rw [hE]; exact ⟨⟨F0.mono (by decide), L0⟩, rfl, m2, m3, F0.mono (by decide)⟩)
    | inr q =>
      obtain ⟨v0, r0⟩ := q
      rw [hr0] at hm0
      obtain ⟨m1, ck1, p7, p8⟩ := (show z0 = v0 ∧ CK s0 r0 ∧ s0.1 19 7 = ss.1 19 7 ∧ s0.1 19 8 = ss.1 19 8 from hm0)
      have m1 := m1.symm
      subst m1
      have P7_0 : s0.1 19 7 = σ.1 19 7 := p7.trans P7s
      have P8_0 : s0.1 19 8 = σ.1 19 8 := p8.trans P8s
      have D0 : DR s0 δ := hD.fr F0
      have ok0 := pNew_ok Gs hr0
      have G0 : ∀ x ∈ r0, tkG x := by
        obtain ⟨tt, ett, -⟩ := ok0.2.2.2
        intro x hx
        exact Gs x (by rw [ett]; exact List.mem_cons_of_mem _ hx)
      obtain ⟨t1, q1, e1⟩ := ck1.ne
      subst e1
      refine e_istore_n (q := 35) (i := 2) (L' := [_, _, _, _, _, _]) dX5_parishLine_34 rfl rfl (by decide) rfl rfl ?_
      refine e_iload_n (q := 36) (i := 2) dX5_parishLine_35 rfl rfl rfl ?_
      refine e_if_ne (q := 39) (tgt := 43) dX5_parishLine_36 rfl (by decide) (fun c36 => ?_) (fun c36 => by exfalso; omega)
      refine e_aload_n (q := 44) (i := 0) dX5_parishLine_43 rfl rfl rfl ?_
      refine e_iconst (q := 45) dX5_parishLine_44 rfl ?_
      refine e_aload_n (q := 46) (i := 0) dX5_parishLine_45 rfl rfl rfl ?_
      refine e_getR (q := 49) dX5_parishLine_46 rfl fg_X5_32 (by first | assumption | rfl) rfl ?_
      refine e_getI (q := 52) (jz := 0) dX5_parishLine_49 rfl fg_X5_109 rfl (by first | assumption | rfl) rfl ?_
      rw [show s0.1 23 0 = δ 23 0 from by rw [D0.c (by decide)]]
      refine e_iconst (q := 53) dX5_parishLine_52 rfl ?_
      refine e_isub (q := 54) dX5_parishLine_53 rfl ?_
      refine e_Vi (q := 57) (vs := [_, _]) ok_X5_number ml_X5_105 dX5_parishLine_54 rfl ⟨_, _, rfl⟩ (by first | assumption | rfl) rfl rfl (Nat.le_of_ble_eq_true rfl) (by decide) (c_X5_number ck1 (by decide) (by decide) (by first | decide | omega) (by first | decide | omega)) (fun z1 s1 h1 => ?_)
      obtain ⟨⟨hf1, hl1⟩, hm1⟩ := h1
      have F1 : Fr [19] σ s1 := F0.tr hf1
      have L1 : s1.1 19 2 = σ.1 19 2 := hl1.trans L0
      cases hr1 : pNum 0 (δ 23 0 - 1) (t1 :: q1) with
      | inl e =>
        rw [hr1] at hm1
        obtain ⟨m1, m2, m3⟩ := (show z1 = -1 ∧ s1.1 19 7 = e.1 ∧ s1.1 19 8 = e.2 from hm1)
        subst m1
        have hE : lPar δ t (t0 :: q0) = .inl e := by
          unfold lPar
          rw [if_neg (by omega)]
          rw [hr0, bnd_r]
          rw [hr1]
          rfl
        refine e_istore_n (q := 58) (i := 3) (L' := [_, _, _, _, _, _]) dX5_parishLine_57 rfl rfl (by decide) rfl rfl ?_
        refine e_aload_n (q := 59) (i := 0) dX5_parishLine_58 rfl rfl rfl ?_
        refine e_getR (q := 62) dX5_parishLine_59 rfl fg_X5_14 (by first | assumption | rfl) rfl ?_
        refine e_getI (q := 65) (jz := 5) dX5_parishLine_62 rfl fg_X5_119 rfl (by first | assumption | rfl) rfl ?_
        refine e_istore (q := 67) (L' := [_, _, _, _, _, _]) dX5_parishLine_65 rfl (by decide) rfl rfl ?_
        refine e_iload_n (q := 68) (i := 3) dX5_parishLine_67 rfl rfl rfl ?_
        refine e_iconst (q := 69) dX5_parishLine_68 rfl ?_
        refine e_icmp_ne (q := 72) (tgt := 76) dX5_parishLine_69 rfl (by decide) (fun c69 => by exfalso; omega) (fun c69 => ?_)
        refine e_iconst (q := 73) dX5_parishLine_72 rfl ?_
        refine e_goto (tgt := 90) dX5_parishLine_73 (by decide) ?_
        refine e_istore (q := 92) (L' := [_, _, _, _, _, _]) dX5_parishLine_90 rfl (by decide) rfl rfl ?_
        refine e_iload (q := 94) dX5_parishLine_92 rfl rfl ?_
        refine e_iconst (q := 95) dX5_parishLine_94 rfl ?_
        refine e_icmp_ne (q := 98) (tgt := 100) dX5_parishLine_95 rfl (by decide) (fun c95 => by exfalso; omega) (fun c95 => ?_)
        refine e_iconst (q := 99) dX5_parishLine_98 rfl ?_
        exact r_z dX5_parishLine_99 rfl (by first | exact Or.inl rfl | exact Or.inr rfl | omega) (by rw [hE]; exact ⟨⟨F1.mono (by decide), L1⟩, rfl, m2, m3, F1.mono (by decide)⟩)
      | inr q =>
        obtain ⟨v1, r1⟩ := q
        rw [hr1] at hm1
        obtain ⟨m1, ck2, p7, p8⟩ := (show z1 = v1 ∧ CK s1 r1 ∧ s1.1 19 7 = s0.1 19 7 ∧ s1.1 19 8 = s0.1 19 8 from hm1)
        have m1 := m1.symm
        subst m1
        have P7_1 : s1.1 19 7 = σ.1 19 7 := p7.trans P7_0
        have P8_1 : s1.1 19 8 = σ.1 19 8 := p8.trans P8_0
        have D1 : DR s1 δ := hD.fr F1
        have ok1 := pNum_ok hr1
        have G1 : ∀ x ∈ r1, tkG x := by
          obtain ⟨tt, ett, -⟩ := ok1.2.2
          intro x hx
          exact G0 x (by rw [ett]; exact List.mem_cons_of_mem _ hx)
        obtain ⟨t2, q2, e2⟩ := ck2.ne
        subst e2
        refine e_istore_n (q := 58) (i := 3) (L' := [_, _, _, _, _, _]) dX5_parishLine_57 rfl rfl (by decide) rfl rfl ?_
        refine e_aload_n (q := 59) (i := 0) dX5_parishLine_58 rfl rfl rfl ?_
        refine e_getR (q := 62) dX5_parishLine_59 rfl fg_X5_14 (by first | assumption | rfl) rfl ?_
        refine e_getI (q := 65) (jz := 5) dX5_parishLine_62 rfl fg_X5_119 rfl (by first | assumption | rfl) rfl ?_
        refine e_istore (q := 67) (L' := [_, _, _, _, _, _]) dX5_parishLine_65 rfl (by decide) rfl rfl ?_
        refine e_iload_n (q := 68) (i := 3) dX5_parishLine_67 rfl rfl rfl ?_
        refine e_iconst (q := 69) dX5_parishLine_68 rfl ?_
        refine e_icmp_ne (q := 72) (tgt := 76) dX5_parishLine_69 rfl (by decide) (fun c69 => ?_) (fun c69 => by exfalso; omega)
        refine e_aload_n (q := 77) (i := 0) dX5_parishLine_76 rfl rfl rfl ?_
        refine e_iconst (q := 78) dX5_parishLine_77 rfl ?_
        refine e_aload_n (q := 79) (i := 0) dX5_parishLine_78 rfl rfl rfl ?_
        refine e_getR (q := 82) dX5_parishLine_79 rfl fg_X5_32 (by first | assumption | rfl) rfl ?_
        refine e_getI (q := 85) (jz := 0) dX5_parishLine_82 rfl fg_X5_109 rfl (by first | assumption | rfl) rfl ?_
        rw [show s1.1 23 0 = δ 23 0 from by rw [D1.c (by decide)]]
        refine e_iconst (q := 86) dX5_parishLine_85 rfl ?_
        refine e_isub (q := 87) dX5_parishLine_86 rfl ?_
        refine e_Vi (q := 90) (vs := [_, _]) ok_X5_number ml_X5_105 dX5_parishLine_87 rfl ⟨_, _, rfl⟩ (by first | assumption | rfl) rfl rfl (Nat.le_of_ble_eq_true rfl) (by decide) (c_X5_number ck2 (by decide) (by decide) (by first | decide | omega) (by first | decide | omega)) (fun z2 s2 h2 => ?_)
        obtain ⟨⟨hf2, hl2⟩, hm2⟩ := h2
        have F2 : Fr [19] σ s2 := F1.tr hf2
        have L2 : s2.1 19 2 = σ.1 19 2 := hl2.trans L1
        cases hr2 : pNum 0 (δ 23 0 - 1) (t2 :: q2) with
        | inl e =>
          rw [hr2] at hm2
          obtain ⟨m1, m2, m3⟩ := (show z2 = -1 ∧ s2.1 19 7 = e.1 ∧ s2.1 19 8 = e.2 from hm2)
          subst m1
          have hE : lPar δ t (t0 :: q0) = .inl e := by
            unfold lPar
            rw [if_neg (by omega)]
            rw [hr0, bnd_r]
            rw [hr1, bnd_r]
            rw [hr2]
            rfl
          refine e_istore (q := 92) (L' := [_, _, _, _, _, _]) dX5_parishLine_90 rfl (by decide) rfl rfl ?_
          refine e_iload (q := 94) dX5_parishLine_92 rfl rfl ?_
          refine e_iconst (q := 95) dX5_parishLine_94 rfl ?_
          refine e_icmp_ne (q := 98) (tgt := 100) dX5_parishLine_95 rfl (by decide) (fun c95 => by exfalso; omega) (fun c95 => ?_)
          refine e_iconst (q := 99) dX5_parishLine_98 rfl ?_
          exact r_z dX5_parishLine_99 rfl (by first | exact Or.inl rfl | exact Or.inr rfl | omega) (by rw [hE]; exact ⟨⟨F2.mono (by decide), L2⟩, rfl, m2, m3, F2.mono (by decide)⟩)
        | inr q =>
          obtain ⟨v2, r2⟩ := q
          rw [hr2] at hm2
          obtain ⟨m1, ck3, p7, p8⟩ := (show z2 = v2 ∧ CK s2 r2 ∧ s2.1 19 7 = s1.1 19 7 ∧ s2.1 19 8 = s1.1 19 8 from hm2)
          have m1 := m1.symm
          subst m1
          have P7_2 : s2.1 19 7 = σ.1 19 7 := p7.trans P7_1
          have P8_2 : s2.1 19 8 = σ.1 19 8 := p8.trans P8_1
          have D2 : DR s2 δ := hD.fr F2
          have ok2 := pNum_ok hr2
          have G2 : ∀ x ∈ r2, tkG x := by
            obtain ⟨tt, ett, -⟩ := ok2.2.2
            intro x hx
            exact G1 x (by rw [ett]; exact List.mem_cons_of_mem _ hx)
          obtain ⟨t3, q3, e3⟩ := ck3.ne
          subst e3
          refine e_istore (q := 92) (L' := [_, _, _, _, _, _]) dX5_parishLine_90 rfl (by decide) rfl rfl ?_
          refine e_iload (q := 94) dX5_parishLine_92 rfl rfl ?_
          refine e_iconst (q := 95) dX5_parishLine_94 rfl ?_
          refine e_icmp_ne (q := 98) (tgt := 100) dX5_parishLine_95 rfl (by decide) (fun c95 => ?_) (fun c95 => by exfalso; omega)
          have pl : s1.1 19 5 = t2.2.1 := ck2.hd.2.1
          have hRR : ∀ i, 0 ≤ i → i < s2.1 23 2 → R32 (s2.1 24 i) ∧ R32 (s2.1 25 i) := fun i a b => by
            have dn : s2.1 23 2 = δ 23 2 := by rw [D2.c (by decide)]
            have := o8 i a (by omega)
            rw [D2.c (a := 24) (by decide), D2.c (a := 25) (by decide)]
            exact ⟨⟨by omega, by omega⟩, ⟨by omega, by omega⟩⟩
          have dn : s2.1 23 2 = δ 23 2 := by rw [D2.c (by decide)]
          refine e_aload_n (q := 101) (i := 0) dX5_parishLine_100 rfl rfl rfl ?_
          refine e_getR (q := 104) dX5_parishLine_101 rfl fg_X5_32 (by first | assumption | rfl) rfl ?_
          refine e_iload_n (q := 105) (i := 3) dX5_parishLine_104 rfl rfl rfl ?_
          refine e_iload (q := 107) dX5_parishLine_105 rfl rfl ?_
          refine e_Vi (q := 110) (vs := [_, _]) ok_X9_hasChurch ml_X5_122 dX5_parishLine_107 rfl ⟨_, _, rfl⟩ (by first | assumption | rfl) rfl rfl (Nat.le_of_ble_eq_true rfl) (by decide) (c_X9_hasChurch (by omega) (by omega) hRR ⟨by omega, by omega⟩ ⟨by omega, by omega⟩) (fun zh sh hh => ?_)
          obtain ⟨hch, es⟩ := hh
          have es := es.symm
          subst es
          rw [show (∃ k, 0 ≤ k ∧ k < s2.1 23 2 ∧ s2.1 24 k = v1 ∧ s2.1 25 k = v2) = hasCh δ v1 v2 from by unfold hasCh; rw [D2.c (a := 23) (by decide), D2.c (a := 24) (by decide), D2.c (a := 25) (by decide)]] at hch
          refine e_if_eq (q := 113) (tgt := 124) dX5_parishLine_110 rfl (by decide) (fun c110 => ?_) (fun c110 => ?_) (hx := by rcases hch with q | q <;> rw [q.1] <;> exact ⟨by decide, by decide⟩)
          · refine e_aload_n (q := 125) (i := 0) dX5_parishLine_124 rfl rfl rfl ?_
            refine e_getR (q := 128) dX5_parishLine_125 rfl fg_X5_32 (by first | assumption | rfl) rfl ?_
            refine e_getR (q := 131) dX5_parishLine_128 rfl fg_X5_129 (by first | assumption | rfl) rfl ?_
            refine e_iload_n (q := 132) (i := 1) dX5_parishLine_131 rfl rfl rfl ?_
            refine e_iload_n (q := 133) (i := 2) dX5_parishLine_132 rfl rfl rfl ?_
            refine e_iast (q := 134) dX5_parishLine_133 rfl (by first | assumption | rfl) ?_
            refine e_aload_n (q := 135) (i := 0) dX5_parishLine_134 rfl rfl rfl ?_
            refine e_getR (q := 138) dX5_parishLine_135 rfl fg_X5_32 (by first | assumption | rfl) rfl ?_
            refine e_getR (q := 141) dX5_parishLine_138 rfl fg_X5_133 (by first | assumption | rfl) rfl ?_
            refine e_iload_n (q := 142) (i := 1) dX5_parishLine_141 rfl rfl rfl ?_
            refine e_iload_n (q := 143) (i := 3) dX5_parishLine_142 rfl rfl rfl ?_
            refine e_iast (q := 144) dX5_parishLine_143 rfl (by first | assumption | rfl) ?_
            refine e_aload_n (q := 145) (i := 0) dX5_parishLine_144 rfl rfl rfl ?_
            refine e_getR (q := 148) dX5_parishLine_145 rfl fg_X5_32 (by first | assumption | rfl) rfl ?_
            refine e_getR (q := 151) dX5_parishLine_148 rfl fg_X5_136 (by first | assumption | rfl) rfl ?_
            refine e_iload_n (q := 152) (i := 1) dX5_parishLine_151 rfl rfl rfl ?_
            refine e_iload (q := 154) dX5_parishLine_152 rfl rfl ?_
            refine e_iast (q := 155) dX5_parishLine_154 rfl (by first | assumption | rfl) ?_
            refine e_aload_n (q := 156) (i := 0) dX5_parishLine_155 rfl rfl rfl ?_
            refine e_getR (q := 159) dX5_parishLine_156 rfl fg_X5_32 (by first | assumption | rfl) rfl ?_
            refine e_dup (q := 160) dX5_parishLine_159 rfl rfl ?_
            refine e_getI (q := 163) (jz := 2) dX5_parishLine_160 rfl fg_X5_112 rfl (by first | assumption | rfl) rfl ?_
            rw [show (sI (sI (sI s2 26 (δ 23 2) v0) 24 (δ 23 2) v1) 25 (δ 23 2) v2).1 23 2 = (δ 23 2) from by rw [sI_ne _ (by decide), sI_ne _ (by decide), sI_ne _ (by decide)]; exact dn]
            refine e_iconst (q := 164) dX5_parishLine_163 rfl ?_
            refine e_iadd (q := 165) dX5_parishLine_164 rfl ?_
            refine e_putI (q := 168) (jz := 2) dX5_parishLine_165 rfl fp_X5_112 rfl (by first | assumption | rfl) rfl ?_
            refine e_iconst (q := 169) dX5_parishLine_168 rfl ?_
            have hE : lPar δ t (t0 :: q0) = .inr ((u2 (u2 (u2 (u2 δ 26 (δ 23 2) v0) 24 (δ 23 2) v1) 25 (δ 23 2) v2) 23 2 (δ 23 2 + 1)), t3 :: q3) := by
              unfold lPar
              rw [if_neg (by omega)]
              rw [hr0, bnd_r]
              rw [hr1, bnd_r]
              rw [hr2, bnd_r]
              exact @if_neg _ (Classical.propDecidable _) (by rcases hch with q | q; exact absurd q.1 (by omega); exact q.2) _ _ _
            exact r_z dX5_parishLine_169 rfl (by first | exact Or.inl rfl | exact Or.inr rfl | omega) (by rw [hE]; exact ⟨⟨(((((F2.mono (by decide)).sI (by decide) _ _).sI (by decide) _ _).sI (by decide) _ _).sI (by decide) _ _), by rw [sI_ne _ (by decide), sI_ne _ (by decide), sI_ne _ (by decide), sI_ne _ (by decide)]; exact L2⟩, rfl, ((((D2.s 26 (δ 23 2) v0).s 24 (δ 23 2) v1).s 25 (δ 23 2) v2).s 23 2 (δ 23 2 + 1)), ck3.fr (C := [26, 24, 25, 23]) (((((Fr.rf _ s2).sI (by decide) _ _).sI (by decide) _ _).sI (by decide) _ _).sI (by decide) _ _) (by decide) (by decide) (fun j _ _ => by rw [sI_ne _ (by decide), sI_ne _ (by decide), sI_ne _ (by decide), sI_ne _ (by decide)]), by rw [sI_ne _ (by decide), sI_ne _ (by decide), sI_ne _ (by decide), sI_ne _ (by decide)]; exact P7_2, by rw [sI_ne _ (by decide), sI_ne _ (by decide), sI_ne _ (by decide), sI_ne _ (by decide)]; exact P8_2⟩)
          · refine e_aload_n (q := 114) (i := 0) dX5_parishLine_113 rfl rfl rfl ?_
            refine e_getR (q := 117) dX5_parishLine_114 rfl fg_X5_14 (by first | assumption | rfl) rfl ?_
            refine e_iconst (q := 118) dX5_parishLine_117 rfl ?_
            refine e_iload (q := 120) dX5_parishLine_118 rfl rfl ?_
            refine e_Vi (q := 123) (vs := [_, _]) ok_X8_failAt ml_X5_126 dX5_parishLine_120 rfl ⟨_, _, rfl⟩ (by first | assumption | rfl) rfl rfl (Nat.le_of_ble_eq_true rfl) (by decide) (c_X8_failAt) (fun zf sf hf => ?_)
            obtain ⟨rfl, rfl⟩ := hf
            have hE : lPar δ t (t0 :: q0) = .inl (3, t2.2.1) := by
              unfold lPar
              rw [if_neg (by omega), hr0, bnd_r, hr1, bnd_r, hr2, bnd_r]
              exact @if_pos _ (Classical.propDecidable _) (by rcases hch with q | q; exact q.2; exact absurd q.1 c110) _ _ _
            rw [pl]
            exact r_z dX5_parishLine_123 rfl (Or.inl rfl) (by rw [hE]; exact fail_L (F2.mono (by decide)) L2)
  · refine e_aload_n (q := 14) (i := 0) dX5_parishLine_13 rfl rfl rfl ?_
    refine e_getR (q := 17) dX5_parishLine_14 rfl fg_X5_14 (by first | assumption | rfl) rfl ?_
    refine e_iconst (q := 18) dX5_parishLine_17 rfl ?_
    refine e_Vi (q := 21) (vs := [_]) ok_X8_fail ml_X5_88 dX5_parishLine_18 rfl ⟨_, _, rfl⟩ (by first | assumption | rfl) rfl rfl (Nat.le_of_ble_eq_true rfl) (by decide) (c_X8_fail) (fun zf sf hf => ?_)
    obtain ⟨rfl, rfl⟩ := hf
    rw [k5]
    exact r_z dX5_parishLine_21 rfl (Or.inl rfl) (by rw [show lPar δ t r = .inl (2, t.2.1) from if_pos (by omega)]; exact fail_L (Fr.rf _ _) rfl)

set_option maxHeartbeats 8000000 in
theorem c_X5_beatLine {G : Gx} {σ : Sg} {t : Tk} {r : List Tk} {δ : Dl} (hC : CK σ (t :: r)) (hD : DR σ δ) (hO : DOk δ) (hG : ∀ x ∈ t :: r, tkG x) (hk : t.1 = 3) : Con G 7 mX5_beatLine [.ref (G.2.2.2 + 18)] σ (pI (fun z σ' => RdL σ σ' z (lBeat δ t r))) := by
  obtain ⟨k4, k5, kv, kr, kp⟩ := hC.hd
  obtain ⟨o0, o1, o2, o3, o4, o5, o6, o7, o8, o9, oc, ob, ok, og, ou, ow, ox, ot, oz, oy⟩ := id hO
  have d23 : σ.1 23 = δ 23 := hD.c (by decide)
  refine e_entry om_X5_beatLine (Nat.le_of_ble_eq_true rfl) (L := [some (.ref (G.2.2.2 + 18)), none, none, none, none, none]) rfl ?_
  refine e_aload_n (q := 1) (i := 0) dX5_beatLine_0 rfl rfl rfl ?_
  refine e_getR (q := 4) dX5_beatLine_1 rfl fg_X5_32 (by first | assumption | rfl) rfl ?_
  refine e_getI (q := 7) (jz := 4) dX5_beatLine_4 rfl fg_X5_151 rfl (by first | assumption | rfl) rfl ?_
  rw [d23]
  refine e_istore_n (q := 8) (i := 1) (L' := [_, _, _, _, _, _]) dX5_beatLine_7 rfl rfl (by decide) rfl rfl ?_
  refine e_iload_n (q := 9) (i := 1) dX5_beatLine_8 rfl rfl rfl ?_
  refine e_bipush (q := 11) dX5_beatLine_9 rfl (by decide) ?_
  refine e_icmp_lt (q := 14) (tgt := 23) dX5_beatLine_11 rfl (by decide) (fun c11 => ?_) (fun c11 => ?_) (hx := ⟨by omega, by omega⟩)
  · refine e_aload_n (q := 24) (i := 0) dX5_beatLine_23 rfl rfl rfl ?_
    refine e_getR (q := 27) dX5_beatLine_24 rfl fg_X5_14 (by first | assumption | rfl) rfl ?_
    refine e_Vv (q := 30) (vs := []) ok_X8_step ml_X5_92 dX5_beatLine_27 rfl ⟨_, _, rfl⟩ (by first | assumption | rfl) rfl rfl (Nat.le_of_ble_eq_true rfl) (by decide) (c_step hC (by omega)) (fun ss hs => ?_)
    obtain ⟨hT, ck0⟩ := hs
    have Fs : Fr [19] σ ss := hT.1
    have Ls : ss.1 19 2 = σ.1 19 2 := hT.n
    have P7s : ss.1 19 7 = σ.1 19 7 := hT.2 7 (by decide) (by decide) (by decide) (by decide)
    have P8s : ss.1 19 8 = σ.1 19 8 := hT.2 8 (by decide) (by decide) (by decide) (by decide)
    have Ds : DR ss δ := hD.fr Fs
    have Gs : ∀ x ∈ r, tkG x := fun x hx => hG x (List.mem_cons_of_mem _ hx)
    obtain ⟨t0, q0, e0⟩ := ck0.ne
    subst e0
    refine e_aload_n (q := 31) (i := 0) dX5_beatLine_30 rfl rfl rfl ?_
    refine e_iconst (q := 32) dX5_beatLine_31 rfl ?_
    have dn0 : ss.1 23 2 = δ 23 2 := by rw [Ds.c (by decide)]
    have dm0 : ss.1 26 = δ 26 := Ds.c (by decide)
    refine e_Vi (q := 35) (vs := [_]) ok_X5_toldName ml_X5_154 dX5_beatLine_32 rfl ⟨_, _, rfl⟩ (by first | assumption | rfl) rfl rfl (Nat.le_of_ble_eq_true rfl) (by decide) ((show Con G 5 mX5_toldName _ _ (pI (fun z σ' => RdN ss σ' (-1) z (pTold (δ 26) (δ 23 2) (t0 :: q0)))) from by rw [← dn0, ← dm0]; exact c_X5_toldName_p ck0 (by omega) (by omega) (fun i a b => by rw [dm0]; exact (o8 i a (by omega)).2.2.2.2))) (fun z0 s0 h0 => ?_)
    obtain ⟨⟨hf0, hl0⟩, hm0⟩ := h0
    have F0 : Fr [19] σ s0 := Fs.tr hf0
    have L0 : s0.1 19 2 = σ.1 19 2 := hl0.trans Ls
    cases hr0 : pTold (δ 26) (δ 23 2) (t0 :: q0) with
    | inl e =>
      rw [hr0] at hm0
      obtain ⟨m1, m2, m3⟩ := (show z0 = -1 ∧ s0.1 19 7 = e.1 ∧ s0.1 19 8 = e.2 from hm0)
      subst m1
      have hE : lBeat δ t (t0 :: q0) = .inl e := by
        unfold lBeat
        rw [if_neg (by omega)]
        rw [hr0]
        rfl
      refine e_istore_n (q := 36) (i := 2) (L' := [_, _, _, _, _, _]) dX5_beatLine_35 rfl rfl (by decide) rfl rfl ?_
      refine e_iload_n (q := 37) (i := 2) dX5_beatLine_36 rfl rfl rfl ?_
      refine e_iconst (q := 38) dX5_beatLine_37 rfl ?_
      refine e_icmp_ne (q := 41) (tgt := 45) dX5_beatLine_38 rfl (by decide) (fun c38 => by exfalso; omega) (fun c38 => ?_)
      refine e_iconst (q := 42) dX5_beatLine_41 rfl ?_
      refine e_goto (tgt := 50) dX5_beatLine_42 (by decide) ?_
      refine e_istore_n (q := 51) (i := 3) (L' := [_, _, _, _, _, _]) dX5_beatLine_50 rfl rfl (by decide) rfl rfl ?_
      refine e_iload_n (q := 52) (i := 3) dX5_beatLine_51 rfl rfl rfl ?_
      refine e_iconst (q := 53) dX5_beatLine_52 rfl ?_
      refine e_icmp_ne (q := 56) (tgt := 60) dX5_beatLine_53 rfl (by decide) (fun c53 => by exfalso; omega) (fun c53 => ?_)
      refine e_iconst (q := 57) dX5_beatLine_56 rfl ?_
      refine e_goto (tgt := 66) dX5_beatLine_57 (by decide) ?_
      refine e_istore (q := 68) (L' := [_, _, _, _, _, _]) dX5_beatLine_66 rfl (by decide) rfl rfl ?_
      refine e_iload (q := 70) dX5_beatLine_68 rfl rfl ?_
      refine e_iconst (q := 71) dX5_beatLine_70 rfl ?_
      refine e_icmp_ne (q := 74) (tgt := 78) dX5_beatLine_71 rfl (by decide) (fun c71 => by exfalso; omega) (fun c71 => ?_)
      refine e_iconst (q := 75) dX5_beatLine_74 rfl ?_
      refine e_goto (tgt := 85) dX5_beatLine_75 (by decide) ?_
      refine e_istore (q := 87) (L' := [_, _, _, _, _, _]) dX5_beatLine_85 rfl (by decide) rfl rfl ?_
      refine e_iload (q := 89) dX5_beatLine_87 rfl rfl ?_
      refine e_iconst (q := 90) dX5_beatLine_89 rfl ?_
      refine e_icmp_ne (q := 93) (tgt := 95) dX5_beatLine_90 rfl (by decide) (fun c90 => by exfalso; omega) (fun c90 => ?_)
      refine e_iconst (q := 94) dX5_beatLine_93 rfl ?_
      exact r_z dX5_beatLine_94 rfl (by first | exact Or.inl rfl | exact Or.inr rfl | omega) (by rw [hE]; exact ⟨⟨F0.mono (by decide), L0⟩, rfl, m2, m3, F0.mono (by decide)⟩)
    | inr q =>
      obtain ⟨v0, r0⟩ := q
      rw [hr0] at hm0
      obtain ⟨m1, ck1, p7, p8⟩ := (show z0 = v0 ∧ CK s0 r0 ∧ s0.1 19 7 = ss.1 19 7 ∧ s0.1 19 8 = ss.1 19 8 from hm0)
      have m1 := m1.symm
      subst m1
      have P7_0 : s0.1 19 7 = σ.1 19 7 := p7.trans P7s
      have P8_0 : s0.1 19 8 = σ.1 19 8 := p8.trans P8s
      have D0 : DR s0 δ := hD.fr F0
      have ok0 := pTold_ok (by omega) hr0
      have G0 : ∀ x ∈ r0, tkG x := by
        obtain ⟨tt, ett, -⟩ := ok0.2.2
        intro x hx
        exact Gs x (by rw [ett]; exact List.mem_cons_of_mem _ hx)
      obtain ⟨t1, q1, e1⟩ := ck1.ne
      subst e1
      refine e_istore_n (q := 36) (i := 2) (L' := [_, _, _, _, _, _]) dX5_beatLine_35 rfl rfl (by decide) rfl rfl ?_
      refine e_iload_n (q := 37) (i := 2) dX5_beatLine_36 rfl rfl rfl ?_
      refine e_iconst (q := 38) dX5_beatLine_37 rfl ?_
      refine e_icmp_ne (q := 41) (tgt := 45) dX5_beatLine_38 rfl (by decide) (fun c38 => ?_) (fun c38 => by exfalso; omega)
      refine e_aload_n (q := 46) (i := 0) dX5_beatLine_45 rfl rfl rfl ?_
      refine e_iconst (q := 47) dX5_beatLine_46 rfl ?_
      have dn1 : s0.1 23 3 = δ 23 3 := by rw [D0.c (by decide)]
      have dm1 : s0.1 29 = δ 29 := D0.c (by decide)
      refine e_Vi (q := 50) (vs := [_]) ok_X5_toldName ml_X5_154 dX5_beatLine_47 rfl ⟨_, _, rfl⟩ (by first | assumption | rfl) rfl rfl (Nat.le_of_ble_eq_true rfl) (by decide) ((show Con G 5 mX5_toldName _ _ (pI (fun z σ' => RdN s0 σ' (-1) z (pTold (δ 29) (δ 23 3) (t1 :: q1)))) from by rw [← dn1, ← dm1]; exact c_X5_toldName_c ck1 (by omega) (by omega) (fun i a b => by rw [dm1]; exact (oc i a (by omega)).2.2.2.2))) (fun z1 s1 h1 => ?_)
      obtain ⟨⟨hf1, hl1⟩, hm1⟩ := h1
      have F1 : Fr [19] σ s1 := F0.tr hf1
      have L1 : s1.1 19 2 = σ.1 19 2 := hl1.trans L0
      cases hr1 : pTold (δ 29) (δ 23 3) (t1 :: q1) with
      | inl e =>
        rw [hr1] at hm1
        obtain ⟨m1, m2, m3⟩ := (show z1 = -1 ∧ s1.1 19 7 = e.1 ∧ s1.1 19 8 = e.2 from hm1)
        subst m1
        have hE : lBeat δ t (t0 :: q0) = .inl e := by
          unfold lBeat
          rw [if_neg (by omega)]
          rw [hr0, bnd_r]
          rw [hr1]
          rfl
        refine e_istore_n (q := 51) (i := 3) (L' := [_, _, _, _, _, _]) dX5_beatLine_50 rfl rfl (by decide) rfl rfl ?_
        refine e_iload_n (q := 52) (i := 3) dX5_beatLine_51 rfl rfl rfl ?_
        refine e_iconst (q := 53) dX5_beatLine_52 rfl ?_
        refine e_icmp_ne (q := 56) (tgt := 60) dX5_beatLine_53 rfl (by decide) (fun c53 => by exfalso; omega) (fun c53 => ?_)
        refine e_iconst (q := 57) dX5_beatLine_56 rfl ?_
        refine e_goto (tgt := 66) dX5_beatLine_57 (by decide) ?_
        refine e_istore (q := 68) (L' := [_, _, _, _, _, _]) dX5_beatLine_66 rfl (by decide) rfl rfl ?_
        refine e_iload (q := 70) dX5_beatLine_68 rfl rfl ?_
        refine e_iconst (q := 71) dX5_beatLine_70 rfl ?_
        refine e_icmp_ne (q := 74) (tgt := 78) dX5_beatLine_71 rfl (by decide) (fun c71 => by exfalso; omega) (fun c71 => ?_)
        refine e_iconst (q := 75) dX5_beatLine_74 rfl ?_
        refine e_goto (tgt := 85) dX5_beatLine_75 (by decide) ?_
        refine e_istore (q := 87) (L' := [_, _, _, _, _, _]) dX5_beatLine_85 rfl (by decide) rfl rfl ?_
        refine e_iload (q := 89) dX5_beatLine_87 rfl rfl ?_
        refine e_iconst (q := 90) dX5_beatLine_89 rfl ?_
        refine e_icmp_ne (q := 93) (tgt := 95) dX5_beatLine_90 rfl (by decide) (fun c90 => by exfalso; omega) (fun c90 => ?_)
        refine e_iconst (q := 94) dX5_beatLine_93 rfl ?_
        exact r_z dX5_beatLine_94 rfl (by first | exact Or.inl rfl | exact Or.inr rfl | omega) (by rw [hE]; exact ⟨⟨F1.mono (by decide), L1⟩, rfl, m2, m3, F1.mono (by decide)⟩)
      | inr q =>
        obtain ⟨v1, r1⟩ := q
        rw [hr1] at hm1
        obtain ⟨m1, ck2, p7, p8⟩ := (show z1 = v1 ∧ CK s1 r1 ∧ s1.1 19 7 = s0.1 19 7 ∧ s1.1 19 8 = s0.1 19 8 from hm1)
        have m1 := m1.symm
        subst m1
        have P7_1 : s1.1 19 7 = σ.1 19 7 := p7.trans P7_0
        have P8_1 : s1.1 19 8 = σ.1 19 8 := p8.trans P8_0
        have D1 : DR s1 δ := hD.fr F1
        have ok1 := pTold_ok (by omega) hr1
        have G1 : ∀ x ∈ r1, tkG x := by
          obtain ⟨tt, ett, -⟩ := ok1.2.2
          intro x hx
          exact G0 x (by rw [ett]; exact List.mem_cons_of_mem _ hx)
        obtain ⟨t2, q2, e2⟩ := ck2.ne
        subst e2
        refine e_istore_n (q := 51) (i := 3) (L' := [_, _, _, _, _, _]) dX5_beatLine_50 rfl rfl (by decide) rfl rfl ?_
        refine e_iload_n (q := 52) (i := 3) dX5_beatLine_51 rfl rfl rfl ?_
        refine e_iconst (q := 53) dX5_beatLine_52 rfl ?_
        refine e_icmp_ne (q := 56) (tgt := 60) dX5_beatLine_53 rfl (by decide) (fun c53 => ?_) (fun c53 => by exfalso; omega)
        refine e_aload_n (q := 61) (i := 0) dX5_beatLine_60 rfl rfl rfl ?_
        refine e_iconst (q := 62) dX5_beatLine_61 rfl ?_
        refine e_iconst (q := 63) dX5_beatLine_62 rfl ?_
        refine e_Vi (q := 66) (vs := [_, _]) ok_X5_number ml_X5_105 dX5_beatLine_63 rfl ⟨_, _, rfl⟩ (by first | assumption | rfl) rfl rfl (Nat.le_of_ble_eq_true rfl) (by decide) (c_X5_number ck2 (by decide) (by decide) (by first | decide | omega) (by first | decide | omega)) (fun z2 s2 h2 => ?_)
        obtain ⟨⟨hf2, hl2⟩, hm2⟩ := h2
        have F2 : Fr [19] σ s2 := F1.tr hf2
        have L2 : s2.1 19 2 = σ.1 19 2 := hl2.trans L1
        cases hr2 : pNum 0 3 (t2 :: q2) with
        | inl e =>
          rw [hr2] at hm2
          obtain ⟨m1, m2, m3⟩ := (show z2 = -1 ∧ s2.1 19 7 = e.1 ∧ s2.1 19 8 = e.2 from hm2)
          subst m1
          have hE : lBeat δ t (t0 :: q0) = .inl e := by
            unfold lBeat
            rw [if_neg (by omega)]
            rw [hr0, bnd_r]
            rw [hr1, bnd_r]
            rw [hr2]
            rfl
          refine e_istore (q := 68) (L' := [_, _, _, _, _, _]) dX5_beatLine_66 rfl (by decide) rfl rfl ?_
          refine e_iload (q := 70) dX5_beatLine_68 rfl rfl ?_
          refine e_iconst (q := 71) dX5_beatLine_70 rfl ?_
          refine e_icmp_ne (q := 74) (tgt := 78) dX5_beatLine_71 rfl (by decide) (fun c71 => by exfalso; omega) (fun c71 => ?_)
          refine e_iconst (q := 75) dX5_beatLine_74 rfl ?_
          refine e_goto (tgt := 85) dX5_beatLine_75 (by decide) ?_
          refine e_istore (q := 87) (L' := [_, _, _, _, _, _]) dX5_beatLine_85 rfl (by decide) rfl rfl ?_
          refine e_iload (q := 89) dX5_beatLine_87 rfl rfl ?_
          refine e_iconst (q := 90) dX5_beatLine_89 rfl ?_
          refine e_icmp_ne (q := 93) (tgt := 95) dX5_beatLine_90 rfl (by decide) (fun c90 => by exfalso; omega) (fun c90 => ?_)
          refine e_iconst (q := 94) dX5_beatLine_93 rfl ?_
          exact r_z dX5_beatLine_94 rfl (by first | exact Or.inl rfl | exact Or.inr rfl | omega) (by rw [hE]; exact ⟨⟨F2.mono (by decide), L2⟩, rfl, m2, m3, F2.mono (by decide)⟩)
        | inr q =>
          obtain ⟨v2, r2⟩ := q
          rw [hr2] at hm2
          obtain ⟨m1, ck3, p7, p8⟩ := (show z2 = v2 ∧ CK s2 r2 ∧ s2.1 19 7 = s1.1 19 7 ∧ s2.1 19 8 = s1.1 19 8 from hm2)
          have m1 := m1.symm
          subst m1
          have P7_2 : s2.1 19 7 = σ.1 19 7 := p7.trans P7_1
          have P8_2 : s2.1 19 8 = σ.1 19 8 := p8.trans P8_1
          have D2 : DR s2 δ := hD.fr F2
          have ok2 := pNum_ok hr2
          have G2 : ∀ x ∈ r2, tkG x := by
            obtain ⟨tt, ett, -⟩ := ok2.2.2
            intro x hx
            exact G1 x (by rw [ett]; exact List.mem_cons_of_mem _ hx)
          obtain ⟨t3, q3, e3⟩ := ck3.ne
          subst e3
          refine e_istore (q := 68) (L' := [_, _, _, _, _, _]) dX5_beatLine_66 rfl (by decide) rfl rfl ?_
          refine e_iload (q := 70) dX5_beatLine_68 rfl rfl ?_
          refine e_iconst (q := 71) dX5_beatLine_70 rfl ?_
          refine e_icmp_ne (q := 74) (tgt := 78) dX5_beatLine_71 rfl (by decide) (fun c71 => ?_) (fun c71 => by exfalso; omega)
          refine e_aload_n (q := 79) (i := 0) dX5_beatLine_78 rfl rfl rfl ?_
          refine e_iconst (q := 80) dX5_beatLine_79 rfl ?_
          refine e_bipush (q := 82) dX5_beatLine_80 rfl (by decide) ?_
          refine e_Vi (q := 85) (vs := [_, _]) ok_X5_number ml_X5_105 dX5_beatLine_82 rfl ⟨_, _, rfl⟩ (by first | assumption | rfl) rfl rfl (Nat.le_of_ble_eq_true rfl) (by decide) (c_X5_number ck3 (by decide) (by decide) (by first | decide | omega) (by first | decide | omega)) (fun z3 s3 h3 => ?_)
          obtain ⟨⟨hf3, hl3⟩, hm3⟩ := h3
          have F3 : Fr [19] σ s3 := F2.tr hf3
          have L3 : s3.1 19 2 = σ.1 19 2 := hl3.trans L2
          cases hr3 : pNum 0 99 (t3 :: q3) with
          | inl e =>
            rw [hr3] at hm3
            obtain ⟨m1, m2, m3⟩ := (show z3 = -1 ∧ s3.1 19 7 = e.1 ∧ s3.1 19 8 = e.2 from hm3)
            subst m1
            have hE : lBeat δ t (t0 :: q0) = .inl e := by
              unfold lBeat
              rw [if_neg (by omega)]
              rw [hr0, bnd_r]
              rw [hr1, bnd_r]
              rw [hr2, bnd_r]
              rw [hr3]
              rfl
            refine e_istore (q := 87) (L' := [_, _, _, _, _, _]) dX5_beatLine_85 rfl (by decide) rfl rfl ?_
            refine e_iload (q := 89) dX5_beatLine_87 rfl rfl ?_
            refine e_iconst (q := 90) dX5_beatLine_89 rfl ?_
            refine e_icmp_ne (q := 93) (tgt := 95) dX5_beatLine_90 rfl (by decide) (fun c90 => by exfalso; omega) (fun c90 => ?_)
            refine e_iconst (q := 94) dX5_beatLine_93 rfl ?_
            exact r_z dX5_beatLine_94 rfl (by first | exact Or.inl rfl | exact Or.inr rfl | omega) (by rw [hE]; exact ⟨⟨F3.mono (by decide), L3⟩, rfl, m2, m3, F3.mono (by decide)⟩)
          | inr q =>
            obtain ⟨v3, r3⟩ := q
            rw [hr3] at hm3
            obtain ⟨m1, ck4, p7, p8⟩ := (show z3 = v3 ∧ CK s3 r3 ∧ s3.1 19 7 = s2.1 19 7 ∧ s3.1 19 8 = s2.1 19 8 from hm3)
            have m1 := m1.symm
            subst m1
            have P7_3 : s3.1 19 7 = σ.1 19 7 := p7.trans P7_2
            have P8_3 : s3.1 19 8 = σ.1 19 8 := p8.trans P8_2
            have D3 : DR s3 δ := hD.fr F3
            have ok3 := pNum_ok hr3
            have G3 : ∀ x ∈ r3, tkG x := by
              obtain ⟨tt, ett, -⟩ := ok3.2.2
              intro x hx
              exact G2 x (by rw [ett]; exact List.mem_cons_of_mem _ hx)
            obtain ⟨t4, q4, e4⟩ := ck4.ne
            subst e4
            refine e_istore (q := 87) (L' := [_, _, _, _, _, _]) dX5_beatLine_85 rfl (by decide) rfl rfl ?_
            refine e_iload (q := 89) dX5_beatLine_87 rfl rfl ?_
            refine e_iconst (q := 90) dX5_beatLine_89 rfl ?_
            refine e_icmp_ne (q := 93) (tgt := 95) dX5_beatLine_90 rfl (by decide) (fun c90 => ?_) (fun c90 => by exfalso; omega)
            have dx : s3.1 23 4 = δ 23 4 := by rw [D3.c (by decide)]
            have dy : s3.1 23 5 = δ 23 5 := by rw [D3.c (by decide)]
            refine e_aload_n (q := 96) (i := 0) dX5_beatLine_95 rfl rfl rfl ?_
            refine e_getR (q := 99) dX5_beatLine_96 rfl fg_X5_32 (by first | assumption | rfl) rfl ?_
            refine e_getR (q := 102) dX5_beatLine_99 rfl fg_X5_157 (by first | assumption | rfl) rfl ?_
            refine e_iload_n (q := 103) (i := 1) dX5_beatLine_102 rfl rfl rfl ?_
            refine e_iconst (q := 104) dX5_beatLine_103 rfl ?_
            refine e_iload_n (q := 105) (i := 2) dX5_beatLine_104 rfl rfl rfl ?_
            refine e_imul (q := 106) dX5_beatLine_105 rfl ?_
            refine e_iload (q := 108) dX5_beatLine_106 rfl rfl ?_
            refine e_iadd (q := 109) dX5_beatLine_108 rfl ?_
            refine e_iast (q := 110) dX5_beatLine_109 rfl (by first | assumption | rfl) ?_
            refine e_aload_n (q := 111) (i := 0) dX5_beatLine_110 rfl rfl rfl ?_
            refine e_getR (q := 114) dX5_beatLine_111 rfl fg_X5_32 (by first | assumption | rfl) rfl ?_
            refine e_getR (q := 117) dX5_beatLine_114 rfl fg_X5_160 (by first | assumption | rfl) rfl ?_
            refine e_iload_n (q := 118) (i := 1) dX5_beatLine_117 rfl rfl rfl ?_
            refine e_iload_n (q := 119) (i := 3) dX5_beatLine_118 rfl rfl rfl ?_
            refine e_iast (q := 120) dX5_beatLine_119 rfl (by first | assumption | rfl) ?_
            refine e_aload_n (q := 121) (i := 0) dX5_beatLine_120 rfl rfl rfl ?_
            refine e_getR (q := 124) dX5_beatLine_121 rfl fg_X5_32 (by first | assumption | rfl) rfl ?_
            refine e_getR (q := 127) dX5_beatLine_124 rfl fg_X5_163 (by first | assumption | rfl) rfl ?_
            refine e_iload_n (q := 128) (i := 1) dX5_beatLine_127 rfl rfl rfl ?_
            refine e_iload (q := 130) dX5_beatLine_128 rfl rfl ?_
            refine e_iast (q := 131) dX5_beatLine_130 rfl (by first | assumption | rfl) ?_
            refine e_aload_n (q := 132) (i := 0) dX5_beatLine_131 rfl rfl rfl ?_
            refine e_getR (q := 135) dX5_beatLine_132 rfl fg_X5_32 (by first | assumption | rfl) rfl ?_
            refine e_aload_n (q := 136) (i := 0) dX5_beatLine_135 rfl rfl rfl ?_
            refine e_getR (q := 139) dX5_beatLine_136 rfl fg_X5_32 (by first | assumption | rfl) rfl ?_
            refine e_getI (q := 142) (jz := 5) dX5_beatLine_139 rfl fg_X5_166 rfl (by first | assumption | rfl) rfl ?_
            rw [show (sI (sI (sI s3 30 (δ 23 4) (4 * v0 + v2)) 31 (δ 23 4) v1) 32 (δ 23 4) v3).1 23 5 = δ 23 5 from by rw [sI_ne _ (by decide), sI_ne _ (by decide), sI_ne _ (by decide)]; exact dy]
            refine e_iload (q := 144) dX5_beatLine_142 rfl rfl ?_
            refine e_mmax (q := 147) dX5_beatLine_144 rfl ml_X5_169 mw_max_s mw_max_c mw_init (Nat.le_of_ble_eq_true rfl) (by decide) ?_
            refine e_putI (q := 150) (jz := 5) dX5_beatLine_147 rfl fp_X5_166 rfl (by first | assumption | rfl) rfl ?_
            refine e_aload_n (q := 151) (i := 0) dX5_beatLine_150 rfl rfl rfl ?_
            refine e_getR (q := 154) dX5_beatLine_151 rfl fg_X5_32 (by first | assumption | rfl) rfl ?_
            refine e_dup (q := 155) dX5_beatLine_154 rfl rfl ?_
            refine e_getI (q := 158) (jz := 4) dX5_beatLine_155 rfl fg_X5_151 rfl (by first | assumption | rfl) rfl ?_
            rw [show (sI (sI (sI (sI s3 30 (δ 23 4) (4 * v0 + v2)) 31 (δ 23 4) v1) 32 (δ 23 4) v3) 23 5 (max (δ 23 5) v3)).1 23 4 = δ 23 4 from by rw [sI_1, if_neg (by decide), sI_ne _ (by decide), sI_ne _ (by decide), sI_ne _ (by decide)]; exact dx]
            refine e_iconst (q := 159) dX5_beatLine_158 rfl ?_
            refine e_iadd (q := 160) dX5_beatLine_159 rfl ?_
            refine e_putI (q := 163) (jz := 4) dX5_beatLine_160 rfl fp_X5_151 rfl (by first | assumption | rfl) rfl ?_
            refine e_iconst (q := 164) dX5_beatLine_163 rfl ?_
            have hE : lBeat δ t (t0 :: q0) = .inr ((u2 (u2 (u2 (u2 (u2 δ 30 (δ 23 4) (4 * v0 + v2)) 31 (δ 23 4) v1) 32 (δ 23 4) v3) 23 5 (max (δ 23 5) v3)) 23 4 (δ 23 4 + 1)), t4 :: q4) := by
              unfold lBeat
              rw [if_neg (by omega)]
              rw [hr0, bnd_r]
              rw [hr1, bnd_r]
              rw [hr2, bnd_r]
              rw [hr3, bnd_r]
            exact r_z dX5_beatLine_164 rfl (by first | exact Or.inl rfl | exact Or.inr rfl | omega) (by rw [hE]; exact ⟨⟨((((((F3.mono (by decide)).sI (by decide) _ _).sI (by decide) _ _).sI (by decide) _ _).sI (by decide) _ _).sI (by decide) _ _), by rw [sI_ne _ (by decide), sI_ne _ (by decide), sI_ne _ (by decide), sI_ne _ (by decide), sI_ne _ (by decide)]; exact L3⟩, rfl, (((((D3.s 30 (δ 23 4) (4 * v0 + v2)).s 31 (δ 23 4) v1).s 32 (δ 23 4) v3).s 23 5 (max (δ 23 5) v3)).s 23 4 (δ 23 4 + 1)), ck4.fr (C := [30, 31, 32, 23]) ((((((Fr.rf _ s3).sI (by decide) _ _).sI (by decide) _ _).sI (by decide) _ _).sI (by decide) _ _).sI (by decide) _ _) (by decide) (by decide) (fun j _ _ => by rw [sI_ne _ (by decide), sI_ne _ (by decide), sI_ne _ (by decide), sI_ne _ (by decide), sI_ne _ (by decide)]), by rw [sI_ne _ (by decide), sI_ne _ (by decide), sI_ne _ (by decide), sI_ne _ (by decide), sI_ne _ (by decide)]; exact P7_3, by rw [sI_ne _ (by decide), sI_ne _ (by decide), sI_ne _ (by decide), sI_ne _ (by decide), sI_ne _ (by decide)]; exact P8_3⟩)
  · refine e_aload_n (q := 15) (i := 0) dX5_beatLine_14 rfl rfl rfl ?_
    refine e_getR (q := 18) dX5_beatLine_15 rfl fg_X5_14 (by first | assumption | rfl) rfl ?_
    refine e_iconst (q := 19) dX5_beatLine_18 rfl ?_
    refine e_Vi (q := 22) (vs := [_]) ok_X8_fail ml_X5_88 dX5_beatLine_19 rfl ⟨_, _, rfl⟩ (by first | assumption | rfl) rfl rfl (Nat.le_of_ble_eq_true rfl) (by decide) (c_X8_fail) (fun zf sf hf => ?_)
    obtain ⟨rfl, rfl⟩ := hf
    rw [k5]
    exact r_z dX5_beatLine_22 rfl (Or.inl rfl) (by rw [show lBeat δ t r = .inl (2, t.2.1) from if_pos (by omega)]; exact fail_L (Fr.rf _ _) rfl)

set_option maxHeartbeats 8000000 in
theorem c_X5_rainLine {G : Gx} {σ : Sg} {t : Tk} {r : List Tk} {δ : Dl} (hC : CK σ (t :: r)) (hD : DR σ δ) (hO : DOk δ) (hG : ∀ x ∈ t :: r, tkG x) (hk : t.1 = 5) : Con G 7 mX5_rainLine [.ref (G.2.2.2 + 18)] σ (pI (fun z σ' => RdL σ σ' z (lRain δ t r))) := by
  obtain ⟨k4, k5, kv, kr, kp⟩ := hC.hd
  obtain ⟨o0, o1, o2, o3, o4, o5, o6, o7, o8, o9, oc, ob, ok, og, ou, ow, ox, ot, oz, oy⟩ := id hO
  have d23 : σ.1 23 = δ 23 := hD.c (by decide)
  refine e_entry om_X5_rainLine (Nat.le_of_ble_eq_true rfl) (L := [some (.ref (G.2.2.2 + 18)), none]) rfl ?_
  refine e_aload_n (q := 1) (i := 0) dX5_rainLine_0 rfl rfl rfl ?_
  refine e_getI (q := 4) (jz := 3) dX5_rainLine_1 rfl fg_X5_39 rfl (by first | assumption | rfl) rfl ?_
  rw [hD.c (a := 18) (by decide)]
  refine e_if_eq (q := 7) (tgt := 16) dX5_rainLine_4 rfl (by decide) (fun c4 => ?_) (fun c4 => ?_) (hx := by rcases (show δ 18 3 = 0 ∨ δ 18 3 = 1 by omega) with q | q <;> rw [q] <;> exact ⟨by decide, by decide⟩)
  · refine e_aload_n (q := 17) (i := 0) dX5_rainLine_16 rfl rfl rfl ?_
    refine e_getR (q := 20) dX5_rainLine_17 rfl fg_X5_14 (by first | assumption | rfl) rfl ?_
    refine e_Vv (q := 23) (vs := []) ok_X8_step ml_X5_92 dX5_rainLine_20 rfl ⟨_, _, rfl⟩ (by first | assumption | rfl) rfl rfl (Nat.le_of_ble_eq_true rfl) (by decide) (c_step hC (by omega)) (fun ss hs => ?_)
    obtain ⟨hT, ck0⟩ := hs
    have Fs : Fr [19] σ ss := hT.1
    have Ls : ss.1 19 2 = σ.1 19 2 := hT.n
    have P7s : ss.1 19 7 = σ.1 19 7 := hT.2 7 (by decide) (by decide) (by decide) (by decide)
    have P8s : ss.1 19 8 = σ.1 19 8 := hT.2 8 (by decide) (by decide) (by decide) (by decide)
    have Ds : DR ss δ := hD.fr Fs
    have Gs : ∀ x ∈ r, tkG x := fun x hx => hG x (List.mem_cons_of_mem _ hx)
    obtain ⟨t0, q0, e0⟩ := ck0.ne
    subst e0
    refine e_aload_n (q := 24) (i := 0) dX5_rainLine_23 rfl rfl rfl ?_
    refine e_iconst (q := 25) dX5_rainLine_24 rfl ?_
    refine e_bipush (q := 27) dX5_rainLine_25 rfl (by decide) ?_
    refine e_Vi (q := 30) (vs := [_, _]) ok_X5_number ml_X5_105 dX5_rainLine_27 rfl ⟨_, _, rfl⟩ (by first | assumption | rfl) rfl rfl (Nat.le_of_ble_eq_true rfl) (by decide) (c_X5_number ck0 (by decide) (by decide) (by first | decide | omega) (by first | decide | omega)) (fun z0 s0 h0 => ?_)
    obtain ⟨⟨hf0, hl0⟩, hm0⟩ := h0
    have F0 : Fr [19] σ s0 := Fs.tr hf0
    have L0 : s0.1 19 2 = σ.1 19 2 := hl0.trans Ls
    cases hr0 : pNum 0 100 (t0 :: q0) with
    | inl e =>
      rw [hr0] at hm0
      obtain ⟨m1, m2, m3⟩ := (show z0 = -1 ∧ s0.1 19 7 = e.1 ∧ s0.1 19 8 = e.2 from hm0)
      subst m1
      have hE : lRain δ t (t0 :: q0) = .inl e := by
        unfold lRain
        rw [if_neg (by omega)]
        rw [hr0]
        rfl
      refine e_istore_n (q := 31) (i := 1) (L' := [_, _]) dX5_rainLine_30 rfl rfl (by decide) rfl rfl ?_
      refine e_iload_n (q := 32) (i := 1) dX5_rainLine_31 rfl rfl rfl ?_
      refine e_iconst (q := 33) dX5_rainLine_32 rfl ?_
      refine e_icmp_ne (q := 36) (tgt := 38) dX5_rainLine_33 rfl (by decide) (fun c33 => by exfalso; omega) (fun c33 => ?_)
      refine e_iconst (q := 37) dX5_rainLine_36 rfl ?_
      exact r_z dX5_rainLine_37 rfl (by first | exact Or.inl rfl | exact Or.inr rfl | omega) (by rw [hE]; exact ⟨⟨F0.mono (by decide), L0⟩, rfl, m2, m3, F0.mono (by decide)⟩)
    | inr q =>
      obtain ⟨v0, r0⟩ := q
      rw [hr0] at hm0
      obtain ⟨m1, ck1, p7, p8⟩ := (show z0 = v0 ∧ CK s0 r0 ∧ s0.1 19 7 = ss.1 19 7 ∧ s0.1 19 8 = ss.1 19 8 from hm0)
      have m1 := m1.symm
      subst m1
      have P7_0 : s0.1 19 7 = σ.1 19 7 := p7.trans P7s
      have P8_0 : s0.1 19 8 = σ.1 19 8 := p8.trans P8s
      have D0 : DR s0 δ := hD.fr F0
      have ok0 := pNum_ok hr0
      have G0 : ∀ x ∈ r0, tkG x := by
        obtain ⟨tt, ett, -⟩ := ok0.2.2
        intro x hx
        exact Gs x (by rw [ett]; exact List.mem_cons_of_mem _ hx)
      obtain ⟨t1, q1, e1⟩ := ck1.ne
      subst e1
      refine e_istore_n (q := 31) (i := 1) (L' := [_, _]) dX5_rainLine_30 rfl rfl (by decide) rfl rfl ?_
      refine e_iload_n (q := 32) (i := 1) dX5_rainLine_31 rfl rfl rfl ?_
      refine e_iconst (q := 33) dX5_rainLine_32 rfl ?_
      refine e_icmp_ne (q := 36) (tgt := 38) dX5_rainLine_33 rfl (by decide) (fun c33 => ?_) (fun c33 => by exfalso; omega)
      refine e_aload_n (q := 39) (i := 0) dX5_rainLine_38 rfl rfl rfl ?_
      refine e_getR (q := 42) dX5_rainLine_39 rfl fg_X5_32 (by first | assumption | rfl) rfl ?_
      refine e_iload_n (q := 43) (i := 1) dX5_rainLine_42 rfl rfl rfl ?_
      refine e_putI (q := 46) (jz := 6) dX5_rainLine_43 rfl fp_X5_177 rfl (by first | assumption | rfl) rfl ?_
      refine e_aload_n (q := 47) (i := 0) dX5_rainLine_46 rfl rfl rfl ?_
      refine e_iconst (q := 48) dX5_rainLine_47 rfl ?_
      refine e_putZ (q := 51) (jz := 3) dX5_rainLine_48 rfl fp_X5_39 rfl (by first | assumption | rfl) rfl (by first | exact Or.inl rfl | exact Or.inr rfl | omega) ?_
      refine e_iconst (q := 52) dX5_rainLine_51 rfl ?_
      have hE : lRain δ t (t0 :: q0) = .inr ((u2 (u2 δ 23 6 v0) 18 3 1), t1 :: q1) := by
        unfold lRain
        rw [if_neg (by omega)]
        rw [hr0, bnd_r]
      exact r_z dX5_rainLine_52 rfl (by first | exact Or.inl rfl | exact Or.inr rfl | omega) (by rw [hE]; exact ⟨⟨(((F0.mono (by decide)).sI (by decide) _ _).sI (by decide) _ _), by rw [sI_ne _ (by decide), sI_ne _ (by decide)]; exact L0⟩, rfl, ((D0.s 23 6 v0).s 18 3 1), ck1.fr (C := [23, 18]) (((Fr.rf _ s0).sI (by decide) _ _).sI (by decide) _ _) (by decide) (by decide) (fun j _ _ => by rw [sI_ne _ (by decide), sI_ne _ (by decide)]), by rw [sI_ne _ (by decide), sI_ne _ (by decide)]; exact P7_0, by rw [sI_ne _ (by decide), sI_ne _ (by decide)]; exact P8_0⟩)
  · refine e_aload_n (q := 8) (i := 0) dX5_rainLine_7 rfl rfl rfl ?_
    refine e_getR (q := 11) dX5_rainLine_8 rfl fg_X5_14 (by first | assumption | rfl) rfl ?_
    refine e_iconst (q := 12) dX5_rainLine_11 rfl ?_
    refine e_Vi (q := 15) (vs := [_]) ok_X8_fail ml_X5_88 dX5_rainLine_12 rfl ⟨_, _, rfl⟩ (by first | assumption | rfl) rfl rfl (Nat.le_of_ble_eq_true rfl) (by decide) (c_X8_fail) (fun zf sf hf => ?_)
    obtain ⟨rfl, rfl⟩ := hf
    rw [k5]
    exact r_z dX5_rainLine_15 rfl (Or.inl rfl) (by rw [show lRain δ t r = .inl (3, t.2.1) from if_pos c4]; exact fail_L (Fr.rf _ _) rfl)

set_option maxHeartbeats 8000000 in
theorem c_X5_seedLine {G : Gx} {σ : Sg} {t : Tk} {r : List Tk} {δ : Dl} (hC : CK σ (t :: r)) (hD : DR σ δ) (hO : DOk δ) (hG : ∀ x ∈ t :: r, tkG x) (hk : t.1 = 6) : Con G 7 mX5_seedLine [.ref (G.2.2.2 + 18)] σ (pI (fun z σ' => RdL σ σ' z (lSeed δ t r))) := by
  obtain ⟨k4, k5, kv, kr, kp⟩ := hC.hd
  obtain ⟨o0, o1, o2, o3, o4, o5, o6, o7, o8, o9, oc, ob, ok, og, ou, ow, ox, ot, oz, oy⟩ := id hO
  have d23 : σ.1 23 = δ 23 := hD.c (by decide)
  refine e_entry om_X5_seedLine (Nat.le_of_ble_eq_true rfl) (L := [some (.ref (G.2.2.2 + 18)), none]) rfl ?_
  refine e_aload_n (q := 1) (i := 0) dX5_seedLine_0 rfl rfl rfl ?_
  refine e_getI (q := 4) (jz := 4) dX5_seedLine_1 rfl fg_X5_43 rfl (by first | assumption | rfl) rfl ?_
  rw [hD.c (a := 18) (by decide)]
  refine e_if_eq (q := 7) (tgt := 16) dX5_seedLine_4 rfl (by decide) (fun c4 => ?_) (fun c4 => ?_) (hx := by rcases (show δ 18 4 = 0 ∨ δ 18 4 = 1 by omega) with q | q <;> rw [q] <;> exact ⟨by decide, by decide⟩)
  · refine e_aload_n (q := 17) (i := 0) dX5_seedLine_16 rfl rfl rfl ?_
    refine e_getR (q := 20) dX5_seedLine_17 rfl fg_X5_14 (by first | assumption | rfl) rfl ?_
    refine e_Vv (q := 23) (vs := []) ok_X8_step ml_X5_92 dX5_seedLine_20 rfl ⟨_, _, rfl⟩ (by first | assumption | rfl) rfl rfl (Nat.le_of_ble_eq_true rfl) (by decide) (c_step hC (by omega)) (fun ss hs => ?_)
    obtain ⟨hT, ck0⟩ := hs
    have Fs : Fr [19] σ ss := hT.1
    have Ls : ss.1 19 2 = σ.1 19 2 := hT.n
    have P7s : ss.1 19 7 = σ.1 19 7 := hT.2 7 (by decide) (by decide) (by decide) (by decide)
    have P8s : ss.1 19 8 = σ.1 19 8 := hT.2 8 (by decide) (by decide) (by decide) (by decide)
    have Ds : DR ss δ := hD.fr Fs
    have Gs : ∀ x ∈ r, tkG x := fun x hx => hG x (List.mem_cons_of_mem _ hx)
    obtain ⟨t0, q0, e0⟩ := ck0.ne
    subst e0
    refine e_aload_n (q := 24) (i := 0) dX5_seedLine_23 rfl rfl rfl ?_
    refine e_iconst (q := 25) dX5_seedLine_24 rfl ?_
    refine e_ldc (q := 27) (z := 99999) dX5_seedLine_25 rfl kw_X5_180 (by decide) ?_
    refine e_Vi (q := 30) (vs := [_, _]) ok_X5_number ml_X5_105 dX5_seedLine_27 rfl ⟨_, _, rfl⟩ (by first | assumption | rfl) rfl rfl (Nat.le_of_ble_eq_true rfl) (by decide) (c_X5_number ck0 (by decide) (by decide) (by first | decide | omega) (by first | decide | omega)) (fun z0 s0 h0 => ?_)
    obtain ⟨⟨hf0, hl0⟩, hm0⟩ := h0
    have F0 : Fr [19] σ s0 := Fs.tr hf0
    have L0 : s0.1 19 2 = σ.1 19 2 := hl0.trans Ls
    cases hr0 : pNum 0 99999 (t0 :: q0) with
    | inl e =>
      rw [hr0] at hm0
      obtain ⟨m1, m2, m3⟩ := (show z0 = -1 ∧ s0.1 19 7 = e.1 ∧ s0.1 19 8 = e.2 from hm0)
      subst m1
      have hE : lSeed δ t (t0 :: q0) = .inl e := by
        unfold lSeed
        rw [if_neg (by omega)]
        rw [hr0]
        rfl
      refine e_istore_n (q := 31) (i := 1) (L' := [_, _]) dX5_seedLine_30 rfl rfl (by decide) rfl rfl ?_
      refine e_iload_n (q := 32) (i := 1) dX5_seedLine_31 rfl rfl rfl ?_
      refine e_iconst (q := 33) dX5_seedLine_32 rfl ?_
      refine e_icmp_ne (q := 36) (tgt := 38) dX5_seedLine_33 rfl (by decide) (fun c33 => by exfalso; omega) (fun c33 => ?_)
      refine e_iconst (q := 37) dX5_seedLine_36 rfl ?_
      exact r_z dX5_seedLine_37 rfl (by first | exact Or.inl rfl | exact Or.inr rfl | omega) (by rw [hE]; exact ⟨⟨F0.mono (by decide), L0⟩, rfl, m2, m3, F0.mono (by decide)⟩)
    | inr q =>
      obtain ⟨v0, r0⟩ := q
      rw [hr0] at hm0
      obtain ⟨m1, ck1, p7, p8⟩ := (show z0 = v0 ∧ CK s0 r0 ∧ s0.1 19 7 = ss.1 19 7 ∧ s0.1 19 8 = ss.1 19 8 from hm0)
      have m1 := m1.symm
      subst m1
      have P7_0 : s0.1 19 7 = σ.1 19 7 := p7.trans P7s
      have P8_0 : s0.1 19 8 = σ.1 19 8 := p8.trans P8s
      have D0 : DR s0 δ := hD.fr F0
      have ok0 := pNum_ok hr0
      have G0 : ∀ x ∈ r0, tkG x := by
        obtain ⟨tt, ett, -⟩ := ok0.2.2
        intro x hx
        exact Gs x (by rw [ett]; exact List.mem_cons_of_mem _ hx)
      obtain ⟨t1, q1, e1⟩ := ck1.ne
      subst e1
      refine e_istore_n (q := 31) (i := 1) (L' := [_, _]) dX5_seedLine_30 rfl rfl (by decide) rfl rfl ?_
      refine e_iload_n (q := 32) (i := 1) dX5_seedLine_31 rfl rfl rfl ?_
      refine e_iconst (q := 33) dX5_seedLine_32 rfl ?_
      refine e_icmp_ne (q := 36) (tgt := 38) dX5_seedLine_33 rfl (by decide) (fun c33 => ?_) (fun c33 => by exfalso; omega)
      refine e_aload_n (q := 39) (i := 0) dX5_seedLine_38 rfl rfl rfl ?_
      refine e_getR (q := 42) dX5_seedLine_39 rfl fg_X5_32 (by first | assumption | rfl) rfl ?_
      refine e_iload_n (q := 43) (i := 1) dX5_seedLine_42 rfl rfl rfl ?_
      refine e_putI (q := 46) (jz := 7) dX5_seedLine_43 rfl fp_X5_181 rfl (by first | assumption | rfl) rfl ?_
      refine e_aload_n (q := 47) (i := 0) dX5_seedLine_46 rfl rfl rfl ?_
      refine e_iconst (q := 48) dX5_seedLine_47 rfl ?_
      refine e_putZ (q := 51) (jz := 4) dX5_seedLine_48 rfl fp_X5_43 rfl (by first | assumption | rfl) rfl (by first | exact Or.inl rfl | exact Or.inr rfl | omega) ?_
      refine e_iconst (q := 52) dX5_seedLine_51 rfl ?_
      have hE : lSeed δ t (t0 :: q0) = .inr ((u2 (u2 δ 23 7 v0) 18 4 1), t1 :: q1) := by
        unfold lSeed
        rw [if_neg (by omega)]
        rw [hr0, bnd_r]
      exact r_z dX5_seedLine_52 rfl (by first | exact Or.inl rfl | exact Or.inr rfl | omega) (by rw [hE]; exact ⟨⟨(((F0.mono (by decide)).sI (by decide) _ _).sI (by decide) _ _), by rw [sI_ne _ (by decide), sI_ne _ (by decide)]; exact L0⟩, rfl, ((D0.s 23 7 v0).s 18 4 1), ck1.fr (C := [23, 18]) (((Fr.rf _ s0).sI (by decide) _ _).sI (by decide) _ _) (by decide) (by decide) (fun j _ _ => by rw [sI_ne _ (by decide), sI_ne _ (by decide)]), by rw [sI_ne _ (by decide), sI_ne _ (by decide)]; exact P7_0, by rw [sI_ne _ (by decide), sI_ne _ (by decide)]; exact P8_0⟩)
  · refine e_aload_n (q := 8) (i := 0) dX5_seedLine_7 rfl rfl rfl ?_
    refine e_getR (q := 11) dX5_seedLine_8 rfl fg_X5_14 (by first | assumption | rfl) rfl ?_
    refine e_iconst (q := 12) dX5_seedLine_11 rfl ?_
    refine e_Vi (q := 15) (vs := [_]) ok_X8_fail ml_X5_88 dX5_seedLine_12 rfl ⟨_, _, rfl⟩ (by first | assumption | rfl) rfl rfl (Nat.le_of_ble_eq_true rfl) (by decide) (c_X8_fail) (fun zf sf hf => ?_)
    obtain ⟨rfl, rfl⟩ := hf
    rw [k5]
    exact r_z dX5_seedLine_15 rfl (Or.inl rfl) (by rw [show lSeed δ t r = .inl (3, t.2.1) from if_pos c4]; exact fail_L (Fr.rf _ _) rfl)

set_option maxHeartbeats 8000000 in
theorem c_X5_cakeLine {G : Gx} {σ : Sg} {t : Tk} {r : List Tk} {δ : Dl} (hC : CK σ (t :: r)) (hD : DR σ δ) (hO : DOk δ) (hG : ∀ x ∈ t :: r, tkG x) (hk : t.1 = 4) : Con G 7 mX5_cakeLine [.ref (G.2.2.2 + 18)] σ (pI (fun z σ' => RdL σ σ' z (lCake δ r))) := by
  obtain ⟨k4, k5, kv, kr, kp⟩ := hC.hd
  obtain ⟨o0, o1, o2, o3, o4, o5, o6, o7, o8, o9, oc, ob, ok, og, ou, ow, ox, ot, oz, oy⟩ := id hO
  have d23 : σ.1 23 = δ 23 := hD.c (by decide)
  refine e_entry om_X5_cakeLine (Nat.le_of_ble_eq_true rfl) (L := [some (.ref (G.2.2.2 + 18)), none, none, none, none, none]) rfl ?_
  refine e_aload_n (q := 1) (i := 0) dX5_cakeLine_0 rfl rfl rfl ?_
  refine e_getR (q := 4) dX5_cakeLine_1 rfl fg_X5_14 (by first | assumption | rfl) rfl ?_
  refine e_Vv (q := 7) (vs := []) ok_X8_step ml_X5_92 dX5_cakeLine_4 rfl ⟨_, _, rfl⟩ (by first | assumption | rfl) rfl rfl (Nat.le_of_ble_eq_true rfl) (by decide) (c_step hC (by omega)) (fun ss hs => ?_)
  obtain ⟨hT, ck0⟩ := hs
  have Fs : Fr [19] σ ss := hT.1
  have Ls : ss.1 19 2 = σ.1 19 2 := hT.n
  have P7s : ss.1 19 7 = σ.1 19 7 := hT.2 7 (by decide) (by decide) (by decide) (by decide)
  have P8s : ss.1 19 8 = σ.1 19 8 := hT.2 8 (by decide) (by decide) (by decide) (by decide)
  have Ds : DR ss δ := hD.fr Fs
  have Gs : ∀ x ∈ r, tkG x := fun x hx => hG x (List.mem_cons_of_mem _ hx)
  obtain ⟨t0, q0, e0⟩ := ck0.ne
  subst e0
  refine e_aload_n (q := 8) (i := 0) dX5_cakeLine_7 rfl rfl rfl ?_
  refine e_iconst (q := 9) dX5_cakeLine_8 rfl ?_
  have dn0 : ss.1 23 2 = δ 23 2 := by rw [Ds.c (by decide)]
  have dm0 : ss.1 26 = δ 26 := Ds.c (by decide)
  refine e_Vi (q := 12) (vs := [_]) ok_X5_toldName ml_X5_154 dX5_cakeLine_9 rfl ⟨_, _, rfl⟩ (by first | assumption | rfl) rfl rfl (Nat.le_of_ble_eq_true rfl) (by decide) ((show Con G 5 mX5_toldName _ _ (pI (fun z σ' => RdN ss σ' (-1) z (pTold (δ 26) (δ 23 2) (t0 :: q0)))) from by rw [← dn0, ← dm0]; exact c_X5_toldName_p ck0 (by omega) (by omega) (fun i a b => by rw [dm0]; exact (o8 i a (by omega)).2.2.2.2))) (fun z0 s0 h0 => ?_)
  obtain ⟨⟨hf0, hl0⟩, hm0⟩ := h0
  have F0 : Fr [19] σ s0 := Fs.tr hf0
  have L0 : s0.1 19 2 = σ.1 19 2 := hl0.trans Ls
  cases hr0 : pTold (δ 26) (δ 23 2) (t0 :: q0) with
  | inl e =>
    rw [hr0] at hm0
    obtain ⟨m1, m2, m3⟩ := (show z0 = -1 ∧ s0.1 19 7 = e.1 ∧ s0.1 19 8 = e.2 from hm0)
    subst m1
    have hE : lCake δ (t0 :: q0) = .inl e := by
      unfold lCake
      rw [hr0]
      rfl
    refine e_istore_n (q := 13) (i := 1) (L' := [_, _, _, _, _, _]) dX5_cakeLine_12 rfl rfl (by decide) rfl rfl ?_
    refine e_aload_n (q := 14) (i := 0) dX5_cakeLine_13 rfl rfl rfl ?_
    refine e_getR (q := 17) dX5_cakeLine_14 rfl fg_X5_14 (by first | assumption | rfl) rfl ?_
    refine e_getI (q := 20) (jz := 5) dX5_cakeLine_17 rfl fg_X5_119 rfl (by first | assumption | rfl) rfl ?_
    refine e_istore_n (q := 21) (i := 2) (L' := [_, _, _, _, _, _]) dX5_cakeLine_20 rfl rfl (by decide) rfl rfl ?_
    refine e_iload_n (q := 22) (i := 1) dX5_cakeLine_21 rfl rfl rfl ?_
    refine e_iconst (q := 23) dX5_cakeLine_22 rfl ?_
    refine e_icmp_ne (q := 26) (tgt := 30) dX5_cakeLine_23 rfl (by decide) (fun c23 => by exfalso; omega) (fun c23 => ?_)
    refine e_iconst (q := 27) dX5_cakeLine_26 rfl ?_
    refine e_goto (tgt := 36) dX5_cakeLine_27 (by decide) ?_
    refine e_istore_n (q := 37) (i := 3) (L' := [_, _, _, _, _, _]) dX5_cakeLine_36 rfl rfl (by decide) rfl rfl ?_
    refine e_iload_n (q := 38) (i := 3) dX5_cakeLine_37 rfl rfl rfl ?_
    refine e_iconst (q := 39) dX5_cakeLine_38 rfl ?_
    refine e_icmp_ne (q := 42) (tgt := 44) dX5_cakeLine_39 rfl (by decide) (fun c39 => by exfalso; omega) (fun c39 => ?_)
    refine e_iconst (q := 43) dX5_cakeLine_42 rfl ?_
    exact r_z dX5_cakeLine_43 rfl (by first | exact Or.inl rfl | exact Or.inr rfl | omega) (by rw [hE]; exact ⟨⟨F0.mono (by decide), L0⟩, rfl, m2, m3, F0.mono (by decide)⟩)
  | inr q =>
    obtain ⟨v0, r0⟩ := q
    rw [hr0] at hm0
    obtain ⟨m1, ck1, p7, p8⟩ := (show z0 = v0 ∧ CK s0 r0 ∧ s0.1 19 7 = ss.1 19 7 ∧ s0.1 19 8 = ss.1 19 8 from hm0)
    have m1 := m1.symm
    subst m1
    have P7_0 : s0.1 19 7 = σ.1 19 7 := p7.trans P7s
    have P8_0 : s0.1 19 8 = σ.1 19 8 := p8.trans P8s
    have D0 : DR s0 δ := hD.fr F0
    have ok0 := pTold_ok (by omega) hr0
    have G0 : ∀ x ∈ r0, tkG x := by
      obtain ⟨tt, ett, -⟩ := ok0.2.2
      intro x hx
      exact Gs x (by rw [ett]; exact List.mem_cons_of_mem _ hx)
    obtain ⟨t1, q1, e1⟩ := ck1.ne
    subst e1
    refine e_istore_n (q := 13) (i := 1) (L' := [_, _, _, _, _, _]) dX5_cakeLine_12 rfl rfl (by decide) rfl rfl ?_
    refine e_aload_n (q := 14) (i := 0) dX5_cakeLine_13 rfl rfl rfl ?_
    refine e_getR (q := 17) dX5_cakeLine_14 rfl fg_X5_14 (by first | assumption | rfl) rfl ?_
    refine e_getI (q := 20) (jz := 5) dX5_cakeLine_17 rfl fg_X5_119 rfl (by first | assumption | rfl) rfl ?_
    refine e_istore_n (q := 21) (i := 2) (L' := [_, _, _, _, _, _]) dX5_cakeLine_20 rfl rfl (by decide) rfl rfl ?_
    refine e_iload_n (q := 22) (i := 1) dX5_cakeLine_21 rfl rfl rfl ?_
    refine e_iconst (q := 23) dX5_cakeLine_22 rfl ?_
    refine e_icmp_ne (q := 26) (tgt := 30) dX5_cakeLine_23 rfl (by decide) (fun c23 => ?_) (fun c23 => by exfalso; omega)
    refine e_aload_n (q := 31) (i := 0) dX5_cakeLine_30 rfl rfl rfl ?_
    refine e_iconst (q := 32) dX5_cakeLine_31 rfl ?_
    refine e_iconst (q := 33) dX5_cakeLine_32 rfl ?_
    refine e_Vi (q := 36) (vs := [_, _]) ok_X5_number ml_X5_105 dX5_cakeLine_33 rfl ⟨_, _, rfl⟩ (by first | assumption | rfl) rfl rfl (Nat.le_of_ble_eq_true rfl) (by decide) (c_X5_number ck1 (by decide) (by decide) (by first | decide | omega) (by first | decide | omega)) (fun z1 s1 h1 => ?_)
    obtain ⟨⟨hf1, hl1⟩, hm1⟩ := h1
    have F1 : Fr [19] σ s1 := F0.tr hf1
    have L1 : s1.1 19 2 = σ.1 19 2 := hl1.trans L0
    cases hr1 : pNum 0 3 (t1 :: q1) with
    | inl e =>
      rw [hr1] at hm1
      obtain ⟨m1, m2, m3⟩ := (show z1 = -1 ∧ s1.1 19 7 = e.1 ∧ s1.1 19 8 = e.2 from hm1)
      subst m1
      have hE : lCake δ (t0 :: q0) = .inl e := by
        unfold lCake
        rw [hr0, bnd_r]
        rw [hr1]
        rfl
      refine e_istore_n (q := 37) (i := 3) (L' := [_, _, _, _, _, _]) dX5_cakeLine_36 rfl rfl (by decide) rfl rfl ?_
      refine e_iload_n (q := 38) (i := 3) dX5_cakeLine_37 rfl rfl rfl ?_
      refine e_iconst (q := 39) dX5_cakeLine_38 rfl ?_
      refine e_icmp_ne (q := 42) (tgt := 44) dX5_cakeLine_39 rfl (by decide) (fun c39 => by exfalso; omega) (fun c39 => ?_)
      refine e_iconst (q := 43) dX5_cakeLine_42 rfl ?_
      exact r_z dX5_cakeLine_43 rfl (by first | exact Or.inl rfl | exact Or.inr rfl | omega) (by rw [hE]; exact ⟨⟨F1.mono (by decide), L1⟩, rfl, m2, m3, F1.mono (by decide)⟩)
    | inr q =>
      obtain ⟨v1, r1⟩ := q
      rw [hr1] at hm1
      obtain ⟨m1, ck2, p7, p8⟩ := (show z1 = v1 ∧ CK s1 r1 ∧ s1.1 19 7 = s0.1 19 7 ∧ s1.1 19 8 = s0.1 19 8 from hm1)
      have m1 := m1.symm
      subst m1
      have P7_1 : s1.1 19 7 = σ.1 19 7 := p7.trans P7_0
      have P8_1 : s1.1 19 8 = σ.1 19 8 := p8.trans P8_0
      have D1 : DR s1 δ := hD.fr F1
      have ok1 := pNum_ok hr1
      have G1 : ∀ x ∈ r1, tkG x := by
        obtain ⟨tt, ett, -⟩ := ok1.2.2
        intro x hx
        exact G0 x (by rw [ett]; exact List.mem_cons_of_mem _ hx)
      obtain ⟨t2, q2, e2⟩ := ck2.ne
      subst e2
      have pl : s0.1 19 5 = t1.2.1 := ck1.hd.2.1
      have dx : s1.1 33 (4 * v0 + v1) = δ 33 (4 * v0 + v1) := by rw [D1.c (by decide)]
      have hbx := ok (4 * v0 + v1) (by omega) (by omega)
      refine e_istore_n (q := 37) (i := 3) (L' := [_, _, _, _, _, _]) dX5_cakeLine_36 rfl rfl (by decide) rfl rfl ?_
      refine e_iload_n (q := 38) (i := 3) dX5_cakeLine_37 rfl rfl rfl ?_
      refine e_iconst (q := 39) dX5_cakeLine_38 rfl ?_
      refine e_icmp_ne (q := 42) (tgt := 44) dX5_cakeLine_39 rfl (by decide) (fun c39 => ?_) (fun c39 => by exfalso; omega)
      refine e_iconst (q := 45) dX5_cakeLine_44 rfl ?_
      refine e_iload_n (q := 46) (i := 1) dX5_cakeLine_45 rfl rfl rfl ?_
      refine e_imul (q := 47) dX5_cakeLine_46 rfl ?_
      refine e_iload_n (q := 48) (i := 3) dX5_cakeLine_47 rfl rfl rfl ?_
      refine e_iadd (q := 49) dX5_cakeLine_48 rfl ?_
      refine e_istore (q := 51) (L' := [_, _, _, _, _, _]) dX5_cakeLine_49 rfl (by decide) rfl rfl ?_
      refine e_aload_n (q := 52) (i := 0) dX5_cakeLine_51 rfl rfl rfl ?_
      refine e_getR (q := 55) dX5_cakeLine_52 rfl fg_X5_32 (by first | assumption | rfl) rfl ?_
      refine e_getR (q := 58) dX5_cakeLine_55 rfl fg_X5_174 (by first | assumption | rfl) rfl ?_
      refine e_iload (q := 60) dX5_cakeLine_58 rfl rfl ?_
      refine e_iald (q := 61) dX5_cakeLine_60 rfl (by first | assumption | rfl) ?_
      rw [dx]
      refine e_if_eq (q := 64) (tgt := 74) dX5_cakeLine_61 rfl (by decide) (fun c61 => ?_) (fun c61 => ?_) (hx := ⟨by omega, by omega⟩)
      · refine e_aload_n (q := 75) (i := 0) dX5_cakeLine_74 rfl rfl rfl ?_
        refine e_iconst (q := 76) dX5_cakeLine_75 rfl ?_
        refine e_bipush (q := 78) dX5_cakeLine_76 rfl (by decide) ?_
        refine e_Vi (q := 81) (vs := [_, _]) ok_X5_number ml_X5_105 dX5_cakeLine_78 rfl ⟨_, _, rfl⟩ (by first | assumption | rfl) rfl rfl (Nat.le_of_ble_eq_true rfl) (by decide) (c_X5_number ck2 (by decide) (by decide) (by first | decide | omega) (by first | decide | omega)) (fun z2 s2 h2 => ?_)
        obtain ⟨⟨hf2, hl2⟩, hm2⟩ := h2
        have F2 : Fr [19] σ s2 := F1.tr hf2
        have L2 : s2.1 19 2 = σ.1 19 2 := hl2.trans L1
        cases hr2 : pNum 1 9 (t2 :: q2) with
        | inl e =>
          rw [hr2] at hm2
          obtain ⟨m1, m2, m3⟩ := (show z2 = -1 ∧ s2.1 19 7 = e.1 ∧ s2.1 19 8 = e.2 from hm2)
          subst m1
          have hE : lCake δ (t0 :: q0) = .inl e := by
            unfold lCake
            rw [hr0, bnd_r]
            rw [hr1, bnd_r]
            rw [if_neg (by omega)]
            rw [hr2]
            rfl
          refine e_istore (q := 83) (L' := [_, _, _, _, _, _]) dX5_cakeLine_81 rfl (by decide) rfl rfl ?_
          refine e_iload (q := 85) dX5_cakeLine_83 rfl rfl ?_
          refine e_iconst (q := 86) dX5_cakeLine_85 rfl ?_
          refine e_icmp_ne (q := 89) (tgt := 91) dX5_cakeLine_86 rfl (by decide) (fun c86 => by exfalso; omega) (fun c86 => ?_)
          refine e_iconst (q := 90) dX5_cakeLine_89 rfl ?_
          exact r_z dX5_cakeLine_90 rfl (by first | exact Or.inl rfl | exact Or.inr rfl | omega) (by rw [hE]; exact ⟨⟨F2.mono (by decide), L2⟩, rfl, m2, m3, F2.mono (by decide)⟩)
        | inr q =>
          obtain ⟨v2, r2⟩ := q
          rw [hr2] at hm2
          obtain ⟨m1, ck3, p7, p8⟩ := (show z2 = v2 ∧ CK s2 r2 ∧ s2.1 19 7 = s1.1 19 7 ∧ s2.1 19 8 = s1.1 19 8 from hm2)
          have m1 := m1.symm
          subst m1
          have P7_2 : s2.1 19 7 = σ.1 19 7 := p7.trans P7_1
          have P8_2 : s2.1 19 8 = σ.1 19 8 := p8.trans P8_1
          have D2 : DR s2 δ := hD.fr F2
          have ok2 := pNum_ok hr2
          have G2 : ∀ x ∈ r2, tkG x := by
            obtain ⟨tt, ett, -⟩ := ok2.2.2
            intro x hx
            exact G1 x (by rw [ett]; exact List.mem_cons_of_mem _ hx)
          obtain ⟨t3, q3, e3⟩ := ck3.ne
          subst e3
          refine e_istore (q := 83) (L' := [_, _, _, _, _, _]) dX5_cakeLine_81 rfl (by decide) rfl rfl ?_
          refine e_iload (q := 85) dX5_cakeLine_83 rfl rfl ?_
          refine e_iconst (q := 86) dX5_cakeLine_85 rfl ?_
          refine e_icmp_ne (q := 89) (tgt := 91) dX5_cakeLine_86 rfl (by decide) (fun c86 => ?_) (fun c86 => by exfalso; omega)
          refine e_aload_n (q := 92) (i := 0) dX5_cakeLine_91 rfl rfl rfl ?_
          refine e_getR (q := 95) dX5_cakeLine_92 rfl fg_X5_32 (by first | assumption | rfl) rfl ?_
          refine e_getR (q := 98) dX5_cakeLine_95 rfl fg_X5_174 (by first | assumption | rfl) rfl ?_
          refine e_iload (q := 100) dX5_cakeLine_98 rfl rfl ?_
          refine e_iload (q := 102) dX5_cakeLine_100 rfl rfl ?_
          refine e_iast (q := 103) dX5_cakeLine_102 rfl (by first | assumption | rfl) ?_
          refine e_iconst (q := 104) dX5_cakeLine_103 rfl ?_
          have hE : lCake δ (t0 :: q0) = .inr ((u2 δ 33 (4 * v0 + v1) v2), t3 :: q3) := by
            unfold lCake
            rw [hr0, bnd_r]
            rw [hr1, bnd_r]
            rw [if_neg (by omega)]
            rw [hr2, bnd_r]
          exact r_z dX5_cakeLine_104 rfl (by first | exact Or.inl rfl | exact Or.inr rfl | omega) (by rw [hE]; exact ⟨⟨((F2.mono (by decide)).sI (by decide) _ _), by rw [sI_ne _ (by decide)]; exact L2⟩, rfl, (D2.s 33 (4 * v0 + v1) v2), ck3.fr (C := [33]) ((Fr.rf _ s2).sI (by decide) _ _) (by decide) (by decide) (fun j _ _ => by rw [sI_ne _ (by decide)]), by rw [sI_ne _ (by decide)]; exact P7_2, by rw [sI_ne _ (by decide)]; exact P8_2⟩)
      · refine e_aload_n (q := 65) (i := 0) dX5_cakeLine_64 rfl rfl rfl ?_
        refine e_getR (q := 68) dX5_cakeLine_65 rfl fg_X5_14 (by first | assumption | rfl) rfl ?_
        refine e_iconst (q := 69) dX5_cakeLine_68 rfl ?_
        refine e_iload_n (q := 70) (i := 2) dX5_cakeLine_69 rfl rfl rfl ?_
        refine e_Vi (q := 73) (vs := [_, _]) ok_X8_failAt ml_X5_126 dX5_cakeLine_70 rfl ⟨_, _, rfl⟩ (by first | assumption | rfl) rfl rfl (Nat.le_of_ble_eq_true rfl) (by decide) (c_X8_failAt) (fun zf sf hf => ?_)
        obtain ⟨rfl, rfl⟩ := hf
        have hE : lCake δ (t0 :: q0) = .inl (3, t1.2.1) := by
          unfold lCake
          rw [hr0, bnd_r, hr1, bnd_r]
          exact if_pos c61
        rw [pl]
        exact r_z dX5_cakeLine_73 rfl (Or.inl rfl) (by rw [hE]; exact fail_L (F1.mono (by decide)) L1)

