set_option maxHeartbeats 8000000 in
theorem c_X5_lawLine {G : Gx} {σ : Sg} {t : Tk} {r : List Tk} {δ : Dl} (hC : CK σ (t :: r)) (hD : DR σ δ) (hO : DOk δ) (hk : t.1 = 7) (hln : (t :: r).length ≤ 701) : Con G 7 mX5_lawLine [.ref (G.2.2.2 + 18)] σ (pI (fun z σ' => RdL σ σ' z (lLaw δ r))) := by
  obtain ⟨k4, k5, kv, kr, kp⟩ := hC.hd
  obtain ⟨o0, o1, o2, o3, o4, o5, o6, o7, o8, o9, oc, ob, ok, og, ou, ow, ox, ot, oz, oy⟩ := id hO
  refine e_entry om_X5_lawLine (Nat.le_of_ble_eq_true rfl) (L := [some (.ref (G.2.2.2 + 18)), none]) rfl ?_
  refine e_aload_n (q := 1) (i := 0) dX5_lawLine_0 rfl rfl rfl ?_
  refine e_getR (q := 4) dX5_lawLine_1 rfl fg_X5_14 (by first | assumption | rfl) rfl ?_
  refine e_Vv (q := 7) (vs := []) ok_X8_step ml_X5_92 dX5_lawLine_4 rfl ⟨_, _, rfl⟩ (by first | assumption | rfl) rfl rfl (Nat.le_of_ble_eq_true rfl) (by decide) (c_step hC (by omega)) (fun ss hs => ?_)
  obtain ⟨hT, ck0⟩ := hs
  have Fs : Fr [19] σ ss := hT.1
  have Ls : ss.1 19 2 = σ.1 19 2 := hT.n
  have P7s : ss.1 19 7 = σ.1 19 7 := hT.2 7 (by decide) (by decide) (by decide) (by decide)
  have P8s : ss.1 19 8 = σ.1 19 8 := hT.2 8 (by decide) (by decide) (by decide) (by decide)
  have Ds : DR ss δ := hD.fr Fs
  obtain ⟨t0, q0, e0⟩ := ck0.ne
  subst e0
  obtain ⟨j4, j5, jv, jr, jp⟩ := ck0.hd
  refine e_aload_n (q := 8) (i := 0) dX5_lawLine_7 rfl rfl rfl ?_
  refine e_getR (q := 11) dX5_lawLine_8 rfl fg_X5_14 (by first | assumption | rfl) rfl ?_
  refine e_getI (q := 14) (jz := 4) dX5_lawLine_11 rfl fg_X5_50 rfl (by first | assumption | rfl) rfl ?_
  rw [j4]
  refine e_bipush (q := 16) dX5_lawLine_14 rfl (by decide) ?_
  refine e_icmp_lt (q := 19) (tgt := 31) dX5_lawLine_16 rfl (by decide) (fun c16 => ?_) (fun c16 => ?_)
  · refine e_aload_n (q := 32) (i := 0) dX5_lawLine_31 rfl rfl rfl ?_
    refine e_getR (q := 35) dX5_lawLine_32 rfl fg_X5_14 (by first | assumption | rfl) rfl ?_
    refine e_iconst (q := 36) dX5_lawLine_35 rfl ?_
    refine e_Vi (q := 39) (vs := [_]) ok_X8_fail ml_X5_88 dX5_lawLine_36 rfl ⟨_, _, rfl⟩ (by first | assumption | rfl) rfl rfl (Nat.le_of_ble_eq_true rfl) (by decide) (c_X8_fail) (fun zf sf hf => ?_)
    obtain ⟨rfl, rfl⟩ := hf
    rw [j5]
    exact r_z dX5_lawLine_39 rfl (Or.inl rfl) (by rw [show lLaw δ (t0 :: q0) = .inl (1, t0.2.1) from if_pos (by omega)]; exact fail_L (Fs.mono (by decide)) Ls)
  · refine e_aload_n (q := 20) (i := 0) dX5_lawLine_19 rfl rfl rfl ?_
    refine e_getR (q := 23) dX5_lawLine_20 rfl fg_X5_14 (by first | assumption | rfl) rfl ?_
    refine e_getI (q := 26) (jz := 4) dX5_lawLine_23 rfl fg_X5_50 rfl (by first | assumption | rfl) rfl ?_
    rw [j4]
    refine e_bipush (q := 28) dX5_lawLine_26 rfl (by decide) ?_
    refine e_icmp_le (q := 31) (tgt := 40) dX5_lawLine_28 rfl (by decide) (fun c28 => ?_) (fun c28 => ?_)
    · refine e_aload_n (q := 41) (i := 0) dX5_lawLine_40 rfl rfl rfl ?_
      refine e_getR (q := 44) dX5_lawLine_41 rfl fg_X5_14 (by first | assumption | rfl) rfl ?_
      refine e_getI (q := 47) (jz := 4) dX5_lawLine_44 rfl fg_X5_50 rfl (by first | assumption | rfl) rfl ?_
      rw [j4]
      refine e_bipush (q := 49) dX5_lawLine_47 rfl (by decide) ?_
      refine e_isub (q := 50) dX5_lawLine_49 rfl ?_
      refine e_istore_n (q := 51) (i := 1) (L' := [_, _]) dX5_lawLine_50 rfl rfl (by decide) rfl rfl ?_
      have hw := ow (t0.1 - 8) (by omega) (by omega)
      have e36 : ss.1 36 = δ 36 := Ds.c (by decide)
      have e37 : ss.1 37 = δ 37 := Ds.c (by decide)
      refine e_aload_n (q := 52) (i := 0) dX5_lawLine_51 rfl rfl rfl ?_
      refine e_getR (q := 55) dX5_lawLine_52 rfl fg_X5_32 (by first | assumption | rfl) rfl ?_
      refine e_getR (q := 58) dX5_lawLine_55 rfl fg_X5_184 (by first | assumption | rfl) rfl ?_
      refine e_iload_n (q := 59) (i := 1) dX5_lawLine_58 rfl rfl rfl ?_
      refine e_Vip (q := 62) (vs := [_]) ok_X3_isTold ml_X5_188 dX5_lawLine_59 rfl ⟨_, _, rfl⟩ (by first | assumption | rfl) rfl rfl (Nat.le_of_ble_eq_true rfl) (by decide) (c_X3_isTold (k := t0.1 - 8) (by omega) (by omega) (by rw [e37]; exact ⟨by omega, by omega⟩) (by rw [e36]; exact ⟨by omega, by omega⟩)) ?_
      rw [e36, e37]
      refine e_if_eq (q := 65) (tgt := 74) dX5_lawLine_62 rfl (by decide) (fun c62 => ?_) (fun c62 => ?_) (hx := by split <;> exact ⟨by decide, by decide⟩)
      · have hnt : ¬ δ 36 (t0.1 - 8) < δ 37 (t0.1 - 8) := fun q => by rw [if_pos q] at c62; exact absurd c62 (by decide)
        refine e_aload_n (q := 75) (i := 0) dX5_lawLine_74 rfl rfl rfl ?_
        refine e_getR (q := 78) dX5_lawLine_75 rfl fg_X5_14 (by first | assumption | rfl) rfl ?_
        refine e_Vv (q := 81) (vs := []) ok_X8_step ml_X5_92 dX5_lawLine_78 rfl ⟨_, _, rfl⟩ (by first | assumption | rfl) rfl rfl (Nat.le_of_ble_eq_true rfl) (by decide) (c_step ck0 (by omega)) (fun s2 hs2 => ?_)
        obtain ⟨hT2, ck1⟩ := hs2
        have F2 : Fr [19] σ s2 := Fs.tr hT2.1
        have L2 : s2.1 19 2 = σ.1 19 2 := hT2.n.trans Ls
        have P72 : s2.1 19 7 = σ.1 19 7 := (hT2.2 7 (by decide) (by decide) (by decide) (by decide)).trans P7s
        have P82 : s2.1 19 8 = σ.1 19 8 := (hT2.2 8 (by decide) (by decide) (by decide) (by decide)).trans P8s
        have D2 : DR s2 δ := hD.fr F2
        have e34 : s2.1 34 4 = δ 34 4 := D2.2
        have e35 : s2.1 35 = δ 35 := D2.c (by decide)
        have f36 : s2.1 36 = δ 36 := D2.c (by decide)
        have f37 : s2.1 37 = δ 37 := D2.c (by decide)
        refine e_aload_n (q := 82) (i := 0) dX5_lawLine_81 rfl rfl rfl ?_
        refine e_getR (q := 85) dX5_lawLine_82 rfl fg_X5_25 (by first | assumption | rfl) rfl ?_
        refine e_aload_n (q := 86) (i := 0) dX5_lawLine_85 rfl rfl rfl ?_
        refine e_getR (q := 89) dX5_lawLine_86 rfl fg_X5_32 (by first | assumption | rfl) rfl ?_
        refine e_getR (q := 92) dX5_lawLine_89 rfl fg_X5_184 (by first | assumption | rfl) rfl ?_
        refine e_iload_n (q := 93) (i := 1) dX5_lawLine_92 rfl rfl rfl ?_
        refine e_Vi (q := 96) (vs := [_, _]) ok_X7_reads ml_X5_193 dX5_lawLine_93 rfl ⟨_, _, rfl⟩ (by first | assumption | rfl) rfl rfl (Nat.le_of_ble_eq_true rfl) (by decide) (c_X7_reads (r := t0.1 - 8) ck1 (by have := hln; simp only [List.length_cons] at this; omega) (by rw [e34]; omega) (by rw [e34]; omega) (by omega) (by omega)) (fun z3 s3 h3 => ?_)
        obtain ⟨⟨hf3, hl3⟩, hm3⟩ := h3
        rw [e34, e35] at hm3
        have hE0 : lLaw δ (t0 :: q0) = match syRun q0 (1, [], 0, δ 34 4, (δ 34 4, δ 35)) with
              | .inl e => .inl e
              | .inr q => .inr (dLaw δ (t0.1 - 8) q.2, q.1) := (if_neg (by omega)).trans (if_neg hnt)
        have F3 : Fr [19, 21, 22, 34, 35, 36, 37] σ s3 := (F2.mono (by decide)).tr hf3
        cases hr : syRun q0 (1, [], 0, δ 34 4, (δ 34 4, δ 35)) with
        | inl e =>
          rw [hr] at hm3 hE0
          obtain ⟨m1, m2, m3⟩ := hm3
          subst m1
          exact r_z dX5_lawLine_96 rfl (Or.inl rfl) (by rw [hE0]; exact ⟨⟨F3.mono (by decide), hl3.trans L2⟩, rfl, m2, m3, F3⟩)
        | inr q =>
          rw [hr] at hm3 hE0
          obtain ⟨m1, m2, m3, m4, m5, m6, m7, m8⟩ := hm3
          subst m1
          refine r_z dX5_lawLine_96 rfl (Or.inr rfl) (by
            rw [hE0]
            refine ⟨⟨F3.mono (by decide), hl3.trans L2⟩, rfl, ⟨?_, m3.trans (show q.2.1 = uf (δ 34) 4 q.2.1 4 from (if_pos rfl).symm)⟩, m2, m7.trans P72, m8.trans P82⟩
            intro a ha
            show s3.1 a = dLaw δ (t0.1 - 8) q.2 a
            unfold dLaw
            by_cases a1 : a = 35
            · rw [if_pos a1, a1]; exact m4
            rw [if_neg a1]
            rw [if_neg (show ¬ a = 34 by omega)]
            by_cases a3 : a = 36
            · rw [if_pos a3, a3, m5, f36]
            rw [if_neg a3]
            by_cases a4 : a = 37
            · rw [if_pos a4, a4, m6, f37]
            rw [if_neg a4]
            rw [(F3 a (by simp only [List.mem_cons, List.not_mem_nil, or_false]; omega)).1]
            exact hD.c ha)
      · refine e_aload_n (q := 66) (i := 0) dX5_lawLine_65 rfl rfl rfl ?_
        refine e_getR (q := 69) dX5_lawLine_66 rfl fg_X5_14 (by first | assumption | rfl) rfl ?_
        refine e_iconst (q := 70) dX5_lawLine_69 rfl ?_
        refine e_Vi (q := 73) (vs := [_]) ok_X8_fail ml_X5_88 dX5_lawLine_70 rfl ⟨_, _, rfl⟩ (by first | assumption | rfl) rfl rfl (Nat.le_of_ble_eq_true rfl) (by decide) (c_X8_fail) (fun zf sf hf => ?_)
        obtain ⟨rfl, rfl⟩ := hf
        rw [j5]
        exact r_z dX5_lawLine_73 rfl (Or.inl rfl) (by rw [show lLaw δ (t0 :: q0) = .inl (3, t0.2.1) from (if_neg (by omega)).trans (if_pos (by by_cases q : δ 36 (t0.1 - 8) < δ 37 (t0.1 - 8); exact q; exact absurd (if_neg q) c62))]; exact fail_L (Fs.mono (by decide)) Ls)
    · refine e_aload_n (q := 32) (i := 0) dX5_lawLine_31 rfl rfl rfl ?_
      refine e_getR (q := 35) dX5_lawLine_32 rfl fg_X5_14 (by first | assumption | rfl) rfl ?_
      refine e_iconst (q := 36) dX5_lawLine_35 rfl ?_
      refine e_Vi (q := 39) (vs := [_]) ok_X8_fail ml_X5_88 dX5_lawLine_36 rfl ⟨_, _, rfl⟩ (by first | assumption | rfl) rfl rfl (Nat.le_of_ble_eq_true rfl) (by decide) (c_X8_fail) (fun zf sf hf => ?_)
      obtain ⟨rfl, rfl⟩ := hf
      rw [j5]
      exact r_z dX5_lawLine_39 rfl (Or.inl rfl) (by rw [show lLaw δ (t0 :: q0) = .inl (1, t0.2.1) from if_pos (by omega)]; exact fail_L (Fs.mono (by decide)) Ls)

theorem RdL_z {σ σ' : Sg} {z : Int} {R : Rs} (h : RdL σ σ' z R) : z = 0 ∨ z = 1 := by
  obtain ⟨-, h⟩ := h
  cases R with
  | inl e => exact Or.inl h.1
  | inr q => exact Or.inr h.1

set_option maxHeartbeats 8000000 in
theorem c_X5_line {G : Gx} {σ : Sg} {t : Tk} {r : List Tk} {δ : Dl} (hC : CK σ (t :: r)) (hD : DR σ δ) (hO : DOk δ) (hG : ∀ x ∈ t :: r, tkG x) (hln : (t :: r).length ≤ 701) : Con G 8 mX5_line [.ref (G.2.2.2 + 18)] σ (pI (fun z σ' => RdL σ σ' z (lLine δ (t :: r)))) := by
  obtain ⟨k4, k5, kv, kr, kp⟩ := hC.hd
  refine e_entry om_X5_line (Nat.le_of_ble_eq_true rfl) (L := [some (.ref (G.2.2.2 + 18))]) rfl ?_
  refine e_aload_n (q := 1) (i := 0) dX5_line_0 rfl rfl rfl ?_
  refine e_getR (q := 4) dX5_line_1 rfl fg_X5_14 (by first | assumption | rfl) rfl ?_
  refine e_getI (q := 7) (jz := 4) dX5_line_4 rfl fg_X5_50 rfl (by first | assumption | rfl) rfl ?_
  rw [k4]
  by_cases k7_0 : t.1 = 0
  · refine e_tabIn (tgt := 52) dX5_line_7 (by first | assumption | exact ⟨by omega, by omega⟩) (by omega) (by omega) (by rw [k7_0]; rfl) (by decide) ?_
    refine e_aload_n (q := 53) (i := 0) dX5_line_52 rfl rfl rfl ?_
    refine e_Vi (q := 56) (vs := []) ok_X5_landLine ml_X5_64 dX5_line_53 rfl ⟨_, _, rfl⟩ (by first | assumption | rfl) rfl rfl (Nat.le_of_ble_eq_true rfl) (by decide) (c_X5_landLine hC hD hO hG k7_0) (fun z1 s1 h1 => ?_)
    have hz1 : z1 = 0 ∨ z1 = 1 := RdL_z h1
    exact r_z dX5_line_56 rfl hz1 (by rw [show lLine δ (t :: r) = lLand δ t r from if_pos k7_0]; exact h1)
  by_cases k7_1 : t.1 = 1
  · refine e_tabIn (tgt := 57) dX5_line_7 (by first | assumption | exact ⟨by omega, by omega⟩) (by omega) (by omega) (by rw [k7_1]; rfl) (by decide) ?_
    refine e_aload_n (q := 58) (i := 0) dX5_line_57 rfl rfl rfl ?_
    refine e_Vi (q := 61) (vs := []) ok_X5_parishLine ml_X5_67 dX5_line_58 rfl ⟨_, _, rfl⟩ (by first | assumption | rfl) rfl rfl (Nat.le_of_ble_eq_true rfl) (by decide) (c_X5_parishLine hC hD hO hG k7_1) (fun z1 s1 h1 => ?_)
    have hz1 : z1 = 0 ∨ z1 = 1 := RdL_z h1
    exact r_z dX5_line_61 rfl hz1 (by rw [show lLine δ (t :: r) = lPar δ t r from (if_neg (by omega)).trans (if_pos k7_1)]; exact h1)
  by_cases k7_2 : t.1 = 2
  · refine e_tabIn (tgt := 62) dX5_line_7 (by first | assumption | exact ⟨by omega, by omega⟩) (by omega) (by omega) (by rw [k7_2]; rfl) (by decide) ?_
    refine e_aload_n (q := 63) (i := 0) dX5_line_62 rfl rfl rfl ?_
    refine e_Vi (q := 66) (vs := []) ok_X5_childLine ml_X5_70 dX5_line_63 rfl ⟨_, _, rfl⟩ (by first | assumption | rfl) rfl rfl (Nat.le_of_ble_eq_true rfl) (by decide) (c_X5_childLine hC hD hO hG k7_2) (fun z1 s1 h1 => ?_)
    have hz1 : z1 = 0 ∨ z1 = 1 := RdL_z h1
    exact r_z dX5_line_66 rfl hz1 (by rw [show lLine δ (t :: r) = lChi δ t r from (if_neg (by omega)).trans ((if_neg (by omega)).trans (if_pos k7_2))]; exact h1)
  by_cases k7_3 : t.1 = 3
  · refine e_tabIn (tgt := 67) dX5_line_7 (by first | assumption | exact ⟨by omega, by omega⟩) (by omega) (by omega) (by rw [k7_3]; rfl) (by decide) ?_
    refine e_aload_n (q := 68) (i := 0) dX5_line_67 rfl rfl rfl ?_
    refine e_Vi (q := 71) (vs := []) ok_X5_beatLine ml_X5_73 dX5_line_68 rfl ⟨_, _, rfl⟩ (by first | assumption | rfl) rfl rfl (Nat.le_of_ble_eq_true rfl) (by decide) (c_X5_beatLine hC hD hO hG k7_3) (fun z1 s1 h1 => ?_)
    have hz1 : z1 = 0 ∨ z1 = 1 := RdL_z h1
    exact r_z dX5_line_71 rfl hz1 (by rw [show lLine δ (t :: r) = lBeat δ t r from (if_neg (by omega)).trans ((if_neg (by omega)).trans ((if_neg (by omega)).trans (if_pos k7_3)))]; exact h1)
  by_cases k7_4 : t.1 = 4
  · refine e_tabIn (tgt := 72) dX5_line_7 (by first | assumption | exact ⟨by omega, by omega⟩) (by omega) (by omega) (by rw [k7_4]; rfl) (by decide) ?_
    refine e_aload_n (q := 73) (i := 0) dX5_line_72 rfl rfl rfl ?_
    refine e_Vi (q := 76) (vs := []) ok_X5_cakeLine ml_X5_76 dX5_line_73 rfl ⟨_, _, rfl⟩ (by first | assumption | rfl) rfl rfl (Nat.le_of_ble_eq_true rfl) (by decide) (c_X5_cakeLine hC hD hO hG k7_4) (fun z1 s1 h1 => ?_)
    have hz1 : z1 = 0 ∨ z1 = 1 := RdL_z h1
    exact r_z dX5_line_76 rfl hz1 (by rw [show lLine δ (t :: r) = lCake δ r from (if_neg (by omega)).trans ((if_neg (by omega)).trans ((if_neg (by omega)).trans ((if_neg (by omega)).trans (if_pos k7_4))))]; exact h1)
  by_cases k7_5 : t.1 = 5
  · refine e_tabIn (tgt := 77) dX5_line_7 (by first | assumption | exact ⟨by omega, by omega⟩) (by omega) (by omega) (by rw [k7_5]; rfl) (by decide) ?_
    refine e_aload_n (q := 78) (i := 0) dX5_line_77 rfl rfl rfl ?_
    refine e_Vi (q := 81) (vs := []) ok_X5_rainLine ml_X5_79 dX5_line_78 rfl ⟨_, _, rfl⟩ (by first | assumption | rfl) rfl rfl (Nat.le_of_ble_eq_true rfl) (by decide) (c_X5_rainLine hC hD hO hG k7_5) (fun z1 s1 h1 => ?_)
    have hz1 : z1 = 0 ∨ z1 = 1 := RdL_z h1
    exact r_z dX5_line_81 rfl hz1 (by rw [show lLine δ (t :: r) = lRain δ t r from (if_neg (by omega)).trans ((if_neg (by omega)).trans ((if_neg (by omega)).trans ((if_neg (by omega)).trans ((if_neg (by omega)).trans (if_pos k7_5)))))]; exact h1)
  by_cases k7_6 : t.1 = 6
  · refine e_tabIn (tgt := 82) dX5_line_7 (by first | assumption | exact ⟨by omega, by omega⟩) (by omega) (by omega) (by rw [k7_6]; rfl) (by decide) ?_
    refine e_aload_n (q := 83) (i := 0) dX5_line_82 rfl rfl rfl ?_
    refine e_Vi (q := 86) (vs := []) ok_X5_seedLine ml_X5_82 dX5_line_83 rfl ⟨_, _, rfl⟩ (by first | assumption | rfl) rfl rfl (Nat.le_of_ble_eq_true rfl) (by decide) (c_X5_seedLine hC hD hO hG k7_6) (fun z1 s1 h1 => ?_)
    have hz1 : z1 = 0 ∨ z1 = 1 := RdL_z h1
    exact r_z dX5_line_86 rfl hz1 (by rw [show lLine δ (t :: r) = lSeed δ t r from (if_neg (by omega)).trans ((if_neg (by omega)).trans ((if_neg (by omega)).trans ((if_neg (by omega)).trans ((if_neg (by omega)).trans ((if_neg (by omega)).trans (if_pos k7_6))))))]; exact h1)
  by_cases k7_7 : t.1 = 7
  · refine e_tabIn (tgt := 87) dX5_line_7 (by first | assumption | exact ⟨by omega, by omega⟩) (by omega) (by omega) (by rw [k7_7]; rfl) (by decide) ?_
    refine e_aload_n (q := 88) (i := 0) dX5_line_87 rfl rfl rfl ?_
    refine e_Vi (q := 91) (vs := []) ok_X5_lawLine ml_X5_85 dX5_line_88 rfl ⟨_, _, rfl⟩ (by first | assumption | rfl) rfl rfl (Nat.le_of_ble_eq_true rfl) (by decide) (c_X5_lawLine hC hD hO  k7_7 hln) (fun z1 s1 h1 => ?_)
    have hz1 : z1 = 0 ∨ z1 = 1 := RdL_z h1
    exact r_z dX5_line_91 rfl hz1 (by rw [show lLine δ (t :: r) = lLaw δ r from (if_neg (by omega)).trans ((if_neg (by omega)).trans ((if_neg (by omega)).trans ((if_neg (by omega)).trans ((if_neg (by omega)).trans ((if_neg (by omega)).trans ((if_neg (by omega)).trans (if_pos k7_7)))))))]; exact h1)
  refine e_tabOut (tgt := 92) dX5_line_7 (by first | assumption | exact ⟨by omega, by omega⟩) (by omega) (by decide) ?_
  refine e_aload_n (q := 93) (i := 0) dX5_line_92 rfl rfl rfl ?_
  refine e_getR (q := 96) dX5_line_93 rfl fg_X5_14 (by first | assumption | rfl) rfl ?_
  refine e_iconst (q := 97) dX5_line_96 rfl ?_
  refine e_Vi (q := 100) (vs := [_]) ok_X8_fail ml_X5_88 dX5_line_97 rfl ⟨_, _, rfl⟩ (by first | assumption | rfl) rfl rfl (Nat.le_of_ble_eq_true rfl) (by decide) (c_X8_fail) (fun zf sf hf => ?_)
  obtain ⟨rfl, rfl⟩ := hf
  rw [k5]
  exact r_z dX5_line_100 rfl (Or.inl rfl) (by rw [show lLine δ (t :: r) = .inl (1, t.2.1) from (if_neg (by omega)).trans ((if_neg (by omega)).trans ((if_neg (by omega)).trans ((if_neg (by omega)).trans ((if_neg (by omega)).trans ((if_neg (by omega)).trans ((if_neg (by omega)).trans (if_neg (by omega))))))))]; exact fail_L (Fr.rf _ _) rfl)

theorem lLine_ok {δ : Dl} {t : Tk} {r : List Tk} {q : Dl × List Tk} (hO : DOk δ) (hG : ∀ x ∈ t :: r, tkG x) (hl : δ 23 1 + 1 ≤ 701) (h : lLine δ (t :: r) = .inr q) : DOk (u2 q.1 23 1 (δ 23 1 + 1)) ∧ q.1 23 1 = δ 23 1 ∧ ∃ p, r = p ++ q.2 := by
  obtain ⟨o0, o1, o2, o3, o4, o5, o6, o7, o8, o9, oc, ob, ok, og, ou, ow, ox, ot, oz, oy⟩ := id hO
  have hG' : ∀ x ∈ r, tkG x := fun x hx => hG x (List.mem_cons_of_mem _ hx)
  simp only [lLine] at h
  by_cases e0 : t.1 = 0
  · rw [if_pos e0] at h
    unfold lLand at h
    by_cases c : 0 < δ 23 1
    · rw [if_pos c] at h; cases h
    rw [if_neg c] at h
    replace h := bnd_ok h
    obtain ⟨v, r1, h1, h⟩ := h
    obtain ⟨v1, v2, t1, rfl, -⟩ := pNum_ok h1
    cases h
    exact ⟨DOk_land hO hl v1 v2 c, by simp only [u2_1]; exact if_neg (by decide), [t1], rfl⟩
  rw [if_neg e0] at h
  by_cases e1 : t.1 = 1
  · rw [if_pos e1] at h
    unfold lPar at h
    by_cases c : 4 ≤ δ 23 2
    · rw [if_pos c] at h; cases h
    rw [if_neg c] at h
    replace h := bnd_ok h
    obtain ⟨l, r1, h1, h⟩ := h
    obtain ⟨l1, l2, -, t1, rfl, -⟩ := pNew_ok hG' h1
    replace h := bnd_ok h
    obtain ⟨v, r2, h2, h⟩ := h
    obtain ⟨v1, v2, t2, rfl, -⟩ := pNum_ok h2
    replace h := bnd_ok h
    obtain ⟨u, r3, h3, h⟩ := h
    obtain ⟨u1, u2, t3, rfl, -⟩ := pNum_ok h3
    by_cases cc : hasCh δ v u
    · rw [@if_pos _ (Classical.propDecidable _) cc] at h; cases h
    rw [@if_neg _ (Classical.propDecidable _) cc] at h
    cases h
    exact ⟨DOk_par hO hl l1 l2 v1 v2 u1 u2 c, rfl, [t1, t2, t3], rfl⟩
  rw [if_neg e1] at h
  by_cases e2 : t.1 = 2
  · rw [if_pos e2] at h
    unfold lChi at h
    by_cases c : 6 ≤ δ 23 3
    · rw [if_pos c] at h; cases h
    rw [if_neg c] at h
    replace h := bnd_ok h
    obtain ⟨l, r1, h1, h⟩ := h
    obtain ⟨l1, l2, -, t1, rfl, -⟩ := pNew_ok hG' h1
    replace h := bnd_ok h
    obtain ⟨v, r2, h2, h⟩ := h
    obtain ⟨v1, v2, t2, rfl, -⟩ := pNum_ok h2
    replace h := bnd_ok h
    obtain ⟨u, r3, h3, h⟩ := h
    obtain ⟨u1, u2, t3, rfl, -⟩ := pNum_ok h3
    cases h
    exact ⟨DOk_chi hO hl l1 l2 v1 v2 u1 u2 c, rfl, [t1, t2, t3], rfl⟩
  rw [if_neg e2] at h
  by_cases e3 : t.1 = 3
  · rw [if_pos e3] at h
    unfold lBeat at h
    by_cases c : 12 ≤ δ 23 4
    · rw [if_pos c] at h; cases h
    rw [if_neg c] at h
    replace h := bnd_ok h
    obtain ⟨l, r1, h1, h⟩ := h
    obtain ⟨l1, l2, t1, rfl, -⟩ := pTold_ok (by omega) h1
    replace h := bnd_ok h
    obtain ⟨m, r2, h2, h⟩ := h
    obtain ⟨m1, m2, t2, rfl, -⟩ := pTold_ok (by omega) h2
    replace h := bnd_ok h
    obtain ⟨v, r3, h3, h⟩ := h
    obtain ⟨v1, v2, t3, rfl, -⟩ := pNum_ok h3
    replace h := bnd_ok h
    obtain ⟨u, r4, h4, h⟩ := h
    obtain ⟨u1, u2, t4, rfl, -⟩ := pNum_ok h4
    cases h
    exact ⟨DOk_beat hO hl l1 l2 m1 m2 v1 v2 u1 u2 c, rfl, [t1, t2, t3, t4], rfl⟩
  rw [if_neg e3] at h
  by_cases e4 : t.1 = 4
  · rw [if_pos e4] at h
    unfold lCake at h
    replace h := bnd_ok h
    obtain ⟨l, r1, h1, h⟩ := h
    obtain ⟨l1, l2, t1, rfl, -⟩ := pTold_ok (by omega) h1
    replace h := bnd_ok h
    obtain ⟨v, r3, h3, h⟩ := h
    obtain ⟨v1, v2, t3, rfl, -⟩ := pNum_ok h3
    by_cases c : δ 33 (4 * l + v) ≠ 0
    · rw [if_pos c] at h; cases h
    rw [if_neg c] at h
    replace h := bnd_ok h
    obtain ⟨u, r4, h4, h⟩ := h
    obtain ⟨u1, u2, t4, rfl, -⟩ := pNum_ok h4
    cases h
    exact ⟨DOk_cake hO hl u1 u2, rfl, [t1, t3, t4], rfl⟩
  rw [if_neg e4] at h
  by_cases e5 : t.1 = 5
  · rw [if_pos e5] at h
    unfold lRain at h
    by_cases c : δ 18 3 ≠ 0
    · rw [if_pos c] at h; cases h
    rw [if_neg c] at h
    replace h := bnd_ok h
    obtain ⟨v, r3, h3, h⟩ := h
    obtain ⟨v1, v2, t3, rfl, -⟩ := pNum_ok h3
    cases h
    exact ⟨DOk_rain hO hl v1 v2, rfl, [t3], rfl⟩
  rw [if_neg e5] at h
  by_cases e6 : t.1 = 6
  · rw [if_pos e6] at h
    unfold lSeed at h
    by_cases c : δ 18 4 ≠ 0
    · rw [if_pos c] at h; cases h
    rw [if_neg c] at h
    replace h := bnd_ok h
    obtain ⟨v, r3, h3, h⟩ := h
    obtain ⟨v1, v2, t3, rfl, -⟩ := pNum_ok h3
    cases h
    exact ⟨DOk_seed hO hl v1 v2, rfl, [t3], rfl⟩
  rw [if_neg e6] at h
  by_cases e7 : t.1 = 7
  · rw [if_pos e7] at h
    match r, hG', h with
    | t0 :: q0, hG', h =>
      simp only [lLaw] at h
      by_cases c1 : t0.1 < 8 ∨ 10 < t0.1
      · rw [if_pos c1] at h; cases h
      rw [if_neg c1] at h
      by_cases c2 : δ 36 (t0.1 - 8) < δ 37 (t0.1 - 8)
      · rw [if_pos c2] at h; cases h
      rw [if_neg c2] at h
      cases hr : syRun q0 (1, [], 0, δ 34 4, (δ 34 4, δ 35)) with
      | inl e => rw [hr] at h; cases h
      | inr e =>
        rw [hr] at h
        cases h
        obtain ⟨s1, s2, s3, p, s4⟩ := syRun_ok q0 1 [] 0 _ _ e (Or.inr rfl) (fun x hx => hG' x (List.mem_cons_of_mem _ hx)) ⟨fun s hs => (nomatch hs), by show δ 34 4 + 0 = δ 34 4; omega, rfl, ou.1, ou.2, by decide⟩ ⟨ou.1, fun i a b => ox i a b⟩ hr
        exact ⟨DOk_law hO hl (by omega) (by omega) s1 s2 s3, rfl, t0 :: p, by rw [s4]; rfl⟩
  rw [if_neg e7] at h
  cases h

