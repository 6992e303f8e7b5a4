set_option maxHeartbeats 8000000 in
theorem c_X11_law {G : Gx} {σ : Sg} {x a b w : Int} (hT : TI σ) (hW : LW σ) (hI : LI σ 39) (hx : R32 x) (ha : R32 a) (hb : R32 b) (hw : R32 w) : Con G 5 mX11_law [.ref (G.2.2.2 + 0), .int (iZ x), .int (iZ a), .int (iZ b), .int (iZ w)] σ (pL (fun z σ' => z = (if (x = 0 ∧ (0 ≤ a ∧ a < σ.1 2 3) ∧ (0 ≤ b ∧ b < σ.1 2 2) ∧ (0 ≤ w ∧ w < 4)) then lawV σ 0 (nmF (σ.1 42 a) (σ.1 7 a) (σ.1 43 a) (σ.1 41 (4 * b + w)) (if 50 ≤ σ.1 2 6 then 1 else 0) (σ.1 40 (4 * b + w)) (σ.1 39 6)) else if (x = 1 ∧ ((0 ≤ a ∧ a < σ.1 2 2) ∧ (0 ≤ b ∧ b < σ.1 2 2) ∧ a ≠ b)) then lawV σ 1 (nmF 0 0 0 0 (if 50 ≤ σ.1 2 6 then 1 else 0) (gOv (σ.1 3) (σ.1 4) (σ.1 40) a b) (σ.1 39 6)) else if (x = 2 ∧ (0 ≤ a ∧ a < σ.1 2 3)) then lawV σ 2 (nmF (σ.1 42 a) (σ.1 7 a) (σ.1 43 a) 0 (if 50 ≤ σ.1 2 6 then 1 else 0) 0 (σ.1 39 6)) else -9223372036854775808) ∧ Fr [17, 55] σ σ')) := by
  obtain ⟨hzz, -, hnp, hnc, hnb, hlb, hrn, hsd, hrw, hrq, hch, hbt, hck⟩ := id hT
  refine e_entry om_X11_law (Nat.le_of_ble_eq_true rfl) (L := [some (.ref (G.2.2.2 + 0)), some (.int (iZ x)), some (.int (iZ a)), some (.int (iZ b)), some (.int (iZ w)), none, none]) rfl ?_
  refine e_aload_n (q := 1) (i := 0) dX11_law_0 rfl rfl rfl ?_
  refine e_getR (q := 4) dX11_law_1 rfl fg_X11_49 (by first | assumption | rfl) rfl ?_
  refine e_Vip (q := 7) (vs := []) ok_X10_wetAsItGoes ml_X11_202 dX11_law_4 rfl ⟨_, _, rfl⟩ (by first | assumption | rfl) rfl rfl (Nat.le_of_ble_eq_true rfl) (by decide) (c_X10_wetAsItGoes hT) ?_
  have hw01 : (if 50 ≤ σ.1 2 6 then (1 : Int) else 0) = 0 ∨ (if 50 ≤ σ.1 2 6 then (1 : Int) else 0) = 1 := by split <;> simp
  refine e_istore (q := 9) (L' := [_, _, _, _, _, _, _]) dX11_law_7 rfl (by decide) rfl rfl ?_
  refine e_iload_n (q := 10) (i := 1) dX11_law_9 rfl rfl rfl ?_
  refine e_if_ne (q := 13) (tgt := 72) dX11_law_10 rfl (by decide) (fun c10 => ?_) (fun c10 => ?_)
  · refine e_iload_n (q := 73) (i := 1) dX11_law_72 rfl rfl rfl ?_
    refine e_iconst (q := 74) dX11_law_73 rfl ?_
    refine e_icmp_ne (q := 77) (tgt := 109) dX11_law_74 rfl (by decide) (fun c74 => ?_) (fun c74 => ?_)
    · refine e_iload_n (q := 110) (i := 1) dX11_law_109 rfl rfl rfl ?_
      refine e_iconst (q := 111) dX11_law_110 rfl ?_
      refine e_icmp_ne (q := 114) (tgt := 137) dX11_law_111 rfl (by decide) (fun c111 => ?_) (fun c111 => ?_)
      · refine e_ldc2 (q := 140) (z := -9223372036854775808) dX11_law_137 rfl kw_X11_217 (by decide) ?_
        exact r_l dX11_law_140 rfl ⟨by rw [if_neg (show ¬ (x = 0 ∧ (0 ≤ a ∧ a < σ.1 2 3) ∧ (0 ≤ b ∧ b < σ.1 2 2) ∧ (0 ≤ w ∧ w < 4)) by omega), if_neg (show ¬ (x = 1 ∧ ((0 ≤ a ∧ a < σ.1 2 2) ∧ (0 ≤ b ∧ b < σ.1 2 2) ∧ a ≠ b)) by omega), if_neg (show ¬ (x = 2 ∧ (0 ≤ a ∧ a < σ.1 2 3)) by omega)], Fr.rf _ _⟩
      · refine e_aload_n (q := 115) (i := 0) dX11_law_114 rfl rfl rfl ?_
        refine e_iload_n (q := 116) (i := 2) dX11_law_115 rfl rfl rfl ?_
        refine e_Vip (q := 119) (vs := [_]) ok_X11_isChild ml_X11_167 dX11_law_116 rfl ⟨_, _, rfl⟩ (by first | assumption | rfl) rfl rfl (Nat.le_of_ble_eq_true rfl) (by decide) (c_X11_isChild hT (by assumption)) ?_
        refine e_if_eq (q := 122) (tgt := 137) dX11_law_119 rfl (by decide) (fun c119 => ?_) (fun c119 => ?_)
        · refine e_ldc2 (q := 140) (z := -9223372036854775808) dX11_law_137 rfl kw_X11_217 (by decide) ?_
          exact r_l dX11_law_140 rfl ⟨by rw [if_neg (show ¬ (x = 0 ∧ (0 ≤ a ∧ a < σ.1 2 3) ∧ (0 ≤ b ∧ b < σ.1 2 2) ∧ (0 ≤ w ∧ w < 4)) by omega), if_neg (show ¬ (x = 1 ∧ ((0 ≤ a ∧ a < σ.1 2 2) ∧ (0 ≤ b ∧ b < σ.1 2 2) ∧ a ≠ b)) by omega), if_neg (show ¬ (x = 2 ∧ (0 ≤ a ∧ a < σ.1 2 3)) by omega)], Fr.rf _ _⟩
        · refine e_aload_n (q := 123) (i := 0) dX11_law_122 rfl rfl rfl ?_
          refine e_getR (q := 126) dX11_law_123 rfl fg_X11_49 (by first | assumption | rfl) rfl ?_
          refine e_aload_n (q := 127) (i := 0) dX11_law_126 rfl rfl rfl ?_
          refine e_getR (q := 130) dX11_law_127 rfl fg_X11_36 (by first | assumption | rfl) rfl ?_
          refine e_iload_n (q := 131) (i := 2) dX11_law_130 rfl rfl rfl ?_
          refine e_iload (q := 133) dX11_law_131 rfl rfl ?_
          refine e_Vl (q := 136) (vs := [_, _, _]) ok_X10_grow ml_X11_214 dX11_law_133 rfl ⟨_, _, rfl⟩ (by first | assumption | rfl) rfl rfl (Nat.le_of_ble_eq_true rfl) (by decide) (c_X10_grow (L := 39) hT hW hI (Or.inl rfl) (by omega) (by omega) hw01) (fun zz ss hh => ?_)
          exact r_l dX11_law_136 rfl ⟨by rw [if_neg (show ¬ (x = 0 ∧ (0 ≤ a ∧ a < σ.1 2 3) ∧ (0 ≤ b ∧ b < σ.1 2 2) ∧ (0 ≤ w ∧ w < 4)) by omega), if_neg (show ¬ (x = 1 ∧ ((0 ≤ a ∧ a < σ.1 2 2) ∧ (0 ≤ b ∧ b < σ.1 2 2) ∧ a ≠ b)) by omega), if_pos (show (x = 2 ∧ (0 ≤ a ∧ a < σ.1 2 3)) by omega)]; exact hh.1, hh.2⟩
    · refine e_aload_n (q := 78) (i := 0) dX11_law_77 rfl rfl rfl ?_
      refine e_iload_n (q := 79) (i := 2) dX11_law_78 rfl rfl rfl ?_
      refine e_iload_n (q := 80) (i := 3) dX11_law_79 rfl rfl rfl ?_
      refine e_Vip (q := 83) (vs := [_, _]) ok_X11_isPair ml_X11_193 dX11_law_80 rfl ⟨_, _, rfl⟩ (by first | assumption | rfl) rfl rfl (Nat.le_of_ble_eq_true rfl) (by decide) (c_X11_isPair hT (by assumption) (by assumption)) ?_
      refine e_if_eq (q := 86) (tgt := 109) dX11_law_83 rfl (by decide) (fun c83 => ?_) (fun c83 => ?_)
      · refine e_iload_n (q := 110) (i := 1) dX11_law_109 rfl rfl rfl ?_
        refine e_iconst (q := 111) dX11_law_110 rfl ?_
        refine e_icmp_ne (q := 114) (tgt := 137) dX11_law_111 rfl (by decide) (fun c111 => ?_) (fun c111 => ?_)
        · refine e_ldc2 (q := 140) (z := -9223372036854775808) dX11_law_137 rfl kw_X11_217 (by decide) ?_
          exact r_l dX11_law_140 rfl ⟨by rw [if_neg (show ¬ (x = 0 ∧ (0 ≤ a ∧ a < σ.1 2 3) ∧ (0 ≤ b ∧ b < σ.1 2 2) ∧ (0 ≤ w ∧ w < 4)) by omega), if_neg (show ¬ (x = 1 ∧ ((0 ≤ a ∧ a < σ.1 2 2) ∧ (0 ≤ b ∧ b < σ.1 2 2) ∧ a ≠ b)) by omega), if_neg (show ¬ (x = 2 ∧ (0 ≤ a ∧ a < σ.1 2 3)) by omega)], Fr.rf _ _⟩
        · refine e_aload_n (q := 115) (i := 0) dX11_law_114 rfl rfl rfl ?_
          refine e_iload_n (q := 116) (i := 2) dX11_law_115 rfl rfl rfl ?_
          refine e_Vip (q := 119) (vs := [_]) ok_X11_isChild ml_X11_167 dX11_law_116 rfl ⟨_, _, rfl⟩ (by first | assumption | rfl) rfl rfl (Nat.le_of_ble_eq_true rfl) (by decide) (c_X11_isChild hT (by assumption)) ?_
          refine e_if_eq (q := 122) (tgt := 137) dX11_law_119 rfl (by decide) (fun c119 => ?_) (fun c119 => ?_)
          · refine e_ldc2 (q := 140) (z := -9223372036854775808) dX11_law_137 rfl kw_X11_217 (by decide) ?_
            exact r_l dX11_law_140 rfl ⟨by rw [if_neg (show ¬ (x = 0 ∧ (0 ≤ a ∧ a < σ.1 2 3) ∧ (0 ≤ b ∧ b < σ.1 2 2) ∧ (0 ≤ w ∧ w < 4)) by omega), if_neg (show ¬ (x = 1 ∧ ((0 ≤ a ∧ a < σ.1 2 2) ∧ (0 ≤ b ∧ b < σ.1 2 2) ∧ a ≠ b)) by omega), if_neg (show ¬ (x = 2 ∧ (0 ≤ a ∧ a < σ.1 2 3)) by omega)], Fr.rf _ _⟩
          · refine e_aload_n (q := 123) (i := 0) dX11_law_122 rfl rfl rfl ?_
            refine e_getR (q := 126) dX11_law_123 rfl fg_X11_49 (by first | assumption | rfl) rfl ?_
            refine e_aload_n (q := 127) (i := 0) dX11_law_126 rfl rfl rfl ?_
            refine e_getR (q := 130) dX11_law_127 rfl fg_X11_36 (by first | assumption | rfl) rfl ?_
            refine e_iload_n (q := 131) (i := 2) dX11_law_130 rfl rfl rfl ?_
            refine e_iload (q := 133) dX11_law_131 rfl rfl ?_
            refine e_Vl (q := 136) (vs := [_, _, _]) ok_X10_grow ml_X11_214 dX11_law_133 rfl ⟨_, _, rfl⟩ (by first | assumption | rfl) rfl rfl (Nat.le_of_ble_eq_true rfl) (by decide) (c_X10_grow (L := 39) hT hW hI (Or.inl rfl) (by omega) (by omega) hw01) (fun zz ss hh => ?_)
            exact r_l dX11_law_136 rfl ⟨by rw [if_neg (show ¬ (x = 0 ∧ (0 ≤ a ∧ a < σ.1 2 3) ∧ (0 ≤ b ∧ b < σ.1 2 2) ∧ (0 ≤ w ∧ w < 4)) by omega), if_neg (show ¬ (x = 1 ∧ ((0 ≤ a ∧ a < σ.1 2 2) ∧ (0 ≤ b ∧ b < σ.1 2 2) ∧ a ≠ b)) by omega), if_pos (show (x = 2 ∧ (0 ≤ a ∧ a < σ.1 2 3)) by omega)]; exact hh.1, hh.2⟩
      · refine e_aload_n (q := 87) (i := 0) dX11_law_86 rfl rfl rfl ?_
        refine e_getR (q := 90) dX11_law_87 rfl fg_X11_49 (by first | assumption | rfl) rfl ?_
        refine e_aload_n (q := 91) (i := 0) dX11_law_90 rfl rfl rfl ?_
        refine e_getR (q := 94) dX11_law_91 rfl fg_X11_36 (by first | assumption | rfl) rfl ?_
        refine e_aload_n (q := 95) (i := 0) dX11_law_94 rfl rfl rfl ?_
        refine e_getR (q := 98) dX11_law_95 rfl fg_X11_36 (by first | assumption | rfl) rfl ?_
        refine e_iload_n (q := 99) (i := 2) dX11_law_98 rfl rfl rfl ?_
        refine e_iload_n (q := 100) (i := 3) dX11_law_99 rfl rfl rfl ?_
        refine e_Vip (q := 103) (vs := [_, _]) ok_X2_shared ml_X11_196 dX11_law_100 rfl ⟨_, _, rfl⟩ (by first | assumption | rfl) rfl rfl (Nat.le_of_ble_eq_true rfl) (by decide) (c39_shared hT hI (by omega) (by omega) (by omega) (by omega)) ?_
        refine e_iload (q := 105) dX11_law_103 rfl rfl ?_
        have hov := gOv39 (p := a) (q := b) hT hI (by omega) (by omega) (by omega) (by omega)
        refine e_Vl (q := 108) (vs := [_, _, _]) ok_X10_quarl ml_X11_210 dX11_law_105 rfl ⟨_, _, rfl⟩ (by first | assumption | rfl) rfl rfl (Nat.le_of_ble_eq_true rfl) (by decide) (c_X10_quarl (L := 39) hT hW hI (Or.inl rfl) ⟨by omega, by omega⟩ hw01) (fun zz ss hh => ?_)
        exact r_l dX11_law_108 rfl ⟨by rw [if_neg (show ¬ (x = 0 ∧ (0 ≤ a ∧ a < σ.1 2 3) ∧ (0 ≤ b ∧ b < σ.1 2 2) ∧ (0 ≤ w ∧ w < 4)) by omega), if_pos (show (x = 1 ∧ ((0 ≤ a ∧ a < σ.1 2 2) ∧ (0 ≤ b ∧ b < σ.1 2 2) ∧ a ≠ b)) by omega)]; exact hh.1, hh.2⟩
  · refine e_aload_n (q := 14) (i := 0) dX11_law_13 rfl rfl rfl ?_
    refine e_iload_n (q := 15) (i := 2) dX11_law_14 rfl rfl rfl ?_
    refine e_Vip (q := 18) (vs := [_]) ok_X11_isChild ml_X11_167 dX11_law_15 rfl ⟨_, _, rfl⟩ (by first | assumption | rfl) rfl rfl (Nat.le_of_ble_eq_true rfl) (by decide) (c_X11_isChild hT (by assumption)) ?_
    refine e_if_eq (q := 21) (tgt := 72) dX11_law_18 rfl (by decide) (fun c18 => ?_) (fun c18 => ?_)
    · refine e_iload_n (q := 73) (i := 1) dX11_law_72 rfl rfl rfl ?_
      refine e_iconst (q := 74) dX11_law_73 rfl ?_
      refine e_icmp_ne (q := 77) (tgt := 109) dX11_law_74 rfl (by decide) (fun c74 => ?_) (fun c74 => ?_)
      · refine e_iload_n (q := 110) (i := 1) dX11_law_109 rfl rfl rfl ?_
        refine e_iconst (q := 111) dX11_law_110 rfl ?_
        refine e_icmp_ne (q := 114) (tgt := 137) dX11_law_111 rfl (by decide) (fun c111 => ?_) (fun c111 => ?_)
        · refine e_ldc2 (q := 140) (z := -9223372036854775808) dX11_law_137 rfl kw_X11_217 (by decide) ?_
          exact r_l dX11_law_140 rfl ⟨by rw [if_neg (show ¬ (x = 0 ∧ (0 ≤ a ∧ a < σ.1 2 3) ∧ (0 ≤ b ∧ b < σ.1 2 2) ∧ (0 ≤ w ∧ w < 4)) by omega), if_neg (show ¬ (x = 1 ∧ ((0 ≤ a ∧ a < σ.1 2 2) ∧ (0 ≤ b ∧ b < σ.1 2 2) ∧ a ≠ b)) by omega), if_neg (show ¬ (x = 2 ∧ (0 ≤ a ∧ a < σ.1 2 3)) by omega)], Fr.rf _ _⟩
        · refine e_aload_n (q := 115) (i := 0) dX11_law_114 rfl rfl rfl ?_
          refine e_iload_n (q := 116) (i := 2) dX11_law_115 rfl rfl rfl ?_
          refine e_Vip (q := 119) (vs := [_]) ok_X11_isChild ml_X11_167 dX11_law_116 rfl ⟨_, _, rfl⟩ (by first | assumption | rfl) rfl rfl (Nat.le_of_ble_eq_true rfl) (by decide) (c_X11_isChild hT (by assumption)) ?_
          refine e_if_eq (q := 122) (tgt := 137) dX11_law_119 rfl (by decide) (fun c119 => ?_) (fun c119 => ?_)
          · refine e_ldc2 (q := 140) (z := -9223372036854775808) dX11_law_137 rfl kw_X11_217 (by decide) ?_
            exact r_l dX11_law_140 rfl ⟨by rw [if_neg (show ¬ (x = 0 ∧ (0 ≤ a ∧ a < σ.1 2 3) ∧ (0 ≤ b ∧ b < σ.1 2 2) ∧ (0 ≤ w ∧ w < 4)) by omega), if_neg (show ¬ (x = 1 ∧ ((0 ≤ a ∧ a < σ.1 2 2) ∧ (0 ≤ b ∧ b < σ.1 2 2) ∧ a ≠ b)) by omega), if_neg (show ¬ (x = 2 ∧ (0 ≤ a ∧ a < σ.1 2 3)) by omega)], Fr.rf _ _⟩
          · refine e_aload_n (q := 123) (i := 0) dX11_law_122 rfl rfl rfl ?_
            refine e_getR (q := 126) dX11_law_123 rfl fg_X11_49 (by first | assumption | rfl) rfl ?_
            refine e_aload_n (q := 127) (i := 0) dX11_law_126 rfl rfl rfl ?_
            refine e_getR (q := 130) dX11_law_127 rfl fg_X11_36 (by first | assumption | rfl) rfl ?_
            refine e_iload_n (q := 131) (i := 2) dX11_law_130 rfl rfl rfl ?_
            refine e_iload (q := 133) dX11_law_131 rfl rfl ?_
            refine e_Vl (q := 136) (vs := [_, _, _]) ok_X10_grow ml_X11_214 dX11_law_133 rfl ⟨_, _, rfl⟩ (by first | assumption | rfl) rfl rfl (Nat.le_of_ble_eq_true rfl) (by decide) (c_X10_grow (L := 39) hT hW hI (Or.inl rfl) (by omega) (by omega) hw01) (fun zz ss hh => ?_)
            exact r_l dX11_law_136 rfl ⟨by rw [if_neg (show ¬ (x = 0 ∧ (0 ≤ a ∧ a < σ.1 2 3) ∧ (0 ≤ b ∧ b < σ.1 2 2) ∧ (0 ≤ w ∧ w < 4)) by omega), if_neg (show ¬ (x = 1 ∧ ((0 ≤ a ∧ a < σ.1 2 2) ∧ (0 ≤ b ∧ b < σ.1 2 2) ∧ a ≠ b)) by omega), if_pos (show (x = 2 ∧ (0 ≤ a ∧ a < σ.1 2 3)) by omega)]; exact hh.1, hh.2⟩
      · refine e_aload_n (q := 78) (i := 0) dX11_law_77 rfl rfl rfl ?_
        refine e_iload_n (q := 79) (i := 2) dX11_law_78 rfl rfl rfl ?_
        refine e_iload_n (q := 80) (i := 3) dX11_law_79 rfl rfl rfl ?_
        refine e_Vip (q := 83) (vs := [_, _]) ok_X11_isPair ml_X11_193 dX11_law_80 rfl ⟨_, _, rfl⟩ (by first | assumption | rfl) rfl rfl (Nat.le_of_ble_eq_true rfl) (by decide) (c_X11_isPair hT (by assumption) (by assumption)) ?_
        refine e_if_eq (q := 86) (tgt := 109) dX11_law_83 rfl (by decide) (fun c83 => ?_) (fun c83 => ?_)
        · refine e_iload_n (q := 110) (i := 1) dX11_law_109 rfl rfl rfl ?_
          refine e_iconst (q := 111) dX11_law_110 rfl ?_
          refine e_icmp_ne (q := 114) (tgt := 137) dX11_law_111 rfl (by decide) (fun c111 => ?_) (fun c111 => ?_)
          · refine e_ldc2 (q := 140) (z := -9223372036854775808) dX11_law_137 rfl kw_X11_217 (by decide) ?_
            exact r_l dX11_law_140 rfl ⟨by rw [if_neg (show ¬ (x = 0 ∧ (0 ≤ a ∧ a < σ.1 2 3) ∧ (0 ≤ b ∧ b < σ.1 2 2) ∧ (0 ≤ w ∧ w < 4)) by omega), if_neg (show ¬ (x = 1 ∧ ((0 ≤ a ∧ a < σ.1 2 2) ∧ (0 ≤ b ∧ b < σ.1 2 2) ∧ a ≠ b)) by omega), if_neg (show ¬ (x = 2 ∧ (0 ≤ a ∧ a < σ.1 2 3)) by omega)], Fr.rf _ _⟩
          · refine e_aload_n (q := 115) (i := 0) dX11_law_114 rfl rfl rfl ?_
            refine e_iload_n (q := 116) (i := 2) dX11_law_115 rfl rfl rfl ?_
            refine e_Vip (q := 119) (vs := [_]) ok_X11_isChild ml_X11_167 dX11_law_116 rfl ⟨_, _, rfl⟩ (by first | assumption | rfl) rfl rfl (Nat.le_of_ble_eq_true rfl) (by decide) (c_X11_isChild hT (by assumption)) ?_
            refine e_if_eq (q := 122) (tgt := 137) dX11_law_119 rfl (by decide) (fun c119 => ?_) (fun c119 => ?_)
            · refine e_ldc2 (q := 140) (z := -9223372036854775808) dX11_law_137 rfl kw_X11_217 (by decide) ?_
              exact r_l dX11_law_140 rfl ⟨by rw [if_neg (show ¬ (x = 0 ∧ (0 ≤ a ∧ a < σ.1 2 3) ∧ (0 ≤ b ∧ b < σ.1 2 2) ∧ (0 ≤ w ∧ w < 4)) by omega), if_neg (show ¬ (x = 1 ∧ ((0 ≤ a ∧ a < σ.1 2 2) ∧ (0 ≤ b ∧ b < σ.1 2 2) ∧ a ≠ b)) by omega), if_neg (show ¬ (x = 2 ∧ (0 ≤ a ∧ a < σ.1 2 3)) by omega)], Fr.rf _ _⟩
            · refine e_aload_n (q := 123) (i := 0) dX11_law_122 rfl rfl rfl ?_
              refine e_getR (q := 126) dX11_law_123 rfl fg_X11_49 (by first | assumption | rfl) rfl ?_
              refine e_aload_n (q := 127) (i := 0) dX11_law_126 rfl rfl rfl ?_
              refine e_getR (q := 130) dX11_law_127 rfl fg_X11_36 (by first | assumption | rfl) rfl ?_
              refine e_iload_n (q := 131) (i := 2) dX11_law_130 rfl rfl rfl ?_
              refine e_iload (q := 133) dX11_law_131 rfl rfl ?_
              refine e_Vl (q := 136) (vs := [_, _, _]) ok_X10_grow ml_X11_214 dX11_law_133 rfl ⟨_, _, rfl⟩ (by first | assumption | rfl) rfl rfl (Nat.le_of_ble_eq_true rfl) (by decide) (c_X10_grow (L := 39) hT hW hI (Or.inl rfl) (by omega) (by omega) hw01) (fun zz ss hh => ?_)
              exact r_l dX11_law_136 rfl ⟨by rw [if_neg (show ¬ (x = 0 ∧ (0 ≤ a ∧ a < σ.1 2 3) ∧ (0 ≤ b ∧ b < σ.1 2 2) ∧ (0 ≤ w ∧ w < 4)) by omega), if_neg (show ¬ (x = 1 ∧ ((0 ≤ a ∧ a < σ.1 2 2) ∧ (0 ≤ b ∧ b < σ.1 2 2) ∧ a ≠ b)) by omega), if_pos (show (x = 2 ∧ (0 ≤ a ∧ a < σ.1 2 3)) by omega)]; exact hh.1, hh.2⟩
        · refine e_aload_n (q := 87) (i := 0) dX11_law_86 rfl rfl rfl ?_
          refine e_getR (q := 90) dX11_law_87 rfl fg_X11_49 (by first | assumption | rfl) rfl ?_
          refine e_aload_n (q := 91) (i := 0) dX11_law_90 rfl rfl rfl ?_
          refine e_getR (q := 94) dX11_law_91 rfl fg_X11_36 (by first | assumption | rfl) rfl ?_
          refine e_aload_n (q := 95) (i := 0) dX11_law_94 rfl rfl rfl ?_
          refine e_getR (q := 98) dX11_law_95 rfl fg_X11_36 (by first | assumption | rfl) rfl ?_
          refine e_iload_n (q := 99) (i := 2) dX11_law_98 rfl rfl rfl ?_
          refine e_iload_n (q := 100) (i := 3) dX11_law_99 rfl rfl rfl ?_
          refine e_Vip (q := 103) (vs := [_, _]) ok_X2_shared ml_X11_196 dX11_law_100 rfl ⟨_, _, rfl⟩ (by first | assumption | rfl) rfl rfl (Nat.le_of_ble_eq_true rfl) (by decide) (c39_shared hT hI (by omega) (by omega) (by omega) (by omega)) ?_
          refine e_iload (q := 105) dX11_law_103 rfl rfl ?_
          have hov := gOv39 (p := a) (q := b) hT hI (by omega) (by omega) (by omega) (by omega)
          refine e_Vl (q := 108) (vs := [_, _, _]) ok_X10_quarl ml_X11_210 dX11_law_105 rfl ⟨_, _, rfl⟩ (by first | assumption | rfl) rfl rfl (Nat.le_of_ble_eq_true rfl) (by decide) (c_X10_quarl (L := 39) hT hW hI (Or.inl rfl) ⟨by omega, by omega⟩ hw01) (fun zz ss hh => ?_)
          exact r_l dX11_law_108 rfl ⟨by rw [if_neg (show ¬ (x = 0 ∧ (0 ≤ a ∧ a < σ.1 2 3) ∧ (0 ≤ b ∧ b < σ.1 2 2) ∧ (0 ≤ w ∧ w < 4)) by omega), if_pos (show (x = 1 ∧ ((0 ≤ a ∧ a < σ.1 2 2) ∧ (0 ≤ b ∧ b < σ.1 2 2) ∧ a ≠ b)) by omega)]; exact hh.1, hh.2⟩
    · refine e_aload_n (q := 22) (i := 0) dX11_law_21 rfl rfl rfl ?_
      refine e_iload_n (q := 23) (i := 3) dX11_law_22 rfl rfl rfl ?_
      refine e_Vip (q := 26) (vs := [_]) ok_X11_isParish ml_X11_136 dX11_law_23 rfl ⟨_, _, rfl⟩ (by first | assumption | rfl) rfl rfl (Nat.le_of_ble_eq_true rfl) (by decide) (c_X11_isParish hT (by assumption)) ?_
      refine e_if_eq (q := 29) (tgt := 72) dX11_law_26 rfl (by decide) (fun c26 => ?_) (fun c26 => ?_)
      · refine e_iload_n (q := 73) (i := 1) dX11_law_72 rfl rfl rfl ?_
        refine e_iconst (q := 74) dX11_law_73 rfl ?_
        refine e_icmp_ne (q := 77) (tgt := 109) dX11_law_74 rfl (by decide) (fun c74 => ?_) (fun c74 => ?_)
        · refine e_iload_n (q := 110) (i := 1) dX11_law_109 rfl rfl rfl ?_
          refine e_iconst (q := 111) dX11_law_110 rfl ?_
          refine e_icmp_ne (q := 114) (tgt := 137) dX11_law_111 rfl (by decide) (fun c111 => ?_) (fun c111 => ?_)
          · refine e_ldc2 (q := 140) (z := -9223372036854775808) dX11_law_137 rfl kw_X11_217 (by decide) ?_
            exact r_l dX11_law_140 rfl ⟨by rw [if_neg (show ¬ (x = 0 ∧ (0 ≤ a ∧ a < σ.1 2 3) ∧ (0 ≤ b ∧ b < σ.1 2 2) ∧ (0 ≤ w ∧ w < 4)) by omega), if_neg (show ¬ (x = 1 ∧ ((0 ≤ a ∧ a < σ.1 2 2) ∧ (0 ≤ b ∧ b < σ.1 2 2) ∧ a ≠ b)) by omega), if_neg (show ¬ (x = 2 ∧ (0 ≤ a ∧ a < σ.1 2 3)) by omega)], Fr.rf _ _⟩
          · refine e_aload_n (q := 115) (i := 0) dX11_law_114 rfl rfl rfl ?_
            refine e_iload_n (q := 116) (i := 2) dX11_law_115 rfl rfl rfl ?_
            refine e_Vip (q := 119) (vs := [_]) ok_X11_isChild ml_X11_167 dX11_law_116 rfl ⟨_, _, rfl⟩ (by first | assumption | rfl) rfl rfl (Nat.le_of_ble_eq_true rfl) (by decide) (c_X11_isChild hT (by assumption)) ?_
            refine e_if_eq (q := 122) (tgt := 137) dX11_law_119 rfl (by decide) (fun c119 => ?_) (fun c119 => ?_)
            · refine e_ldc2 (q := 140) (z := -9223372036854775808) dX11_law_137 rfl kw_X11_217 (by decide) ?_
              exact r_l dX11_law_140 rfl ⟨by rw [if_neg (show ¬ (x = 0 ∧ (0 ≤ a ∧ a < σ.1 2 3) ∧ (0 ≤ b ∧ b < σ.1 2 2) ∧ (0 ≤ w ∧ w < 4)) by omega), if_neg (show ¬ (x = 1 ∧ ((0 ≤ a ∧ a < σ.1 2 2) ∧ (0 ≤ b ∧ b < σ.1 2 2) ∧ a ≠ b)) by omega), if_neg (show ¬ (x = 2 ∧ (0 ≤ a ∧ a < σ.1 2 3)) by omega)], Fr.rf _ _⟩
            · refine e_aload_n (q := 123) (i := 0) dX11_law_122 rfl rfl rfl ?_
              refine e_getR (q := 126) dX11_law_123 rfl fg_X11_49 (by first | assumption | rfl) rfl ?_
              refine e_aload_n (q := 127) (i := 0) dX11_law_126 rfl rfl rfl ?_
              refine e_getR (q := 130) dX11_law_127 rfl fg_X11_36 (by first | assumption | rfl) rfl ?_
              refine e_iload_n (q := 131) (i := 2) dX11_law_130 rfl rfl rfl ?_
              refine e_iload (q := 133) dX11_law_131 rfl rfl ?_
              refine e_Vl (q := 136) (vs := [_, _, _]) ok_X10_grow ml_X11_214 dX11_law_133 rfl ⟨_, _, rfl⟩ (by first | assumption | rfl) rfl rfl (Nat.le_of_ble_eq_true rfl) (by decide) (c_X10_grow (L := 39) hT hW hI (Or.inl rfl) (by omega) (by omega) hw01) (fun zz ss hh => ?_)
              exact r_l dX11_law_136 rfl ⟨by rw [if_neg (show ¬ (x = 0 ∧ (0 ≤ a ∧ a < σ.1 2 3) ∧ (0 ≤ b ∧ b < σ.1 2 2) ∧ (0 ≤ w ∧ w < 4)) by omega), if_neg (show ¬ (x = 1 ∧ ((0 ≤ a ∧ a < σ.1 2 2) ∧ (0 ≤ b ∧ b < σ.1 2 2) ∧ a ≠ b)) by omega), if_pos (show (x = 2 ∧ (0 ≤ a ∧ a < σ.1 2 3)) by omega)]; exact hh.1, hh.2⟩
        · refine e_aload_n (q := 78) (i := 0) dX11_law_77 rfl rfl rfl ?_
          refine e_iload_n (q := 79) (i := 2) dX11_law_78 rfl rfl rfl ?_
          refine e_iload_n (q := 80) (i := 3) dX11_law_79 rfl rfl rfl ?_
          refine e_Vip (q := 83) (vs := [_, _]) ok_X11_isPair ml_X11_193 dX11_law_80 rfl ⟨_, _, rfl⟩ (by first | assumption | rfl) rfl rfl (Nat.le_of_ble_eq_true rfl) (by decide) (c_X11_isPair hT (by assumption) (by assumption)) ?_
          refine e_if_eq (q := 86) (tgt := 109) dX11_law_83 rfl (by decide) (fun c83 => ?_) (fun c83 => ?_)
          · refine e_iload_n (q := 110) (i := 1) dX11_law_109 rfl rfl rfl ?_
            refine e_iconst (q := 111) dX11_law_110 rfl ?_
            refine e_icmp_ne (q := 114) (tgt := 137) dX11_law_111 rfl (by decide) (fun c111 => ?_) (fun c111 => ?_)
            · refine e_ldc2 (q := 140) (z := -9223372036854775808) dX11_law_137 rfl kw_X11_217 (by decide) ?_
              exact r_l dX11_law_140 rfl ⟨by rw [if_neg (show ¬ (x = 0 ∧ (0 ≤ a ∧ a < σ.1 2 3) ∧ (0 ≤ b ∧ b < σ.1 2 2) ∧ (0 ≤ w ∧ w < 4)) by omega), if_neg (show ¬ (x = 1 ∧ ((0 ≤ a ∧ a < σ.1 2 2) ∧ (0 ≤ b ∧ b < σ.1 2 2) ∧ a ≠ b)) by omega), if_neg (show ¬ (x = 2 ∧ (0 ≤ a ∧ a < σ.1 2 3)) by omega)], Fr.rf _ _⟩
            · refine e_aload_n (q := 115) (i := 0) dX11_law_114 rfl rfl rfl ?_
              refine e_iload_n (q := 116) (i := 2) dX11_law_115 rfl rfl rfl ?_
              refine e_Vip (q := 119) (vs := [_]) ok_X11_isChild ml_X11_167 dX11_law_116 rfl ⟨_, _, rfl⟩ (by first | assumption | rfl) rfl rfl (Nat.le_of_ble_eq_true rfl) (by decide) (c_X11_isChild hT (by assumption)) ?_
              refine e_if_eq (q := 122) (tgt := 137) dX11_law_119 rfl (by decide) (fun c119 => ?_) (fun c119 => ?_)
              · refine e_ldc2 (q := 140) (z := -9223372036854775808) dX11_law_137 rfl kw_X11_217 (by decide) ?_
                exact r_l dX11_law_140 rfl ⟨by rw [if_neg (show ¬ (x = 0 ∧ (0 ≤ a ∧ a < σ.1 2 3) ∧ (0 ≤ b ∧ b < σ.1 2 2) ∧ (0 ≤ w ∧ w < 4)) by omega), if_neg (show ¬ (x = 1 ∧ ((0 ≤ a ∧ a < σ.1 2 2) ∧ (0 ≤ b ∧ b < σ.1 2 2) ∧ a ≠ b)) by omega), if_neg (show ¬ (x = 2 ∧ (0 ≤ a ∧ a < σ.1 2 3)) by omega)], Fr.rf _ _⟩
              · refine e_aload_n (q := 123) (i := 0) dX11_law_122 rfl rfl rfl ?_
                refine e_getR (q := 126) dX11_law_123 rfl fg_X11_49 (by first | assumption | rfl) rfl ?_
                refine e_aload_n (q := 127) (i := 0) dX11_law_126 rfl rfl rfl ?_
                refine e_getR (q := 130) dX11_law_127 rfl fg_X11_36 (by first | assumption | rfl) rfl ?_
                refine e_iload_n (q := 131) (i := 2) dX11_law_130 rfl rfl rfl ?_
                refine e_iload (q := 133) dX11_law_131 rfl rfl ?_
                refine e_Vl (q := 136) (vs := [_, _, _]) ok_X10_grow ml_X11_214 dX11_law_133 rfl ⟨_, _, rfl⟩ (by first | assumption | rfl) rfl rfl (Nat.le_of_ble_eq_true rfl) (by decide) (c_X10_grow (L := 39) hT hW hI (Or.inl rfl) (by omega) (by omega) hw01) (fun zz ss hh => ?_)
                exact r_l dX11_law_136 rfl ⟨by rw [if_neg (show ¬ (x = 0 ∧ (0 ≤ a ∧ a < σ.1 2 3) ∧ (0 ≤ b ∧ b < σ.1 2 2) ∧ (0 ≤ w ∧ w < 4)) by omega), if_neg (show ¬ (x = 1 ∧ ((0 ≤ a ∧ a < σ.1 2 2) ∧ (0 ≤ b ∧ b < σ.1 2 2) ∧ a ≠ b)) by omega), if_pos (show (x = 2 ∧ (0 ≤ a ∧ a < σ.1 2 3)) by omega)]; exact hh.1, hh.2⟩
          · refine e_aload_n (q := 87) (i := 0) dX11_law_86 rfl rfl rfl ?_
            refine e_getR (q := 90) dX11_law_87 rfl fg_X11_49 (by first | assumption | rfl) rfl ?_
            refine e_aload_n (q := 91) (i := 0) dX11_law_90 rfl rfl rfl ?_
            refine e_getR (q := 94) dX11_law_91 rfl fg_X11_36 (by first | assumption | rfl) rfl ?_
            refine e_aload_n (q := 95) (i := 0) dX11_law_94 rfl rfl rfl ?_
            refine e_getR (q := 98) dX11_law_95 rfl fg_X11_36 (by first | assumption | rfl) rfl ?_
            refine e_iload_n (q := 99) (i := 2) dX11_law_98 rfl rfl rfl ?_
            refine e_iload_n (q := 100) (i := 3) dX11_law_99 rfl rfl rfl ?_
            refine e_Vip (q := 103) (vs := [_, _]) ok_X2_shared ml_X11_196 dX11_law_100 rfl ⟨_, _, rfl⟩ (by first | assumption | rfl) rfl rfl (Nat.le_of_ble_eq_true rfl) (by decide) (c39_shared hT hI (by omega) (by omega) (by omega) (by omega)) ?_
            refine e_iload (q := 105) dX11_law_103 rfl rfl ?_
            have hov := gOv39 (p := a) (q := b) hT hI (by omega) (by omega) (by omega) (by omega)
            refine e_Vl (q := 108) (vs := [_, _, _]) ok_X10_quarl ml_X11_210 dX11_law_105 rfl ⟨_, _, rfl⟩ (by first | assumption | rfl) rfl rfl (Nat.le_of_ble_eq_true rfl) (by decide) (c_X10_quarl (L := 39) hT hW hI (Or.inl rfl) ⟨by omega, by omega⟩ hw01) (fun zz ss hh => ?_)
            exact r_l dX11_law_108 rfl ⟨by rw [if_neg (show ¬ (x = 0 ∧ (0 ≤ a ∧ a < σ.1 2 3) ∧ (0 ≤ b ∧ b < σ.1 2 2) ∧ (0 ≤ w ∧ w < 4)) by omega), if_pos (show (x = 1 ∧ ((0 ≤ a ∧ a < σ.1 2 2) ∧ (0 ≤ b ∧ b < σ.1 2 2) ∧ a ≠ b)) by omega)]; exact hh.1, hh.2⟩
      · refine e_iload (q := 31) dX11_law_29 rfl rfl ?_
        refine e_Sip (q := 34) (vs := [_]) ok_X11_isWay ml_X11_179 dX11_law_31 rfl rfl rfl (Nat.le_of_ble_eq_true rfl) (by decide) (c_X11_isWay (by assumption)) ?_
        refine e_if_eq (q := 37) (tgt := 72) dX11_law_34 rfl (by decide) (fun c34 => ?_) (fun c34 => ?_)
        · refine e_iload_n (q := 73) (i := 1) dX11_law_72 rfl rfl rfl ?_
          refine e_iconst (q := 74) dX11_law_73 rfl ?_
          refine e_icmp_ne (q := 77) (tgt := 109) dX11_law_74 rfl (by decide) (fun c74 => ?_) (fun c74 => ?_)
          · refine e_iload_n (q := 110) (i := 1) dX11_law_109 rfl rfl rfl ?_
            refine e_iconst (q := 111) dX11_law_110 rfl ?_
            refine e_icmp_ne (q := 114) (tgt := 137) dX11_law_111 rfl (by decide) (fun c111 => ?_) (fun c111 => ?_)
            · refine e_ldc2 (q := 140) (z := -9223372036854775808) dX11_law_137 rfl kw_X11_217 (by decide) ?_
              exact r_l dX11_law_140 rfl ⟨by rw [if_neg (show ¬ (x = 0 ∧ (0 ≤ a ∧ a < σ.1 2 3) ∧ (0 ≤ b ∧ b < σ.1 2 2) ∧ (0 ≤ w ∧ w < 4)) by omega), if_neg (show ¬ (x = 1 ∧ ((0 ≤ a ∧ a < σ.1 2 2) ∧ (0 ≤ b ∧ b < σ.1 2 2) ∧ a ≠ b)) by omega), if_neg (show ¬ (x = 2 ∧ (0 ≤ a ∧ a < σ.1 2 3)) by omega)], Fr.rf _ _⟩
            · refine e_aload_n (q := 115) (i := 0) dX11_law_114 rfl rfl rfl ?_
              refine e_iload_n (q := 116) (i := 2) dX11_law_115 rfl rfl rfl ?_
              refine e_Vip (q := 119) (vs := [_]) ok_X11_isChild ml_X11_167 dX11_law_116 rfl ⟨_, _, rfl⟩ (by first | assumption | rfl) rfl rfl (Nat.le_of_ble_eq_true rfl) (by decide) (c_X11_isChild hT (by assumption)) ?_
              refine e_if_eq (q := 122) (tgt := 137) dX11_law_119 rfl (by decide) (fun c119 => ?_) (fun c119 => ?_)
              · refine e_ldc2 (q := 140) (z := -9223372036854775808) dX11_law_137 rfl kw_X11_217 (by decide) ?_
                exact r_l dX11_law_140 rfl ⟨by rw [if_neg (show ¬ (x = 0 ∧ (0 ≤ a ∧ a < σ.1 2 3) ∧ (0 ≤ b ∧ b < σ.1 2 2) ∧ (0 ≤ w ∧ w < 4)) by omega), if_neg (show ¬ (x = 1 ∧ ((0 ≤ a ∧ a < σ.1 2 2) ∧ (0 ≤ b ∧ b < σ.1 2 2) ∧ a ≠ b)) by omega), if_neg (show ¬ (x = 2 ∧ (0 ≤ a ∧ a < σ.1 2 3)) by omega)], Fr.rf _ _⟩
              · refine e_aload_n (q := 123) (i := 0) dX11_law_122 rfl rfl rfl ?_
                refine e_getR (q := 126) dX11_law_123 rfl fg_X11_49 (by first | assumption | rfl) rfl ?_
                refine e_aload_n (q := 127) (i := 0) dX11_law_126 rfl rfl rfl ?_
                refine e_getR (q := 130) dX11_law_127 rfl fg_X11_36 (by first | assumption | rfl) rfl ?_
                refine e_iload_n (q := 131) (i := 2) dX11_law_130 rfl rfl rfl ?_
                refine e_iload (q := 133) dX11_law_131 rfl rfl ?_
                refine e_Vl (q := 136) (vs := [_, _, _]) ok_X10_grow ml_X11_214 dX11_law_133 rfl ⟨_, _, rfl⟩ (by first | assumption | rfl) rfl rfl (Nat.le_of_ble_eq_true rfl) (by decide) (c_X10_grow (L := 39) hT hW hI (Or.inl rfl) (by omega) (by omega) hw01) (fun zz ss hh => ?_)
                exact r_l dX11_law_136 rfl ⟨by rw [if_neg (show ¬ (x = 0 ∧ (0 ≤ a ∧ a < σ.1 2 3) ∧ (0 ≤ b ∧ b < σ.1 2 2) ∧ (0 ≤ w ∧ w < 4)) by omega), if_neg (show ¬ (x = 1 ∧ ((0 ≤ a ∧ a < σ.1 2 2) ∧ (0 ≤ b ∧ b < σ.1 2 2) ∧ a ≠ b)) by omega), if_pos (show (x = 2 ∧ (0 ≤ a ∧ a < σ.1 2 3)) by omega)]; exact hh.1, hh.2⟩
          · refine e_aload_n (q := 78) (i := 0) dX11_law_77 rfl rfl rfl ?_
            refine e_iload_n (q := 79) (i := 2) dX11_law_78 rfl rfl rfl ?_
            refine e_iload_n (q := 80) (i := 3) dX11_law_79 rfl rfl rfl ?_
            refine e_Vip (q := 83) (vs := [_, _]) ok_X11_isPair ml_X11_193 dX11_law_80 rfl ⟨_, _, rfl⟩ (by first | assumption | rfl) rfl rfl (Nat.le_of_ble_eq_true rfl) (by decide) (c_X11_isPair hT (by assumption) (by assumption)) ?_
            refine e_if_eq (q := 86) (tgt := 109) dX11_law_83 rfl (by decide) (fun c83 => ?_) (fun c83 => ?_)
            · refine e_iload_n (q := 110) (i := 1) dX11_law_109 rfl rfl rfl ?_
              refine e_iconst (q := 111) dX11_law_110 rfl ?_
              refine e_icmp_ne (q := 114) (tgt := 137) dX11_law_111 rfl (by decide) (fun c111 => ?_) (fun c111 => ?_)
              · refine e_ldc2 (q := 140) (z := -9223372036854775808) dX11_law_137 rfl kw_X11_217 (by decide) ?_
                exact r_l dX11_law_140 rfl ⟨by rw [if_neg (show ¬ (x = 0 ∧ (0 ≤ a ∧ a < σ.1 2 3) ∧ (0 ≤ b ∧ b < σ.1 2 2) ∧ (0 ≤ w ∧ w < 4)) by omega), if_neg (show ¬ (x = 1 ∧ ((0 ≤ a ∧ a < σ.1 2 2) ∧ (0 ≤ b ∧ b < σ.1 2 2) ∧ a ≠ b)) by omega), if_neg (show ¬ (x = 2 ∧ (0 ≤ a ∧ a < σ.1 2 3)) by omega)], Fr.rf _ _⟩
              · refine e_aload_n (q := 115) (i := 0) dX11_law_114 rfl rfl rfl ?_
                refine e_iload_n (q := 116) (i := 2) dX11_law_115 rfl rfl rfl ?_
                refine e_Vip (q := 119) (vs := [_]) ok_X11_isChild ml_X11_167 dX11_law_116 rfl ⟨_, _, rfl⟩ (by first | assumption | rfl) rfl rfl (Nat.le_of_ble_eq_true rfl) (by decide) (c_X11_isChild hT (by assumption)) ?_
                refine e_if_eq (q := 122) (tgt := 137) dX11_law_119 rfl (by decide) (fun c119 => ?_) (fun c119 => ?_)
                · refine e_ldc2 (q := 140) (z := -9223372036854775808) dX11_law_137 rfl kw_X11_217 (by decide) ?_
                  exact r_l dX11_law_140 rfl ⟨by rw [if_neg (show ¬ (x = 0 ∧ (0 ≤ a ∧ a < σ.1 2 3) ∧ (0 ≤ b ∧ b < σ.1 2 2) ∧ (0 ≤ w ∧ w < 4)) by omega), if_neg (show ¬ (x = 1 ∧ ((0 ≤ a ∧ a < σ.1 2 2) ∧ (0 ≤ b ∧ b < σ.1 2 2) ∧ a ≠ b)) by omega), if_neg (show ¬ (x = 2 ∧ (0 ≤ a ∧ a < σ.1 2 3)) by omega)], Fr.rf _ _⟩
                · refine e_aload_n (q := 123) (i := 0) dX11_law_122 rfl rfl rfl ?_
                  refine e_getR (q := 126) dX11_law_123 rfl fg_X11_49 (by first | assumption | rfl) rfl ?_
                  refine e_aload_n (q := 127) (i := 0) dX11_law_126 rfl rfl rfl ?_
                  refine e_getR (q := 130) dX11_law_127 rfl fg_X11_36 (by first | assumption | rfl) rfl ?_
                  refine e_iload_n (q := 131) (i := 2) dX11_law_130 rfl rfl rfl ?_
                  refine e_iload (q := 133) dX11_law_131 rfl rfl ?_
                  refine e_Vl (q := 136) (vs := [_, _, _]) ok_X10_grow ml_X11_214 dX11_law_133 rfl ⟨_, _, rfl⟩ (by first | assumption | rfl) rfl rfl (Nat.le_of_ble_eq_true rfl) (by decide) (c_X10_grow (L := 39) hT hW hI (Or.inl rfl) (by omega) (by omega) hw01) (fun zz ss hh => ?_)
                  exact r_l dX11_law_136 rfl ⟨by rw [if_neg (show ¬ (x = 0 ∧ (0 ≤ a ∧ a < σ.1 2 3) ∧ (0 ≤ b ∧ b < σ.1 2 2) ∧ (0 ≤ w ∧ w < 4)) by omega), if_neg (show ¬ (x = 1 ∧ ((0 ≤ a ∧ a < σ.1 2 2) ∧ (0 ≤ b ∧ b < σ.1 2 2) ∧ a ≠ b)) by omega), if_pos (show (x = 2 ∧ (0 ≤ a ∧ a < σ.1 2 3)) by omega)]; exact hh.1, hh.2⟩
            · refine e_aload_n (q := 87) (i := 0) dX11_law_86 rfl rfl rfl ?_
              refine e_getR (q := 90) dX11_law_87 rfl fg_X11_49 (by first | assumption | rfl) rfl ?_
              refine e_aload_n (q := 91) (i := 0) dX11_law_90 rfl rfl rfl ?_
              refine e_getR (q := 94) dX11_law_91 rfl fg_X11_36 (by first | assumption | rfl) rfl ?_
              refine e_aload_n (q := 95) (i := 0) dX11_law_94 rfl rfl rfl ?_
              refine e_getR (q := 98) dX11_law_95 rfl fg_X11_36 (by first | assumption | rfl) rfl ?_
              refine e_iload_n (q := 99) (i := 2) dX11_law_98 rfl rfl rfl ?_
              refine e_iload_n (q := 100) (i := 3) dX11_law_99 rfl rfl rfl ?_
              refine e_Vip (q := 103) (vs := [_, _]) ok_X2_shared ml_X11_196 dX11_law_100 rfl ⟨_, _, rfl⟩ (by first | assumption | rfl) rfl rfl (Nat.le_of_ble_eq_true rfl) (by decide) (c39_shared hT hI (by omega) (by omega) (by omega) (by omega)) ?_
              refine e_iload (q := 105) dX11_law_103 rfl rfl ?_
              have hov := gOv39 (p := a) (q := b) hT hI (by omega) (by omega) (by omega) (by omega)
              refine e_Vl (q := 108) (vs := [_, _, _]) ok_X10_quarl ml_X11_210 dX11_law_105 rfl ⟨_, _, rfl⟩ (by first | assumption | rfl) rfl rfl (Nat.le_of_ble_eq_true rfl) (by decide) (c_X10_quarl (L := 39) hT hW hI (Or.inl rfl) ⟨by omega, by omega⟩ hw01) (fun zz ss hh => ?_)
              exact r_l dX11_law_108 rfl ⟨by rw [if_neg (show ¬ (x = 0 ∧ (0 ≤ a ∧ a < σ.1 2 3) ∧ (0 ≤ b ∧ b < σ.1 2 2) ∧ (0 ≤ w ∧ w < 4)) by omega), if_pos (show (x = 1 ∧ ((0 ≤ a ∧ a < σ.1 2 2) ∧ (0 ≤ b ∧ b < σ.1 2 2) ∧ a ≠ b)) by omega)]; exact hh.1, hh.2⟩
        · refine e_iconst (q := 38) dX11_law_37 rfl ?_
          refine e_iload_n (q := 39) (i := 3) dX11_law_38 rfl rfl rfl ?_
          refine e_imul (q := 40) dX11_law_39 rfl ?_
          refine e_iload (q := 42) dX11_law_40 rfl rfl ?_
          refine e_iadd (q := 43) dX11_law_42 rfl ?_
          refine e_istore (q := 45) (L' := [_, _, _, _, _, _, _]) dX11_law_43 rfl (by decide) rfl rfl ?_
          have hck4 := hI.1 (4 * b + w) (by omega) (by omega)
          refine e_aload_n (q := 46) (i := 0) dX11_law_45 rfl rfl rfl ?_
          refine e_getR (q := 49) dX11_law_46 rfl fg_X11_49 (by first | assumption | rfl) rfl ?_
          refine e_aload_n (q := 50) (i := 0) dX11_law_49 rfl rfl rfl ?_
          refine e_getR (q := 53) dX11_law_50 rfl fg_X11_36 (by first | assumption | rfl) rfl ?_
          refine e_iload_n (q := 54) (i := 2) dX11_law_53 rfl rfl rfl ?_
          refine e_iload (q := 56) dX11_law_54 rfl rfl ?_
          refine e_aload_n (q := 57) (i := 0) dX11_law_56 rfl rfl rfl ?_
          refine e_getR (q := 60) dX11_law_57 rfl fg_X11_36 (by first | assumption | rfl) rfl ?_
          refine e_getR (q := 63) dX11_law_60 rfl fg_X11_182 (by first | assumption | rfl) rfl ?_
          refine e_iload (q := 65) dX11_law_63 rfl rfl ?_
          refine e_iald (q := 66) dX11_law_65 rfl (by first | assumption | rfl) ?_
          refine e_iload (q := 68) dX11_law_66 rfl rfl ?_
          refine e_Vl (q := 71) (vs := [_, _, _, _, _]) ok_X10_walk ml_X11_206 dX11_law_68 rfl ⟨_, _, rfl⟩ (by first | assumption | rfl) rfl rfl (Nat.le_of_ble_eq_true rfl) (by decide) (c_X10_walk (L := 39) hT hW hI (Or.inl rfl) (by omega) (by omega) (by omega) (by omega) ⟨hck4.2.2.1, hck4.2.2.2⟩ hw01) (fun zz ss hh => ?_)
          exact r_l dX11_law_71 rfl ⟨by rw [if_pos (show (x = 0 ∧ (0 ≤ a ∧ a < σ.1 2 3) ∧ (0 ≤ b ∧ b < σ.1 2 2) ∧ (0 ≤ w ∧ w < 4)) by omega)]; exact hh.1, hh.2⟩

theorem nF_fr (σ : Sg) (s c : Int) : Fr [56, 57, 58, 59, 60, 61] σ (nF σ s c) := by
  have h : Fr [56, 57, 58, 59, 60, 61] σ (nF0 σ s c) := (((((Fr.rf _ σ).sI (by decide) _ _).sI (by decide) _ _).sI (by decide) _ _).sI (by decide) _ _).sI (by decide) _ _
  unfold nF
  split
  · exact h.sI (by decide) _ _
  · exact h.sI (by decide) _ _
theorem nc_D : ∀ a, 2 ≤ a → a ≤ 12 → a ∉ [56, 57, 58, 59, 60, 61] := by
  intro a h1 h2 h3
  simp only [List.mem_cons, List.not_mem_nil, or_false] at h3
  omega
theorem nc_D39 : ∀ a, 39 ≤ a → a ≤ 39 + 4 → a ∉ [56, 57, 58, 59, 60, 61] := by
  intro a h1 h2 h3
  simp only [List.mem_cons, List.not_mem_nil, or_false] at h3
  omega

theorem c_X11_bake {G : Gx} {σ : Sg} {p w v : Int} (hT : TI σ) (hI : LI σ 39) (hD : DI σ) (hp : R32 p) (hw : R32 w) (hv : R32 v) : Con G 3 mX11_bake [.ref (G.2.2.2 + 0), .int (iZ p), .int (iZ w), .int (iZ v)] σ (pI (fun z σ' => (¬ ((0 ≤ p ∧ p < σ.1 2 2) ∧ (0 ≤ w ∧ w < 4) ∧ 0 ≤ v ∧ v ≤ 9 ∧ σ.1 41 (4 * p + w) ≠ v) ∧ z = 0 ∧ σ' = σ) ∨ (((0 ≤ p ∧ p < σ.1 2 2) ∧ (0 ≤ w ∧ w < 4) ∧ 0 ≤ v ∧ v ≤ 9 ∧ σ.1 41 (4 * p + w) ≠ v) ∧ z = 1 ∧ σ' = sI (nF σ (4 * p + w) (-1)) 41 (4 * p + w) v))) := by
  obtain ⟨hzz, -, hnp, hnc, hnb, hlb, hrn, hsd, hrw, hrq, hch, hbt, hck⟩ := id hT
  refine e_entry om_X11_bake (Nat.le_of_ble_eq_true rfl) (L := [some (.ref (G.2.2.2 + 0)), some (.int (iZ p)), some (.int (iZ w)), some (.int (iZ v)), none]) rfl ?_
  refine e_aload_n (q := 1) (i := 0) dX11_bake_0 rfl rfl rfl ?_
  refine e_iload_n (q := 2) (i := 1) dX11_bake_1 rfl rfl rfl ?_
  refine e_Vip (q := 5) (vs := [_]) ok_X11_isParish ml_X11_136 dX11_bake_2 rfl ⟨_, _, rfl⟩ (by first | assumption | rfl) rfl rfl (Nat.le_of_ble_eq_true rfl) (by decide) (c_X11_isParish hT (by assumption)) ?_
  refine e_if_eq (q := 8) (tgt := 25) dX11_bake_5 rfl (by decide) (fun c5 => ?_) (fun c5 => ?_)
  · refine e_iconst (q := 26) dX11_bake_25 rfl ?_
    exact r_z dX11_bake_26 rfl (by first | exact Or.inl rfl | exact Or.inr rfl | omega) (Or.inl ⟨by omega, rfl, rfl⟩)
  · refine e_iload_n (q := 9) (i := 2) dX11_bake_8 rfl rfl rfl ?_
    refine e_Sip (q := 12) (vs := [_]) ok_X11_isWay ml_X11_179 dX11_bake_9 rfl rfl rfl (Nat.le_of_ble_eq_true rfl) (by decide) (c_X11_isWay (by assumption)) ?_
    refine e_if_eq (q := 15) (tgt := 25) dX11_bake_12 rfl (by decide) (fun c12 => ?_) (fun c12 => ?_)
    · refine e_iconst (q := 26) dX11_bake_25 rfl ?_
      exact r_z dX11_bake_26 rfl (by first | exact Or.inl rfl | exact Or.inr rfl | omega) (Or.inl ⟨by omega, rfl, rfl⟩)
    · refine e_iload_n (q := 16) (i := 3) dX11_bake_15 rfl rfl rfl ?_
      refine e_if_lt (q := 19) (tgt := 25) dX11_bake_16 rfl (by decide) (fun c16 => ?_) (fun c16 => ?_)
      · refine e_iconst (q := 26) dX11_bake_25 rfl ?_
        exact r_z dX11_bake_26 rfl (by first | exact Or.inl rfl | exact Or.inr rfl | omega) (Or.inl ⟨by omega, rfl, rfl⟩)
      · refine e_iload_n (q := 20) (i := 3) dX11_bake_19 rfl rfl rfl ?_
        refine e_bipush (q := 22) dX11_bake_20 rfl (by decide) ?_
        refine e_icmp_le (q := 25) (tgt := 27) dX11_bake_22 rfl (by decide) (fun c22 => ?_) (fun c22 => ?_)
        · have hc4 := hI.1 (4 * p + w) (by omega) (by omega)
          refine e_iconst (q := 28) dX11_bake_27 rfl ?_
          refine e_iload_n (q := 29) (i := 1) dX11_bake_28 rfl rfl rfl ?_
          refine e_imul (q := 30) dX11_bake_29 rfl ?_
          refine e_iload_n (q := 31) (i := 2) dX11_bake_30 rfl rfl rfl ?_
          refine e_iadd (q := 32) dX11_bake_31 rfl ?_
          refine e_istore (q := 34) (L' := [_, _, _, _, _]) dX11_bake_32 rfl (by decide) rfl rfl ?_
          refine e_aload_n (q := 35) (i := 0) dX11_bake_34 rfl rfl rfl ?_
          refine e_getR (q := 38) dX11_bake_35 rfl fg_X11_36 (by first | assumption | rfl) rfl ?_
          refine e_getR (q := 41) dX11_bake_38 rfl fg_X11_182 (by first | assumption | rfl) rfl ?_
          refine e_iload (q := 43) dX11_bake_41 rfl rfl ?_
          have hc4b : R32 (σ.1 41 (4 * p + w)) := ⟨by have q : 0 ≤ σ.1 41 (4 * p + w) := hc4.2.2.1; omega, by have q : σ.1 41 (4 * p + w) ≤ 9 := hc4.2.2.2; omega⟩
          refine e_iald (q := 44) dX11_bake_43 rfl (by first | assumption | rfl) ?_
          refine e_iload_n (q := 45) (i := 3) dX11_bake_44 rfl rfl rfl ?_
          refine e_icmp_ne (q := 48) (tgt := 50) dX11_bake_45 rfl (by decide) (fun c45 => ?_) (fun c45 => ?_) (hx := ⟨hc4b.1, hc4b.2⟩)
          · refine e_aload_n (q := 51) (i := 0) dX11_bake_50 rfl rfl rfl ?_
            refine e_getR (q := 54) dX11_bake_51 rfl fg_X11_56 (by first | assumption | rfl) rfl ?_
            refine e_aload_n (q := 55) (i := 0) dX11_bake_54 rfl rfl rfl ?_
            refine e_getR (q := 58) dX11_bake_55 rfl fg_X11_36 (by first | assumption | rfl) rfl ?_
            refine e_iload (q := 60) dX11_bake_58 rfl rfl ?_
            refine e_iconst (q := 61) dX11_bake_60 rfl ?_
            refine e_Vv (q := 64) (vs := [_, _, _]) ok_X0_note ml_X11_219 dX11_bake_61 rfl ⟨_, _, rfl⟩ (by first | assumption | rfl) rfl rfl (Nat.le_of_ble_eq_true rfl) (by decide) (c_X0_note hD (by omega) (by omega) (by decide) (by decide)) (fun s61 h61 => ?_)
            subst h61
            refine e_aload_n (q := 65) (i := 0) dX11_bake_64 rfl rfl rfl ?_
            refine e_getR (q := 68) dX11_bake_65 rfl fg_X11_36 (by first | assumption | rfl) rfl ?_
            refine e_getR (q := 71) dX11_bake_68 rfl fg_X11_182 (by first | assumption | rfl) rfl ?_
            refine e_iload (q := 73) dX11_bake_71 rfl rfl ?_
            refine e_iload_n (q := 74) (i := 3) dX11_bake_73 rfl rfl rfl ?_
            refine e_iast (q := 75) dX11_bake_74 rfl (by first | assumption | rfl) ?_
            refine e_iconst (q := 76) dX11_bake_75 rfl ?_
            exact r_z dX11_bake_76 rfl (by first | exact Or.inl rfl | exact Or.inr rfl | omega) (Or.inr ⟨by omega, rfl, rfl⟩)
          · refine e_iconst (q := 49) dX11_bake_48 rfl ?_
            exact r_z dX11_bake_49 rfl (by first | exact Or.inl rfl | exact Or.inr rfl | omega) (Or.inl ⟨by omega, rfl, rfl⟩)
        · refine e_iconst (q := 26) dX11_bake_25 rfl ?_
          exact r_z dX11_bake_26 rfl (by first | exact Or.inl rfl | exact Or.inr rfl | omega) (Or.inl ⟨by omega, rfl, rfl⟩)

theorem c_X11_carry {G : Gx} {σ : Sg} {p w v : Int} (hT : TI σ) (hI : LI σ 39) (hD : DI σ) (hp : R32 p) (hw : R32 w) (hv : R32 v) : Con G 3 mX11_carry [.ref (G.2.2.2 + 0), .int (iZ p), .int (iZ w), .int (iZ v)] σ (pI (fun z σ' => (¬ ((0 ≤ p ∧ p < σ.1 2 2) ∧ (0 ≤ w ∧ w < 4) ∧ 0 ≤ v ∧ v ≤ gEdge (σ.1 3) (σ.1 4) (σ.1 2 0) p w ∧ σ.1 40 (4 * p + w) ≠ v) ∧ z = -1 ∧ σ' = σ) ∨ (((0 ≤ p ∧ p < σ.1 2 2) ∧ (0 ≤ w ∧ w < 4) ∧ 0 ≤ v ∧ v ≤ gEdge (σ.1 3) (σ.1 4) (σ.1 2 0) p w ∧ σ.1 40 (4 * p + w) ≠ v) ∧ z = gArea (σ'.1 3) (σ'.1 4) (σ'.1 40) p ∧ σ' = sI (nF σ (4 * p + w) (-1)) 40 (4 * p + w) v))) := by
  obtain ⟨hzz, -, hnp, hnc, hnb, hlb, hrn, hsd, hrw, hrq, hch, hbt, hck⟩ := id hT
  refine e_entry om_X11_carry (Nat.le_of_ble_eq_true rfl) (L := [some (.ref (G.2.2.2 + 0)), some (.int (iZ p)), some (.int (iZ w)), some (.int (iZ v)), none]) rfl ?_
  refine e_aload_n (q := 1) (i := 0) dX11_carry_0 rfl rfl rfl ?_
  refine e_iload_n (q := 2) (i := 1) dX11_carry_1 rfl rfl rfl ?_
  refine e_Vip (q := 5) (vs := [_]) ok_X11_isParish ml_X11_136 dX11_carry_2 rfl ⟨_, _, rfl⟩ (by first | assumption | rfl) rfl rfl (Nat.le_of_ble_eq_true rfl) (by decide) (c_X11_isParish hT (by assumption)) ?_
  refine e_if_eq (q := 8) (tgt := 32) dX11_carry_5 rfl (by decide) (fun c5 => ?_) (fun c5 => ?_)
  · refine e_iconst (q := 33) dX11_carry_32 rfl ?_
    exact r_i dX11_carry_33 rfl (Or.inl ⟨by omega, rfl, rfl⟩)
  · refine e_iload_n (q := 9) (i := 2) dX11_carry_8 rfl rfl rfl ?_
    refine e_Sip (q := 12) (vs := [_]) ok_X11_isWay ml_X11_179 dX11_carry_9 rfl rfl rfl (Nat.le_of_ble_eq_true rfl) (by decide) (c_X11_isWay (by assumption)) ?_
    refine e_if_eq (q := 15) (tgt := 32) dX11_carry_12 rfl (by decide) (fun c12 => ?_) (fun c12 => ?_)
    · refine e_iconst (q := 33) dX11_carry_32 rfl ?_
      exact r_i dX11_carry_33 rfl (Or.inl ⟨by omega, rfl, rfl⟩)
    · refine e_iload_n (q := 16) (i := 3) dX11_carry_15 rfl rfl rfl ?_
      refine e_if_lt (q := 19) (tgt := 32) dX11_carry_16 rfl (by decide) (fun c16 => ?_) (fun c16 => ?_)
      · refine e_iconst (q := 33) dX11_carry_32 rfl ?_
        exact r_i dX11_carry_33 rfl (Or.inl ⟨by omega, rfl, rfl⟩)
      · refine e_iload_n (q := 20) (i := 3) dX11_carry_19 rfl rfl rfl ?_
        refine e_aload_n (q := 21) (i := 0) dX11_carry_20 rfl rfl rfl ?_
        refine e_getR (q := 24) dX11_carry_21 rfl fg_X11_18 (by first | assumption | rfl) rfl ?_
        refine e_iload_n (q := 25) (i := 1) dX11_carry_24 rfl rfl rfl ?_
        refine e_iload_n (q := 26) (i := 2) dX11_carry_25 rfl rfl rfl ?_
        have hr4 := hrw p (by omega) (by omega)
        have hed : -40 ≤ gEdge (σ.1 3) (σ.1 4) (σ.1 2 0) p w ∧ gEdge (σ.1 3) (σ.1 4) (σ.1 2 0) p w ≤ 40 := by
          unfold gEdge
          split
          · omega
          split
          · omega
          split <;> omega
        refine e_Vip (q := 29) (vs := [_, _]) ok_X9_edge ml_X11_227 dX11_carry_26 rfl ⟨_, _, rfl⟩ (by first | assumption | rfl) rfl rfl (Nat.le_of_ble_eq_true rfl) (by decide) (c_X9_edge (by omega) (by omega) (by omega) (by omega)) ?_
        refine e_icmp_le (q := 32) (tgt := 34) dX11_carry_29 rfl (by decide) (fun c29 => ?_) (fun c29 => ?_)
        · have hc4 := hI.1 (4 * p + w) (by omega) (by omega)
          have hc4b : R32 (σ.1 40 (4 * p + w)) := ⟨by have q : 0 ≤ σ.1 40 (4 * p + w) := hc4.1; omega, by have q : σ.1 40 (4 * p + w) ≤ 39 := hc4.2.1; omega⟩
          refine e_iconst (q := 35) dX11_carry_34 rfl ?_
          refine e_iload_n (q := 36) (i := 1) dX11_carry_35 rfl rfl rfl ?_
          refine e_imul (q := 37) dX11_carry_36 rfl ?_
          refine e_iload_n (q := 38) (i := 2) dX11_carry_37 rfl rfl rfl ?_
          refine e_iadd (q := 39) dX11_carry_38 rfl ?_
          refine e_istore (q := 41) (L' := [_, _, _, _, _]) dX11_carry_39 rfl (by decide) rfl rfl ?_
          refine e_aload_n (q := 42) (i := 0) dX11_carry_41 rfl rfl rfl ?_
          refine e_getR (q := 45) dX11_carry_42 rfl fg_X11_36 (by first | assumption | rfl) rfl ?_
          refine e_getR (q := 48) dX11_carry_45 rfl fg_X11_164 (by first | assumption | rfl) rfl ?_
          refine e_iload (q := 50) dX11_carry_48 rfl rfl ?_
          refine e_iald (q := 51) dX11_carry_50 rfl (by first | assumption | rfl) ?_
          refine e_iload_n (q := 52) (i := 3) dX11_carry_51 rfl rfl rfl ?_
          refine e_icmp_ne (q := 55) (tgt := 57) dX11_carry_52 rfl (by decide) (fun c52 => ?_) (fun c52 => ?_) (hx := hc4b)
          · refine e_aload_n (q := 58) (i := 0) dX11_carry_57 rfl rfl rfl ?_
            refine e_getR (q := 61) dX11_carry_58 rfl fg_X11_56 (by first | assumption | rfl) rfl ?_
            refine e_aload_n (q := 62) (i := 0) dX11_carry_61 rfl rfl rfl ?_
            refine e_getR (q := 65) dX11_carry_62 rfl fg_X11_36 (by first | assumption | rfl) rfl ?_
            refine e_iload (q := 67) dX11_carry_65 rfl rfl ?_
            refine e_iconst (q := 68) dX11_carry_67 rfl ?_
            refine e_Vv (q := 71) (vs := [_, _, _]) ok_X0_note ml_X11_219 dX11_carry_68 rfl ⟨_, _, rfl⟩ (by first | assumption | rfl) rfl rfl (Nat.le_of_ble_eq_true rfl) (by decide) (c_X0_note hD (by omega) (by omega) (by decide) (by decide)) (fun s68 h68 => ?_)
            subst h68
            refine e_aload_n (q := 72) (i := 0) dX11_carry_71 rfl rfl rfl ?_
            refine e_getR (q := 75) dX11_carry_72 rfl fg_X11_36 (by first | assumption | rfl) rfl ?_
            refine e_getR (q := 78) dX11_carry_75 rfl fg_X11_164 (by first | assumption | rfl) rfl ?_
            refine e_iload (q := 80) dX11_carry_78 rfl rfl ?_
            refine e_iload_n (q := 81) (i := 3) dX11_carry_80 rfl rfl rfl ?_
            refine e_iast (q := 82) dX11_carry_81 rfl (by first | assumption | rfl) ?_
            refine e_aload_n (q := 83) (i := 0) dX11_carry_82 rfl rfl rfl ?_
            refine e_getR (q := 86) dX11_carry_83 rfl fg_X11_36 (by first | assumption | rfl) rfl ?_
            refine e_iload_n (q := 87) (i := 1) dX11_carry_86 rfl rfl rfl ?_
            refine e_Vip (q := 90) (vs := [_]) ok_X2_area ml_X11_158 dX11_carry_87 rfl ⟨_, _, rfl⟩ (by first | assumption | rfl) rfl rfl (Nat.le_of_ble_eq_true rfl) (by decide) (c39_area (by omega) (by omega)) ?_
            exact r_i dX11_carry_90 rfl (Or.inr ⟨by omega, rfl, rfl⟩)
          · refine e_iconst (q := 56) dX11_carry_55 rfl ?_
            exact r_i dX11_carry_56 rfl (Or.inl ⟨by omega, rfl, rfl⟩)
        · refine e_iconst (q := 33) dX11_carry_32 rfl ?_
          exact r_i dX11_carry_33 rfl (Or.inl ⟨by omega, rfl, rfl⟩)

theorem c_X11_beat {G : Gx} {σ : Sg} {p c w : Int} (hT : TI σ) (hW : LW σ) (hI : LI σ 39) (hD : DI σ) (hp : R32 p) (hc : R32 c) (hw : R32 w) : Con G 5 mX11_beat [.ref (G.2.2.2 + 0), .int (iZ p), .int (iZ c), .int (iZ w)] σ (pI (fun z σ' => (¬ ((0 ≤ p ∧ p < σ.1 2 2) ∧ (0 ≤ c ∧ c < σ.1 2 3) ∧ (0 ≤ w ∧ w < 4)) ∧ z = -1 ∧ σ' = σ) ∨ (((0 ≤ p ∧ p < σ.1 2 2) ∧ (0 ≤ c ∧ c < σ.1 2 3) ∧ (0 ≤ w ∧ w < 4)) ∧ z = σ'.1 40 (4 * p + w) ∧ Lp (nF σ (4 * p + w) c) σ' 39 (yLead (lawV (nF σ (4 * p + w) c)) ((nF σ (4 * p + w) c).1 7) ((nF σ (4 * p + w) c).1 41) (edS (nF σ (4 * p + w) c)) ((nF σ (4 * p + w) c).1 39 9) (if 50 ≤ (nF σ (4 * p + w) c).1 2 6 then 1 else 0) c (4 * p + w) (ydv (nF σ (4 * p + w) c) 39))))) := by
  obtain ⟨hzz, -, hnp, hnc, hnb, hlb, hrn, hsd, hrw, hrq, hch, hbt, hck⟩ := id hT
  refine e_entry om_X11_beat (Nat.le_of_ble_eq_true rfl) (L := [some (.ref (G.2.2.2 + 0)), some (.int (iZ p)), some (.int (iZ c)), some (.int (iZ w)), none]) rfl ?_
  refine e_aload_n (q := 1) (i := 0) dX11_beat_0 rfl rfl rfl ?_
  refine e_iload_n (q := 2) (i := 1) dX11_beat_1 rfl rfl rfl ?_
  refine e_Vip (q := 5) (vs := [_]) ok_X11_isParish ml_X11_136 dX11_beat_2 rfl ⟨_, _, rfl⟩ (by first | assumption | rfl) rfl rfl (Nat.le_of_ble_eq_true rfl) (by decide) (c_X11_isParish hT (by assumption)) ?_
  refine e_if_eq (q := 8) (tgt := 23) dX11_beat_5 rfl (by decide) (fun c5 => ?_) (fun c5 => ?_)
  · refine e_iconst (q := 24) dX11_beat_23 rfl ?_
    exact r_i dX11_beat_24 rfl (Or.inl ⟨by omega, rfl, rfl⟩)
  · refine e_aload_n (q := 9) (i := 0) dX11_beat_8 rfl rfl rfl ?_
    refine e_iload_n (q := 10) (i := 2) dX11_beat_9 rfl rfl rfl ?_
    refine e_Vip (q := 13) (vs := [_]) ok_X11_isChild ml_X11_167 dX11_beat_10 rfl ⟨_, _, rfl⟩ (by first | assumption | rfl) rfl rfl (Nat.le_of_ble_eq_true rfl) (by decide) (c_X11_isChild hT (by assumption)) ?_
    refine e_if_eq (q := 16) (tgt := 23) dX11_beat_13 rfl (by decide) (fun c13 => ?_) (fun c13 => ?_)
    · refine e_iconst (q := 24) dX11_beat_23 rfl ?_
      exact r_i dX11_beat_24 rfl (Or.inl ⟨by omega, rfl, rfl⟩)
    · refine e_iload_n (q := 17) (i := 3) dX11_beat_16 rfl rfl rfl ?_
      refine e_Sip (q := 20) (vs := [_]) ok_X11_isWay ml_X11_179 dX11_beat_17 rfl rfl rfl (Nat.le_of_ble_eq_true rfl) (by decide) (c_X11_isWay (by assumption)) ?_
      refine e_if_ne (q := 23) (tgt := 25) dX11_beat_20 rfl (by decide) (fun c20 => ?_) (fun c20 => ?_)
      · refine e_iconst (q := 26) dX11_beat_25 rfl ?_
        refine e_iload_n (q := 27) (i := 1) dX11_beat_26 rfl rfl rfl ?_
        refine e_imul (q := 28) dX11_beat_27 rfl ?_
        refine e_iload_n (q := 29) (i := 3) dX11_beat_28 rfl rfl rfl ?_
        refine e_iadd (q := 30) dX11_beat_29 rfl ?_
        refine e_istore (q := 32) (L' := [_, _, _, _, _]) dX11_beat_30 rfl (by decide) rfl rfl ?_
        refine e_aload_n (q := 33) (i := 0) dX11_beat_32 rfl rfl rfl ?_
        refine e_getR (q := 36) dX11_beat_33 rfl fg_X11_56 (by first | assumption | rfl) rfl ?_
        refine e_aload_n (q := 37) (i := 0) dX11_beat_36 rfl rfl rfl ?_
        refine e_getR (q := 40) dX11_beat_37 rfl fg_X11_36 (by first | assumption | rfl) rfl ?_
        refine e_iload (q := 42) dX11_beat_40 rfl rfl ?_
        refine e_iload_n (q := 43) (i := 2) dX11_beat_42 rfl rfl rfl ?_
        refine e_Vv (q := 46) (vs := [_, _, _]) ok_X0_note ml_X11_219 dX11_beat_43 rfl ⟨_, _, rfl⟩ (by first | assumption | rfl) rfl rfl (Nat.le_of_ble_eq_true rfl) (by decide) (c_X0_note hD (by omega) (by omega) (by omega) (by omega)) (fun s43 h43 => ?_)
        subst h43
        have hF := nF_fr σ (4 * p + w) c
        have hw01 : (if 50 ≤ (nF σ (4 * p + w) c).1 2 6 then (1 : Int) else 0) = 0 ∨ (if 50 ≤ (nF σ (4 * p + w) c).1 2 6 then (1 : Int) else 0) = 1 := by split <;> simp
        have e2 : (nF σ (4 * p + w) c).1 2 = σ.1 2 := (hF 2 (by decide)).1
        refine e_aload_n (q := 47) (i := 0) dX11_beat_46 rfl rfl rfl ?_
        refine e_getR (q := 50) dX11_beat_47 rfl fg_X11_49 (by first | assumption | rfl) rfl ?_
        refine e_aload_n (q := 51) (i := 0) dX11_beat_50 rfl rfl rfl ?_
        refine e_getR (q := 54) dX11_beat_51 rfl fg_X11_36 (by first | assumption | rfl) rfl ?_
        refine e_iload_n (q := 55) (i := 2) dX11_beat_54 rfl rfl rfl ?_
        refine e_iload (q := 57) dX11_beat_55 rfl rfl ?_
        refine e_aload_n (q := 58) (i := 0) dX11_beat_57 rfl rfl rfl ?_
        refine e_getR (q := 61) dX11_beat_58 rfl fg_X11_49 (by first | assumption | rfl) rfl ?_
        refine e_Vip (q := 64) (vs := []) ok_X10_wetAsItGoes ml_X11_202 dX11_beat_61 rfl ⟨_, _, rfl⟩ (by first | assumption | rfl) rfl rfl (Nat.le_of_ble_eq_true rfl) (by decide) (c_X10_wetAsItGoes (hT.fr hF nc_D)) ?_
        refine e_Vv (q := 67) (vs := [_, _, _, _]) ok_X10_lead ml_X11_223 dX11_beat_64 rfl ⟨_, _, rfl⟩ (by first | assumption | rfl) rfl rfl (Nat.le_of_ble_eq_true rfl) (by decide) (c_X10_lead (L := 39) (hT.fr hF nc_D) (hW.fr hF (by decide) (by decide) (by decide)) (hI.fr hF nc_D39) (Or.inl rfl) (by omega) (by omega) (by omega) (by rw [e2]; omega) hw01) (fun s64 h64 => ?_)
        refine e_aload_n (q := 68) (i := 0) dX11_beat_67 rfl rfl rfl ?_
        refine e_getR (q := 71) dX11_beat_68 rfl fg_X11_36 (by first | assumption | rfl) rfl ?_
        refine e_getR (q := 74) dX11_beat_71 rfl fg_X11_164 (by first | assumption | rfl) rfl ?_
        refine e_iload (q := 76) dX11_beat_74 rfl rfl ?_
        refine e_iald (q := 77) dX11_beat_76 rfl (by first | assumption | rfl) ?_
        exact r_i dX11_beat_77 rfl (Or.inr ⟨by omega, rfl, h64⟩)
      · refine e_iconst (q := 24) dX11_beat_23 rfl ?_
        exact r_i dX11_beat_24 rfl (Or.inl ⟨by omega, rfl, rfl⟩)

theorem c_X11_undo {G : Gx} {σ : Sg} (hD : DI σ) : Con G 2 mX11_undo [.ref (G.2.2.2 + 0)] σ (pI (fun z σ' => (σ.1 56 6 = 0 ∧ z = -1 ∧ σ' = σ) ∨ (¬ σ.1 56 6 = 0 ∧ z = σ.1 56 6 - 1 ∧ σ' = tB σ))) := by
  refine e_entry om_X11_undo (Nat.le_of_ble_eq_true rfl) (L := [some (.ref (G.2.2.2 + 0))]) rfl ?_
  refine e_aload_n (q := 1) (i := 0) dX11_undo_0 rfl rfl rfl ?_
  refine e_getR (q := 4) dX11_undo_1 rfl fg_X11_56 (by first | assumption | rfl) rfl ?_
  refine e_aload_n (q := 5) (i := 0) dX11_undo_4 rfl rfl rfl ?_
  refine e_getR (q := 8) dX11_undo_5 rfl fg_X11_36 (by first | assumption | rfl) rfl ?_
  refine e_Vi (q := 11) (vs := [_]) ok_X0_takeBack ml_X11_347 dX11_undo_8 rfl ⟨_, _, rfl⟩ (by first | assumption | rfl) rfl rfl (Nat.le_of_ble_eq_true rfl) (by decide) (c_X0_takeBack hD) (fun z8 s8 h8 => ?_)
  exact r_i dX11_undo_11 rfl h8

theorem c_X11_keep {G : Gx} {σ : Sg}  : Con G 3 mX11_keep [.ref (G.2.2.2 + 0)] σ (pI (fun z σ' => z = σ.1 39 6 ∧ ∃ s, LC σ 49 39 s ∧ σ' = sI s 0 7 1)) := by
  refine e_entry om_X11_keep (Nat.le_of_ble_eq_true rfl) (L := [some (.ref (G.2.2.2 + 0))]) rfl ?_
  refine e_aload_n (q := 1) (i := 0) dX11_keep_0 rfl rfl rfl ?_
  refine e_getR (q := 4) dX11_keep_1 rfl fg_X11_43 (by first | assumption | rfl) rfl ?_
  refine e_aload_n (q := 5) (i := 0) dX11_keep_4 rfl rfl rfl ?_
  refine e_getR (q := 8) dX11_keep_5 rfl fg_X11_36 (by first | assumption | rfl) rfl ?_
  refine e_Vv (q := 11) (vs := [_]) ok_X2_become ml_X11_236 dX11_keep_8 rfl ⟨_, _, rfl⟩ (by first | assumption | rfl) rfl rfl (Nat.le_of_ble_eq_true rfl) (by decide) (c_X2_become (L := 49) (K := 39) (Or.inr (Or.inr (Or.inl rfl))) (Or.inl rfl) (by decide)) (fun s8 h8 => ?_)
  refine e_aload_n (q := 12) (i := 0) dX11_keep_11 rfl rfl rfl ?_
  refine e_iconst (q := 13) dX11_keep_12 rfl ?_
  refine e_putZ (q := 16) (jz := 7) dX11_keep_13 rfl fp_X11_110 rfl (by first | assumption | rfl) rfl (by first | exact Or.inl rfl | exact Or.inr rfl | omega) ?_
  refine e_aload_n (q := 17) (i := 0) dX11_keep_16 rfl rfl rfl ?_
  refine e_getR (q := 20) dX11_keep_17 rfl fg_X11_36 (by first | assumption | rfl) rfl ?_
  refine e_getI (q := 23) (jz := 6) dX11_keep_20 rfl fg_X11_230 rfl (by first | assumption | rfl) rfl ?_
  exact r_i dX11_keep_23 rfl ⟨by show s8.1 39 6 = _; exact h8.1.e1 (by decide) 6, s8, h8, rfl⟩

theorem c_X11_back {G : Gx} {σ : Sg} (h7 : σ.1 0 7 = 0 ∨ σ.1 0 7 = 1) : Con G 3 mX11_back [.ref (G.2.2.2 + 0)] σ (pI (fun z σ' => (σ.1 0 7 = 0 ∧ z = -1 ∧ σ' = σ) ∨ (¬ σ.1 0 7 = 0 ∧ ∃ s, LC σ 39 49 s ∧ z = s.1 39 6 ∧ σ' = sI s 56 6 0))) := by
  refine e_entry om_X11_back (Nat.le_of_ble_eq_true rfl) (L := [some (.ref (G.2.2.2 + 0))]) rfl ?_
  refine e_aload_n (q := 1) (i := 0) dX11_back_0 rfl rfl rfl ?_
  refine e_getI (q := 4) (jz := 7) dX11_back_1 rfl fg_X11_110 rfl (by first | assumption | rfl) rfl ?_
  refine e_if_ne (q := 7) (tgt := 9) dX11_back_4 rfl (by decide) (fun c4 => ?_) (fun c4 => ?_) (hx := ⟨by omega, by omega⟩)
  · refine e_aload_n (q := 10) (i := 0) dX11_back_9 rfl rfl rfl ?_
    refine e_getR (q := 13) dX11_back_10 rfl fg_X11_36 (by first | assumption | rfl) rfl ?_
    refine e_aload_n (q := 14) (i := 0) dX11_back_13 rfl rfl rfl ?_
    refine e_getR (q := 17) dX11_back_14 rfl fg_X11_43 (by first | assumption | rfl) rfl ?_
    refine e_Vv (q := 20) (vs := [_]) ok_X2_become ml_X11_236 dX11_back_17 rfl ⟨_, _, rfl⟩ (by first | assumption | rfl) rfl rfl (Nat.le_of_ble_eq_true rfl) (by decide) (c_X2_become (L := 39) (K := 49) (Or.inl rfl) (Or.inr (Or.inr (Or.inl rfl))) (by decide)) (fun s17 h17 => ?_)
    refine e_aload_n (q := 21) (i := 0) dX11_back_20 rfl rfl rfl ?_
    refine e_getR (q := 24) dX11_back_21 rfl fg_X11_56 (by first | assumption | rfl) rfl ?_
    refine e_Vv (q := 27) (vs := []) ok_X0_forget ml_X11_109 dX11_back_24 rfl ⟨_, _, rfl⟩ (by first | assumption | rfl) rfl rfl (Nat.le_of_ble_eq_true rfl) (by decide) (c_X0_forget) (fun s24 h24 => ?_)
    subst h24
    refine e_aload_n (q := 28) (i := 0) dX11_back_27 rfl rfl rfl ?_
    refine e_getR (q := 31) dX11_back_28 rfl fg_X11_36 (by first | assumption | rfl) rfl ?_
    refine e_getI (q := 34) (jz := 6) dX11_back_31 rfl fg_X11_230 rfl (by first | assumption | rfl) rfl ?_
    exact r_i dX11_back_34 rfl (Or.inr ⟨c4, s17, h17, rfl, rfl⟩)
  · refine e_iconst (q := 8) dX11_back_7 rfl ?_
    exact r_i dX11_back_8 rfl (Or.inl ⟨c4, rfl, rfl⟩)

theorem c_X11_see {G : Gx} {σ : Sg} {y p r c b : Int} (hT : TI σ) (hS : SI σ) (hy : R32 y) (hp : R32 p) (hr : R32 r) (hc : R32 c) (hb : b = 0 ∨ b = 1) : Con G 2 mX11_see [.ref (G.2.2.2 + 0), .int (iZ y), .int (iZ p), .int (iZ r), .int (iZ c), .int (iZ b)] σ (pI (fun z σ' => (¬ (1 ≤ y ∧ y ≤ 60 ∧ (0 ≤ p ∧ p < σ.1 2 2) ∧ (0 ≤ r ∧ r < σ.1 2 0 ∧ 0 ≤ c ∧ c < σ.1 2 0) ∧ σ.1 62 7 < 24) ∧ z = -1 ∧ σ' = σ) ∨ ((1 ≤ y ∧ y ≤ 60 ∧ (0 ≤ p ∧ p < σ.1 2 2) ∧ (0 ≤ r ∧ r < σ.1 2 0 ∧ 0 ≤ c ∧ c < σ.1 2 0) ∧ σ.1 62 7 < 24) ∧ z = σ.1 62 7 ∧ σ' = seeF σ y p r c b))) := by
  obtain ⟨hzz, -, hnp, hnc, hnb, hlb, hrn, hsd, hrw, hrq, hch, hbt, hck⟩ := id hT
  refine e_entry om_X11_see (Nat.le_of_ble_eq_true rfl) (L := [some (.ref (G.2.2.2 + 0)), some (.int (iZ y)), some (.int (iZ p)), some (.int (iZ r)), some (.int (iZ c)), some (.int (iZ b))]) rfl ?_
  refine e_iload_n (q := 1) (i := 1) dX11_see_0 rfl rfl rfl ?_
  refine e_iconst (q := 2) dX11_see_1 rfl ?_
  refine e_icmp_lt (q := 5) (tgt := 29) dX11_see_2 rfl (by decide) (fun c2 => ?_) (fun c2 => ?_)
  · refine e_iconst (q := 30) dX11_see_29 rfl ?_
    exact r_i dX11_see_30 rfl (Or.inl ⟨by omega, rfl, rfl⟩)
  · refine e_iload_n (q := 6) (i := 1) dX11_see_5 rfl rfl rfl ?_
    refine e_bipush (q := 8) dX11_see_6 rfl (by decide) ?_
    refine e_icmp_gt (q := 11) (tgt := 29) dX11_see_8 rfl (by decide) (fun c8 => ?_) (fun c8 => ?_)
    · refine e_iconst (q := 30) dX11_see_29 rfl ?_
      exact r_i dX11_see_30 rfl (Or.inl ⟨by omega, rfl, rfl⟩)
    · refine e_aload_n (q := 12) (i := 0) dX11_see_11 rfl rfl rfl ?_
      refine e_iload_n (q := 13) (i := 2) dX11_see_12 rfl rfl rfl ?_
      refine e_Vip (q := 16) (vs := [_]) ok_X11_isParish ml_X11_136 dX11_see_13 rfl ⟨_, _, rfl⟩ (by first | assumption | rfl) rfl rfl (Nat.le_of_ble_eq_true rfl) (by decide) (c_X11_isParish hT (by assumption)) ?_
      refine e_if_eq (q := 19) (tgt := 29) dX11_see_16 rfl (by decide) (fun c16 => ?_) (fun c16 => ?_)
      · refine e_iconst (q := 30) dX11_see_29 rfl ?_
        exact r_i dX11_see_30 rfl (Or.inl ⟨by omega, rfl, rfl⟩)
      · refine e_aload_n (q := 20) (i := 0) dX11_see_19 rfl rfl rfl ?_
        refine e_iload_n (q := 21) (i := 3) dX11_see_20 rfl rfl rfl ?_
        refine e_iload (q := 23) dX11_see_21 rfl rfl ?_
        refine e_Vip (q := 26) (vs := [_, _]) ok_X11_isCell ml_X11_185 dX11_see_23 rfl ⟨_, _, rfl⟩ (by first | assumption | rfl) rfl rfl (Nat.le_of_ble_eq_true rfl) (by decide) (c_X11_isCell hT (by assumption) (by assumption)) ?_
        refine e_if_ne (q := 29) (tgt := 31) dX11_see_26 rfl (by decide) (fun c26 => ?_) (fun c26 => ?_)
        · refine e_aload_n (q := 32) (i := 0) dX11_see_31 rfl rfl rfl ?_
          refine e_getR (q := 35) dX11_see_32 rfl fg_X11_63 (by first | assumption | rfl) rfl ?_
          refine e_iload_n (q := 36) (i := 1) dX11_see_35 rfl rfl rfl ?_
          refine e_iload_n (q := 37) (i := 2) dX11_see_36 rfl rfl rfl ?_
          refine e_iload_n (q := 38) (i := 3) dX11_see_37 rfl rfl rfl ?_
          refine e_iload (q := 40) dX11_see_38 rfl rfl ?_
          refine e_iload (q := 42) dX11_see_40 rfl rfl ?_
          refine e_Vi (q := 45) (vs := [_, _, _, _, _]) ok_X6_addSight ml_X11_305 dX11_see_42 rfl ⟨_, _, rfl⟩ (by first | assumption | rfl) rfl rfl (Nat.le_of_ble_eq_true rfl) (by decide) (c_X6_addSight hS hb) (fun zz ss hh => ?_)
          exact r_i dX11_see_45 rfl (by rcases hh with ⟨q1, q2, q3⟩ | ⟨q1, q2, q3⟩; exact Or.inl ⟨by omega, q2, q3⟩; exact Or.inr ⟨by omega, q2, q3⟩)
        · refine e_iconst (q := 30) dX11_see_29 rfl ?_
          exact r_i dX11_see_30 rfl (Or.inl ⟨by omega, rfl, rfl⟩)

theorem c_X11_strike {G : Gx} {σ : Sg} {x : Int} (hS : SI σ) (hx : R32 x) : Con G 2 mX11_strike [.ref (G.2.2.2 + 0), .int (iZ x)] σ (pI (fun z σ' => ((x < 0 ∨ σ.1 62 7 ≤ x ∨ 24 ≤ σ.1 62 7) ∧ z = -1 ∧ σ' = σ) ∨ ((0 ≤ x ∧ x < σ.1 62 7 ∧ σ.1 62 7 < 24) ∧ z = σ.1 62 7 ∧ σ' = sI (sI σ 63 (σ.1 62 7) x) 62 7 (σ.1 62 7 + 1)))) := by
  refine e_entry om_X11_strike (Nat.le_of_ble_eq_true rfl) (L := [some (.ref (G.2.2.2 + 0)), some (.int (iZ x))]) rfl ?_
  refine e_aload_n (q := 1) (i := 0) dX11_strike_0 rfl rfl rfl ?_
  refine e_getR (q := 4) dX11_strike_1 rfl fg_X11_63 (by first | assumption | rfl) rfl ?_
  refine e_iload_n (q := 5) (i := 1) dX11_strike_4 rfl rfl rfl ?_
  refine e_Vi (q := 8) (vs := [_]) ok_X6_addStrike ml_X11_309 dX11_strike_5 rfl ⟨_, _, rfl⟩ (by first | assumption | rfl) rfl rfl (Nat.le_of_ble_eq_true rfl) (by decide) (c_X6_addStrike hS hx) (fun z5 s5 h5 => ?_)
  exact r_i dX11_strike_8 rfl h5

theorem c_X11_known {G : Gx} {σ : Sg} {x : Int} (hS : SI σ) (hx : R32 x) : Con G 2 mX11_known [.ref (G.2.2.2 + 0), .int (iZ x)] σ (pI (fun z σ' => ((x < -1 ∨ σ.1 62 7 < x) ∧ z = 0 ∧ σ' = σ) ∨ ((-1 ≤ x ∧ x ≤ σ.1 62 7) ∧ z = 1 ∧ σ' = sI σ 62 8 x))) := by
  refine e_entry om_X11_known (Nat.le_of_ble_eq_true rfl) (L := [some (.ref (G.2.2.2 + 0)), some (.int (iZ x))]) rfl ?_
  refine e_aload_n (q := 1) (i := 0) dX11_known_0 rfl rfl rfl ?_
  refine e_getR (q := 4) dX11_known_1 rfl fg_X11_63 (by first | assumption | rfl) rfl ?_
  refine e_iload_n (q := 5) (i := 1) dX11_known_4 rfl rfl rfl ?_
  refine e_Vi (q := 8) (vs := [_]) ok_X6_limit ml_X11_312 dX11_known_5 rfl ⟨_, _, rfl⟩ (by first | assumption | rfl) rfl rfl (Nat.le_of_ble_eq_true rfl) (by decide) (c_X6_limit hS hx) (fun z5 s5 h5 => ?_)
  exact r_z dX11_known_8 rfl (by rcases h5 with q | q <;> omega) h5

def cntC (σ : Sg) (x : Int) : Int := if x = 0 then σ.1 2 2 else if x = 1 then σ.1 2 3 else if x = 2 then σ.1 2 4 else if x = 3 then σ.1 2 0 else if x = 4 then σ.1 13 4 else if x = 5 then σ.1 39 6 else if x = 6 then σ.1 39 5 else if x = 7 then zs (fun p => gArea (σ.1 3) (σ.1 4) (σ.1 40) p) (σ.1 2 2) else if x = 8 then zs (fun p => zs (fun q => if p < q then gOv (σ.1 3) (σ.1 4) (σ.1 40) p q else 0) (σ.1 2 2)) (σ.1 2 2) else if x = 9 then zs (σ.1 42) (σ.1 2 3) else if x = 10 then σ.1 62 7 else if x = 11 then knE σ else if x = 12 then σ.1 56 6 else -1

theorem c_X11_count {G : Gx} {σ : Sg} {x : Int} (hT : TI σ) (hI : LI σ 39) (hS : SI σ) (hx : R32 x) : Con G 5 mX11_count [.ref (G.2.2.2 + 0), .int (iZ x)] σ (pI (pE σ (cntC σ x))) := by
  refine e_entry om_X11_count (Nat.le_of_ble_eq_true rfl) (L := [some (.ref (G.2.2.2 + 0)), some (.int (iZ x))]) rfl ?_
  refine e_iload_n (q := 1) (i := 1) dX11_count_0 rfl rfl rfl ?_
  by_cases k1_0 : x = 0
  · refine e_tabIn (tgt := 68) dX11_count_1 hx (by omega) (by omega) (by rw [k1_0]; rfl) (by decide) ?_
    refine e_aload_n (q := 69) (i := 0) dX11_count_68 rfl rfl rfl ?_
    refine e_getR (q := 72) dX11_count_69 rfl fg_X11_18 (by first | assumption | rfl) rfl ?_
    refine e_getI (q := 75) (jz := 2) dX11_count_72 rfl fg_X11_351 rfl (by first | assumption | rfl) rfl ?_
    exact r_i dX11_count_75 rfl ⟨by unfold cntC; rw [if_pos k1_0], rfl⟩
  by_cases k1_1 : x = 1
  · refine e_tabIn (tgt := 76) dX11_count_1 hx (by omega) (by omega) (by rw [k1_1]; rfl) (by decide) ?_
    refine e_aload_n (q := 77) (i := 0) dX11_count_76 rfl rfl rfl ?_
    refine e_getR (q := 80) dX11_count_77 rfl fg_X11_18 (by first | assumption | rfl) rfl ?_
    refine e_getI (q := 83) (jz := 3) dX11_count_80 rfl fg_X11_354 rfl (by first | assumption | rfl) rfl ?_
    exact r_i dX11_count_83 rfl ⟨by unfold cntC; rw [if_neg k1_0, if_pos k1_1], rfl⟩
  by_cases k1_2 : x = 2
  · refine e_tabIn (tgt := 84) dX11_count_1 hx (by omega) (by omega) (by rw [k1_2]; rfl) (by decide) ?_
    refine e_aload_n (q := 85) (i := 0) dX11_count_84 rfl rfl rfl ?_
    refine e_getR (q := 88) dX11_count_85 rfl fg_X11_18 (by first | assumption | rfl) rfl ?_
    refine e_getI (q := 91) (jz := 4) dX11_count_88 rfl fg_X11_357 rfl (by first | assumption | rfl) rfl ?_
    exact r_i dX11_count_91 rfl ⟨by unfold cntC; rw [if_neg k1_0, if_neg k1_1, if_pos k1_2], rfl⟩
  by_cases k1_3 : x = 3
  · refine e_tabIn (tgt := 92) dX11_count_1 hx (by omega) (by omega) (by rw [k1_3]; rfl) (by decide) ?_
    refine e_aload_n (q := 93) (i := 0) dX11_count_92 rfl rfl rfl ?_
    refine e_getR (q := 96) dX11_count_93 rfl fg_X11_18 (by first | assumption | rfl) rfl ?_
    refine e_getI (q := 99) (jz := 0) dX11_count_96 rfl fg_X11_360 rfl (by first | assumption | rfl) rfl ?_
    exact r_i dX11_count_99 rfl ⟨by unfold cntC; rw [if_neg k1_0, if_neg k1_1, if_neg k1_2, if_pos k1_3], rfl⟩
  by_cases k1_4 : x = 4
  · refine e_tabIn (tgt := 100) dX11_count_1 hx (by omega) (by omega) (by rw [k1_4]; rfl) (by decide) ?_
    refine e_aload_n (q := 101) (i := 0) dX11_count_100 rfl rfl rfl ?_
    refine e_getR (q := 104) dX11_count_101 rfl fg_X11_18 (by first | assumption | rfl) rfl ?_
    refine e_getR (q := 107) dX11_count_104 rfl fg_X11_363 (by first | assumption | rfl) rfl ?_
    refine e_getI (q := 110) (jz := 4) dX11_count_107 rfl fg_X11_367 rfl (by first | assumption | rfl) rfl ?_
    exact r_i dX11_count_110 rfl ⟨by unfold cntC; rw [if_neg k1_0, if_neg k1_1, if_neg k1_2, if_neg k1_3, if_pos k1_4], rfl⟩
  by_cases k1_5 : x = 5
  · refine e_tabIn (tgt := 111) dX11_count_1 hx (by omega) (by omega) (by rw [k1_5]; rfl) (by decide) ?_
    refine e_aload_n (q := 112) (i := 0) dX11_count_111 rfl rfl rfl ?_
    refine e_getR (q := 115) dX11_count_112 rfl fg_X11_36 (by first | assumption | rfl) rfl ?_
    refine e_getI (q := 118) (jz := 6) dX11_count_115 rfl fg_X11_230 rfl (by first | assumption | rfl) rfl ?_
    exact r_i dX11_count_118 rfl ⟨by unfold cntC; rw [if_neg k1_0, if_neg k1_1, if_neg k1_2, if_neg k1_3, if_neg k1_4, if_pos k1_5], rfl⟩
  by_cases k1_6 : x = 6
  · refine e_tabIn (tgt := 119) dX11_count_1 hx (by omega) (by omega) (by rw [k1_6]; rfl) (by decide) ?_
    refine e_aload_n (q := 120) (i := 0) dX11_count_119 rfl rfl rfl ?_
    refine e_getR (q := 123) dX11_count_120 rfl fg_X11_36 (by first | assumption | rfl) rfl ?_
    refine e_getI (q := 126) (jz := 5) dX11_count_123 rfl fg_X11_243 rfl (by first | assumption | rfl) rfl ?_
    exact r_i dX11_count_126 rfl ⟨by unfold cntC; rw [if_neg k1_0, if_neg k1_1, if_neg k1_2, if_neg k1_3, if_neg k1_4, if_neg k1_5, if_pos k1_6], rfl⟩
  by_cases k1_7 : x = 7
  · refine e_tabIn (tgt := 127) dX11_count_1 hx (by omega) (by omega) (by rw [k1_7]; rfl) (by decide) ?_
    refine e_aload_n (q := 128) (i := 0) dX11_count_127 rfl rfl rfl ?_
    refine e_getR (q := 131) dX11_count_128 rfl fg_X11_36 (by first | assumption | rfl) rfl ?_
    refine e_Vip (q := 134) (vs := []) ok_X2_allAreas ml_X11_344 dX11_count_131 rfl ⟨_, _, rfl⟩ (by first | assumption | rfl) rfl rfl (Nat.le_of_ble_eq_true rfl) (by decide) (c39_allAreas hT hI) ?_
    exact r_i dX11_count_134 rfl ⟨by unfold cntC; rw [if_neg k1_0, if_neg k1_1, if_neg k1_2, if_neg k1_3, if_neg k1_4, if_neg k1_5, if_neg k1_6, if_pos k1_7], rfl⟩
  by_cases k1_8 : x = 8
  · refine e_tabIn (tgt := 135) dX11_count_1 hx (by omega) (by omega) (by rw [k1_8]; rfl) (by decide) ?_
    refine e_aload_n (q := 136) (i := 0) dX11_count_135 rfl rfl rfl ?_
    refine e_getR (q := 139) dX11_count_136 rfl fg_X11_36 (by first | assumption | rfl) rfl ?_
    refine e_Vip (q := 142) (vs := []) ok_X2_allShared ml_X11_246 dX11_count_139 rfl ⟨_, _, rfl⟩ (by first | assumption | rfl) rfl rfl (Nat.le_of_ble_eq_true rfl) (by decide) (c39_allShared hT hI) ?_
    exact r_i dX11_count_142 rfl ⟨by unfold cntC; rw [if_neg k1_0, if_neg k1_1, if_neg k1_2, if_neg k1_3, if_neg k1_4, if_neg k1_5, if_neg k1_6, if_neg k1_7, if_pos k1_8], rfl⟩
  by_cases k1_9 : x = 9
  · refine e_tabIn (tgt := 143) dX11_count_1 hx (by omega) (by omega) (by rw [k1_9]; rfl) (by decide) ?_
    refine e_aload_n (q := 144) (i := 0) dX11_count_143 rfl rfl rfl ?_
    refine e_getR (q := 147) dX11_count_144 rfl fg_X11_36 (by first | assumption | rfl) rfl ?_
    refine e_Vip (q := 150) (vs := []) ok_X2_allLegs ml_X11_372 dX11_count_147 rfl ⟨_, _, rfl⟩ (by first | assumption | rfl) rfl rfl (Nat.le_of_ble_eq_true rfl) (by decide) (c39_allLegs hT hI) ?_
    exact r_i dX11_count_150 rfl ⟨by unfold cntC; rw [if_neg k1_0, if_neg k1_1, if_neg k1_2, if_neg k1_3, if_neg k1_4, if_neg k1_5, if_neg k1_6, if_neg k1_7, if_neg k1_8, if_pos k1_9], rfl⟩
  by_cases k1_10 : x = 10
  · refine e_tabIn (tgt := 151) dX11_count_1 hx (by omega) (by omega) (by rw [k1_10]; rfl) (by decide) ?_
    refine e_aload_n (q := 152) (i := 0) dX11_count_151 rfl rfl rfl ?_
    refine e_getR (q := 155) dX11_count_152 rfl fg_X11_63 (by first | assumption | rfl) rfl ?_
    refine e_getI (q := 158) (jz := 7) dX11_count_155 rfl fg_X11_375 rfl (by first | assumption | rfl) rfl ?_
    exact r_i dX11_count_158 rfl ⟨by unfold cntC; rw [if_neg k1_0, if_neg k1_1, if_neg k1_2, if_neg k1_3, if_neg k1_4, if_neg k1_5, if_neg k1_6, if_neg k1_7, if_neg k1_8, if_neg k1_9, if_pos k1_10], rfl⟩
  by_cases k1_11 : x = 11
  · refine e_tabIn (tgt := 159) dX11_count_1 hx (by omega) (by omega) (by rw [k1_11]; rfl) (by decide) ?_
    refine e_aload_n (q := 160) (i := 0) dX11_count_159 rfl rfl rfl ?_
    refine e_getR (q := 163) dX11_count_160 rfl fg_X11_63 (by first | assumption | rfl) rfl ?_
    refine e_Vip (q := 166) (vs := []) ok_X6_knownEntries ml_X11_378 dX11_count_163 rfl ⟨_, _, rfl⟩ (by first | assumption | rfl) rfl rfl (Nat.le_of_ble_eq_true rfl) (by decide) (c_X6_knownEntries hS) ?_
    exact r_i dX11_count_166 rfl ⟨by unfold cntC; rw [if_neg k1_0, if_neg k1_1, if_neg k1_2, if_neg k1_3, if_neg k1_4, if_neg k1_5, if_neg k1_6, if_neg k1_7, if_neg k1_8, if_neg k1_9, if_neg k1_10, if_pos k1_11], rfl⟩
  by_cases k1_12 : x = 12
  · refine e_tabIn (tgt := 167) dX11_count_1 hx (by omega) (by omega) (by rw [k1_12]; rfl) (by decide) ?_
    refine e_aload_n (q := 168) (i := 0) dX11_count_167 rfl rfl rfl ?_
    refine e_getR (q := 171) dX11_count_168 rfl fg_X11_56 (by first | assumption | rfl) rfl ?_
    refine e_getI (q := 174) (jz := 6) dX11_count_171 rfl fg_X11_381 rfl (by first | assumption | rfl) rfl ?_
    exact r_i dX11_count_174 rfl ⟨by unfold cntC; rw [if_neg k1_0, if_neg k1_1, if_neg k1_2, if_neg k1_3, if_neg k1_4, if_neg k1_5, if_neg k1_6, if_neg k1_7, if_neg k1_8, if_neg k1_9, if_neg k1_10, if_neg k1_11, if_pos k1_12], rfl⟩
  refine e_tabOut (tgt := 175) dX11_count_1 hx (by omega) (by decide) ?_
  refine e_iconst (q := 176) dX11_count_175 rfl ?_
  exact r_i dX11_count_176 rfl ⟨by unfold cntC; rw [if_neg k1_0, if_neg k1_1, if_neg k1_2, if_neg k1_3, if_neg k1_4, if_neg k1_5, if_neg k1_6, if_neg k1_7, if_neg k1_8, if_neg k1_9, if_neg k1_10, if_neg k1_11, if_neg k1_12], rfl⟩

