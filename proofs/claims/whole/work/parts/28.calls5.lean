theorem LR_un {σ τ : Sg} {ck : Int → Int} {un tl so w : Int} {y : Yd} {n : Int} (h : LR σ ck un tl so w y n 0 τ) {v : Int} (hv : -1 ≤ v ∧ v ≤ 5) : LR σ ck v tl so w y n 0 (sI τ 44 8 v) := by
  obtain ⟨h1, h2, ⟨h3, h4, h5⟩, h6, h7, h8, h9⟩ := h
  refine ⟨h1.sI (by decide) _ _, fun s a b => ?_, ⟨?_, ?_, ?_⟩, h6, h7, h8.s8 hv, h9⟩
  · rw [sI_ne _ (by decide)]; exact h2 s a b
  · rw [sI_1, if_pos ⟨rfl, rfl⟩]
  · rw [sI_1, if_neg (by decide)]; exact h4
  · rw [sI_1, if_neg (by decide)]; exact h5
theorem LR_ck {σ τ : Sg} (hT : TI σ) {ck : Int → Int} {un tl so w : Int} {y : Yd} {n : Int} (h : LR σ ck un tl so w y n 0 τ) : LR σ (fun _ => 0) un tl so w y n 0 (flI τ 46 16 0) := by
  obtain ⟨-, -, hnp, -⟩ := hT
  obtain ⟨h1, h2, h3, h6, h7, h8, h9⟩ := h
  refine ⟨h1.flI (by decide) _ _, fun s a b => ?_, h3, h6, h7, ?_, h9⟩
  · rw [flI_1, if_pos ⟨rfl, a, by omega⟩]
  · obtain ⟨a, b⟩ := h8
    refine ⟨fun i p q => ?_, b⟩
    have z := a i p q
    refine ⟨z.1, z.2.1, ?_, ?_⟩
    · show (0 : Int) ≤ (flI τ 46 16 0).1 46 i
      rw [flI_1, if_pos ⟨rfl, p, q⟩]; exact Int.le_refl 0
    · show (flI τ 46 16 0).1 46 i ≤ 9
      rw [flI_1, if_pos ⟨rfl, p, q⟩]; decide
theorem LR_tl {σ τ : Sg} (hT : TI σ) {ck : Int → Int} {un tl so w : Int} {y : Yd} {n : Int} (h : LR σ ck un tl so w y n 0 τ) : LR σ ck un 1 so w (y.1, y.2.1, (fun _ => 0), y.2.2.2) n 0 (flI (sI τ 44 9 1) 48 6 0) := by
  obtain ⟨-, -, hnp, hnc, -⟩ := hT
  obtain ⟨h1, h2, ⟨h3, h4, h5⟩, h6, h7, h8, h9⟩ := h
  have h8' := h8.s9 (v := 1) (by decide)
  refine ⟨(h1.sI (by decide) _ _).flI (by decide) _ _, fun s a b => ?_, ⟨h3, ?_, h5⟩, ⟨h6.1, fun i p q => ⟨(h6.2.1 i p q).1, ?_⟩, h6.2.2.1, h6.2.2.2⟩, h7, ?_, h9⟩
  · exact h2 s a b
  · rfl
  · show (flI (sI τ 44 9 1) 48 6 0).1 48 i = 0
    rw [flI_1, if_pos ⟨rfl, p, by omega⟩]
  · obtain ⟨a, b, c⟩ := h8'
    refine ⟨a, fun i p q => ?_, c⟩
    have z := b i p q
    refine ⟨z.1, z.2.1, ?_, ?_⟩
    · show (0 : Int) ≤ (flI (sI τ 44 9 1) 48 6 0).1 48 i
      rw [flI_1, if_pos ⟨rfl, p, q⟩]; exact Int.le_refl 0
    · show (flI (sI τ 44 9 1) 48 6 0).1 48 i ≤ 99
      rw [flI_1, if_pos ⟨rfl, p, q⟩]; decide
theorem LR_w {σ τ : Sg} {ck : Int → Int} {un tl so w : Int} {y : Yd} {n : Int} (h : LR σ ck un tl so w y n 0 τ) (w' : Int) : LR σ ck un tl so w' y n 0 τ := h
def trR (σ : Sg) (x i m : Int) : Yd × Int := if x = 0 then paR σ (σ.1 41) (-1) 0 1 2 m.toNat (ydv σ 39, σ.2 39 7) else if x = 1 then paR σ (σ.1 41) (-1) 0 1 3 m.toNat (ydv σ 39, σ.2 39 7) else if x = 2 then paR σ (σ.1 41) i 0 1 0 m.toNat (ydv σ 39, σ.2 39 7) else if x = 3 then paR σ (fun _ => 0) (-1) 0 1 0 m.toNat (ydv σ 39, σ.2 39 7) else paR σ (σ.1 41) (-1) 1 1 0 m.toNat ((σ.1 40, σ.1 42, (fun _ => 0), σ.1 39 5, σ.1 39 6), σ.2 39 7)

set_option maxHeartbeats 8000000 in
theorem c_X11_tried {G : Gx} {σ : Sg} {x i m : Int} (hT : TI σ) (hB : TB σ) (hW : LW σ) (hI : LI σ 39) (hY : σ.1 39 6 ≤ 9800) (hx : R32 x) (hi : R32 i) (hm : R32 m) : Con G 8 mX11_tried [.ref (G.2.2.2 + 0), .int (iZ x), .int (iZ i), .int (iZ m)] σ (pI (fun z σ' => (¬ (0 ≤ x ∧ x ≤ 4 ∧ 0 ≤ m ∧ m ≤ 200 ∧ ((x = 2 ∧ (0 ≤ i ∧ i < σ.1 2 3)) ∨ (x ≠ 2 ∧ i = 0))) ∧ z = -1 ∧ σ' = σ) ∨ ((0 ≤ x ∧ x ≤ 4 ∧ 0 ≤ m ∧ m ≤ 200 ∧ ((x = 2 ∧ (0 ≤ i ∧ i < σ.1 2 3)) ∨ (x ≠ 2 ∧ i = 0))) ∧ z = arAll (σ.1 3) (σ.1 4) (trR σ x i m).1.1 (σ.1 2 2) ∧ Fr [44, 45, 46, 47, 48, 17, 55] σ σ'))) := by
  obtain ⟨hzz, -, hnp, hnc, hnb, hlb, hrn, hsd, hrw, hrq, hch, hbt, hck⟩ := id hT
  have hyr : 0 ≤ σ.1 39 6 := hI.2.2.2.1.1
  have tail : ∀ (τ : Sg) (ck : Int → Int) (un tl : Int) (y : Yd), (0 ≤ x ∧ x ≤ 4 ∧ 0 ≤ m ∧ m ≤ 200 ∧ ((x = 2 ∧ (0 ≤ i ∧ i < σ.1 2 3)) ∨ (x ≠ 2 ∧ i = 0))) → LR σ ck un tl 1 0 y (σ.2 39 7) 0 τ → y.2.2.2.2 = σ.1 39 6 → (∀ w : Int, (x = 0 ∧ w = 2) ∨ (x = 1 ∧ w = 3) ∨ (x ≠ 0 ∧ x ≠ 1 ∧ w = 0) → trR σ x i m = paR σ ck un tl 1 w m.toNat (y, σ.2 39 7)) → J G 8 mX11_tried (pI (fun z σ' => (¬ (0 ≤ x ∧ x ≤ 4 ∧ 0 ≤ m ∧ m ≤ 200 ∧ ((x = 2 ∧ (0 ≤ i ∧ i < σ.1 2 3)) ∨ (x ≠ 2 ∧ i = 0))) ∧ z = -1 ∧ σ' = σ) ∨ ((0 ≤ x ∧ x ≤ 4 ∧ 0 ≤ m ∧ m ≤ 200 ∧ ((x = 2 ∧ (0 ≤ i ∧ i < σ.1 2 3)) ∨ (x ≠ 2 ∧ i = 0))) ∧ z = arAll (σ.1 3) (σ.1 4) (trR σ x i m).1.1 (σ.1 2 2) ∧ Fr [44, 45, 46, 47, 48, 17, 55] σ σ'))) τ 120 [some (.ref (G.2.2.2 + 0)), some (.int (iZ x)), some (.int (iZ i)), some (.int (iZ m))] [] := by
    intro τ ck un tl y hK hl hye hR
    refine e_aload_n (q := 121) (i := 0) dX11_tried_120 rfl rfl rfl ?_
    refine e_getR (q := 124) dX11_tried_121 rfl fg_X11_49 (by first | assumption | rfl) rfl ?_
    refine e_aload_n (q := 125) (i := 0) dX11_tried_124 rfl rfl rfl ?_
    refine e_getR (q := 128) dX11_tried_125 rfl fg_X11_40 (by first | assumption | rfl) rfl ?_
    refine e_iload_n (q := 129) (i := 3) dX11_tried_128 rfl rfl rfl ?_
    refine e_iload_n (q := 130) (i := 1) dX11_tried_129 rfl rfl rfl ?_
    refine e_if_ne (q := 133) (tgt := 137) dX11_tried_130 rfl (by decide) (fun c130 => ?_) (fun c130 => ?_)
    · refine e_iload_n (q := 138) (i := 1) dX11_tried_137 rfl rfl rfl ?_
      refine e_iconst (q := 139) dX11_tried_138 rfl ?_
      refine e_icmp_ne (q := 142) (tgt := 146) dX11_tried_139 rfl (by decide) (fun c139 => ?_) (fun c139 => ?_)
      · refine e_iconst (q := 147) dX11_tried_146 rfl ?_
        refine e_Vv (q := 150) (vs := [_, _, _]) ok_X10_pass ml_X11_233 dX11_tried_147 rfl ⟨_, _, rfl⟩ (by first | assumption | rfl) rfl rfl (Nat.le_of_ble_eq_true rfl) (by decide) (c_X10_pass (L := 44) (m := m) (w := 0) (hl.TI hT) (hl.TB hB) (hl.LW hW) hl.2.2.2.2.2.1 (Or.inr (Or.inl rfl)) (by omega) (by omega) (by rw [hl.2.2.2.2.2.2, hye]; omega) (by decide) (by decide)) (fun s147 h147 => ?_)
        have h1 := LR_step hT hB (LR_w hl 0) h147
        refine e_aload_n (q := 151) (i := 0) dX11_tried_150 rfl rfl rfl ?_
        refine e_getR (q := 154) dX11_tried_151 rfl fg_X11_40 (by first | assumption | rfl) rfl ?_
        rw [Nat.zero_add] at h1
        have e3 : s147.1 3 = σ.1 3 := h1.c (by decide) (by decide)
        have e4 : s147.1 4 = σ.1 4 := h1.c (by decide) (by decide)
        have e2 : s147.1 2 = σ.1 2 := h1.c (by decide) (by decide)
        refine e_Vip (q := 157) (vs := []) ok_X2_allAreas ml_X11_344 dX11_tried_154 rfl ⟨_, _, rfl⟩ (by first | assumption | rfl) rfl rfl (Nat.le_of_ble_eq_true rfl) (by decide) (c44_allAreas (h1.TI hT) h1.2.2.2.2.2.1) ?_
        exact r_i dX11_tried_157 rfl (Or.inr ⟨hK, by rw [hR 0 (by omega), e3, e4, e2]; exact arAll_c h1.2.2.2.1.1, h1.1⟩)
      · refine e_iconst (q := 143) dX11_tried_142 rfl ?_
        refine e_goto (tgt := 147) dX11_tried_143 (by decide) ?_
        refine e_Vv (q := 150) (vs := [_, _, _]) ok_X10_pass ml_X11_233 dX11_tried_147 rfl ⟨_, _, rfl⟩ (by first | assumption | rfl) rfl rfl (Nat.le_of_ble_eq_true rfl) (by decide) (c_X10_pass (L := 44) (m := m) (w := 3) (hl.TI hT) (hl.TB hB) (hl.LW hW) hl.2.2.2.2.2.1 (Or.inr (Or.inl rfl)) (by omega) (by omega) (by rw [hl.2.2.2.2.2.2, hye]; omega) (by decide) (by decide)) (fun s147 h147 => ?_)
        have h1 := LR_step hT hB (LR_w hl 3) h147
        refine e_aload_n (q := 151) (i := 0) dX11_tried_150 rfl rfl rfl ?_
        refine e_getR (q := 154) dX11_tried_151 rfl fg_X11_40 (by first | assumption | rfl) rfl ?_
        rw [Nat.zero_add] at h1
        have e3 : s147.1 3 = σ.1 3 := h1.c (by decide) (by decide)
        have e4 : s147.1 4 = σ.1 4 := h1.c (by decide) (by decide)
        have e2 : s147.1 2 = σ.1 2 := h1.c (by decide) (by decide)
        refine e_Vip (q := 157) (vs := []) ok_X2_allAreas ml_X11_344 dX11_tried_154 rfl ⟨_, _, rfl⟩ (by first | assumption | rfl) rfl rfl (Nat.le_of_ble_eq_true rfl) (by decide) (c44_allAreas (h1.TI hT) h1.2.2.2.2.2.1) ?_
        exact r_i dX11_tried_157 rfl (Or.inr ⟨hK, by rw [hR 3 (by omega), e3, e4, e2]; exact arAll_c h1.2.2.2.1.1, h1.1⟩)
    · refine e_iconst (q := 134) dX11_tried_133 rfl ?_
      refine e_goto (tgt := 147) dX11_tried_134 (by decide) ?_
      refine e_Vv (q := 150) (vs := [_, _, _]) ok_X10_pass ml_X11_233 dX11_tried_147 rfl ⟨_, _, rfl⟩ (by first | assumption | rfl) rfl rfl (Nat.le_of_ble_eq_true rfl) (by decide) (c_X10_pass (L := 44) (m := m) (w := 2) (hl.TI hT) (hl.TB hB) (hl.LW hW) hl.2.2.2.2.2.1 (Or.inr (Or.inl rfl)) (by omega) (by omega) (by rw [hl.2.2.2.2.2.2, hye]; omega) (by decide) (by decide)) (fun s147 h147 => ?_)
      have h1 := LR_step hT hB (LR_w hl 2) h147
      refine e_aload_n (q := 151) (i := 0) dX11_tried_150 rfl rfl rfl ?_
      refine e_getR (q := 154) dX11_tried_151 rfl fg_X11_40 (by first | assumption | rfl) rfl ?_
      rw [Nat.zero_add] at h1
      have e3 : s147.1 3 = σ.1 3 := h1.c (by decide) (by decide)
      have e4 : s147.1 4 = σ.1 4 := h1.c (by decide) (by decide)
      have e2 : s147.1 2 = σ.1 2 := h1.c (by decide) (by decide)
      refine e_Vip (q := 157) (vs := []) ok_X2_allAreas ml_X11_344 dX11_tried_154 rfl ⟨_, _, rfl⟩ (by first | assumption | rfl) rfl rfl (Nat.le_of_ble_eq_true rfl) (by decide) (c44_allAreas (h1.TI hT) h1.2.2.2.2.2.1) ?_
      exact r_i dX11_tried_157 rfl (Or.inr ⟨hK, by rw [hR 2 (by omega), e3, e4, e2]; exact arAll_c h1.2.2.2.1.1, h1.1⟩)
  refine e_entry om_X11_tried (Nat.le_of_ble_eq_true rfl) (L := [some (.ref (G.2.2.2 + 0)), some (.int (iZ x)), some (.int (iZ i)), some (.int (iZ m))]) rfl ?_
  refine e_iload_n (q := 1) (i := 1) dX11_tried_0 rfl rfl rfl ?_
  refine e_if_lt (q := 4) (tgt := 40) dX11_tried_1 rfl (by decide) (fun c1 => ?_) (fun c1 => ?_)
  · refine e_iconst (q := 41) dX11_tried_40 rfl ?_
    exact r_i dX11_tried_41 rfl (Or.inl ⟨by omega, rfl, rfl⟩)
  · refine e_iload_n (q := 5) (i := 1) dX11_tried_4 rfl rfl rfl ?_
    refine e_iconst (q := 6) dX11_tried_5 rfl ?_
    refine e_icmp_gt (q := 9) (tgt := 40) dX11_tried_6 rfl (by decide) (fun c6 => ?_) (fun c6 => ?_)
    · refine e_iconst (q := 41) dX11_tried_40 rfl ?_
      exact r_i dX11_tried_41 rfl (Or.inl ⟨by omega, rfl, rfl⟩)
    · refine e_iload_n (q := 10) (i := 3) dX11_tried_9 rfl rfl rfl ?_
      refine e_if_lt (q := 13) (tgt := 40) dX11_tried_10 rfl (by decide) (fun c10 => ?_) (fun c10 => ?_)
      · refine e_iconst (q := 41) dX11_tried_40 rfl ?_
        exact r_i dX11_tried_41 rfl (Or.inl ⟨by omega, rfl, rfl⟩)
      · refine e_iload_n (q := 14) (i := 3) dX11_tried_13 rfl rfl rfl ?_
        refine e_sipush (q := 17) dX11_tried_14 rfl (by decide) ?_
        refine e_icmp_gt (q := 20) (tgt := 40) dX11_tried_17 rfl (by decide) (fun c17 => ?_) (fun c17 => ?_)
        · refine e_iconst (q := 41) dX11_tried_40 rfl ?_
          exact r_i dX11_tried_41 rfl (Or.inl ⟨by omega, rfl, rfl⟩)
        · refine e_iload_n (q := 21) (i := 1) dX11_tried_20 rfl rfl rfl ?_
          refine e_iconst (q := 22) dX11_tried_21 rfl ?_
          refine e_icmp_ne (q := 25) (tgt := 36) dX11_tried_22 rfl (by decide) (fun c22 => ?_) (fun c22 => ?_)
          · refine e_iload_n (q := 37) (i := 2) dX11_tried_36 rfl rfl rfl ?_
            refine e_if_eq (q := 40) (tgt := 42) dX11_tried_37 rfl (by decide) (fun c37 => ?_) (fun c37 => ?_)
            · refine e_aload_n (q := 43) (i := 0) dX11_tried_42 rfl rfl rfl ?_
              refine e_getR (q := 46) dX11_tried_43 rfl fg_X11_40 (by first | assumption | rfl) rfl ?_
              refine e_aload_n (q := 47) (i := 0) dX11_tried_46 rfl rfl rfl ?_
              refine e_getR (q := 50) dX11_tried_47 rfl fg_X11_36 (by first | assumption | rfl) rfl ?_
              refine e_Vv (q := 53) (vs := [_]) ok_X2_become ml_X11_236 dX11_tried_50 rfl ⟨_, _, rfl⟩ (by first | assumption | rfl) rfl rfl (Nat.le_of_ble_eq_true rfl) (by decide) (c_X2_become (L := 44) (K := 39) (Or.inr (Or.inl rfl)) (Or.inl rfl) (by decide)) (fun s50 h50 => ?_)
              refine e_aload_n (q := 54) (i := 0) dX11_tried_53 rfl rfl rfl ?_
              refine e_getR (q := 57) dX11_tried_54 rfl fg_X11_40 (by first | assumption | rfl) rfl ?_
              refine e_iconst (q := 58) dX11_tried_57 rfl ?_
              refine e_putZ (q := 61) (jz := 10) dX11_tried_58 rfl fp_X11_240 rfl (by first | assumption | rfl) rfl (by first | exact Or.inl rfl | exact Or.inr rfl | omega) ?_
              have h0 := LR_0 (v := 1) hT hI h50 (by decide) 0
              refine e_iload_n (q := 62) (i := 1) dX11_tried_61 rfl rfl rfl ?_
              refine e_iconst (q := 63) dX11_tried_62 rfl ?_
              refine e_icmp_ne (q := 66) (tgt := 77) dX11_tried_63 rfl (by decide) (fun c63 => ?_) (fun c63 => ?_)
              · refine e_iload_n (q := 78) (i := 1) dX11_tried_77 rfl rfl rfl ?_
                refine e_iconst (q := 79) dX11_tried_78 rfl ?_
                refine e_icmp_ne (q := 82) (tgt := 96) dX11_tried_79 rfl (by decide) (fun c79 => ?_) (fun c79 => ?_)
                · refine e_iload_n (q := 97) (i := 1) dX11_tried_96 rfl rfl rfl ?_
                  refine e_iconst (q := 98) dX11_tried_97 rfl ?_
                  refine e_icmp_ne (q := 101) (tgt := 120) dX11_tried_98 rfl (by decide) (fun c98 => ?_) (fun c98 => ?_)
                  · refine tail _ _ _ _ _ (by omega) h0 rfl (fun w hw => ?_)
                    unfold trR
                    by_cases e0 : x = 0
                    · rw [if_pos e0, show w = 2 by omega]
                    · rw [if_neg e0, if_pos (by omega), show w = 3 by omega]
                  · refine e_aload_n (q := 102) (i := 0) dX11_tried_101 rfl rfl rfl ?_
                    refine e_getR (q := 105) dX11_tried_102 rfl fg_X11_40 (by first | assumption | rfl) rfl ?_
                    refine e_iconst (q := 106) dX11_tried_105 rfl ?_
                    refine e_putZ (q := 109) (jz := 9) dX11_tried_106 rfl fp_X11_341 rfl (by first | assumption | rfl) rfl (by first | exact Or.inl rfl | exact Or.inr rfl | omega) ?_
                    refine e_aload_n (q := 110) (i := 0) dX11_tried_109 rfl rfl rfl ?_
                    refine e_getR (q := 113) dX11_tried_110 rfl fg_X11_40 (by first | assumption | rfl) rfl ?_
                    refine e_getR (q := 116) dX11_tried_113 rfl fg_X11_176 (by first | assumption | rfl) rfl ?_
                    refine e_iconst (q := 117) dX11_tried_116 rfl ?_
                    refine e_Sv (q := 120) (vs := [_, _]) ok_J7_fill_53178 ml_X11_335 dX11_tried_117 rfl rfl rfl (Nat.le_of_ble_eq_true rfl) (by decide) (c_fill (m := 6) rfl rfl (by decide)) (fun s117 h117 => ?_)
                    subst h117
                    exact tail _ _ _ _ _ (by omega) (LR_tl hT h0) rfl (fun w hw => by unfold trR; rw [if_neg (by omega), if_neg (by omega), if_neg (by omega), if_neg (by omega), show w = 0 by omega]; rfl)
                · refine e_aload_n (q := 83) (i := 0) dX11_tried_82 rfl rfl rfl ?_
                  refine e_getR (q := 86) dX11_tried_83 rfl fg_X11_40 (by first | assumption | rfl) rfl ?_
                  refine e_getR (q := 89) dX11_tried_86 rfl fg_X11_182 (by first | assumption | rfl) rfl ?_
                  refine e_iconst (q := 90) dX11_tried_89 rfl ?_
                  refine e_Sv (q := 93) (vs := [_, _]) ok_J7_fill_53178 ml_X11_335 dX11_tried_90 rfl rfl rfl (Nat.le_of_ble_eq_true rfl) (by decide) (c_fill (m := 16) rfl rfl (by decide)) (fun s90 h90 => ?_)
                  refine e_goto (tgt := 120) dX11_tried_93 (by decide) ?_
                  subst h90
                  exact tail _ _ _ _ _ (by omega) (LR_ck hT h0) rfl (fun w hw => by unfold trR; rw [if_neg (by omega), if_neg (by omega), if_neg (by omega), if_pos (by omega), show w = 0 by omega])
              · refine e_aload_n (q := 67) (i := 0) dX11_tried_66 rfl rfl rfl ?_
                refine e_getR (q := 70) dX11_tried_67 rfl fg_X11_40 (by first | assumption | rfl) rfl ?_
                refine e_iload_n (q := 71) (i := 2) dX11_tried_70 rfl rfl rfl ?_
                refine e_putI (q := 74) (jz := 8) dX11_tried_71 rfl fp_X11_332 rfl (by first | assumption | rfl) rfl ?_
                refine e_goto (tgt := 120) dX11_tried_74 (by decide) ?_
                exact tail _ _ _ _ _ (by omega) (LR_un h0 ⟨by omega, by omega⟩) rfl (fun w hw => by unfold trR; rw [if_neg (by omega), if_neg (by omega), if_pos (by omega), show w = 0 by omega])
            · refine e_iconst (q := 41) dX11_tried_40 rfl ?_
              exact r_i dX11_tried_41 rfl (Or.inl ⟨by omega, rfl, rfl⟩)
          · refine e_aload_n (q := 26) (i := 0) dX11_tried_25 rfl rfl rfl ?_
            refine e_iload_n (q := 27) (i := 2) dX11_tried_26 rfl rfl rfl ?_
            refine e_Vip (q := 30) (vs := [_]) ok_X11_isChild ml_X11_167 dX11_tried_27 rfl ⟨_, _, rfl⟩ (by first | assumption | rfl) rfl rfl (Nat.le_of_ble_eq_true rfl) (by decide) (c_X11_isChild hT (by assumption)) ?_
            refine e_if_ne (q := 33) (tgt := 42) dX11_tried_30 rfl (by decide) (fun c30 => ?_) (fun c30 => ?_)
            · refine e_aload_n (q := 43) (i := 0) dX11_tried_42 rfl rfl rfl ?_
              refine e_getR (q := 46) dX11_tried_43 rfl fg_X11_40 (by first | assumption | rfl) rfl ?_
              refine e_aload_n (q := 47) (i := 0) dX11_tried_46 rfl rfl rfl ?_
              refine e_getR (q := 50) dX11_tried_47 rfl fg_X11_36 (by first | assumption | rfl) rfl ?_
              refine e_Vv (q := 53) (vs := [_]) ok_X2_become ml_X11_236 dX11_tried_50 rfl ⟨_, _, rfl⟩ (by first | assumption | rfl) rfl rfl (Nat.le_of_ble_eq_true rfl) (by decide) (c_X2_become (L := 44) (K := 39) (Or.inr (Or.inl rfl)) (Or.inl rfl) (by decide)) (fun s50 h50 => ?_)
              refine e_aload_n (q := 54) (i := 0) dX11_tried_53 rfl rfl rfl ?_
              refine e_getR (q := 57) dX11_tried_54 rfl fg_X11_40 (by first | assumption | rfl) rfl ?_
              refine e_iconst (q := 58) dX11_tried_57 rfl ?_
              refine e_putZ (q := 61) (jz := 10) dX11_tried_58 rfl fp_X11_240 rfl (by first | assumption | rfl) rfl (by first | exact Or.inl rfl | exact Or.inr rfl | omega) ?_
              have h0 := LR_0 (v := 1) hT hI h50 (by decide) 0
              refine e_iload_n (q := 62) (i := 1) dX11_tried_61 rfl rfl rfl ?_
              refine e_iconst (q := 63) dX11_tried_62 rfl ?_
              refine e_icmp_ne (q := 66) (tgt := 77) dX11_tried_63 rfl (by decide) (fun c63 => ?_) (fun c63 => ?_)
              · refine e_iload_n (q := 78) (i := 1) dX11_tried_77 rfl rfl rfl ?_
                refine e_iconst (q := 79) dX11_tried_78 rfl ?_
                refine e_icmp_ne (q := 82) (tgt := 96) dX11_tried_79 rfl (by decide) (fun c79 => ?_) (fun c79 => ?_)
                · refine e_iload_n (q := 97) (i := 1) dX11_tried_96 rfl rfl rfl ?_
                  refine e_iconst (q := 98) dX11_tried_97 rfl ?_
                  refine e_icmp_ne (q := 101) (tgt := 120) dX11_tried_98 rfl (by decide) (fun c98 => ?_) (fun c98 => ?_)
                  · refine tail _ _ _ _ _ (by omega) h0 rfl (fun w hw => ?_)
                    unfold trR
                    by_cases e0 : x = 0
                    · rw [if_pos e0, show w = 2 by omega]
                    · rw [if_neg e0, if_pos (by omega), show w = 3 by omega]
                  · refine e_aload_n (q := 102) (i := 0) dX11_tried_101 rfl rfl rfl ?_
                    refine e_getR (q := 105) dX11_tried_102 rfl fg_X11_40 (by first | assumption | rfl) rfl ?_
                    refine e_iconst (q := 106) dX11_tried_105 rfl ?_
                    refine e_putZ (q := 109) (jz := 9) dX11_tried_106 rfl fp_X11_341 rfl (by first | assumption | rfl) rfl (by first | exact Or.inl rfl | exact Or.inr rfl | omega) ?_
                    refine e_aload_n (q := 110) (i := 0) dX11_tried_109 rfl rfl rfl ?_
                    refine e_getR (q := 113) dX11_tried_110 rfl fg_X11_40 (by first | assumption | rfl) rfl ?_
                    refine e_getR (q := 116) dX11_tried_113 rfl fg_X11_176 (by first | assumption | rfl) rfl ?_
                    refine e_iconst (q := 117) dX11_tried_116 rfl ?_
                    refine e_Sv (q := 120) (vs := [_, _]) ok_J7_fill_53178 ml_X11_335 dX11_tried_117 rfl rfl rfl (Nat.le_of_ble_eq_true rfl) (by decide) (c_fill (m := 6) rfl rfl (by decide)) (fun s117 h117 => ?_)
                    subst h117
                    exact tail _ _ _ _ _ (by omega) (LR_tl hT h0) rfl (fun w hw => by unfold trR; rw [if_neg (by omega), if_neg (by omega), if_neg (by omega), if_neg (by omega), show w = 0 by omega]; rfl)
                · refine e_aload_n (q := 83) (i := 0) dX11_tried_82 rfl rfl rfl ?_
                  refine e_getR (q := 86) dX11_tried_83 rfl fg_X11_40 (by first | assumption | rfl) rfl ?_
                  refine e_getR (q := 89) dX11_tried_86 rfl fg_X11_182 (by first | assumption | rfl) rfl ?_
                  refine e_iconst (q := 90) dX11_tried_89 rfl ?_
                  refine e_Sv (q := 93) (vs := [_, _]) ok_J7_fill_53178 ml_X11_335 dX11_tried_90 rfl rfl rfl (Nat.le_of_ble_eq_true rfl) (by decide) (c_fill (m := 16) rfl rfl (by decide)) (fun s90 h90 => ?_)
                  refine e_goto (tgt := 120) dX11_tried_93 (by decide) ?_
                  subst h90
                  exact tail _ _ _ _ _ (by omega) (LR_ck hT h0) rfl (fun w hw => by unfold trR; rw [if_neg (by omega), if_neg (by omega), if_neg (by omega), if_pos (by omega), show w = 0 by omega])
              · refine e_aload_n (q := 67) (i := 0) dX11_tried_66 rfl rfl rfl ?_
                refine e_getR (q := 70) dX11_tried_67 rfl fg_X11_40 (by first | assumption | rfl) rfl ?_
                refine e_iload_n (q := 71) (i := 2) dX11_tried_70 rfl rfl rfl ?_
                refine e_putI (q := 74) (jz := 8) dX11_tried_71 rfl fp_X11_332 rfl (by first | assumption | rfl) rfl ?_
                refine e_goto (tgt := 120) dX11_tried_74 (by decide) ?_
                exact tail _ _ _ _ _ (by omega) (LR_un h0 ⟨by omega, by omega⟩) rfl (fun w hw => by unfold trR; rw [if_neg (by omega), if_neg (by omega), if_pos (by omega), show w = 0 by omega])
            · refine e_goto (tgt := 40) dX11_tried_33 (by decide) ?_
              refine e_iconst (q := 41) dX11_tried_40 rfl ?_
              exact r_i dX11_tried_41 rfl (Or.inl ⟨by omega, rfl, rfl⟩)

def cutL (a b : Int) : Int := if a < 2 then 2147483647 else a % 2 * b
def cutV (r c x : Int) : Int := if x = 0 then (if cutL r c ≤ cutL c r then 0 else 1) else if x = 1 then (if cutL r c ≤ cutL c r then r else c) / 2 else (if cutL r c ≤ cutL c r then cutL r c else cutL c r)
theorem cutL_in {a b : Int} (h0 : 0 ≤ b) (h1 : b ≤ 200) : 0 ≤ cutL a b ∧ cutL a b ≤ 2147483647 := by
  unfold cutL
  split
  · exact ⟨by decide, by decide⟩
  · rcases (show a % 2 = 0 ∨ a % 2 = 1 by omega) with q | q <;> rw [q] <;> omega
theorem gOv_pos {rw cl f : Int → Int} {p q : Int} (h : 2 ≤ gOv rw cl f p q) : 1 ≤ gCR rw f p q ∧ 1 ≤ gCC cl f p q := by
  unfold gOv at h
  constructor
  · rcases Int.lt_or_le (gCR rw f p q) 1 with a | a
    · rw [show max (gCR rw f p q) 0 = 0 by omega, Int.zero_mul] at h; omega
    · exact a
  · rcases Int.lt_or_le (gCC cl f p q) 1 with a | a
    · rw [show max (gCC cl f p q) 0 = 0 by omega, Int.mul_zero] at h; omega
    · exact a

set_option maxHeartbeats 8000000 in
theorem c_X11_cut {G : Gx} {σ : Sg} {p q x : Int} (hT : TI σ) (hI : LI σ 39) (hp : R32 p) (hq : R32 q) (hx : R32 x) : Con G 4 mX11_cut [.ref (G.2.2.2 + 0), .int (iZ p), .int (iZ q), .int (iZ x)] σ (pI (pE σ (if (((0 ≤ p ∧ p < σ.1 2 2) ∧ (0 ≤ q ∧ q < σ.1 2 2) ∧ p ≠ q) ∧ 0 ≤ x ∧ x ≤ 2) then (if gOv (σ.1 3) (σ.1 4) (σ.1 40) p q < 2 then -2 else cutV (gCR (σ.1 3) (σ.1 40) p q) (gCC (σ.1 4) (σ.1 40) p q) x) else -1))) := by
  obtain ⟨hzz, -, hnp, hnc, hnb, hlb, hrn, hsd, hrw, hrq, hch, hbt, hck⟩ := id hT
  refine e_entry om_X11_cut (Nat.le_of_ble_eq_true rfl) (L := [some (.ref (G.2.2.2 + 0)), some (.int (iZ p)), some (.int (iZ q)), some (.int (iZ x)), none, none, none, none, none]) rfl ?_
  refine e_aload_n (q := 1) (i := 0) dX11_cut_0 rfl rfl rfl ?_
  refine e_iload_n (q := 2) (i := 1) dX11_cut_1 rfl rfl rfl ?_
  refine e_iload_n (q := 3) (i := 2) dX11_cut_2 rfl rfl rfl ?_
  refine e_Vip (q := 6) (vs := [_, _]) ok_X11_isPair ml_X11_193 dX11_cut_3 rfl ⟨_, _, rfl⟩ (by first | assumption | rfl) rfl rfl (Nat.le_of_ble_eq_true rfl) (by decide) (c_X11_isPair hT (by assumption) (by assumption)) ?_
  refine e_if_eq (q := 9) (tgt := 18) dX11_cut_6 rfl (by decide) (fun c6 => ?_) (fun c6 => ?_)
  · refine e_iconst (q := 19) dX11_cut_18 rfl ?_
    exact r_i dX11_cut_19 rfl ⟨by rw [if_neg (by omega)], rfl⟩
  · refine e_iload_n (q := 10) (i := 3) dX11_cut_9 rfl rfl rfl ?_
    refine e_if_lt (q := 13) (tgt := 18) dX11_cut_10 rfl (by decide) (fun c10 => ?_) (fun c10 => ?_)
    · refine e_iconst (q := 19) dX11_cut_18 rfl ?_
      exact r_i dX11_cut_19 rfl ⟨by rw [if_neg (by omega)], rfl⟩
    · refine e_iload_n (q := 14) (i := 3) dX11_cut_13 rfl rfl rfl ?_
      refine e_iconst (q := 15) dX11_cut_14 rfl ?_
      refine e_icmp_le (q := 18) (tgt := 20) dX11_cut_15 rfl (by decide) (fun c15 => ?_) (fun c15 => ?_)
      · refine e_aload_n (q := 21) (i := 0) dX11_cut_20 rfl rfl rfl ?_
        refine e_getR (q := 24) dX11_cut_21 rfl fg_X11_36 (by first | assumption | rfl) rfl ?_
        refine e_iload_n (q := 25) (i := 1) dX11_cut_24 rfl rfl rfl ?_
        refine e_iload_n (q := 26) (i := 2) dX11_cut_25 rfl rfl rfl ?_
        have hov := gOv39 (p := p) (q := q) hT hI (by omega) (by omega) (by omega) (by omega)
        have hs1 := side39 (p := p) hT hI (by omega) (by omega)
        have hs2 := side39 (p := q) hT hI (by omega) (by omega)
        refine e_Vip (q := 29) (vs := [_, _]) ok_X2_shared ml_X11_196 dX11_cut_26 rfl ⟨_, _, rfl⟩ (by first | assumption | rfl) rfl rfl (Nat.le_of_ble_eq_true rfl) (by decide) (c39_shared hT hI (by omega) (by omega) (by omega) (by omega)) ?_
        refine e_iconst (q := 30) dX11_cut_29 rfl ?_
        refine e_icmp_ge (q := 33) (tgt := 36) dX11_cut_30 rfl (by decide) (fun c30 => ?_) (fun c30 => ?_)
        · have hpos := gOv_pos (show 2 ≤ gOv (σ.1 3) (σ.1 4) (σ.1 40) p q by omega)
          have hR : (gCR (σ.1 3) (σ.1 40) p q) ≤ 200 := by unfold gCR; omega
          have hC : (gCC (σ.1 4) (σ.1 40) p q) ≤ 200 := by unfold gCC; omega
          have h1 := cutL_in (a := (gCR (σ.1 3) (σ.1 40) p q)) (b := (gCC (σ.1 4) (σ.1 40) p q)) (by omega) hC
          have h2 := cutL_in (a := (gCC (σ.1 4) (σ.1 40) p q)) (b := (gCR (σ.1 3) (σ.1 40) p q)) (by omega) hR
          refine e_aload_n (q := 37) (i := 0) dX11_cut_36 rfl rfl rfl ?_
          refine e_getR (q := 40) dX11_cut_37 rfl fg_X11_36 (by first | assumption | rfl) rfl ?_
          refine e_iload_n (q := 41) (i := 1) dX11_cut_40 rfl rfl rfl ?_
          refine e_iload_n (q := 42) (i := 2) dX11_cut_41 rfl rfl rfl ?_
          refine e_Vip (q := 45) (vs := [_, _]) ok_X2_commonRows ml_X11_268 dX11_cut_42 rfl ⟨_, _, rfl⟩ (by first | assumption | rfl) rfl rfl (Nat.le_of_ble_eq_true rfl) (by decide) (c39_commonRows hT hI (by omega) (by omega) (by omega) (by omega)) ?_
          refine e_istore (q := 47) (L' := [_, _, _, _, _, _, _, _, _]) dX11_cut_45 rfl (by decide) rfl rfl ?_
          refine e_aload_n (q := 48) (i := 0) dX11_cut_47 rfl rfl rfl ?_
          refine e_getR (q := 51) dX11_cut_48 rfl fg_X11_36 (by first | assumption | rfl) rfl ?_
          refine e_iload_n (q := 52) (i := 1) dX11_cut_51 rfl rfl rfl ?_
          refine e_iload_n (q := 53) (i := 2) dX11_cut_52 rfl rfl rfl ?_
          refine e_Vip (q := 56) (vs := [_, _]) ok_X2_commonColumns ml_X11_271 dX11_cut_53 rfl ⟨_, _, rfl⟩ (by first | assumption | rfl) rfl rfl (Nat.le_of_ble_eq_true rfl) (by decide) (c39_commonColumns hT hI (by omega) (by omega) (by omega) (by omega)) ?_
          refine e_istore (q := 58) (L' := [_, _, _, _, _, _, _, _, _]) dX11_cut_56 rfl (by decide) rfl rfl ?_
          refine e_iload (q := 60) dX11_cut_58 rfl rfl ?_
          refine e_iconst (q := 61) dX11_cut_60 rfl ?_
          refine e_icmp_ge (q := 64) (tgt := 70) dX11_cut_61 rfl (by decide) (fun c61 => ?_) (fun c61 => ?_)
          · refine e_iload (q := 72) dX11_cut_70 rfl rfl ?_
            refine e_iconst (q := 73) dX11_cut_72 rfl ?_
            refine e_irem (q := 74) dX11_cut_73 rfl (by decide) (iZ_rem (by omega) (by omega) (by decide) (by decide)) ?_
            refine e_iload (q := 76) dX11_cut_74 rfl rfl ?_
            refine e_imul (q := 77) dX11_cut_76 rfl ?_
            rw [show (gCR (σ.1 3) (σ.1 40) p q) % 2 * (gCC (σ.1 4) (σ.1 40) p q) = cutL (gCR (σ.1 3) (σ.1 40) p q) (gCC (σ.1 4) (σ.1 40) p q) by unfold cutL; rw [if_neg (by omega)]]
            refine e_istore (q := 79) (L' := [_, _, _, _, _, _, _, _, _]) dX11_cut_77 rfl (by decide) rfl rfl ?_
            refine e_iload (q := 81) dX11_cut_79 rfl rfl ?_
            refine e_iconst (q := 82) dX11_cut_81 rfl ?_
            refine e_icmp_ge (q := 85) (tgt := 91) dX11_cut_82 rfl (by decide) (fun c82 => ?_) (fun c82 => ?_)
            · refine e_iload (q := 93) dX11_cut_91 rfl rfl ?_
              refine e_iconst (q := 94) dX11_cut_93 rfl ?_
              refine e_irem (q := 95) dX11_cut_94 rfl (by decide) (iZ_rem (by omega) (by omega) (by decide) (by decide)) ?_
              refine e_iload (q := 97) dX11_cut_95 rfl rfl ?_
              refine e_imul (q := 98) dX11_cut_97 rfl ?_
              rw [show (gCC (σ.1 4) (σ.1 40) p q) % 2 * (gCR (σ.1 3) (σ.1 40) p q) = cutL (gCC (σ.1 4) (σ.1 40) p q) (gCR (σ.1 3) (σ.1 40) p q) by unfold cutL; rw [if_neg (by omega)]]
              refine e_istore (q := 100) (L' := [_, _, _, _, _, _, _, _, _]) dX11_cut_98 rfl (by decide) rfl rfl ?_
              refine e_iload (q := 102) dX11_cut_100 rfl rfl ?_
              refine e_iload (q := 104) dX11_cut_102 rfl rfl ?_
              refine e_icmp_gt (q := 107) (tgt := 111) dX11_cut_104 rfl (by decide) (fun c104 => ?_) (fun c104 => ?_) (hx := ⟨by omega, by omega⟩) (hy := ⟨by omega, by omega⟩)
              · refine e_iconst (q := 112) dX11_cut_111 rfl ?_
                refine e_istore (q := 114) (L' := [_, _, _, _, _, _, _, _, _]) dX11_cut_112 rfl (by decide) rfl rfl ?_
                refine e_iload_n (q := 115) (i := 3) dX11_cut_114 rfl rfl rfl ?_
                by_cases k115_0 : x = 0
                · refine e_look (tgt := 140) dX11_cut_115 (by decide) hx (by rw [k115_0]; try rfl) (by decide) ?_
                  refine e_iload (q := 142) dX11_cut_140 rfl rfl ?_
                  refine e_if_eq (q := 145) (tgt := 149) dX11_cut_142 rfl (by decide) (fun c142 => ?_) (fun c142 => absurd (by omega) c142)
                  refine e_iconst (q := 150) dX11_cut_149 rfl ?_
                  exact r_i dX11_cut_150 rfl ⟨by rw [if_pos (show (((0 ≤ p ∧ p < σ.1 2 2) ∧ (0 ≤ q ∧ q < σ.1 2 2) ∧ p ≠ q) ∧ 0 ≤ x ∧ x ≤ 2) by omega), if_neg (show ¬ gOv (σ.1 3) (σ.1 4) (σ.1 40) p q < 2 by omega)]; unfold cutV; rw [if_pos k115_0, if_neg (by omega)], rfl⟩
                by_cases k115_1 : x = 1
                · refine e_look (tgt := 151) dX11_cut_115 (by decide) hx (by rw [k115_1]; try rfl) (by decide) ?_
                  refine e_iload (q := 153) dX11_cut_151 rfl rfl ?_
                  refine e_if_eq (q := 156) (tgt := 161) dX11_cut_153 rfl (by decide) (fun c153 => ?_) (fun c153 => absurd (by omega) c153)
                  refine e_iload (q := 163) dX11_cut_161 rfl rfl ?_
                  refine e_iconst (q := 164) dX11_cut_163 rfl ?_
                  refine e_idiv (q := 165) dX11_cut_164 rfl (by decide) (iZ_div (by omega) (by omega) (by decide) (by decide)) ?_
                  exact r_i dX11_cut_165 rfl ⟨by rw [if_pos (show (((0 ≤ p ∧ p < σ.1 2 2) ∧ (0 ≤ q ∧ q < σ.1 2 2) ∧ p ≠ q) ∧ 0 ≤ x ∧ x ≤ 2) by omega), if_neg (show ¬ gOv (σ.1 3) (σ.1 4) (σ.1 40) p q < 2 by omega)]; unfold cutV; rw [if_neg k115_0, if_pos k115_1, if_neg (by omega)], rfl⟩
                refine e_look (off := 51) (tgt := 166) dX11_cut_115 (by decide) hx (by show Op.lookupswitch.offset [(0, 25), (1, 36)] (51) (x) = 51; rw [Op.lookupswitch.offset_cons, if_neg (by omega), Op.lookupswitch.offset_cons, if_neg (by omega)]; rfl) (by decide) ?_
                refine e_iload (q := 168) dX11_cut_166 rfl rfl ?_
                refine e_if_eq (q := 171) (tgt := 176) dX11_cut_168 rfl (by decide) (fun c168 => ?_) (fun c168 => absurd (by omega) c168)
                refine e_iload (q := 178) dX11_cut_176 rfl rfl ?_
                exact r_i dX11_cut_178 rfl ⟨by rw [if_pos (show (((0 ≤ p ∧ p < σ.1 2 2) ∧ (0 ≤ q ∧ q < σ.1 2 2) ∧ p ≠ q) ∧ 0 ≤ x ∧ x ≤ 2) by omega), if_neg (show ¬ gOv (σ.1 3) (σ.1 4) (σ.1 40) p q < 2 by omega)]; unfold cutV; rw [if_neg k115_0, if_neg k115_1, if_neg (by omega)], rfl⟩
              · refine e_iconst (q := 108) dX11_cut_107 rfl ?_
                refine e_goto (tgt := 112) dX11_cut_108 (by decide) ?_
                refine e_istore (q := 114) (L' := [_, _, _, _, _, _, _, _, _]) dX11_cut_112 rfl (by decide) rfl rfl ?_
                refine e_iload_n (q := 115) (i := 3) dX11_cut_114 rfl rfl rfl ?_
                by_cases k115_0 : x = 0
                · refine e_look (tgt := 140) dX11_cut_115 (by decide) hx (by rw [k115_0]; try rfl) (by decide) ?_
                  refine e_iload (q := 142) dX11_cut_140 rfl rfl ?_
                  refine e_if_eq (q := 145) (tgt := 149) dX11_cut_142 rfl (by decide) (fun c142 => absurd c142 (by omega)) (fun c142 => ?_)
                  refine e_iconst (q := 146) dX11_cut_145 rfl ?_
                  refine e_goto (tgt := 150) dX11_cut_146 (by decide) ?_
                  exact r_i dX11_cut_150 rfl ⟨by rw [if_pos (show (((0 ≤ p ∧ p < σ.1 2 2) ∧ (0 ≤ q ∧ q < σ.1 2 2) ∧ p ≠ q) ∧ 0 ≤ x ∧ x ≤ 2) by omega), if_neg (show ¬ gOv (σ.1 3) (σ.1 4) (σ.1 40) p q < 2 by omega)]; unfold cutV; rw [if_pos k115_0, if_pos (by omega)], rfl⟩
                by_cases k115_1 : x = 1
                · refine e_look (tgt := 151) dX11_cut_115 (by decide) hx (by rw [k115_1]; try rfl) (by decide) ?_
                  refine e_iload (q := 153) dX11_cut_151 rfl rfl ?_
                  refine e_if_eq (q := 156) (tgt := 161) dX11_cut_153 rfl (by decide) (fun c153 => absurd c153 (by omega)) (fun c153 => ?_)
                  refine e_iload (q := 158) dX11_cut_156 rfl rfl ?_
                  refine e_goto (tgt := 163) dX11_cut_158 (by decide) ?_
                  refine e_iconst (q := 164) dX11_cut_163 rfl ?_
                  refine e_idiv (q := 165) dX11_cut_164 rfl (by decide) (iZ_div (by omega) (by omega) (by decide) (by decide)) ?_
                  exact r_i dX11_cut_165 rfl ⟨by rw [if_pos (show (((0 ≤ p ∧ p < σ.1 2 2) ∧ (0 ≤ q ∧ q < σ.1 2 2) ∧ p ≠ q) ∧ 0 ≤ x ∧ x ≤ 2) by omega), if_neg (show ¬ gOv (σ.1 3) (σ.1 4) (σ.1 40) p q < 2 by omega)]; unfold cutV; rw [if_neg k115_0, if_pos k115_1, if_pos (by omega)], rfl⟩
                refine e_look (off := 51) (tgt := 166) dX11_cut_115 (by decide) hx (by show Op.lookupswitch.offset [(0, 25), (1, 36)] (51) (x) = 51; rw [Op.lookupswitch.offset_cons, if_neg (by omega), Op.lookupswitch.offset_cons, if_neg (by omega)]; rfl) (by decide) ?_
                refine e_iload (q := 168) dX11_cut_166 rfl rfl ?_
                refine e_if_eq (q := 171) (tgt := 176) dX11_cut_168 rfl (by decide) (fun c168 => absurd c168 (by omega)) (fun c168 => ?_)
                refine e_iload (q := 173) dX11_cut_171 rfl rfl ?_
                refine e_goto (tgt := 178) dX11_cut_173 (by decide) ?_
                exact r_i dX11_cut_178 rfl ⟨by rw [if_pos (show (((0 ≤ p ∧ p < σ.1 2 2) ∧ (0 ≤ q ∧ q < σ.1 2 2) ∧ p ≠ q) ∧ 0 ≤ x ∧ x ≤ 2) by omega), if_neg (show ¬ gOv (σ.1 3) (σ.1 4) (σ.1 40) p q < 2 by omega)]; unfold cutV; rw [if_neg k115_0, if_neg k115_1, if_pos (by omega)], rfl⟩
            · refine e_ldcw (q := 88) (z := 2147483647) dX11_cut_85 rfl kw_X11_276 (by decide) ?_
              refine e_goto (tgt := 98) dX11_cut_88 (by decide) ?_
              have ec2 : cutL (gCC (σ.1 4) (σ.1 40) p q) (gCR (σ.1 3) (σ.1 40) p q) = 2147483647 := by unfold cutL; rw [if_pos (by omega)]
              rw [← ec2]
              refine e_istore (q := 100) (L' := [_, _, _, _, _, _, _, _, _]) dX11_cut_98 rfl (by decide) rfl rfl ?_
              refine e_iload (q := 102) dX11_cut_100 rfl rfl ?_
              refine e_iload (q := 104) dX11_cut_102 rfl rfl ?_
              refine e_icmp_gt (q := 107) (tgt := 111) dX11_cut_104 rfl (by decide) (fun c104 => ?_) (fun c104 => ?_) (hx := ⟨by omega, by omega⟩) (hy := ⟨by omega, by omega⟩)
              · refine e_iconst (q := 112) dX11_cut_111 rfl ?_
                refine e_istore (q := 114) (L' := [_, _, _, _, _, _, _, _, _]) dX11_cut_112 rfl (by decide) rfl rfl ?_
                refine e_iload_n (q := 115) (i := 3) dX11_cut_114 rfl rfl rfl ?_
                by_cases k115_0 : x = 0
                · refine e_look (tgt := 140) dX11_cut_115 (by decide) hx (by rw [k115_0]; try rfl) (by decide) ?_
                  refine e_iload (q := 142) dX11_cut_140 rfl rfl ?_
                  refine e_if_eq (q := 145) (tgt := 149) dX11_cut_142 rfl (by decide) (fun c142 => ?_) (fun c142 => absurd (by omega) c142)
                  refine e_iconst (q := 150) dX11_cut_149 rfl ?_
                  exact r_i dX11_cut_150 rfl ⟨by rw [if_pos (show (((0 ≤ p ∧ p < σ.1 2 2) ∧ (0 ≤ q ∧ q < σ.1 2 2) ∧ p ≠ q) ∧ 0 ≤ x ∧ x ≤ 2) by omega), if_neg (show ¬ gOv (σ.1 3) (σ.1 4) (σ.1 40) p q < 2 by omega)]; unfold cutV; rw [if_pos k115_0, if_neg (by omega)], rfl⟩
                by_cases k115_1 : x = 1
                · refine e_look (tgt := 151) dX11_cut_115 (by decide) hx (by rw [k115_1]; try rfl) (by decide) ?_
                  refine e_iload (q := 153) dX11_cut_151 rfl rfl ?_
                  refine e_if_eq (q := 156) (tgt := 161) dX11_cut_153 rfl (by decide) (fun c153 => ?_) (fun c153 => absurd (by omega) c153)
                  refine e_iload (q := 163) dX11_cut_161 rfl rfl ?_
                  refine e_iconst (q := 164) dX11_cut_163 rfl ?_
                  refine e_idiv (q := 165) dX11_cut_164 rfl (by decide) (iZ_div (by omega) (by omega) (by decide) (by decide)) ?_
                  exact r_i dX11_cut_165 rfl ⟨by rw [if_pos (show (((0 ≤ p ∧ p < σ.1 2 2) ∧ (0 ≤ q ∧ q < σ.1 2 2) ∧ p ≠ q) ∧ 0 ≤ x ∧ x ≤ 2) by omega), if_neg (show ¬ gOv (σ.1 3) (σ.1 4) (σ.1 40) p q < 2 by omega)]; unfold cutV; rw [if_neg k115_0, if_pos k115_1, if_neg (by omega)], rfl⟩
                refine e_look (off := 51) (tgt := 166) dX11_cut_115 (by decide) hx (by show Op.lookupswitch.offset [(0, 25), (1, 36)] (51) (x) = 51; rw [Op.lookupswitch.offset_cons, if_neg (by omega), Op.lookupswitch.offset_cons, if_neg (by omega)]; rfl) (by decide) ?_
                refine e_iload (q := 168) dX11_cut_166 rfl rfl ?_
                refine e_if_eq (q := 171) (tgt := 176) dX11_cut_168 rfl (by decide) (fun c168 => ?_) (fun c168 => absurd (by omega) c168)
                refine e_iload (q := 178) dX11_cut_176 rfl rfl ?_
                exact r_i dX11_cut_178 rfl ⟨by rw [if_pos (show (((0 ≤ p ∧ p < σ.1 2 2) ∧ (0 ≤ q ∧ q < σ.1 2 2) ∧ p ≠ q) ∧ 0 ≤ x ∧ x ≤ 2) by omega), if_neg (show ¬ gOv (σ.1 3) (σ.1 4) (σ.1 40) p q < 2 by omega)]; unfold cutV; rw [if_neg k115_0, if_neg k115_1, if_neg (by omega)], rfl⟩
              · refine e_iconst (q := 108) dX11_cut_107 rfl ?_
                refine e_goto (tgt := 112) dX11_cut_108 (by decide) ?_
                refine e_istore (q := 114) (L' := [_, _, _, _, _, _, _, _, _]) dX11_cut_112 rfl (by decide) rfl rfl ?_
                refine e_iload_n (q := 115) (i := 3) dX11_cut_114 rfl rfl rfl ?_
                by_cases k115_0 : x = 0
                · refine e_look (tgt := 140) dX11_cut_115 (by decide) hx (by rw [k115_0]; try rfl) (by decide) ?_
                  refine e_iload (q := 142) dX11_cut_140 rfl rfl ?_
                  refine e_if_eq (q := 145) (tgt := 149) dX11_cut_142 rfl (by decide) (fun c142 => absurd c142 (by omega)) (fun c142 => ?_)
                  refine e_iconst (q := 146) dX11_cut_145 rfl ?_
                  refine e_goto (tgt := 150) dX11_cut_146 (by decide) ?_
                  exact r_i dX11_cut_150 rfl ⟨by rw [if_pos (show (((0 ≤ p ∧ p < σ.1 2 2) ∧ (0 ≤ q ∧ q < σ.1 2 2) ∧ p ≠ q) ∧ 0 ≤ x ∧ x ≤ 2) by omega), if_neg (show ¬ gOv (σ.1 3) (σ.1 4) (σ.1 40) p q < 2 by omega)]; unfold cutV; rw [if_pos k115_0, if_pos (by omega)], rfl⟩
                by_cases k115_1 : x = 1
                · refine e_look (tgt := 151) dX11_cut_115 (by decide) hx (by rw [k115_1]; try rfl) (by decide) ?_
                  refine e_iload (q := 153) dX11_cut_151 rfl rfl ?_
                  refine e_if_eq (q := 156) (tgt := 161) dX11_cut_153 rfl (by decide) (fun c153 => absurd c153 (by omega)) (fun c153 => ?_)
                  refine e_iload (q := 158) dX11_cut_156 rfl rfl ?_
                  refine e_goto (tgt := 163) dX11_cut_158 (by decide) ?_
                  refine e_iconst (q := 164) dX11_cut_163 rfl ?_
                  refine e_idiv (q := 165) dX11_cut_164 rfl (by decide) (iZ_div (by omega) (by omega) (by decide) (by decide)) ?_
                  exact r_i dX11_cut_165 rfl ⟨by rw [if_pos (show (((0 ≤ p ∧ p < σ.1 2 2) ∧ (0 ≤ q ∧ q < σ.1 2 2) ∧ p ≠ q) ∧ 0 ≤ x ∧ x ≤ 2) by omega), if_neg (show ¬ gOv (σ.1 3) (σ.1 4) (σ.1 40) p q < 2 by omega)]; unfold cutV; rw [if_neg k115_0, if_pos k115_1, if_pos (by omega)], rfl⟩
                refine e_look (off := 51) (tgt := 166) dX11_cut_115 (by decide) hx (by show Op.lookupswitch.offset [(0, 25), (1, 36)] (51) (x) = 51; rw [Op.lookupswitch.offset_cons, if_neg (by omega), Op.lookupswitch.offset_cons, if_neg (by omega)]; rfl) (by decide) ?_
                refine e_iload (q := 168) dX11_cut_166 rfl rfl ?_
                refine e_if_eq (q := 171) (tgt := 176) dX11_cut_168 rfl (by decide) (fun c168 => absurd c168 (by omega)) (fun c168 => ?_)
                refine e_iload (q := 173) dX11_cut_171 rfl rfl ?_
                refine e_goto (tgt := 178) dX11_cut_173 (by decide) ?_
                exact r_i dX11_cut_178 rfl ⟨by rw [if_pos (show (((0 ≤ p ∧ p < σ.1 2 2) ∧ (0 ≤ q ∧ q < σ.1 2 2) ∧ p ≠ q) ∧ 0 ≤ x ∧ x ≤ 2) by omega), if_neg (show ¬ gOv (σ.1 3) (σ.1 4) (σ.1 40) p q < 2 by omega)]; unfold cutV; rw [if_neg k115_0, if_neg k115_1, if_pos (by omega)], rfl⟩
          · refine e_ldcw (q := 67) (z := 2147483647) dX11_cut_64 rfl kw_X11_276 (by decide) ?_
            refine e_goto (tgt := 77) dX11_cut_67 (by decide) ?_
            have ec1 : cutL (gCR (σ.1 3) (σ.1 40) p q) (gCC (σ.1 4) (σ.1 40) p q) = 2147483647 := by unfold cutL; rw [if_pos (by omega)]
            rw [← ec1]
            refine e_istore (q := 79) (L' := [_, _, _, _, _, _, _, _, _]) dX11_cut_77 rfl (by decide) rfl rfl ?_
            refine e_iload (q := 81) dX11_cut_79 rfl rfl ?_
            refine e_iconst (q := 82) dX11_cut_81 rfl ?_
            refine e_icmp_ge (q := 85) (tgt := 91) dX11_cut_82 rfl (by decide) (fun c82 => ?_) (fun c82 => ?_)
            · refine e_iload (q := 93) dX11_cut_91 rfl rfl ?_
              refine e_iconst (q := 94) dX11_cut_93 rfl ?_
              refine e_irem (q := 95) dX11_cut_94 rfl (by decide) (iZ_rem (by omega) (by omega) (by decide) (by decide)) ?_
              refine e_iload (q := 97) dX11_cut_95 rfl rfl ?_
              refine e_imul (q := 98) dX11_cut_97 rfl ?_
              rw [show (gCC (σ.1 4) (σ.1 40) p q) % 2 * (gCR (σ.1 3) (σ.1 40) p q) = cutL (gCC (σ.1 4) (σ.1 40) p q) (gCR (σ.1 3) (σ.1 40) p q) by unfold cutL; rw [if_neg (by omega)]]
              refine e_istore (q := 100) (L' := [_, _, _, _, _, _, _, _, _]) dX11_cut_98 rfl (by decide) rfl rfl ?_
              refine e_iload (q := 102) dX11_cut_100 rfl rfl ?_
              refine e_iload (q := 104) dX11_cut_102 rfl rfl ?_
              refine e_icmp_gt (q := 107) (tgt := 111) dX11_cut_104 rfl (by decide) (fun c104 => ?_) (fun c104 => ?_) (hx := ⟨by omega, by omega⟩) (hy := ⟨by omega, by omega⟩)
              · refine e_iconst (q := 112) dX11_cut_111 rfl ?_
                refine e_istore (q := 114) (L' := [_, _, _, _, _, _, _, _, _]) dX11_cut_112 rfl (by decide) rfl rfl ?_
                refine e_iload_n (q := 115) (i := 3) dX11_cut_114 rfl rfl rfl ?_
                by_cases k115_0 : x = 0
                · refine e_look (tgt := 140) dX11_cut_115 (by decide) hx (by rw [k115_0]; try rfl) (by decide) ?_
                  refine e_iload (q := 142) dX11_cut_140 rfl rfl ?_
                  refine e_if_eq (q := 145) (tgt := 149) dX11_cut_142 rfl (by decide) (fun c142 => ?_) (fun c142 => absurd (by omega) c142)
                  refine e_iconst (q := 150) dX11_cut_149 rfl ?_
                  exact r_i dX11_cut_150 rfl ⟨by rw [if_pos (show (((0 ≤ p ∧ p < σ.1 2 2) ∧ (0 ≤ q ∧ q < σ.1 2 2) ∧ p ≠ q) ∧ 0 ≤ x ∧ x ≤ 2) by omega), if_neg (show ¬ gOv (σ.1 3) (σ.1 4) (σ.1 40) p q < 2 by omega)]; unfold cutV; rw [if_pos k115_0, if_neg (by omega)], rfl⟩
                by_cases k115_1 : x = 1
                · refine e_look (tgt := 151) dX11_cut_115 (by decide) hx (by rw [k115_1]; try rfl) (by decide) ?_
                  refine e_iload (q := 153) dX11_cut_151 rfl rfl ?_
                  refine e_if_eq (q := 156) (tgt := 161) dX11_cut_153 rfl (by decide) (fun c153 => ?_) (fun c153 => absurd (by omega) c153)
                  refine e_iload (q := 163) dX11_cut_161 rfl rfl ?_
                  refine e_iconst (q := 164) dX11_cut_163 rfl ?_
                  refine e_idiv (q := 165) dX11_cut_164 rfl (by decide) (iZ_div (by omega) (by omega) (by decide) (by decide)) ?_
                  exact r_i dX11_cut_165 rfl ⟨by rw [if_pos (show (((0 ≤ p ∧ p < σ.1 2 2) ∧ (0 ≤ q ∧ q < σ.1 2 2) ∧ p ≠ q) ∧ 0 ≤ x ∧ x ≤ 2) by omega), if_neg (show ¬ gOv (σ.1 3) (σ.1 4) (σ.1 40) p q < 2 by omega)]; unfold cutV; rw [if_neg k115_0, if_pos k115_1, if_neg (by omega)], rfl⟩
                refine e_look (off := 51) (tgt := 166) dX11_cut_115 (by decide) hx (by show Op.lookupswitch.offset [(0, 25), (1, 36)] (51) (x) = 51; rw [Op.lookupswitch.offset_cons, if_neg (by omega), Op.lookupswitch.offset_cons, if_neg (by omega)]; rfl) (by decide) ?_
                refine e_iload (q := 168) dX11_cut_166 rfl rfl ?_
                refine e_if_eq (q := 171) (tgt := 176) dX11_cut_168 rfl (by decide) (fun c168 => ?_) (fun c168 => absurd (by omega) c168)
                refine e_iload (q := 178) dX11_cut_176 rfl rfl ?_
                exact r_i dX11_cut_178 rfl ⟨by rw [if_pos (show (((0 ≤ p ∧ p < σ.1 2 2) ∧ (0 ≤ q ∧ q < σ.1 2 2) ∧ p ≠ q) ∧ 0 ≤ x ∧ x ≤ 2) by omega), if_neg (show ¬ gOv (σ.1 3) (σ.1 4) (σ.1 40) p q < 2 by omega)]; unfold cutV; rw [if_neg k115_0, if_neg k115_1, if_neg (by omega)], rfl⟩
              · refine e_iconst (q := 108) dX11_cut_107 rfl ?_
                refine e_goto (tgt := 112) dX11_cut_108 (by decide) ?_
                refine e_istore (q := 114) (L' := [_, _, _, _, _, _, _, _, _]) dX11_cut_112 rfl (by decide) rfl rfl ?_
                refine e_iload_n (q := 115) (i := 3) dX11_cut_114 rfl rfl rfl ?_
                by_cases k115_0 : x = 0
                · refine e_look (tgt := 140) dX11_cut_115 (by decide) hx (by rw [k115_0]; try rfl) (by decide) ?_
                  refine e_iload (q := 142) dX11_cut_140 rfl rfl ?_
                  refine e_if_eq (q := 145) (tgt := 149) dX11_cut_142 rfl (by decide) (fun c142 => absurd c142 (by omega)) (fun c142 => ?_)
                  refine e_iconst (q := 146) dX11_cut_145 rfl ?_
                  refine e_goto (tgt := 150) dX11_cut_146 (by decide) ?_
                  exact r_i dX11_cut_150 rfl ⟨by rw [if_pos (show (((0 ≤ p ∧ p < σ.1 2 2) ∧ (0 ≤ q ∧ q < σ.1 2 2) ∧ p ≠ q) ∧ 0 ≤ x ∧ x ≤ 2) by omega), if_neg (show ¬ gOv (σ.1 3) (σ.1 4) (σ.1 40) p q < 2 by omega)]; unfold cutV; rw [if_pos k115_0, if_pos (by omega)], rfl⟩
                by_cases k115_1 : x = 1
                · refine e_look (tgt := 151) dX11_cut_115 (by decide) hx (by rw [k115_1]; try rfl) (by decide) ?_
                  refine e_iload (q := 153) dX11_cut_151 rfl rfl ?_
                  refine e_if_eq (q := 156) (tgt := 161) dX11_cut_153 rfl (by decide) (fun c153 => absurd c153 (by omega)) (fun c153 => ?_)
                  refine e_iload (q := 158) dX11_cut_156 rfl rfl ?_
                  refine e_goto (tgt := 163) dX11_cut_158 (by decide) ?_
                  refine e_iconst (q := 164) dX11_cut_163 rfl ?_
                  refine e_idiv (q := 165) dX11_cut_164 rfl (by decide) (iZ_div (by omega) (by omega) (by decide) (by decide)) ?_
                  exact r_i dX11_cut_165 rfl ⟨by rw [if_pos (show (((0 ≤ p ∧ p < σ.1 2 2) ∧ (0 ≤ q ∧ q < σ.1 2 2) ∧ p ≠ q) ∧ 0 ≤ x ∧ x ≤ 2) by omega), if_neg (show ¬ gOv (σ.1 3) (σ.1 4) (σ.1 40) p q < 2 by omega)]; unfold cutV; rw [if_neg k115_0, if_pos k115_1, if_pos (by omega)], rfl⟩
                refine e_look (off := 51) (tgt := 166) dX11_cut_115 (by decide) hx (by show Op.lookupswitch.offset [(0, 25), (1, 36)] (51) (x) = 51; rw [Op.lookupswitch.offset_cons, if_neg (by omega), Op.lookupswitch.offset_cons, if_neg (by omega)]; rfl) (by decide) ?_
                refine e_iload (q := 168) dX11_cut_166 rfl rfl ?_
                refine e_if_eq (q := 171) (tgt := 176) dX11_cut_168 rfl (by decide) (fun c168 => absurd c168 (by omega)) (fun c168 => ?_)
                refine e_iload (q := 173) dX11_cut_171 rfl rfl ?_
                refine e_goto (tgt := 178) dX11_cut_173 (by decide) ?_
                exact r_i dX11_cut_178 rfl ⟨by rw [if_pos (show (((0 ≤ p ∧ p < σ.1 2 2) ∧ (0 ≤ q ∧ q < σ.1 2 2) ∧ p ≠ q) ∧ 0 ≤ x ∧ x ≤ 2) by omega), if_neg (show ¬ gOv (σ.1 3) (σ.1 4) (σ.1 40) p q < 2 by omega)]; unfold cutV; rw [if_neg k115_0, if_neg k115_1, if_pos (by omega)], rfl⟩
            · refine e_ldcw (q := 88) (z := 2147483647) dX11_cut_85 rfl kw_X11_276 (by decide) ?_
              refine e_goto (tgt := 98) dX11_cut_88 (by decide) ?_
              have ec2 : cutL (gCC (σ.1 4) (σ.1 40) p q) (gCR (σ.1 3) (σ.1 40) p q) = 2147483647 := by unfold cutL; rw [if_pos (by omega)]
              rw [← ec2]
              refine e_istore (q := 100) (L' := [_, _, _, _, _, _, _, _, _]) dX11_cut_98 rfl (by decide) rfl rfl ?_
              refine e_iload (q := 102) dX11_cut_100 rfl rfl ?_
              refine e_iload (q := 104) dX11_cut_102 rfl rfl ?_
              refine e_icmp_gt (q := 107) (tgt := 111) dX11_cut_104 rfl (by decide) (fun c104 => ?_) (fun c104 => ?_) (hx := ⟨by omega, by omega⟩) (hy := ⟨by omega, by omega⟩)
              · refine e_iconst (q := 112) dX11_cut_111 rfl ?_
                refine e_istore (q := 114) (L' := [_, _, _, _, _, _, _, _, _]) dX11_cut_112 rfl (by decide) rfl rfl ?_
                refine e_iload_n (q := 115) (i := 3) dX11_cut_114 rfl rfl rfl ?_
                by_cases k115_0 : x = 0
                · refine e_look (tgt := 140) dX11_cut_115 (by decide) hx (by rw [k115_0]; try rfl) (by decide) ?_
                  refine e_iload (q := 142) dX11_cut_140 rfl rfl ?_
                  refine e_if_eq (q := 145) (tgt := 149) dX11_cut_142 rfl (by decide) (fun c142 => ?_) (fun c142 => absurd (by omega) c142)
                  refine e_iconst (q := 150) dX11_cut_149 rfl ?_
                  exact r_i dX11_cut_150 rfl ⟨by rw [if_pos (show (((0 ≤ p ∧ p < σ.1 2 2) ∧ (0 ≤ q ∧ q < σ.1 2 2) ∧ p ≠ q) ∧ 0 ≤ x ∧ x ≤ 2) by omega), if_neg (show ¬ gOv (σ.1 3) (σ.1 4) (σ.1 40) p q < 2 by omega)]; unfold cutV; rw [if_pos k115_0, if_neg (by omega)], rfl⟩
                by_cases k115_1 : x = 1
                · refine e_look (tgt := 151) dX11_cut_115 (by decide) hx (by rw [k115_1]; try rfl) (by decide) ?_
                  refine e_iload (q := 153) dX11_cut_151 rfl rfl ?_
                  refine e_if_eq (q := 156) (tgt := 161) dX11_cut_153 rfl (by decide) (fun c153 => ?_) (fun c153 => absurd (by omega) c153)
                  refine e_iload (q := 163) dX11_cut_161 rfl rfl ?_
                  refine e_iconst (q := 164) dX11_cut_163 rfl ?_
                  refine e_idiv (q := 165) dX11_cut_164 rfl (by decide) (iZ_div (by omega) (by omega) (by decide) (by decide)) ?_
                  exact r_i dX11_cut_165 rfl ⟨by rw [if_pos (show (((0 ≤ p ∧ p < σ.1 2 2) ∧ (0 ≤ q ∧ q < σ.1 2 2) ∧ p ≠ q) ∧ 0 ≤ x ∧ x ≤ 2) by omega), if_neg (show ¬ gOv (σ.1 3) (σ.1 4) (σ.1 40) p q < 2 by omega)]; unfold cutV; rw [if_neg k115_0, if_pos k115_1, if_neg (by omega)], rfl⟩
                refine e_look (off := 51) (tgt := 166) dX11_cut_115 (by decide) hx (by show Op.lookupswitch.offset [(0, 25), (1, 36)] (51) (x) = 51; rw [Op.lookupswitch.offset_cons, if_neg (by omega), Op.lookupswitch.offset_cons, if_neg (by omega)]; rfl) (by decide) ?_
                refine e_iload (q := 168) dX11_cut_166 rfl rfl ?_
                refine e_if_eq (q := 171) (tgt := 176) dX11_cut_168 rfl (by decide) (fun c168 => ?_) (fun c168 => absurd (by omega) c168)
                refine e_iload (q := 178) dX11_cut_176 rfl rfl ?_
                exact r_i dX11_cut_178 rfl ⟨by rw [if_pos (show (((0 ≤ p ∧ p < σ.1 2 2) ∧ (0 ≤ q ∧ q < σ.1 2 2) ∧ p ≠ q) ∧ 0 ≤ x ∧ x ≤ 2) by omega), if_neg (show ¬ gOv (σ.1 3) (σ.1 4) (σ.1 40) p q < 2 by omega)]; unfold cutV; rw [if_neg k115_0, if_neg k115_1, if_neg (by omega)], rfl⟩
              · refine e_iconst (q := 108) dX11_cut_107 rfl ?_
                refine e_goto (tgt := 112) dX11_cut_108 (by decide) ?_
                refine e_istore (q := 114) (L' := [_, _, _, _, _, _, _, _, _]) dX11_cut_112 rfl (by decide) rfl rfl ?_
                refine e_iload_n (q := 115) (i := 3) dX11_cut_114 rfl rfl rfl ?_
                by_cases k115_0 : x = 0
                · refine e_look (tgt := 140) dX11_cut_115 (by decide) hx (by rw [k115_0]; try rfl) (by decide) ?_
                  refine e_iload (q := 142) dX11_cut_140 rfl rfl ?_
                  refine e_if_eq (q := 145) (tgt := 149) dX11_cut_142 rfl (by decide) (fun c142 => absurd c142 (by omega)) (fun c142 => ?_)
                  refine e_iconst (q := 146) dX11_cut_145 rfl ?_
                  refine e_goto (tgt := 150) dX11_cut_146 (by decide) ?_
                  exact r_i dX11_cut_150 rfl ⟨by rw [if_pos (show (((0 ≤ p ∧ p < σ.1 2 2) ∧ (0 ≤ q ∧ q < σ.1 2 2) ∧ p ≠ q) ∧ 0 ≤ x ∧ x ≤ 2) by omega), if_neg (show ¬ gOv (σ.1 3) (σ.1 4) (σ.1 40) p q < 2 by omega)]; unfold cutV; rw [if_pos k115_0, if_pos (by omega)], rfl⟩
                by_cases k115_1 : x = 1
                · refine e_look (tgt := 151) dX11_cut_115 (by decide) hx (by rw [k115_1]; try rfl) (by decide) ?_
                  refine e_iload (q := 153) dX11_cut_151 rfl rfl ?_
                  refine e_if_eq (q := 156) (tgt := 161) dX11_cut_153 rfl (by decide) (fun c153 => absurd c153 (by omega)) (fun c153 => ?_)
                  refine e_iload (q := 158) dX11_cut_156 rfl rfl ?_
                  refine e_goto (tgt := 163) dX11_cut_158 (by decide) ?_
                  refine e_iconst (q := 164) dX11_cut_163 rfl ?_
                  refine e_idiv (q := 165) dX11_cut_164 rfl (by decide) (iZ_div (by omega) (by omega) (by decide) (by decide)) ?_
                  exact r_i dX11_cut_165 rfl ⟨by rw [if_pos (show (((0 ≤ p ∧ p < σ.1 2 2) ∧ (0 ≤ q ∧ q < σ.1 2 2) ∧ p ≠ q) ∧ 0 ≤ x ∧ x ≤ 2) by omega), if_neg (show ¬ gOv (σ.1 3) (σ.1 4) (σ.1 40) p q < 2 by omega)]; unfold cutV; rw [if_neg k115_0, if_pos k115_1, if_pos (by omega)], rfl⟩
                refine e_look (off := 51) (tgt := 166) dX11_cut_115 (by decide) hx (by show Op.lookupswitch.offset [(0, 25), (1, 36)] (51) (x) = 51; rw [Op.lookupswitch.offset_cons, if_neg (by omega), Op.lookupswitch.offset_cons, if_neg (by omega)]; rfl) (by decide) ?_
                refine e_iload (q := 168) dX11_cut_166 rfl rfl ?_
                refine e_if_eq (q := 171) (tgt := 176) dX11_cut_168 rfl (by decide) (fun c168 => absurd c168 (by omega)) (fun c168 => ?_)
                refine e_iload (q := 173) dX11_cut_171 rfl rfl ?_
                refine e_goto (tgt := 178) dX11_cut_173 (by decide) ?_
                exact r_i dX11_cut_178 rfl ⟨by rw [if_pos (show (((0 ≤ p ∧ p < σ.1 2 2) ∧ (0 ≤ q ∧ q < σ.1 2 2) ∧ p ≠ q) ∧ 0 ≤ x ∧ x ≤ 2) by omega), if_neg (show ¬ gOv (σ.1 3) (σ.1 4) (σ.1 40) p q < 2 by omega)]; unfold cutV; rw [if_neg k115_0, if_neg k115_1, if_pos (by omega)], rfl⟩
        · refine e_bipush (q := 35) dX11_cut_33 rfl (by decide) ?_
          exact r_i dX11_cut_35 rfl ⟨by rw [if_pos (by omega), if_pos (by omega)], rfl⟩
      · refine e_iconst (q := 19) dX11_cut_18 rfl ?_
        exact r_i dX11_cut_19 rfl ⟨by rw [if_neg (by omega)], rfl⟩

