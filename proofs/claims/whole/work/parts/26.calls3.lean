set_option maxHeartbeats 4000000 in
theorem c_X11_go {G : Gx} {σ : Sg} {m : Int} (hT : TI σ) (hB : TB σ) (hW : LW σ) (hI : LI σ 39) (hY : σ.1 39 6 ≤ 9800) (hm : R32 m) : Con G 8 mX11_go [.ref (G.2.2.2 + 0), .int (iZ m)] σ (pI (fun z σ' => (¬ (0 ≤ m ∧ m ≤ 200 ∧ m ≤ 9800 - σ.1 39 6) ∧ z = -1 ∧ σ' = σ) ∨ ((0 ≤ m ∧ m ≤ 200 ∧ m ≤ 9800 - σ.1 39 6) ∧ z = σ'.1 39 6 ∧ ∃ τ, ((τ = σ ∧ m ≤ 0) ∨ (τ = sI σ 56 6 0 ∧ 0 < m)) ∧ Ln τ σ' 39 (paR σ (σ.1 41) (σ.1 39 8) (σ.1 39 9) (σ.1 39 10) 1 m.toNat (ydv σ 39, σ.2 39 7))))) := by
  obtain ⟨hzz, -, hnp, hnc, hnb, hlb, hrn, hsd, hrw, hrq, hch, hbt, hck⟩ := id hT
  have hyr : 0 ≤ σ.1 39 6 := hI.2.2.2.1.1
  refine e_entry om_X11_go (Nat.le_of_ble_eq_true rfl) (L := [some (.ref (G.2.2.2 + 0)), some (.int (iZ m))]) rfl ?_
  refine e_iload_n (q := 1) (i := 1) dX11_go_0 rfl rfl rfl ?_
  refine e_if_lt (q := 4) (tgt := 26) dX11_go_1 rfl (by decide) (fun c1 => ?_) (fun c1 => ?_)
  · refine e_iconst (q := 27) dX11_go_26 rfl ?_
    exact r_i dX11_go_27 rfl (Or.inl ⟨by omega, rfl, rfl⟩)
  · refine e_iload_n (q := 5) (i := 1) dX11_go_4 rfl rfl rfl ?_
    refine e_sipush (q := 8) dX11_go_5 rfl (by decide) ?_
    refine e_icmp_gt (q := 11) (tgt := 26) dX11_go_8 rfl (by decide) (fun c8 => ?_) (fun c8 => ?_)
    · refine e_iconst (q := 27) dX11_go_26 rfl ?_
      exact r_i dX11_go_27 rfl (Or.inl ⟨by omega, rfl, rfl⟩)
    · refine e_iload_n (q := 12) (i := 1) dX11_go_11 rfl rfl rfl ?_
      refine e_sipush (q := 15) dX11_go_12 rfl (by decide) ?_
      refine e_aload_n (q := 16) (i := 0) dX11_go_15 rfl rfl rfl ?_
      refine e_getR (q := 19) dX11_go_16 rfl fg_X11_36 (by first | assumption | rfl) rfl ?_
      refine e_getI (q := 22) (jz := 6) dX11_go_19 rfl fg_X11_230 rfl (by first | assumption | rfl) rfl ?_
      refine e_isub (q := 23) dX11_go_22 rfl ?_
      refine e_icmp_le (q := 26) (tgt := 28) dX11_go_23 rfl (by decide) (fun c23 => ?_) (fun c23 => ?_) (hx := hm) (hy := ⟨by omega, by omega⟩)
      · refine e_iload_n (q := 29) (i := 1) dX11_go_28 rfl rfl rfl ?_
        refine e_if_le (q := 32) (tgt := 39) dX11_go_29 rfl (by decide) (fun c29 => ?_) (fun c29 => ?_)
        · refine e_aload_n (q := 40) (i := 0) dX11_go_39 rfl rfl rfl ?_
          refine e_getR (q := 43) dX11_go_40 rfl fg_X11_49 (by first | assumption | rfl) rfl ?_
          refine e_aload_n (q := 44) (i := 0) dX11_go_43 rfl rfl rfl ?_
          refine e_getR (q := 47) dX11_go_44 rfl fg_X11_36 (by first | assumption | rfl) rfl ?_
          refine e_iload_n (q := 48) (i := 1) dX11_go_47 rfl rfl rfl ?_
          refine e_iconst (q := 49) dX11_go_48 rfl ?_
          refine e_Vv (q := 52) (vs := [_, _, _]) ok_X10_pass ml_X11_233 dX11_go_49 rfl ⟨_, _, rfl⟩ (by first | assumption | rfl) rfl rfl (Nat.le_of_ble_eq_true rfl) (by decide) (c_X10_pass (L := 39) (m := m) (w := 1) hT hB hW hI (Or.inl rfl) (by omega) (by omega) (by omega) (by decide) (by decide)) (fun s49 h49 => ?_)
          refine e_aload_n (q := 53) (i := 0) dX11_go_52 rfl rfl rfl ?_
          refine e_getR (q := 56) dX11_go_53 rfl fg_X11_36 (by first | assumption | rfl) rfl ?_
          refine e_getI (q := 59) (jz := 6) dX11_go_56 rfl fg_X11_230 rfl (by first | assumption | rfl) rfl ?_
          exact r_i dX11_go_59 rfl (Or.inr ⟨by omega, rfl, _, Or.inl ⟨rfl, by omega⟩, h49⟩)
        · refine e_aload_n (q := 33) (i := 0) dX11_go_32 rfl rfl rfl ?_
          refine e_getR (q := 36) dX11_go_33 rfl fg_X11_56 (by first | assumption | rfl) rfl ?_
          refine e_Vv (q := 39) (vs := []) ok_X0_forget ml_X11_109 dX11_go_36 rfl ⟨_, _, rfl⟩ (by first | assumption | rfl) rfl rfl (Nat.le_of_ble_eq_true rfl) (by decide) (c_X0_forget) (fun s36 h36 => ?_)
          subst h36
          have hF : Fr [56] σ (sI σ 56 6 0) := (Fr.rf _ σ).sI (by decide) _ _
          have hC : ∀ a, 2 ≤ a → a ≤ 16 → a ∉ [56] := by intro a a1 a2 a3; simp only [List.mem_cons, List.not_mem_nil, or_false] at a3; omega
          refine e_aload_n (q := 40) (i := 0) dX11_go_39 rfl rfl rfl ?_
          refine e_getR (q := 43) dX11_go_40 rfl fg_X11_49 (by first | assumption | rfl) rfl ?_
          refine e_aload_n (q := 44) (i := 0) dX11_go_43 rfl rfl rfl ?_
          refine e_getR (q := 47) dX11_go_44 rfl fg_X11_36 (by first | assumption | rfl) rfl ?_
          refine e_iload_n (q := 48) (i := 1) dX11_go_47 rfl rfl rfl ?_
          refine e_iconst (q := 49) dX11_go_48 rfl ?_
          refine e_Vv (q := 52) (vs := [_, _, _]) ok_X10_pass ml_X11_233 dX11_go_49 rfl ⟨_, _, rfl⟩ (by first | assumption | rfl) rfl rfl (Nat.le_of_ble_eq_true rfl) (by decide) (c_X10_pass (L := 39) (m := m) (w := 1) (hT.fr hF (fun a a1 a2 => hC a a1 (by omega))) (hB.fr hF (fun a a1 a2 => hC a a1 (by omega))) (hW.fr hF (by decide) (by decide) (by decide)) (hI.fr hF (by intro a a1 a2 a3; simp only [List.mem_cons, List.not_mem_nil, or_false] at a3; omega)) (Or.inl rfl) (by omega) (by omega) (show σ.1 39 6 + m ≤ 100000 by omega) (by decide) (by decide)) (fun s49 h49 => ?_)
          refine e_aload_n (q := 53) (i := 0) dX11_go_52 rfl rfl rfl ?_
          refine e_getR (q := 56) dX11_go_53 rfl fg_X11_36 (by first | assumption | rfl) rfl ?_
          refine e_getI (q := 59) (jz := 6) dX11_go_56 rfl fg_X11_230 rfl (by first | assumption | rfl) rfl ?_
          exact r_i dX11_go_59 rfl (Or.inr ⟨by omega, rfl, _, Or.inr ⟨rfl, by omega⟩, by rw [← paR_fr hF hC]; exact h49⟩)
      · refine e_iconst (q := 27) dX11_go_26 rfl ?_
        exact r_i dX11_go_27 rfl (Or.inl ⟨by omega, rfl, rfl⟩)

def shAll (rw cl fr : Int → Int) (n : Int) : Int := zs (fun p => zs (fun q => if p < q then gOv rw cl fr p q else 0) n) n
theorem shAll_c {rw cl f f' : Int → Int} {n : Int} (hf : ∀ i, 0 ≤ i → i < 4 * n → f i = f' i) : shAll rw cl f n = shAll rw cl f' n := by
  unfold shAll
  refine zs_congr (fun p a b => zs_congr (fun q c d => ?_))
  split
  · exact gOv_c (fun _ _ _ => ⟨rfl, rfl⟩) hf a b c d
  · rfl
def arAll (rw cl fr : Int → Int) (n : Int) : Int := zs (fun p => gArea rw cl fr p) n
theorem arAll_c {rw cl f f' : Int → Int} {n : Int} (hf : ∀ i, 0 ≤ i → i < 4 * n → f i = f' i) : arAll rw cl f n = arAll rw cl f' n := by
  unfold arAll
  exact zs_congr (fun p a b => gArea_c ⟨rfl, rfl⟩ (fun i c d => hf i (by omega) (by omega)))
def ahV (σ : Sg) (m x i : Int) : Int := if x = 0 then gArea (σ.1 3) (σ.1 4) (paR σ (σ.1 41) (-1) 0 1 0 m.toNat (ydv σ 39, σ.2 39 7)).1.1 i else if x = 1 then (paR σ (σ.1 41) (-1) 0 0 0 m.toNat (ydv σ 39, σ.2 39 7)).1.2.2.2.1 - σ.1 39 5 else if x = 2 then (paR σ (σ.1 41) (-1) 0 0 0 m.toNat (ydv σ 39, σ.2 39 7)).1.2.1 i else shAll (σ.1 3) (σ.1 4) (paR σ (σ.1 41) (-1) 0 1 0 m.toNat (ydv σ 39, σ.2 39 7)).1.1 (σ.1 2 2)

set_option maxHeartbeats 8000000 in
theorem c_X11_ahead {G : Gx} {σ : Sg} {m x i : Int} (hT : TI σ) (hB : TB σ) (hW : LW σ) (hI : LI σ 39) (hY : σ.1 39 6 ≤ 9800) (hm : R32 m) (hx : R32 x) (hi : R32 i) : Con G 8 mX11_ahead [.ref (G.2.2.2 + 0), .int (iZ m), .int (iZ x), .int (iZ i)] σ (pI (fun z σ' => (¬ ((x = 1 ∨ x = 3 ∨ (x = 0 ∧ (0 ≤ i ∧ i < σ.1 2 2)) ∨ (x = 2 ∧ (0 ≤ i ∧ i < σ.1 2 3))) ∧ 0 ≤ m ∧ m ≤ 200) ∧ z = -1 ∧ σ' = σ) ∨ (((x = 1 ∨ x = 3 ∨ (x = 0 ∧ (0 ≤ i ∧ i < σ.1 2 2)) ∨ (x = 2 ∧ (0 ≤ i ∧ i < σ.1 2 3))) ∧ 0 ≤ m ∧ m ≤ 200) ∧ z = ahV σ m x i ∧ Fr [44, 45, 46, 47, 48, 17, 55] σ σ'))) := by
  obtain ⟨hzz, -, hnp, hnc, hnb, hlb, hrn, hsd, hrw, hrq, hch, hbt, hck⟩ := id hT
  have hyr : 0 ≤ σ.1 39 6 := hI.2.2.2.1.1
  have tail : ∀ v : Option Value, ((x = 1 ∨ x = 3 ∨ (x = 0 ∧ (0 ≤ i ∧ i < σ.1 2 2)) ∨ (x = 2 ∧ (0 ≤ i ∧ i < σ.1 2 3))) ∧ 0 ≤ m ∧ m ≤ 200) → J G 8 mX11_ahead (pI (fun z σ' => (¬ ((x = 1 ∨ x = 3 ∨ (x = 0 ∧ (0 ≤ i ∧ i < σ.1 2 2)) ∨ (x = 2 ∧ (0 ≤ i ∧ i < σ.1 2 3))) ∧ 0 ≤ m ∧ m ≤ 200) ∧ z = -1 ∧ σ' = σ) ∨ (((x = 1 ∨ x = 3 ∨ (x = 0 ∧ (0 ≤ i ∧ i < σ.1 2 2)) ∨ (x = 2 ∧ (0 ≤ i ∧ i < σ.1 2 3))) ∧ 0 ≤ m ∧ m ≤ 200) ∧ z = ahV σ m x i ∧ Fr [44, 45, 46, 47, 48, 17, 55] σ σ'))) σ 60 [some (.ref (G.2.2.2 + 0)), some (.int (iZ m)), some (.int (iZ x)), some (.int (iZ i)), v] [] := by
    intro v hK
    refine e_aload_n (q := 61) (i := 0) dX11_ahead_60 rfl rfl rfl ?_
    refine e_getR (q := 64) dX11_ahead_61 rfl fg_X11_40 (by first | assumption | rfl) rfl ?_
    refine e_aload_n (q := 65) (i := 0) dX11_ahead_64 rfl rfl rfl ?_
    refine e_getR (q := 68) dX11_ahead_65 rfl fg_X11_36 (by first | assumption | rfl) rfl ?_
    refine e_Vv (q := 71) (vs := [_]) ok_X2_become ml_X11_236 dX11_ahead_68 rfl ⟨_, _, rfl⟩ (by first | assumption | rfl) rfl rfl (Nat.le_of_ble_eq_true rfl) (by decide) (c_X2_become (L := 44) (K := 39) (Or.inr (Or.inl rfl)) (Or.inl rfl) (by decide)) (fun s68 h68 => ?_)
    refine e_aload_n (q := 72) (i := 0) dX11_ahead_71 rfl rfl rfl ?_
    refine e_getR (q := 75) dX11_ahead_72 rfl fg_X11_40 (by first | assumption | rfl) rfl ?_
    refine e_iload_n (q := 76) (i := 2) dX11_ahead_75 rfl rfl rfl ?_
    refine e_if_eq (q := 79) (tgt := 84) dX11_ahead_76 rfl (by decide) (fun c76 => ?_) (fun c76 => ?_)
    · refine e_iconst (q := 85) dX11_ahead_84 rfl ?_
      refine e_goto (tgt := 89) dX11_ahead_85 (by decide) ?_
      refine e_putZ (q := 92) (jz := 10) dX11_ahead_89 rfl fp_X11_240 rfl (by first | assumption | rfl) rfl (by first | exact Or.inl rfl | exact Or.inr rfl | omega) ?_
      have h0 := LR_0 (v := 1) hT hI h68 (by decide) 0
      refine e_aload_n (q := 93) (i := 0) dX11_ahead_92 rfl rfl rfl ?_
      refine e_getR (q := 96) dX11_ahead_93 rfl fg_X11_49 (by first | assumption | rfl) rfl ?_
      refine e_aload_n (q := 97) (i := 0) dX11_ahead_96 rfl rfl rfl ?_
      refine e_getR (q := 100) dX11_ahead_97 rfl fg_X11_40 (by first | assumption | rfl) rfl ?_
      refine e_iload_n (q := 101) (i := 1) dX11_ahead_100 rfl rfl rfl ?_
      refine e_iconst (q := 102) dX11_ahead_101 rfl ?_
      refine e_Vv (q := 105) (vs := [_, _, _]) ok_X10_pass ml_X11_233 dX11_ahead_102 rfl ⟨_, _, rfl⟩ (by first | assumption | rfl) rfl rfl (Nat.le_of_ble_eq_true rfl) (by decide) (c_X10_pass (L := 44) (m := m) (w := 0) (h0.TI hT) (h0.TB hB) (h0.LW hW) h0.2.2.2.2.2.1 (Or.inr (Or.inl rfl)) (by omega) (by omega) (by rw [h0.2.2.2.2.2.2]; show σ.1 39 6 + ((0 : Nat) : Int) + m ≤ 100000; omega) (by decide) (by decide)) (fun s102 h102 => ?_)
      have h1 := LR_step hT hB h0 h102
      rw [Nat.zero_add] at h1
      have e3 : s102.1 3 = σ.1 3 := h1.c (by decide) (by decide)
      have e4 : s102.1 4 = σ.1 4 := h1.c (by decide) (by decide)
      have e2 : s102.1 2 = σ.1 2 := h1.c (by decide) (by decide)
      have hyF : ∀ j, 0 ≤ j → j < 4 * σ.1 2 2 → s102.1 45 j = _ := h1.2.2.2.1.1
      refine e_iload_n (q := 106) (i := 2) dX11_ahead_105 rfl rfl rfl ?_
      have k106_0 : x = 0 := by omega
      refine e_tabIn (tgt := 132) dX11_ahead_106 hx (by omega) (by omega) (by rw [k106_0]; rfl) (by decide) ?_
      refine e_aload_n (q := 133) (i := 0) dX11_ahead_132 rfl rfl rfl ?_
      refine e_getR (q := 136) dX11_ahead_133 rfl fg_X11_40 (by first | assumption | rfl) rfl ?_
      refine e_iload_n (q := 137) (i := 3) dX11_ahead_136 rfl rfl rfl ?_
      refine e_Vip (q := 140) (vs := [_]) ok_X2_area ml_X11_158 dX11_ahead_137 rfl ⟨_, _, rfl⟩ (by first | assumption | rfl) rfl rfl (Nat.le_of_ble_eq_true rfl) (by decide) (c44_area (by omega) (by omega)) ?_
      exact r_i dX11_ahead_140 rfl (Or.inr ⟨hK, by unfold ahV; rw [if_pos c76, e3, e4]; exact gArea_c ⟨rfl, rfl⟩ (fun j a b => hyF j (by omega) (by omega)), h1.1⟩)
    · refine e_iload_n (q := 80) (i := 2) dX11_ahead_79 rfl rfl rfl ?_
      refine e_iconst (q := 81) dX11_ahead_80 rfl ?_
      refine e_icmp_ne (q := 84) (tgt := 88) dX11_ahead_81 rfl (by decide) (fun c81 => ?_) (fun c81 => ?_)
      · refine e_iconst (q := 89) dX11_ahead_88 rfl ?_
        refine e_putZ (q := 92) (jz := 10) dX11_ahead_89 rfl fp_X11_240 rfl (by first | assumption | rfl) rfl (by first | exact Or.inl rfl | exact Or.inr rfl | omega) ?_
        have h0 := LR_0 (v := 0) hT hI h68 (by decide) 0
        refine e_aload_n (q := 93) (i := 0) dX11_ahead_92 rfl rfl rfl ?_
        refine e_getR (q := 96) dX11_ahead_93 rfl fg_X11_49 (by first | assumption | rfl) rfl ?_
        refine e_aload_n (q := 97) (i := 0) dX11_ahead_96 rfl rfl rfl ?_
        refine e_getR (q := 100) dX11_ahead_97 rfl fg_X11_40 (by first | assumption | rfl) rfl ?_
        refine e_iload_n (q := 101) (i := 1) dX11_ahead_100 rfl rfl rfl ?_
        refine e_iconst (q := 102) dX11_ahead_101 rfl ?_
        refine e_Vv (q := 105) (vs := [_, _, _]) ok_X10_pass ml_X11_233 dX11_ahead_102 rfl ⟨_, _, rfl⟩ (by first | assumption | rfl) rfl rfl (Nat.le_of_ble_eq_true rfl) (by decide) (c_X10_pass (L := 44) (m := m) (w := 0) (h0.TI hT) (h0.TB hB) (h0.LW hW) h0.2.2.2.2.2.1 (Or.inr (Or.inl rfl)) (by omega) (by omega) (by rw [h0.2.2.2.2.2.2]; show σ.1 39 6 + ((0 : Nat) : Int) + m ≤ 100000; omega) (by decide) (by decide)) (fun s102 h102 => ?_)
        have h1 := LR_step hT hB h0 h102
        rw [Nat.zero_add] at h1
        have e3 : s102.1 3 = σ.1 3 := h1.c (by decide) (by decide)
        have e4 : s102.1 4 = σ.1 4 := h1.c (by decide) (by decide)
        have e2 : s102.1 2 = σ.1 2 := h1.c (by decide) (by decide)
        have hyF : ∀ j, 0 ≤ j → j < 4 * σ.1 2 2 → s102.1 45 j = _ := h1.2.2.2.1.1
        refine e_iload_n (q := 106) (i := 2) dX11_ahead_105 rfl rfl rfl ?_
        by_cases k106_1 : x = 1
        · refine e_tabIn (tgt := 141) dX11_ahead_106 hx (by omega) (by omega) (by rw [k106_1]; rfl) (by decide) ?_
          refine e_aload_n (q := 142) (i := 0) dX11_ahead_141 rfl rfl rfl ?_
          refine e_getR (q := 145) dX11_ahead_142 rfl fg_X11_40 (by first | assumption | rfl) rfl ?_
          refine e_getI (q := 148) (jz := 5) dX11_ahead_145 rfl fg_X11_243 rfl (by first | assumption | rfl) rfl ?_
          refine e_aload_n (q := 149) (i := 0) dX11_ahead_148 rfl rfl rfl ?_
          refine e_getR (q := 152) dX11_ahead_149 rfl fg_X11_36 (by first | assumption | rfl) rfl ?_
          refine e_getI (q := 155) (jz := 5) dX11_ahead_152 rfl fg_X11_243 rfl (by first | assumption | rfl) rfl ?_
          refine e_isub (q := 156) dX11_ahead_155 rfl ?_
          exact r_i dX11_ahead_156 rfl (Or.inr ⟨hK, by unfold ahV; rw [if_neg c76, if_pos k106_1, ← h1.2.2.2.1.2.2.1, h1.1.e1 (by decide : (39 : Nat) ∉ _)]; rfl, h1.1⟩)
        have k106_2 : x = 2 := by omega
        refine e_tabIn (tgt := 157) dX11_ahead_106 hx (by omega) (by omega) (by rw [k106_2]; rfl) (by decide) ?_
        refine e_aload_n (q := 158) (i := 0) dX11_ahead_157 rfl rfl rfl ?_
        refine e_getR (q := 161) dX11_ahead_158 rfl fg_X11_40 (by first | assumption | rfl) rfl ?_
        refine e_getR (q := 164) dX11_ahead_161 rfl fg_X11_170 (by first | assumption | rfl) rfl ?_
        refine e_iload_n (q := 165) (i := 3) dX11_ahead_164 rfl rfl rfl ?_
        refine e_iald (q := 166) dX11_ahead_165 rfl (by first | assumption | rfl) ?_
        exact r_i dX11_ahead_166 rfl (Or.inr ⟨hK, by unfold ahV; rw [if_neg c76, if_neg (by omega), if_pos k106_2]; exact (h1.2.2.2.1.2.1 i (by omega) (by omega)).1, h1.1⟩)
      · refine e_iconst (q := 85) dX11_ahead_84 rfl ?_
        refine e_goto (tgt := 89) dX11_ahead_85 (by decide) ?_
        refine e_putZ (q := 92) (jz := 10) dX11_ahead_89 rfl fp_X11_240 rfl (by first | assumption | rfl) rfl (by first | exact Or.inl rfl | exact Or.inr rfl | omega) ?_
        have h0 := LR_0 (v := 1) hT hI h68 (by decide) 0
        refine e_aload_n (q := 93) (i := 0) dX11_ahead_92 rfl rfl rfl ?_
        refine e_getR (q := 96) dX11_ahead_93 rfl fg_X11_49 (by first | assumption | rfl) rfl ?_
        refine e_aload_n (q := 97) (i := 0) dX11_ahead_96 rfl rfl rfl ?_
        refine e_getR (q := 100) dX11_ahead_97 rfl fg_X11_40 (by first | assumption | rfl) rfl ?_
        refine e_iload_n (q := 101) (i := 1) dX11_ahead_100 rfl rfl rfl ?_
        refine e_iconst (q := 102) dX11_ahead_101 rfl ?_
        refine e_Vv (q := 105) (vs := [_, _, _]) ok_X10_pass ml_X11_233 dX11_ahead_102 rfl ⟨_, _, rfl⟩ (by first | assumption | rfl) rfl rfl (Nat.le_of_ble_eq_true rfl) (by decide) (c_X10_pass (L := 44) (m := m) (w := 0) (h0.TI hT) (h0.TB hB) (h0.LW hW) h0.2.2.2.2.2.1 (Or.inr (Or.inl rfl)) (by omega) (by omega) (by rw [h0.2.2.2.2.2.2]; show σ.1 39 6 + ((0 : Nat) : Int) + m ≤ 100000; omega) (by decide) (by decide)) (fun s102 h102 => ?_)
        have h1 := LR_step hT hB h0 h102
        rw [Nat.zero_add] at h1
        have e3 : s102.1 3 = σ.1 3 := h1.c (by decide) (by decide)
        have e4 : s102.1 4 = σ.1 4 := h1.c (by decide) (by decide)
        have e2 : s102.1 2 = σ.1 2 := h1.c (by decide) (by decide)
        have hyF : ∀ j, 0 ≤ j → j < 4 * σ.1 2 2 → s102.1 45 j = _ := h1.2.2.2.1.1
        refine e_iload_n (q := 106) (i := 2) dX11_ahead_105 rfl rfl rfl ?_
        refine e_tabOut (tgt := 167) dX11_ahead_106 hx (by omega) (by decide) ?_
        refine e_aload_n (q := 168) (i := 0) dX11_ahead_167 rfl rfl rfl ?_
        refine e_getR (q := 171) dX11_ahead_168 rfl fg_X11_40 (by first | assumption | rfl) rfl ?_
        refine e_Vip (q := 174) (vs := []) ok_X2_allShared ml_X11_246 dX11_ahead_171 rfl ⟨_, _, rfl⟩ (by first | assumption | rfl) rfl rfl (Nat.le_of_ble_eq_true rfl) (by decide) (c44_allShared (h1.TI hT) h1.2.2.2.2.2.1) ?_
        exact r_i dX11_ahead_174 rfl (Or.inr ⟨hK, by unfold ahV; rw [if_neg c76, if_neg (by omega), if_neg (by omega), e3, e4, e2]; exact shAll_c hyF, h1.1⟩)
  refine e_entry om_X11_ahead (Nat.le_of_ble_eq_true rfl) (L := [some (.ref (G.2.2.2 + 0)), some (.int (iZ m)), some (.int (iZ x)), some (.int (iZ i)), none]) rfl ?_
  refine e_iload_n (q := 1) (i := 2) dX11_ahead_0 rfl rfl rfl ?_
  refine e_iconst (q := 2) dX11_ahead_1 rfl ?_
  refine e_icmp_eq (q := 5) (tgt := 35) dX11_ahead_2 rfl (by decide) (fun c2 => ?_) (fun c2 => ?_)
  · refine e_iconst (q := 36) dX11_ahead_35 rfl ?_
    refine e_goto (tgt := 40) dX11_ahead_36 (by decide) ?_
    refine e_istore (q := 42) (L' := [_, _, _, _, _]) dX11_ahead_40 rfl (by decide) rfl rfl ?_
    refine e_iload_n (q := 43) (i := 1) dX11_ahead_42 rfl rfl rfl ?_
    refine e_if_lt (q := 46) (tgt := 58) dX11_ahead_43 rfl (by decide) (fun c43 => ?_) (fun c43 => ?_)
    · refine e_iconst (q := 59) dX11_ahead_58 rfl ?_
      exact r_i dX11_ahead_59 rfl (Or.inl ⟨by omega, rfl, rfl⟩)
    · refine e_iload_n (q := 47) (i := 1) dX11_ahead_46 rfl rfl rfl ?_
      refine e_sipush (q := 50) dX11_ahead_47 rfl (by decide) ?_
      refine e_icmp_gt (q := 53) (tgt := 58) dX11_ahead_50 rfl (by decide) (fun c50 => ?_) (fun c50 => ?_)
      · refine e_iconst (q := 59) dX11_ahead_58 rfl ?_
        exact r_i dX11_ahead_59 rfl (Or.inl ⟨by omega, rfl, rfl⟩)
      · refine e_iload (q := 55) dX11_ahead_53 rfl rfl ?_
        refine e_if_ne (q := 58) (tgt := 60) dX11_ahead_55 rfl (by decide) (fun c55 => ?_) (fun c55 => ?_)
        · exact tail _ (by omega)
        · refine e_iconst (q := 59) dX11_ahead_58 rfl ?_
          exact r_i dX11_ahead_59 rfl (Or.inl ⟨by omega, rfl, rfl⟩)
  · refine e_iload_n (q := 6) (i := 2) dX11_ahead_5 rfl rfl rfl ?_
    refine e_iconst (q := 7) dX11_ahead_6 rfl ?_
    refine e_icmp_eq (q := 10) (tgt := 35) dX11_ahead_7 rfl (by decide) (fun c7 => ?_) (fun c7 => ?_)
    · refine e_iconst (q := 36) dX11_ahead_35 rfl ?_
      refine e_goto (tgt := 40) dX11_ahead_36 (by decide) ?_
      refine e_istore (q := 42) (L' := [_, _, _, _, _]) dX11_ahead_40 rfl (by decide) rfl rfl ?_
      refine e_iload_n (q := 43) (i := 1) dX11_ahead_42 rfl rfl rfl ?_
      refine e_if_lt (q := 46) (tgt := 58) dX11_ahead_43 rfl (by decide) (fun c43 => ?_) (fun c43 => ?_)
      · refine e_iconst (q := 59) dX11_ahead_58 rfl ?_
        exact r_i dX11_ahead_59 rfl (Or.inl ⟨by omega, rfl, rfl⟩)
      · refine e_iload_n (q := 47) (i := 1) dX11_ahead_46 rfl rfl rfl ?_
        refine e_sipush (q := 50) dX11_ahead_47 rfl (by decide) ?_
        refine e_icmp_gt (q := 53) (tgt := 58) dX11_ahead_50 rfl (by decide) (fun c50 => ?_) (fun c50 => ?_)
        · refine e_iconst (q := 59) dX11_ahead_58 rfl ?_
          exact r_i dX11_ahead_59 rfl (Or.inl ⟨by omega, rfl, rfl⟩)
        · refine e_iload (q := 55) dX11_ahead_53 rfl rfl ?_
          refine e_if_ne (q := 58) (tgt := 60) dX11_ahead_55 rfl (by decide) (fun c55 => ?_) (fun c55 => ?_)
          · exact tail _ (by omega)
          · refine e_iconst (q := 59) dX11_ahead_58 rfl ?_
            exact r_i dX11_ahead_59 rfl (Or.inl ⟨by omega, rfl, rfl⟩)
    · refine e_iload_n (q := 11) (i := 2) dX11_ahead_10 rfl rfl rfl ?_
      refine e_if_ne (q := 14) (tgt := 22) dX11_ahead_11 rfl (by decide) (fun c11 => ?_) (fun c11 => ?_)
      · refine e_iload_n (q := 23) (i := 2) dX11_ahead_22 rfl rfl rfl ?_
        refine e_iconst (q := 24) dX11_ahead_23 rfl ?_
        refine e_icmp_ne (q := 27) (tgt := 39) dX11_ahead_24 rfl (by decide) (fun c24 => ?_) (fun c24 => ?_)
        · refine e_iconst (q := 40) dX11_ahead_39 rfl ?_
          refine e_istore (q := 42) (L' := [_, _, _, _, _]) dX11_ahead_40 rfl (by decide) rfl rfl ?_
          refine e_iload_n (q := 43) (i := 1) dX11_ahead_42 rfl rfl rfl ?_
          refine e_if_lt (q := 46) (tgt := 58) dX11_ahead_43 rfl (by decide) (fun c43 => ?_) (fun c43 => ?_)
          · refine e_iconst (q := 59) dX11_ahead_58 rfl ?_
            exact r_i dX11_ahead_59 rfl (Or.inl ⟨by omega, rfl, rfl⟩)
          · refine e_iload_n (q := 47) (i := 1) dX11_ahead_46 rfl rfl rfl ?_
            refine e_sipush (q := 50) dX11_ahead_47 rfl (by decide) ?_
            refine e_icmp_gt (q := 53) (tgt := 58) dX11_ahead_50 rfl (by decide) (fun c50 => ?_) (fun c50 => ?_)
            · refine e_iconst (q := 59) dX11_ahead_58 rfl ?_
              exact r_i dX11_ahead_59 rfl (Or.inl ⟨by omega, rfl, rfl⟩)
            · refine e_iload (q := 55) dX11_ahead_53 rfl rfl ?_
              refine e_if_ne (q := 58) (tgt := 60) dX11_ahead_55 rfl (by decide) (fun c55 => ?_) (fun c55 => ?_)
              · exact tail _ (by omega)
              · refine e_iconst (q := 59) dX11_ahead_58 rfl ?_
                exact r_i dX11_ahead_59 rfl (Or.inl ⟨by omega, rfl, rfl⟩)
        · refine e_aload_n (q := 28) (i := 0) dX11_ahead_27 rfl rfl rfl ?_
          refine e_iload_n (q := 29) (i := 3) dX11_ahead_28 rfl rfl rfl ?_
          refine e_Vip (q := 32) (vs := [_]) ok_X11_isChild ml_X11_167 dX11_ahead_29 rfl ⟨_, _, rfl⟩ (by first | assumption | rfl) rfl rfl (Nat.le_of_ble_eq_true rfl) (by decide) (c_X11_isChild hT (by assumption)) ?_
          refine e_if_eq (q := 35) (tgt := 39) dX11_ahead_32 rfl (by decide) (fun c32 => ?_) (fun c32 => ?_)
          · refine e_iconst (q := 40) dX11_ahead_39 rfl ?_
            refine e_istore (q := 42) (L' := [_, _, _, _, _]) dX11_ahead_40 rfl (by decide) rfl rfl ?_
            refine e_iload_n (q := 43) (i := 1) dX11_ahead_42 rfl rfl rfl ?_
            refine e_if_lt (q := 46) (tgt := 58) dX11_ahead_43 rfl (by decide) (fun c43 => ?_) (fun c43 => ?_)
            · refine e_iconst (q := 59) dX11_ahead_58 rfl ?_
              exact r_i dX11_ahead_59 rfl (Or.inl ⟨by omega, rfl, rfl⟩)
            · refine e_iload_n (q := 47) (i := 1) dX11_ahead_46 rfl rfl rfl ?_
              refine e_sipush (q := 50) dX11_ahead_47 rfl (by decide) ?_
              refine e_icmp_gt (q := 53) (tgt := 58) dX11_ahead_50 rfl (by decide) (fun c50 => ?_) (fun c50 => ?_)
              · refine e_iconst (q := 59) dX11_ahead_58 rfl ?_
                exact r_i dX11_ahead_59 rfl (Or.inl ⟨by omega, rfl, rfl⟩)
              · refine e_iload (q := 55) dX11_ahead_53 rfl rfl ?_
                refine e_if_ne (q := 58) (tgt := 60) dX11_ahead_55 rfl (by decide) (fun c55 => ?_) (fun c55 => ?_)
                · exact tail _ (by omega)
                · refine e_iconst (q := 59) dX11_ahead_58 rfl ?_
                  exact r_i dX11_ahead_59 rfl (Or.inl ⟨by omega, rfl, rfl⟩)
          · refine e_iconst (q := 36) dX11_ahead_35 rfl ?_
            refine e_goto (tgt := 40) dX11_ahead_36 (by decide) ?_
            refine e_istore (q := 42) (L' := [_, _, _, _, _]) dX11_ahead_40 rfl (by decide) rfl rfl ?_
            refine e_iload_n (q := 43) (i := 1) dX11_ahead_42 rfl rfl rfl ?_
            refine e_if_lt (q := 46) (tgt := 58) dX11_ahead_43 rfl (by decide) (fun c43 => ?_) (fun c43 => ?_)
            · refine e_iconst (q := 59) dX11_ahead_58 rfl ?_
              exact r_i dX11_ahead_59 rfl (Or.inl ⟨by omega, rfl, rfl⟩)
            · refine e_iload_n (q := 47) (i := 1) dX11_ahead_46 rfl rfl rfl ?_
              refine e_sipush (q := 50) dX11_ahead_47 rfl (by decide) ?_
              refine e_icmp_gt (q := 53) (tgt := 58) dX11_ahead_50 rfl (by decide) (fun c50 => ?_) (fun c50 => ?_)
              · refine e_iconst (q := 59) dX11_ahead_58 rfl ?_
                exact r_i dX11_ahead_59 rfl (Or.inl ⟨by omega, rfl, rfl⟩)
              · refine e_iload (q := 55) dX11_ahead_53 rfl rfl ?_
                refine e_if_ne (q := 58) (tgt := 60) dX11_ahead_55 rfl (by decide) (fun c55 => ?_) (fun c55 => ?_)
                · exact tail _ (by omega)
                · refine e_iconst (q := 59) dX11_ahead_58 rfl ?_
                  exact r_i dX11_ahead_59 rfl (Or.inl ⟨by omega, rfl, rfl⟩)
      · refine e_aload_n (q := 15) (i := 0) dX11_ahead_14 rfl rfl rfl ?_
        refine e_iload_n (q := 16) (i := 3) dX11_ahead_15 rfl rfl rfl ?_
        refine e_Vip (q := 19) (vs := [_]) ok_X11_isParish ml_X11_136 dX11_ahead_16 rfl ⟨_, _, rfl⟩ (by first | assumption | rfl) rfl rfl (Nat.le_of_ble_eq_true rfl) (by decide) (c_X11_isParish hT (by assumption)) ?_
        refine e_if_ne (q := 22) (tgt := 35) dX11_ahead_19 rfl (by decide) (fun c19 => ?_) (fun c19 => ?_)
        · refine e_iconst (q := 36) dX11_ahead_35 rfl ?_
          refine e_goto (tgt := 40) dX11_ahead_36 (by decide) ?_
          refine e_istore (q := 42) (L' := [_, _, _, _, _]) dX11_ahead_40 rfl (by decide) rfl rfl ?_
          refine e_iload_n (q := 43) (i := 1) dX11_ahead_42 rfl rfl rfl ?_
          refine e_if_lt (q := 46) (tgt := 58) dX11_ahead_43 rfl (by decide) (fun c43 => ?_) (fun c43 => ?_)
          · refine e_iconst (q := 59) dX11_ahead_58 rfl ?_
            exact r_i dX11_ahead_59 rfl (Or.inl ⟨by omega, rfl, rfl⟩)
          · refine e_iload_n (q := 47) (i := 1) dX11_ahead_46 rfl rfl rfl ?_
            refine e_sipush (q := 50) dX11_ahead_47 rfl (by decide) ?_
            refine e_icmp_gt (q := 53) (tgt := 58) dX11_ahead_50 rfl (by decide) (fun c50 => ?_) (fun c50 => ?_)
            · refine e_iconst (q := 59) dX11_ahead_58 rfl ?_
              exact r_i dX11_ahead_59 rfl (Or.inl ⟨by omega, rfl, rfl⟩)
            · refine e_iload (q := 55) dX11_ahead_53 rfl rfl ?_
              refine e_if_ne (q := 58) (tgt := 60) dX11_ahead_55 rfl (by decide) (fun c55 => ?_) (fun c55 => ?_)
              · exact tail _ (by omega)
              · refine e_iconst (q := 59) dX11_ahead_58 rfl ?_
                exact r_i dX11_ahead_59 rfl (Or.inl ⟨by omega, rfl, rfl⟩)
        · refine e_iload_n (q := 23) (i := 2) dX11_ahead_22 rfl rfl rfl ?_
          refine e_iconst (q := 24) dX11_ahead_23 rfl ?_
          refine e_icmp_ne (q := 27) (tgt := 39) dX11_ahead_24 rfl (by decide) (fun c24 => ?_) (fun c24 => ?_)
          · refine e_iconst (q := 40) dX11_ahead_39 rfl ?_
            refine e_istore (q := 42) (L' := [_, _, _, _, _]) dX11_ahead_40 rfl (by decide) rfl rfl ?_
            refine e_iload_n (q := 43) (i := 1) dX11_ahead_42 rfl rfl rfl ?_
            refine e_if_lt (q := 46) (tgt := 58) dX11_ahead_43 rfl (by decide) (fun c43 => ?_) (fun c43 => ?_)
            · refine e_iconst (q := 59) dX11_ahead_58 rfl ?_
              exact r_i dX11_ahead_59 rfl (Or.inl ⟨by omega, rfl, rfl⟩)
            · refine e_iload_n (q := 47) (i := 1) dX11_ahead_46 rfl rfl rfl ?_
              refine e_sipush (q := 50) dX11_ahead_47 rfl (by decide) ?_
              refine e_icmp_gt (q := 53) (tgt := 58) dX11_ahead_50 rfl (by decide) (fun c50 => ?_) (fun c50 => ?_)
              · refine e_iconst (q := 59) dX11_ahead_58 rfl ?_
                exact r_i dX11_ahead_59 rfl (Or.inl ⟨by omega, rfl, rfl⟩)
              · refine e_iload (q := 55) dX11_ahead_53 rfl rfl ?_
                refine e_if_ne (q := 58) (tgt := 60) dX11_ahead_55 rfl (by decide) (fun c55 => ?_) (fun c55 => ?_)
                · exact tail _ (by omega)
                · refine e_iconst (q := 59) dX11_ahead_58 rfl ?_
                  exact r_i dX11_ahead_59 rfl (Or.inl ⟨by omega, rfl, rfl⟩)
          · refine e_aload_n (q := 28) (i := 0) dX11_ahead_27 rfl rfl rfl ?_
            refine e_iload_n (q := 29) (i := 3) dX11_ahead_28 rfl rfl rfl ?_
            refine e_Vip (q := 32) (vs := [_]) ok_X11_isChild ml_X11_167 dX11_ahead_29 rfl ⟨_, _, rfl⟩ (by first | assumption | rfl) rfl rfl (Nat.le_of_ble_eq_true rfl) (by decide) (c_X11_isChild hT (by assumption)) ?_
            refine e_if_eq (q := 35) (tgt := 39) dX11_ahead_32 rfl (by decide) (fun c32 => ?_) (fun c32 => ?_)
            · refine e_iconst (q := 40) dX11_ahead_39 rfl ?_
              refine e_istore (q := 42) (L' := [_, _, _, _, _]) dX11_ahead_40 rfl (by decide) rfl rfl ?_
              refine e_iload_n (q := 43) (i := 1) dX11_ahead_42 rfl rfl rfl ?_
              refine e_if_lt (q := 46) (tgt := 58) dX11_ahead_43 rfl (by decide) (fun c43 => ?_) (fun c43 => ?_)
              · refine e_iconst (q := 59) dX11_ahead_58 rfl ?_
                exact r_i dX11_ahead_59 rfl (Or.inl ⟨by omega, rfl, rfl⟩)
              · refine e_iload_n (q := 47) (i := 1) dX11_ahead_46 rfl rfl rfl ?_
                refine e_sipush (q := 50) dX11_ahead_47 rfl (by decide) ?_
                refine e_icmp_gt (q := 53) (tgt := 58) dX11_ahead_50 rfl (by decide) (fun c50 => ?_) (fun c50 => ?_)
                · refine e_iconst (q := 59) dX11_ahead_58 rfl ?_
                  exact r_i dX11_ahead_59 rfl (Or.inl ⟨by omega, rfl, rfl⟩)
                · refine e_iload (q := 55) dX11_ahead_53 rfl rfl ?_
                  refine e_if_ne (q := 58) (tgt := 60) dX11_ahead_55 rfl (by decide) (fun c55 => ?_) (fun c55 => ?_)
                  · exact tail _ (by omega)
                  · refine e_iconst (q := 59) dX11_ahead_58 rfl ?_
                    exact r_i dX11_ahead_59 rfl (Or.inl ⟨by omega, rfl, rfl⟩)
            · refine e_iconst (q := 36) dX11_ahead_35 rfl ?_
              refine e_goto (tgt := 40) dX11_ahead_36 (by decide) ?_
              refine e_istore (q := 42) (L' := [_, _, _, _, _]) dX11_ahead_40 rfl (by decide) rfl rfl ?_
              refine e_iload_n (q := 43) (i := 1) dX11_ahead_42 rfl rfl rfl ?_
              refine e_if_lt (q := 46) (tgt := 58) dX11_ahead_43 rfl (by decide) (fun c43 => ?_) (fun c43 => ?_)
              · refine e_iconst (q := 59) dX11_ahead_58 rfl ?_
                exact r_i dX11_ahead_59 rfl (Or.inl ⟨by omega, rfl, rfl⟩)
              · refine e_iload_n (q := 47) (i := 1) dX11_ahead_46 rfl rfl rfl ?_
                refine e_sipush (q := 50) dX11_ahead_47 rfl (by decide) ?_
                refine e_icmp_gt (q := 53) (tgt := 58) dX11_ahead_50 rfl (by decide) (fun c50 => ?_) (fun c50 => ?_)
                · refine e_iconst (q := 59) dX11_ahead_58 rfl ?_
                  exact r_i dX11_ahead_59 rfl (Or.inl ⟨by omega, rfl, rfl⟩)
                · refine e_iload (q := 55) dX11_ahead_53 rfl rfl ?_
                  refine e_if_ne (q := 58) (tgt := 60) dX11_ahead_55 rfl (by decide) (fun c55 => ?_) (fun c55 => ?_)
                  · exact tail _ (by omega)
                  · refine e_iconst (q := 59) dX11_ahead_58 rfl ?_
                    exact r_i dX11_ahead_59 rfl (Or.inl ⟨by omega, rfl, rfl⟩)

set_option maxHeartbeats 4000000 in
theorem c_X11_when {G : Gx} {σ : Sg} {p r c : Int} (hT : TI σ) (hB : TB σ) (hW : LW σ) (hI : LI σ 39) (hY : σ.1 39 6 ≤ 9800) (hp : R32 p) (hr : R32 r) (hc : R32 c) : Con G 8 mX11_when [.ref (G.2.2.2 + 0), .int (iZ p), .int (iZ r), .int (iZ c)] σ (pI (fun z σ' => (¬ ((0 ≤ p ∧ p < σ.1 2 2) ∧ (0 ≤ r ∧ r < σ.1 2 0 ∧ 0 ≤ c ∧ c < σ.1 2 0)) ∧ z = -1 ∧ σ' = σ) ∨ (((0 ≤ p ∧ p < σ.1 2 2) ∧ (0 ≤ r ∧ r < σ.1 2 0 ∧ 0 ≤ c ∧ c < σ.1 2 0)) ∧ ((z = -2 ∧ ∀ k : Int, 0 ≤ k → k ≤ 199 → gHold (σ.1 3) (σ.1 4) (paR σ (σ.1 41) (-1) 0 1 0 (k).toNat (ydv σ 39, σ.2 39 7)).1.1 p r c = 0) ∨ (0 ≤ z ∧ z ≤ 199 ∧ gHold (σ.1 3) (σ.1 4) (paR σ (σ.1 41) (-1) 0 1 0 (z).toNat (ydv σ 39, σ.2 39 7)).1.1 p r c = 1 ∧ ∀ k : Int, 0 ≤ k → k < z → gHold (σ.1 3) (σ.1 4) (paR σ (σ.1 41) (-1) 0 1 0 (k).toNat (ydv σ 39, σ.2 39 7)).1.1 p r c = 0)) ∧ Fr [44, 45, 46, 47, 48, 17, 55] σ σ'))) := by
  obtain ⟨hzz, -, hnp, hnc, hnb, hlb, hrn, hsd, hrw, hrq, hch, hbt, hck⟩ := id hT
  have hyr : 0 ≤ σ.1 39 6 := hI.2.2.2.1.1
  refine e_entry om_X11_when (Nat.le_of_ble_eq_true rfl) (L := [some (.ref (G.2.2.2 + 0)), some (.int (iZ p)), some (.int (iZ r)), some (.int (iZ c)), none]) rfl ?_
  refine e_aload_n (q := 1) (i := 0) dX11_when_0 rfl rfl rfl ?_
  refine e_iload_n (q := 2) (i := 1) dX11_when_1 rfl rfl rfl ?_
  refine e_Vip (q := 5) (vs := [_]) ok_X11_isParish ml_X11_136 dX11_when_2 rfl ⟨_, _, rfl⟩ (by first | assumption | rfl) rfl rfl (Nat.le_of_ble_eq_true rfl) (by decide) (c_X11_isParish hT (by assumption)) ?_
  refine e_if_eq (q := 8) (tgt := 17) dX11_when_5 rfl (by decide) (fun c5 => ?_) (fun c5 => ?_)
  · refine e_iconst (q := 18) dX11_when_17 rfl ?_
    exact r_i dX11_when_18 rfl (Or.inl ⟨by omega, rfl, rfl⟩)
  · refine e_aload_n (q := 9) (i := 0) dX11_when_8 rfl rfl rfl ?_
    refine e_iload_n (q := 10) (i := 2) dX11_when_9 rfl rfl rfl ?_
    refine e_iload_n (q := 11) (i := 3) dX11_when_10 rfl rfl rfl ?_
    refine e_Vip (q := 14) (vs := [_, _]) ok_X11_isCell ml_X11_185 dX11_when_11 rfl ⟨_, _, rfl⟩ (by first | assumption | rfl) rfl rfl (Nat.le_of_ble_eq_true rfl) (by decide) (c_X11_isCell hT (by assumption) (by assumption)) ?_
    refine e_if_ne (q := 17) (tgt := 19) dX11_when_14 rfl (by decide) (fun c14 => ?_) (fun c14 => ?_)
    · refine e_aload_n (q := 20) (i := 0) dX11_when_19 rfl rfl rfl ?_
      refine e_getR (q := 23) dX11_when_20 rfl fg_X11_40 (by first | assumption | rfl) rfl ?_
      refine e_aload_n (q := 24) (i := 0) dX11_when_23 rfl rfl rfl ?_
      refine e_getR (q := 27) dX11_when_24 rfl fg_X11_36 (by first | assumption | rfl) rfl ?_
      refine e_Vv (q := 30) (vs := [_]) ok_X2_become ml_X11_236 dX11_when_27 rfl ⟨_, _, rfl⟩ (by first | assumption | rfl) rfl rfl (Nat.le_of_ble_eq_true rfl) (by decide) (c_X2_become (L := 44) (K := 39) (Or.inr (Or.inl rfl)) (Or.inl rfl) (by decide)) (fun s27 h27 => ?_)
      refine e_aload_n (q := 31) (i := 0) dX11_when_30 rfl rfl rfl ?_
      refine e_getR (q := 34) dX11_when_31 rfl fg_X11_40 (by first | assumption | rfl) rfl ?_
      refine e_iconst (q := 35) dX11_when_34 rfl ?_
      refine e_putZ (q := 38) (jz := 10) dX11_when_35 rfl fp_X11_240 rfl (by first | assumption | rfl) rfl (by first | exact Or.inl rfl | exact Or.inr rfl | omega) ?_
      refine e_iconst (q := 39) dX11_when_38 rfl ?_
      refine e_istore (q := 41) (L' := [_, _, _, _, _]) dX11_when_39 rfl (by decide) rfl rfl ?_
      have hK : ((0 ≤ p ∧ p < σ.1 2 2) ∧ (0 ≤ r ∧ r < σ.1 2 0 ∧ 0 ≤ c ∧ c < σ.1 2 0)) := by omega
      have lp : ∀ (n : Nat) (τ : Sg) (i : Int), 0 ≤ i → i + n = 200 → (∀ k : Int, 0 ≤ k → k < i → gHold (σ.1 3) (σ.1 4) (paR σ (σ.1 41) (-1) 0 1 0 (k).toNat (ydv σ 39, σ.2 39 7)).1.1 p r c = 0) → LR σ (σ.1 41) (-1) 0 1 0 (ydv σ 39) (σ.2 39 7) i.toNat τ → J G 8 mX11_when (pI (fun z σ' => (¬ ((0 ≤ p ∧ p < σ.1 2 2) ∧ (0 ≤ r ∧ r < σ.1 2 0 ∧ 0 ≤ c ∧ c < σ.1 2 0)) ∧ z = -1 ∧ σ' = σ) ∨ (((0 ≤ p ∧ p < σ.1 2 2) ∧ (0 ≤ r ∧ r < σ.1 2 0 ∧ 0 ≤ c ∧ c < σ.1 2 0)) ∧ ((z = -2 ∧ ∀ k : Int, 0 ≤ k → k ≤ 199 → gHold (σ.1 3) (σ.1 4) (paR σ (σ.1 41) (-1) 0 1 0 (k).toNat (ydv σ 39, σ.2 39 7)).1.1 p r c = 0) ∨ (0 ≤ z ∧ z ≤ 199 ∧ gHold (σ.1 3) (σ.1 4) (paR σ (σ.1 41) (-1) 0 1 0 (z).toNat (ydv σ 39, σ.2 39 7)).1.1 p r c = 1 ∧ ∀ k : Int, 0 ≤ k → k < z → gHold (σ.1 3) (σ.1 4) (paR σ (σ.1 41) (-1) 0 1 0 (k).toNat (ydv σ 39, σ.2 39 7)).1.1 p r c = 0)) ∧ Fr [44, 45, 46, 47, 48, 17, 55] σ σ'))) τ 41 [some (.ref (G.2.2.2 + 0)), some (.int (iZ p)), some (.int (iZ r)), some (.int (iZ c)), some (.int (iZ i))] [] := by
        intro n
        induction n with
        | zero =>
          intro τ i h0 hn hR h1
          refine e_iload (q := 43) dX11_when_41 rfl rfl ?_
          refine e_sipush (q := 46) dX11_when_43 rfl (by decide) ?_
          refine e_icmp_gt (q := 49) (tgt := 84) dX11_when_46 rfl (by decide) (fun c46 => ?_) (fun c46 => absurd (by omega) c46)
          refine e_bipush (q := 86) dX11_when_84 rfl (by decide) ?_
          exact r_i dX11_when_86 rfl (Or.inr ⟨hK, Or.inl ⟨rfl, fun k a b => hR k a (by omega)⟩, h1.1⟩)
        | succ n ih =>
          intro τ i h0 hn hR h1
          refine e_iload (q := 43) dX11_when_41 rfl rfl ?_
          refine e_sipush (q := 46) dX11_when_43 rfl (by decide) ?_
          refine e_icmp_gt (q := 49) (tgt := 84) dX11_when_46 rfl (by decide) (fun c46 => absurd c46 (by omega)) (fun c46 => ?_)
          have e3 : τ.1 3 = σ.1 3 := h1.c (by decide) (by decide)
          have e4 : τ.1 4 = σ.1 4 := h1.c (by decide) (by decide)
          have eh : gHold (τ.1 3) (τ.1 4) (τ.1 45) p r c = gHold (σ.1 3) (σ.1 4) (paR σ (σ.1 41) (-1) 0 1 0 (i).toNat (ydv σ 39, σ.2 39 7)).1.1 p r c := by
            rw [e3, e4]
            exact gHold_c ⟨rfl, rfl⟩ (fun j a b => h1.2.2.2.1.1 j (by omega) (by omega)) r c
          have hg : gHold (τ.1 3) (τ.1 4) (τ.1 45) p r c = 0 ∨ gHold (τ.1 3) (τ.1 4) (τ.1 45) p r c = 1 := by unfold gHold; split <;> simp
          refine e_aload_n (q := 50) (i := 0) dX11_when_49 rfl rfl rfl ?_
          refine e_getR (q := 53) dX11_when_50 rfl fg_X11_40 (by first | assumption | rfl) rfl ?_
          refine e_iload_n (q := 54) (i := 1) dX11_when_53 rfl rfl rfl ?_
          refine e_iload_n (q := 55) (i := 2) dX11_when_54 rfl rfl rfl ?_
          refine e_iload_n (q := 56) (i := 3) dX11_when_55 rfl rfl rfl ?_
          refine e_Vip (q := 59) (vs := [_, _, _]) ok_X2_holds ml_X11_250 dX11_when_56 rfl ⟨_, _, rfl⟩ (by first | assumption | rfl) rfl rfl (Nat.le_of_ble_eq_true rfl) (by decide) (c44_holds (h1.TI hT) h1.2.2.2.2.2.1 (by omega) (by omega) (by assumption) (by assumption)) ?_
          refine e_if_eq (q := 62) (tgt := 65) dX11_when_59 rfl (by decide) (fun c59 => ?_) (fun c59 => ?_) (hx := ⟨by omega, by omega⟩)
          · refine e_aload_n (q := 66) (i := 0) dX11_when_65 rfl rfl rfl ?_
            refine e_getR (q := 69) dX11_when_66 rfl fg_X11_49 (by first | assumption | rfl) rfl ?_
            refine e_aload_n (q := 70) (i := 0) dX11_when_69 rfl rfl rfl ?_
            refine e_getR (q := 73) dX11_when_70 rfl fg_X11_40 (by first | assumption | rfl) rfl ?_
            refine e_iconst (q := 74) dX11_when_73 rfl ?_
            refine e_iconst (q := 75) dX11_when_74 rfl ?_
            refine e_Vv (q := 78) (vs := [_, _, _]) ok_X10_pass ml_X11_233 dX11_when_75 rfl ⟨_, _, rfl⟩ (by first | assumption | rfl) rfl rfl (Nat.le_of_ble_eq_true rfl) (by decide) (c_X10_pass (L := 44) (m := 1) (w := 0) (h1.TI hT) (h1.TB hB) (h1.LW hW) h1.2.2.2.2.2.1 (Or.inr (Or.inl rfl)) (by decide) (by decide) (by rw [h1.2.2.2.2.2.2]; show σ.1 39 6 + ((i.toNat : Nat) : Int) + 1 ≤ 100000; omega) (by decide) (by decide)) (fun s75 h75 => ?_)
            refine e_iinc (q := 81) (L' := [_, _, _, _, _]) dX11_when_78 rfl rfl (by decide) rfl rfl ?_
            refine e_goto (tgt := 41) dX11_when_81 (by decide) ?_
            refine ih _ _ (by omega) (by omega) (fun k a b => ?_) ?_
            · by_cases e : k = i
              · subst e
                rw [← eh]; exact c59
              · exact hR k a (by omega)
            · have q := LR_step hT hB h1 h75
              rw [show (i + 1).toNat = i.toNat + (1 : Int).toNat by omega]
              exact q
          · refine e_iload (q := 64) dX11_when_62 rfl rfl ?_
            exact r_i dX11_when_64 rfl (Or.inr ⟨hK, Or.inr ⟨h0, by omega, by rw [← eh]; omega, hR⟩, h1.1⟩)
      exact lp 200 _ 0 (by decide) (by decide) (fun k a b => absurd b (by omega)) (LR_0 hT hI h27 (by decide) 0)
    · refine e_iconst (q := 18) dX11_when_17 rfl ?_
      exact r_i dX11_when_18 rfl (Or.inl ⟨by omega, rfl, rfl⟩)

