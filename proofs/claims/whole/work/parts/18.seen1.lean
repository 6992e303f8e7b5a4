/-! ===== deeds (56: slot 57, far 58, cake 59, child 60, tired 61; oldest, held), seen (62: strikes 63, year 64, parish 65, row 66, column 67, is 68, counts 69; entries, knownBy) ===== -/
def DI (σ : Sg) : Prop := (0 ≤ σ.1 56 5 ∧ σ.1 56 5 < 20) ∧ (0 ≤ σ.1 56 6 ∧ σ.1 56 6 ≤ 20) ∧ ∀ k, 0 ≤ k → k < 20 → (0 ≤ σ.1 57 k ∧ σ.1 57 k < 16) ∧ (0 ≤ σ.1 58 k ∧ σ.1 58 k ≤ 39) ∧ (0 ≤ σ.1 59 k ∧ σ.1 59 k ≤ 9) ∧ (-1 ≤ σ.1 60 k ∧ σ.1 60 k < 6) ∧ (0 ≤ σ.1 61 k ∧ σ.1 61 k ≤ 99)
def dK (σ : Sg) : Int := (σ.1 56 5 + σ.1 56 6) % 20
def nF0 (σ : Sg) (s c : Int) : Sg := sI (sI (sI (sI (sI σ 57 (dK σ) s) 58 (dK σ) (σ.1 40 s)) 59 (dK σ) (σ.1 41 s)) 60 (dK σ) c) 61 (dK σ) (if c = -1 then 0 else σ.1 43 c)
def nF (σ : Sg) (s c : Int) : Sg := if σ.1 56 6 < 20 then sI (nF0 σ s c) 56 6 (σ.1 56 6 + 1) else sI (nF0 σ s c) 56 5 ((σ.1 56 5 + 1) % 20)
def bK (σ : Sg) : Int := (σ.1 56 5 + (σ.1 56 6 - 1)) % 20
def tB0 (σ : Sg) : Sg := sI (sI (sI σ 56 6 (σ.1 56 6 - 1)) 40 (σ.1 57 (bK σ)) (σ.1 58 (bK σ))) 41 (σ.1 57 (bK σ)) (σ.1 59 (bK σ))
def tB (σ : Sg) : Sg := if σ.1 60 (bK σ) = -1 then tB0 σ else sI (tB0 σ) 43 (σ.1 60 (bK σ)) (σ.1 61 (bK σ))

theorem c_X0_forget {G : Gx} {σ : Sg} : Con G 1 mX0_forget [.ref (G.2.2.2 + 56)] σ (pV (fun σ' => σ' = sI σ 56 6 0)) := by
  refine e_entry om_X0_forget (Nat.le_of_ble_eq_true rfl) (L := [some (.ref (G.2.2.2 + 56))]) rfl ?_
  refine e_aload_n (q := 1) (i := 0) dX0_forget_0 rfl rfl rfl ?_
  refine e_iconst (q := 2) dX0_forget_1 rfl ?_
  refine e_putI (q := 5) (jz := 6) dX0_forget_2 rfl fp_X0_27 rfl (by first | assumption | rfl) rfl ?_
  exact r_v dX0_forget_5 rfl rfl

set_option maxHeartbeats 4000000 in
theorem c_X0_note {G : Gx} {σ : Sg} {s c : Int} (hD : DI σ) (hs : 0 ≤ s) (hs16 : s < 16) (hc : -1 ≤ c) (hc6 : c < 6) : Con G 1 mX0_note [.ref (G.2.2.2 + 56), .ref (G.2.2.2 + 39), .int (iZ s), .int (iZ c)] σ (pV (fun σ' => σ' = nF σ s c)) := by
  obtain ⟨hD0, hD1, hD2⟩ := id hD
  refine e_entry om_X0_note (Nat.le_of_ble_eq_true rfl) (L := [some (.ref (G.2.2.2 + 56)), some (.ref (G.2.2.2 + 39)), some (.int (iZ s)), some (.int (iZ c)), none]) rfl ?_
  refine e_aload_n (q := 1) (i := 0) dX0_note_0 rfl rfl rfl ?_
  refine e_getI (q := 4) (jz := 5) dX0_note_1 rfl fg_X0_31 rfl (by first | assumption | rfl) rfl ?_
  refine e_aload_n (q := 5) (i := 0) dX0_note_4 rfl rfl rfl ?_
  refine e_getI (q := 8) (jz := 6) dX0_note_5 rfl fg_X0_27 rfl (by first | assumption | rfl) rfl ?_
  refine e_iadd (q := 9) dX0_note_8 rfl ?_
  refine e_bipush (q := 11) dX0_note_9 rfl (by decide) ?_
  refine e_irem (q := 12) dX0_note_11 rfl (by decide) (iZ_rem (by omega) (by omega) (by decide) (by decide)) ?_
  refine e_istore (q := 14) (L' := [_, _, _, _, _]) dX0_note_12 rfl (by decide) rfl rfl ?_
  refine e_aload_n (q := 15) (i := 0) dX0_note_14 rfl rfl rfl ?_
  refine e_getR (q := 18) dX0_note_15 rfl fg_X0_11 (by first | assumption | rfl) rfl ?_
  refine e_iload (q := 20) dX0_note_18 rfl rfl ?_
  refine e_iload_n (q := 21) (i := 2) dX0_note_20 rfl rfl rfl ?_
  refine e_iast (q := 22) dX0_note_21 rfl (by first | assumption | rfl) ?_
  refine e_aload_n (q := 23) (i := 0) dX0_note_22 rfl rfl rfl ?_
  refine e_getR (q := 26) dX0_note_23 rfl fg_X0_15 (by first | assumption | rfl) rfl ?_
  refine e_iload (q := 28) dX0_note_26 rfl rfl ?_
  refine e_aload_n (q := 29) (i := 1) dX0_note_28 rfl rfl rfl ?_
  refine e_getR (q := 32) dX0_note_29 rfl fg_X0_34 (by first | assumption | rfl) rfl ?_
  refine e_iload_n (q := 33) (i := 2) dX0_note_32 rfl rfl rfl ?_
  refine e_iald (q := 34) dX0_note_33 rfl (by first | assumption | rfl) ?_
  refine e_iast (q := 35) dX0_note_34 rfl (by first | assumption | rfl) ?_
  refine e_aload_n (q := 36) (i := 0) dX0_note_35 rfl rfl rfl ?_
  refine e_getR (q := 39) dX0_note_36 rfl fg_X0_18 (by first | assumption | rfl) rfl ?_
  refine e_iload (q := 41) dX0_note_39 rfl rfl ?_
  refine e_aload_n (q := 42) (i := 1) dX0_note_41 rfl rfl rfl ?_
  refine e_getR (q := 45) dX0_note_42 rfl fg_X0_37 (by first | assumption | rfl) rfl ?_
  refine e_iload_n (q := 46) (i := 2) dX0_note_45 rfl rfl rfl ?_
  refine e_iald (q := 47) dX0_note_46 rfl (by first | assumption | rfl) ?_
  refine e_iast (q := 48) dX0_note_47 rfl (by first | assumption | rfl) ?_
  refine e_aload_n (q := 49) (i := 0) dX0_note_48 rfl rfl rfl ?_
  refine e_getR (q := 52) dX0_note_49 rfl fg_X0_21 (by first | assumption | rfl) rfl ?_
  refine e_iload (q := 54) dX0_note_52 rfl rfl ?_
  refine e_iload_n (q := 55) (i := 3) dX0_note_54 rfl rfl rfl ?_
  refine e_iast (q := 56) dX0_note_55 rfl (by first | assumption | rfl) ?_
  refine e_aload_n (q := 57) (i := 0) dX0_note_56 rfl rfl rfl ?_
  refine e_getR (q := 60) dX0_note_57 rfl fg_X0_24 (by first | assumption | rfl) rfl ?_
  refine e_iload (q := 62) dX0_note_60 rfl rfl ?_
  refine e_iload_n (q := 63) (i := 3) dX0_note_62 rfl rfl rfl ?_
  refine e_iconst (q := 64) dX0_note_63 rfl ?_
  refine e_icmp_ne (q := 67) (tgt := 71) dX0_note_64 rfl (by decide) (fun c64 => ?_) (fun c64 => ?_) (hx := ⟨by omega, by omega⟩)
  · refine e_aload_n (q := 72) (i := 1) dX0_note_71 rfl rfl rfl ?_
    refine e_getR (q := 75) dX0_note_72 rfl fg_X0_38 (by first | assumption | rfl) rfl ?_
    refine e_iload_n (q := 76) (i := 3) dX0_note_75 rfl rfl rfl ?_
    refine e_iald (q := 77) dX0_note_76 rfl (by first | assumption | rfl) ?_
    refine e_iast (q := 78) dX0_note_77 rfl (by first | assumption | rfl) ?_
    have e0 : nF0 σ s c = sI (sI (sI (sI (sI σ 57 (dK σ) s) 58 (dK σ) (σ.1 40 s)) 59 (dK σ) (σ.1 41 s)) 60 (dK σ) c) 61 (dK σ) (σ.1 43 c) := by unfold nF0; rw [if_neg c64]
    refine e_aload_n (q := 79) (i := 0) dX0_note_78 rfl rfl rfl ?_
    refine e_getI (q := 82) (jz := 6) dX0_note_79 rfl fg_X0_27 rfl (by first | assumption | rfl) rfl ?_
    refine e_bipush (q := 84) dX0_note_82 rfl (by decide) ?_
    refine e_icmp_ge (q := 87) (tgt := 100) dX0_note_84 rfl (by decide) (fun c84 => ?_) (fun c84 => ?_) (hx := (show R32 (σ.1 56 6) from ⟨by omega, by omega⟩))
    · refine e_aload_n (q := 101) (i := 0) dX0_note_100 rfl rfl rfl ?_
      refine e_aload_n (q := 102) (i := 0) dX0_note_101 rfl rfl rfl ?_
      refine e_getI (q := 105) (jz := 5) dX0_note_102 rfl fg_X0_31 rfl (by first | assumption | rfl) rfl ?_
      refine e_iconst (q := 106) dX0_note_105 rfl ?_
      refine e_iadd (q := 107) dX0_note_106 rfl ?_
      refine e_bipush (q := 109) dX0_note_107 rfl (by decide) ?_
      refine e_irem (q := 110) dX0_note_109 rfl (by decide) (iZ_rem (x := σ.1 56 5 + 1) (by omega) (by omega) (by decide) (by decide)) ?_
      refine e_putI (q := 113) (jz := 5) dX0_note_110 rfl fp_X0_31 rfl (by first | assumption | rfl) rfl ?_
      exact r_v dX0_note_113 rfl (by unfold nF; rw [if_neg (show ¬ σ.1 56 6 < 20 by have q : (20 : Int) ≤ σ.1 56 6 := c84; omega), e0]; rfl)
    · refine e_aload_n (q := 88) (i := 0) dX0_note_87 rfl rfl rfl ?_
      refine e_dup (q := 89) dX0_note_88 rfl rfl ?_
      refine e_getI (q := 92) (jz := 6) dX0_note_89 rfl fg_X0_27 rfl (by first | assumption | rfl) rfl ?_
      refine e_iconst (q := 93) dX0_note_92 rfl ?_
      refine e_iadd (q := 94) dX0_note_93 rfl ?_
      refine e_putI (q := 97) (jz := 6) dX0_note_94 rfl fp_X0_27 rfl (by first | assumption | rfl) rfl ?_
      refine e_goto (tgt := 113) dX0_note_97 (by decide) ?_
      exact r_v dX0_note_113 rfl (by unfold nF; rw [if_pos (show σ.1 56 6 < 20 by have q : ¬ (20 : Int) ≤ σ.1 56 6 := c84; omega), e0]; rfl)
  · refine e_iconst (q := 68) dX0_note_67 rfl ?_
    refine e_goto (tgt := 77) dX0_note_68 (by decide) ?_
    refine e_iast (q := 78) dX0_note_77 rfl (by first | assumption | rfl) ?_
    have e0 : nF0 σ s c = sI (sI (sI (sI (sI σ 57 (dK σ) s) 58 (dK σ) (σ.1 40 s)) 59 (dK σ) (σ.1 41 s)) 60 (dK σ) c) 61 (dK σ) 0 := by unfold nF0; rw [if_pos c64]
    refine e_aload_n (q := 79) (i := 0) dX0_note_78 rfl rfl rfl ?_
    refine e_getI (q := 82) (jz := 6) dX0_note_79 rfl fg_X0_27 rfl (by first | assumption | rfl) rfl ?_
    refine e_bipush (q := 84) dX0_note_82 rfl (by decide) ?_
    refine e_icmp_ge (q := 87) (tgt := 100) dX0_note_84 rfl (by decide) (fun c84 => ?_) (fun c84 => ?_) (hx := (show R32 (σ.1 56 6) from ⟨by omega, by omega⟩))
    · refine e_aload_n (q := 101) (i := 0) dX0_note_100 rfl rfl rfl ?_
      refine e_aload_n (q := 102) (i := 0) dX0_note_101 rfl rfl rfl ?_
      refine e_getI (q := 105) (jz := 5) dX0_note_102 rfl fg_X0_31 rfl (by first | assumption | rfl) rfl ?_
      refine e_iconst (q := 106) dX0_note_105 rfl ?_
      refine e_iadd (q := 107) dX0_note_106 rfl ?_
      refine e_bipush (q := 109) dX0_note_107 rfl (by decide) ?_
      refine e_irem (q := 110) dX0_note_109 rfl (by decide) (iZ_rem (x := σ.1 56 5 + 1) (by omega) (by omega) (by decide) (by decide)) ?_
      refine e_putI (q := 113) (jz := 5) dX0_note_110 rfl fp_X0_31 rfl (by first | assumption | rfl) rfl ?_
      exact r_v dX0_note_113 rfl (by unfold nF; rw [if_neg (show ¬ σ.1 56 6 < 20 by have q : (20 : Int) ≤ σ.1 56 6 := c84; omega), e0]; rfl)
    · refine e_aload_n (q := 88) (i := 0) dX0_note_87 rfl rfl rfl ?_
      refine e_dup (q := 89) dX0_note_88 rfl rfl ?_
      refine e_getI (q := 92) (jz := 6) dX0_note_89 rfl fg_X0_27 rfl (by first | assumption | rfl) rfl ?_
      refine e_iconst (q := 93) dX0_note_92 rfl ?_
      refine e_iadd (q := 94) dX0_note_93 rfl ?_
      refine e_putI (q := 97) (jz := 6) dX0_note_94 rfl fp_X0_27 rfl (by first | assumption | rfl) rfl ?_
      refine e_goto (tgt := 113) dX0_note_97 (by decide) ?_
      exact r_v dX0_note_113 rfl (by unfold nF; rw [if_pos (show σ.1 56 6 < 20 by have q : ¬ (20 : Int) ≤ σ.1 56 6 := c84; omega), e0]; rfl)

set_option maxHeartbeats 4000000 in
theorem c_X0_takeBack {G : Gx} {σ : Sg} (hD : DI σ) : Con G 1 mX0_takeBack [.ref (G.2.2.2 + 56), .ref (G.2.2.2 + 39)] σ (pI (fun z σ' => (σ.1 56 6 = 0 ∧ z = -1 ∧ σ' = σ) ∨ (¬ σ.1 56 6 = 0 ∧ z = σ.1 56 6 - 1 ∧ σ' = tB σ))) := by
  obtain ⟨hD0, hD1, hD2⟩ := id hD
  refine e_entry om_X0_takeBack (Nat.le_of_ble_eq_true rfl) (L := [some (.ref (G.2.2.2 + 56)), some (.ref (G.2.2.2 + 39)), none]) rfl ?_
  refine e_aload_n (q := 1) (i := 0) dX0_takeBack_0 rfl rfl rfl ?_
  refine e_getI (q := 4) (jz := 6) dX0_takeBack_1 rfl fg_X0_27 rfl (by first | assumption | rfl) rfl ?_
  refine e_if_ne (q := 7) (tgt := 9) dX0_takeBack_4 rfl (by decide) (fun c4 => ?_) (fun c4 => ?_) (hx := ⟨by omega, by omega⟩)
  · have hk0 : 0 ≤ bK σ ∧ bK σ < 20 := by unfold bK; omega
    have hd := hD2 (bK σ) hk0.1 hk0.2
    obtain ⟨kk, hkk⟩ : ∃ kk, kk = bK σ := ⟨_, rfl⟩
    refine e_aload_n (q := 10) (i := 0) dX0_takeBack_9 rfl rfl rfl ?_
    refine e_dup (q := 11) dX0_takeBack_10 rfl rfl ?_
    refine e_getI (q := 14) (jz := 6) dX0_takeBack_11 rfl fg_X0_27 rfl (by first | assumption | rfl) rfl ?_
    refine e_iconst (q := 15) dX0_takeBack_14 rfl ?_
    refine e_isub (q := 16) dX0_takeBack_15 rfl ?_
    refine e_putI (q := 19) (jz := 6) dX0_takeBack_16 rfl fp_X0_27 rfl (by first | assumption | rfl) rfl ?_
    refine e_aload_n (q := 20) (i := 0) dX0_takeBack_19 rfl rfl rfl ?_
    refine e_getI (q := 23) (jz := 5) dX0_takeBack_20 rfl fg_X0_31 rfl (by first | assumption | rfl) rfl ?_
    refine e_aload_n (q := 24) (i := 0) dX0_takeBack_23 rfl rfl rfl ?_
    refine e_getI (q := 27) (jz := 6) dX0_takeBack_24 rfl fg_X0_27 rfl (by first | assumption | rfl) rfl ?_
    refine e_iadd (q := 28) dX0_takeBack_27 rfl ?_
    refine e_bipush (q := 30) dX0_takeBack_28 rfl (by decide) ?_
    refine e_irem (q := 31) dX0_takeBack_30 rfl (by decide) (iZ_rem (x := σ.1 56 5 + (σ.1 56 6 - 1)) (by omega) (by omega) (by decide) (by decide)) ?_
    rw [show (σ.1 56 5 + (σ.1 56 6 - 1)) % 20 = kk by rw [hkk]; rfl]
    rw [← hkk] at hd hk0
    refine e_istore_n (q := 32) (i := 2) (L' := [_, _, _]) dX0_takeBack_31 rfl rfl (by decide) rfl rfl ?_
    refine e_aload_n (q := 33) (i := 1) dX0_takeBack_32 rfl rfl rfl ?_
    refine e_getR (q := 36) dX0_takeBack_33 rfl fg_X0_34 (by first | assumption | rfl) rfl ?_
    refine e_aload_n (q := 37) (i := 0) dX0_takeBack_36 rfl rfl rfl ?_
    refine e_getR (q := 40) dX0_takeBack_37 rfl fg_X0_11 (by first | assumption | rfl) rfl ?_
    refine e_iload_n (q := 41) (i := 2) dX0_takeBack_40 rfl rfl rfl ?_
    refine e_iald (q := 42) dX0_takeBack_41 rfl (by first | assumption | rfl) ?_
    refine e_aload_n (q := 43) (i := 0) dX0_takeBack_42 rfl rfl rfl ?_
    refine e_getR (q := 46) dX0_takeBack_43 rfl fg_X0_15 (by first | assumption | rfl) rfl ?_
    refine e_iload_n (q := 47) (i := 2) dX0_takeBack_46 rfl rfl rfl ?_
    refine e_iald (q := 48) dX0_takeBack_47 rfl (by first | assumption | rfl) ?_
    refine e_iast (q := 49) dX0_takeBack_48 rfl (by first | assumption | rfl) ?_ (h0 := (show 0 ≤ σ.1 57 kk by omega)) (hi := (show σ.1 57 kk < ((16 : Nat) : Int) by omega))
    refine e_aload_n (q := 50) (i := 1) dX0_takeBack_49 rfl rfl rfl ?_
    refine e_getR (q := 53) dX0_takeBack_50 rfl fg_X0_37 (by first | assumption | rfl) rfl ?_
    refine e_aload_n (q := 54) (i := 0) dX0_takeBack_53 rfl rfl rfl ?_
    refine e_getR (q := 57) dX0_takeBack_54 rfl fg_X0_11 (by first | assumption | rfl) rfl ?_
    refine e_iload_n (q := 58) (i := 2) dX0_takeBack_57 rfl rfl rfl ?_
    refine e_iald (q := 59) dX0_takeBack_58 rfl (by first | assumption | rfl) ?_
    refine e_aload_n (q := 60) (i := 0) dX0_takeBack_59 rfl rfl rfl ?_
    refine e_getR (q := 63) dX0_takeBack_60 rfl fg_X0_18 (by first | assumption | rfl) rfl ?_
    refine e_iload_n (q := 64) (i := 2) dX0_takeBack_63 rfl rfl rfl ?_
    refine e_iald (q := 65) dX0_takeBack_64 rfl (by first | assumption | rfl) ?_
    refine e_iast (q := 66) dX0_takeBack_65 rfl (by first | assumption | rfl) ?_ (h0 := (show 0 ≤ σ.1 57 kk by omega)) (hi := (show σ.1 57 kk < ((16 : Nat) : Int) by omega))
    refine e_aload_n (q := 67) (i := 0) dX0_takeBack_66 rfl rfl rfl ?_
    refine e_getR (q := 70) dX0_takeBack_67 rfl fg_X0_21 (by first | assumption | rfl) rfl ?_
    refine e_iload_n (q := 71) (i := 2) dX0_takeBack_70 rfl rfl rfl ?_
    refine e_iald (q := 72) dX0_takeBack_71 rfl (by first | assumption | rfl) ?_
    refine e_iconst (q := 73) dX0_takeBack_72 rfl ?_
    refine e_icmp_eq (q := 76) (tgt := 93) dX0_takeBack_73 rfl (by decide) (fun c73 => ?_) (fun c73 => ?_) (hx := (show R32 (σ.1 60 kk) from ⟨by omega, by omega⟩))
    · refine e_aload_n (q := 94) (i := 0) dX0_takeBack_93 rfl rfl rfl ?_
      refine e_getI (q := 97) (jz := 6) dX0_takeBack_94 rfl fg_X0_27 rfl (by first | assumption | rfl) rfl ?_
      exact r_i dX0_takeBack_97 rfl (Or.inr ⟨c4, rfl, by subst hkk; unfold tB; rw [if_pos (show σ.1 60 (bK σ) = -1 from c73)]; rfl⟩)
    · refine e_aload_n (q := 77) (i := 1) dX0_takeBack_76 rfl rfl rfl ?_
      refine e_getR (q := 80) dX0_takeBack_77 rfl fg_X0_38 (by first | assumption | rfl) rfl ?_
      refine e_aload_n (q := 81) (i := 0) dX0_takeBack_80 rfl rfl rfl ?_
      refine e_getR (q := 84) dX0_takeBack_81 rfl fg_X0_21 (by first | assumption | rfl) rfl ?_
      refine e_iload_n (q := 85) (i := 2) dX0_takeBack_84 rfl rfl rfl ?_
      refine e_iald (q := 86) dX0_takeBack_85 rfl (by first | assumption | rfl) ?_
      refine e_aload_n (q := 87) (i := 0) dX0_takeBack_86 rfl rfl rfl ?_
      refine e_getR (q := 90) dX0_takeBack_87 rfl fg_X0_24 (by first | assumption | rfl) rfl ?_
      refine e_iload_n (q := 91) (i := 2) dX0_takeBack_90 rfl rfl rfl ?_
      refine e_iald (q := 92) dX0_takeBack_91 rfl (by first | assumption | rfl) ?_
      refine e_iast (q := 93) dX0_takeBack_92 rfl (by first | assumption | rfl) ?_ (h0 := (show 0 ≤ σ.1 60 kk by have q : ¬ σ.1 60 kk = -1 := c73; omega)) (hi := (show σ.1 60 kk < ((6 : Nat) : Int) by omega))
      refine e_aload_n (q := 94) (i := 0) dX0_takeBack_93 rfl rfl rfl ?_
      refine e_getI (q := 97) (jz := 6) dX0_takeBack_94 rfl fg_X0_27 rfl (by first | assumption | rfl) rfl ?_
      exact r_i dX0_takeBack_97 rfl (Or.inr ⟨c4, rfl, by subst hkk; unfold tB; rw [if_neg (show ¬ σ.1 60 (bK σ) = -1 from c73)]; rfl⟩)
  · refine e_iconst (q := 8) dX0_takeBack_7 rfl ?_
    exact r_i dX0_takeBack_8 rfl (Or.inl ⟨c4, rfl, rfl⟩)

def SI (σ : Sg) : Prop := (0 ≤ σ.1 62 7 ∧ σ.1 62 7 ≤ 24) ∧ (-1 ≤ σ.1 62 8 ∧ σ.1 62 8 ≤ σ.1 62 7) ∧ (∀ k, 0 ≤ k → k < 24 → (-1 ≤ σ.1 63 k ∧ σ.1 63 k < 24) ∧ (0 ≤ σ.1 64 k ∧ σ.1 64 k ≤ 60) ∧ (0 ≤ σ.1 65 k ∧ σ.1 65 k < 4) ∧ (0 ≤ σ.1 66 k ∧ σ.1 66 k < 40) ∧ (0 ≤ σ.1 67 k ∧ σ.1 67 k < 40) ∧ (σ.1 68 k = 0 ∨ σ.1 68 k = 1) ∧ (σ.1 69 k = 0 ∨ σ.1 69 k = 1)) ∧ ∀ k, 0 ≤ k → k < σ.1 62 7 → σ.1 63 k < k
def seeF (σ : Sg) (y p r c b : Int) : Sg := sI (sI (sI (sI (sI (sI (sI σ 63 (σ.1 62 7) (-1)) 64 (σ.1 62 7) y) 65 (σ.1 62 7) p) 66 (σ.1 62 7) r) 67 (σ.1 62 7) c) 68 (σ.1 62 7) b) 62 7 (σ.1 62 7 + 1)
def knE (σ : Sg) : Int := if σ.1 62 8 = -1 then σ.1 62 7 else σ.1 62 8

theorem c_X6_forget {G : Gx} {σ : Sg} : Con G 1 mX6_forget [.ref (G.2.2.2 + 62)] σ (pV (fun σ' => σ' = sI (sI σ 62 7 0) 62 8 (-1))) := by
  refine e_entry om_X6_forget (Nat.le_of_ble_eq_true rfl) (L := [some (.ref (G.2.2.2 + 62))]) rfl ?_
  refine e_aload_n (q := 1) (i := 0) dX6_forget_0 rfl rfl rfl ?_
  refine e_iconst (q := 2) dX6_forget_1 rfl ?_
  refine e_putI (q := 5) (jz := 7) dX6_forget_2 rfl fp_X6_38 rfl (by first | assumption | rfl) rfl ?_
  refine e_aload_n (q := 6) (i := 0) dX6_forget_5 rfl rfl rfl ?_
  refine e_iconst (q := 7) dX6_forget_6 rfl ?_
  refine e_putI (q := 10) (jz := 8) dX6_forget_7 rfl fp_X6_34 rfl (by first | assumption | rfl) rfl ?_
  exact r_v dX6_forget_10 rfl rfl

theorem c_X6_addSight {G : Gx} {σ : Sg} {y p r c b : Int} (hS : SI σ) (hb : b = 0 ∨ b = 1) : Con G 1 mX6_addSight [.ref (G.2.2.2 + 62), .int (iZ y), .int (iZ p), .int (iZ r), .int (iZ c), .int (iZ b)] σ (pI (fun z σ' => (24 ≤ σ.1 62 7 ∧ z = -1 ∧ σ' = σ) ∨ (σ.1 62 7 < 24 ∧ z = σ.1 62 7 ∧ σ' = seeF σ y p r c b))) := by
  obtain ⟨hS0, hS1, hS2, hS3⟩ := id hS
  refine e_entry om_X6_addSight (Nat.le_of_ble_eq_true rfl) (L := [some (.ref (G.2.2.2 + 62)), some (.int (iZ y)), some (.int (iZ p)), some (.int (iZ r)), some (.int (iZ c)), some (.int (iZ b))]) rfl ?_
  refine e_aload_n (q := 1) (i := 0) dX6_addSight_0 rfl rfl rfl ?_
  refine e_getI (q := 4) (jz := 7) dX6_addSight_1 rfl fg_X6_38 rfl (by first | assumption | rfl) rfl ?_
  refine e_bipush (q := 6) dX6_addSight_4 rfl (by decide) ?_
  refine e_icmp_lt (q := 9) (tgt := 11) dX6_addSight_6 rfl (by decide) (fun c6 => ?_) (fun c6 => ?_)
  · refine e_aload_n (q := 12) (i := 0) dX6_addSight_11 rfl rfl rfl ?_
    refine e_getR (q := 15) dX6_addSight_12 rfl fg_X6_11 (by first | assumption | rfl) rfl ?_
    refine e_aload_n (q := 16) (i := 0) dX6_addSight_15 rfl rfl rfl ?_
    refine e_getI (q := 19) (jz := 7) dX6_addSight_16 rfl fg_X6_38 rfl (by first | assumption | rfl) rfl ?_
    refine e_iconst (q := 20) dX6_addSight_19 rfl ?_
    refine e_iast (q := 21) dX6_addSight_20 rfl (by first | assumption | rfl) ?_ (h0 := (show 0 ≤ σ.1 62 7 by omega)) (hi := (show σ.1 62 7 < ((24 : Nat) : Int) by omega))
    refine e_aload_n (q := 22) (i := 0) dX6_addSight_21 rfl rfl rfl ?_
    refine e_getR (q := 25) dX6_addSight_22 rfl fg_X6_15 (by first | assumption | rfl) rfl ?_
    refine e_aload_n (q := 26) (i := 0) dX6_addSight_25 rfl rfl rfl ?_
    refine e_getI (q := 29) (jz := 7) dX6_addSight_26 rfl fg_X6_38 rfl (by first | assumption | rfl) rfl ?_
    refine e_iload_n (q := 30) (i := 1) dX6_addSight_29 rfl rfl rfl ?_
    refine e_iast (q := 31) dX6_addSight_30 rfl (by first | assumption | rfl) ?_ (h0 := (show 0 ≤ σ.1 62 7 by omega)) (hi := (show σ.1 62 7 < ((24 : Nat) : Int) by omega))
    refine e_aload_n (q := 32) (i := 0) dX6_addSight_31 rfl rfl rfl ?_
    refine e_getR (q := 35) dX6_addSight_32 rfl fg_X6_18 (by first | assumption | rfl) rfl ?_
    refine e_aload_n (q := 36) (i := 0) dX6_addSight_35 rfl rfl rfl ?_
    refine e_getI (q := 39) (jz := 7) dX6_addSight_36 rfl fg_X6_38 rfl (by first | assumption | rfl) rfl ?_
    refine e_iload_n (q := 40) (i := 2) dX6_addSight_39 rfl rfl rfl ?_
    refine e_iast (q := 41) dX6_addSight_40 rfl (by first | assumption | rfl) ?_ (h0 := (show 0 ≤ σ.1 62 7 by omega)) (hi := (show σ.1 62 7 < ((24 : Nat) : Int) by omega))
    refine e_aload_n (q := 42) (i := 0) dX6_addSight_41 rfl rfl rfl ?_
    refine e_getR (q := 45) dX6_addSight_42 rfl fg_X6_21 (by first | assumption | rfl) rfl ?_
    refine e_aload_n (q := 46) (i := 0) dX6_addSight_45 rfl rfl rfl ?_
    refine e_getI (q := 49) (jz := 7) dX6_addSight_46 rfl fg_X6_38 rfl (by first | assumption | rfl) rfl ?_
    refine e_iload_n (q := 50) (i := 3) dX6_addSight_49 rfl rfl rfl ?_
    refine e_iast (q := 51) dX6_addSight_50 rfl (by first | assumption | rfl) ?_ (h0 := (show 0 ≤ σ.1 62 7 by omega)) (hi := (show σ.1 62 7 < ((24 : Nat) : Int) by omega))
    refine e_aload_n (q := 52) (i := 0) dX6_addSight_51 rfl rfl rfl ?_
    refine e_getR (q := 55) dX6_addSight_52 rfl fg_X6_24 (by first | assumption | rfl) rfl ?_
    refine e_aload_n (q := 56) (i := 0) dX6_addSight_55 rfl rfl rfl ?_
    refine e_getI (q := 59) (jz := 7) dX6_addSight_56 rfl fg_X6_38 rfl (by first | assumption | rfl) rfl ?_
    refine e_iload (q := 61) dX6_addSight_59 rfl rfl ?_
    refine e_iast (q := 62) dX6_addSight_61 rfl (by first | assumption | rfl) ?_ (h0 := (show 0 ≤ σ.1 62 7 by omega)) (hi := (show σ.1 62 7 < ((24 : Nat) : Int) by omega))
    refine e_aload_n (q := 63) (i := 0) dX6_addSight_62 rfl rfl rfl ?_
    refine e_getR (q := 66) dX6_addSight_63 rfl fg_X6_27 (by first | assumption | rfl) rfl ?_
    refine e_aload_n (q := 67) (i := 0) dX6_addSight_66 rfl rfl rfl ?_
    refine e_getI (q := 70) (jz := 7) dX6_addSight_67 rfl fg_X6_38 rfl (by first | assumption | rfl) rfl ?_
    refine e_iload (q := 72) dX6_addSight_70 rfl rfl ?_
    refine e_zast (q := 73) dX6_addSight_72 rfl (by first | assumption | rfl) hb ?_ (h0 := (show 0 ≤ σ.1 62 7 by omega)) (hi := (show σ.1 62 7 < ((24 : Nat) : Int) by omega))
    refine e_aload_n (q := 74) (i := 0) dX6_addSight_73 rfl rfl rfl ?_
    refine e_dup (q := 75) dX6_addSight_74 rfl rfl ?_
    refine e_getI (q := 78) (jz := 7) dX6_addSight_75 rfl fg_X6_38 rfl (by first | assumption | rfl) rfl ?_
    refine e_iconst (q := 79) dX6_addSight_78 rfl ?_
    refine e_iadd (q := 80) dX6_addSight_79 rfl ?_
    refine e_putI (q := 83) (jz := 7) dX6_addSight_80 rfl fp_X6_38 rfl (by first | assumption | rfl) rfl ?_
    refine e_aload_n (q := 84) (i := 0) dX6_addSight_83 rfl rfl rfl ?_
    refine e_getI (q := 87) (jz := 7) dX6_addSight_84 rfl fg_X6_38 rfl (by first | assumption | rfl) rfl ?_
    refine e_iconst (q := 88) dX6_addSight_87 rfl ?_
    refine e_isub (q := 89) dX6_addSight_88 rfl ?_
    exact r_i dX6_addSight_89 rfl (Or.inr ⟨by omega, by show σ.1 62 7 + 1 - 1 = _; omega, rfl⟩)
  · refine e_iconst (q := 10) dX6_addSight_9 rfl ?_
    exact r_i dX6_addSight_10 rfl (Or.inl ⟨by omega, rfl, rfl⟩)

theorem c_X6_addStrike {G : Gx} {σ : Sg} {x : Int} (hS : SI σ) (hx : R32 x) : Con G 1 mX6_addStrike [.ref (G.2.2.2 + 62), .int (iZ x)] σ (pI (fun z σ' => ((x < 0 ∨ σ.1 62 7 ≤ x ∨ 24 ≤ σ.1 62 7) ∧ z = -1 ∧ σ' = σ) ∨ ((0 ≤ x ∧ x < σ.1 62 7 ∧ σ.1 62 7 < 24) ∧ z = σ.1 62 7 ∧ σ' = sI (sI σ 63 (σ.1 62 7) x) 62 7 (σ.1 62 7 + 1)))) := by
  obtain ⟨hS0, hS1, hS2, hS3⟩ := id hS
  refine e_entry om_X6_addStrike (Nat.le_of_ble_eq_true rfl) (L := [some (.ref (G.2.2.2 + 62)), some (.int (iZ x))]) rfl ?_
  refine e_iload_n (q := 1) (i := 1) dX6_addStrike_0 rfl rfl rfl ?_
  refine e_if_lt (q := 4) (tgt := 21) dX6_addStrike_1 rfl (by decide) (fun c1 => ?_) (fun c1 => ?_) (hx := hx)
  · refine e_iconst (q := 22) dX6_addStrike_21 rfl ?_
    exact r_i dX6_addStrike_22 rfl (Or.inl ⟨by omega, rfl, rfl⟩)
  · refine e_iload_n (q := 5) (i := 1) dX6_addStrike_4 rfl rfl rfl ?_
    refine e_aload_n (q := 6) (i := 0) dX6_addStrike_5 rfl rfl rfl ?_
    refine e_getI (q := 9) (jz := 7) dX6_addStrike_6 rfl fg_X6_38 rfl (by first | assumption | rfl) rfl ?_
    refine e_icmp_ge (q := 12) (tgt := 21) dX6_addStrike_9 rfl (by decide) (fun c9 => ?_) (fun c9 => ?_) (hx := hx)
    · refine e_iconst (q := 22) dX6_addStrike_21 rfl ?_
      exact r_i dX6_addStrike_22 rfl (Or.inl ⟨by omega, rfl, rfl⟩)
    · refine e_aload_n (q := 13) (i := 0) dX6_addStrike_12 rfl rfl rfl ?_
      refine e_getI (q := 16) (jz := 7) dX6_addStrike_13 rfl fg_X6_38 rfl (by first | assumption | rfl) rfl ?_
      refine e_bipush (q := 18) dX6_addStrike_16 rfl (by decide) ?_
      refine e_icmp_lt (q := 21) (tgt := 23) dX6_addStrike_18 rfl (by decide) (fun c18 => ?_) (fun c18 => ?_)
      · refine e_aload_n (q := 24) (i := 0) dX6_addStrike_23 rfl rfl rfl ?_
        refine e_getR (q := 27) dX6_addStrike_24 rfl fg_X6_11 (by first | assumption | rfl) rfl ?_
        refine e_aload_n (q := 28) (i := 0) dX6_addStrike_27 rfl rfl rfl ?_
        refine e_getI (q := 31) (jz := 7) dX6_addStrike_28 rfl fg_X6_38 rfl (by first | assumption | rfl) rfl ?_
        refine e_iload_n (q := 32) (i := 1) dX6_addStrike_31 rfl rfl rfl ?_
        refine e_iast (q := 33) dX6_addStrike_32 rfl (by first | assumption | rfl) ?_ (h0 := (show 0 ≤ σ.1 62 7 by omega)) (hi := (show σ.1 62 7 < ((24 : Nat) : Int) by omega))
        refine e_aload_n (q := 34) (i := 0) dX6_addStrike_33 rfl rfl rfl ?_
        refine e_dup (q := 35) dX6_addStrike_34 rfl rfl ?_
        refine e_getI (q := 38) (jz := 7) dX6_addStrike_35 rfl fg_X6_38 rfl (by first | assumption | rfl) rfl ?_
        refine e_iconst (q := 39) dX6_addStrike_38 rfl ?_
        refine e_iadd (q := 40) dX6_addStrike_39 rfl ?_
        refine e_putI (q := 43) (jz := 7) dX6_addStrike_40 rfl fp_X6_38 rfl (by first | assumption | rfl) rfl ?_
        refine e_aload_n (q := 44) (i := 0) dX6_addStrike_43 rfl rfl rfl ?_
        refine e_getI (q := 47) (jz := 7) dX6_addStrike_44 rfl fg_X6_38 rfl (by first | assumption | rfl) rfl ?_
        refine e_iconst (q := 48) dX6_addStrike_47 rfl ?_
        refine e_isub (q := 49) dX6_addStrike_48 rfl ?_
        exact r_i dX6_addStrike_49 rfl (Or.inr ⟨by omega, by show σ.1 62 7 + 1 - 1 = _; omega, rfl⟩)
      · refine e_iconst (q := 22) dX6_addStrike_21 rfl ?_
        exact r_i dX6_addStrike_22 rfl (Or.inl ⟨by omega, rfl, rfl⟩)

theorem c_X6_limit {G : Gx} {σ : Sg} {x : Int} (hS : SI σ) (hx : R32 x) : Con G 1 mX6_limit [.ref (G.2.2.2 + 62), .int (iZ x)] σ (pI (fun z σ' => ((x < -1 ∨ σ.1 62 7 < x) ∧ z = 0 ∧ σ' = σ) ∨ ((-1 ≤ x ∧ x ≤ σ.1 62 7) ∧ z = 1 ∧ σ' = sI σ 62 8 x))) := by
  obtain ⟨hS0, hS1, hS2, hS3⟩ := id hS
  refine e_entry om_X6_limit (Nat.le_of_ble_eq_true rfl) (L := [some (.ref (G.2.2.2 + 62)), some (.int (iZ x))]) rfl ?_
  refine e_iload_n (q := 1) (i := 1) dX6_limit_0 rfl rfl rfl ?_
  refine e_iconst (q := 2) dX6_limit_1 rfl ?_
  refine e_icmp_lt (q := 5) (tgt := 13) dX6_limit_2 rfl (by decide) (fun c2 => ?_) (fun c2 => ?_) (hx := hx)
  · refine e_iconst (q := 14) dX6_limit_13 rfl ?_
    exact r_z dX6_limit_14 rfl (by first | exact Or.inl rfl | exact Or.inr rfl | omega) (Or.inl ⟨by omega, rfl, rfl⟩)
  · refine e_iload_n (q := 6) (i := 1) dX6_limit_5 rfl rfl rfl ?_
    refine e_aload_n (q := 7) (i := 0) dX6_limit_6 rfl rfl rfl ?_
    refine e_getI (q := 10) (jz := 7) dX6_limit_7 rfl fg_X6_38 rfl (by first | assumption | rfl) rfl ?_
    refine e_icmp_le (q := 13) (tgt := 15) dX6_limit_10 rfl (by decide) (fun c10 => ?_) (fun c10 => ?_) (hx := hx)
    · refine e_aload_n (q := 16) (i := 0) dX6_limit_15 rfl rfl rfl ?_
      refine e_iload_n (q := 17) (i := 1) dX6_limit_16 rfl rfl rfl ?_
      refine e_putI (q := 20) (jz := 8) dX6_limit_17 rfl fp_X6_34 rfl (by first | assumption | rfl) rfl ?_
      refine e_iconst (q := 21) dX6_limit_20 rfl ?_
      exact r_z dX6_limit_21 rfl (by first | exact Or.inl rfl | exact Or.inr rfl | omega) (Or.inr ⟨by omega, rfl, rfl⟩)
    · refine e_iconst (q := 14) dX6_limit_13 rfl ?_
      exact r_z dX6_limit_14 rfl (by first | exact Or.inl rfl | exact Or.inr rfl | omega) (Or.inl ⟨by omega, rfl, rfl⟩)

theorem c_X6_knownEntries {G : Gx} {σ : Sg} (hS : SI σ) : Con G 1 mX6_knownEntries [.ref (G.2.2.2 + 62)] σ (pI (pE σ (knE σ))) := by
  obtain ⟨hS0, hS1, hS2, hS3⟩ := id hS
  refine e_entry om_X6_knownEntries (Nat.le_of_ble_eq_true rfl) (L := [some (.ref (G.2.2.2 + 62))]) rfl ?_
  refine e_aload_n (q := 1) (i := 0) dX6_knownEntries_0 rfl rfl rfl ?_
  refine e_getI (q := 4) (jz := 8) dX6_knownEntries_1 rfl fg_X6_34 rfl (by first | assumption | rfl) rfl ?_
  refine e_iconst (q := 5) dX6_knownEntries_4 rfl ?_
  refine e_icmp_ne (q := 8) (tgt := 15) dX6_knownEntries_5 rfl (by decide) (fun c5 => ?_) (fun c5 => ?_)
  · refine e_aload_n (q := 16) (i := 0) dX6_knownEntries_15 rfl rfl rfl ?_
    refine e_getI (q := 19) (jz := 8) dX6_knownEntries_16 rfl fg_X6_34 rfl (by first | assumption | rfl) rfl ?_
    exact r_i dX6_knownEntries_19 rfl ⟨by unfold knE; first | (rw [if_pos (by omega)]; done) | (rw [if_neg (by omega)]; done), rfl⟩
  · refine e_aload_n (q := 9) (i := 0) dX6_knownEntries_8 rfl rfl rfl ?_
    refine e_getI (q := 12) (jz := 7) dX6_knownEntries_9 rfl fg_X6_38 rfl (by first | assumption | rfl) rfl ?_
    refine e_goto (tgt := 19) dX6_knownEntries_12 (by decide) ?_
    exact r_i dX6_knownEntries_19 rfl ⟨by unfold knE; first | (rw [if_pos (by omega)]; done) | (rw [if_neg (by omega)]; done), rfl⟩

