/-- years on one of the reference's lands -/
def mPa (σ : Sg) (s w : Int) (k : Nat) (x : Yd × Int) : Yd × Int := yPass (mLaw σ) (σ.1 91) (mCk σ s) (mEd σ) (mBs σ) (σ.1 93) (σ.1 95) (gOv (σ.1 86) (σ.1 87)) (σ.1 84 3) (σ.1 84 1) (σ.1 84 2) (mUn σ) (mTl σ) 0 0 (σ.1 84 4) w k x
theorem mPa_succ (σ : Sg) (s w : Int) {k : Int} (h : 0 ≤ k) (x : Yd × Int) : mPa σ s w (k + 1).toNat x = (mYr σ s (gWet (σ.1 84 4) (mPa σ s w k.toNat x).2 w).1 (mPa σ s w k.toNat x).1, (gWet (σ.1 84 4) (mPa σ s w k.toNat x).2 w).2) := by
  obtain ⟨m, rfl⟩ := Int.eq_ofNat_of_zero_le h
  rfl
theorem mPa_ye (σ : Sg) (s w : Int) (k : Nat) (x : Yd × Int) : (mPa σ s w k x).1.2.2.2.2 = x.1.2.2.2.2 + k := yPass_ye _ _ _ _ _ _ _ _ _ _ _ _ _ _ _ _ _ _ _
theorem Mn.rf {σ : Sg} {s : Int} (h : MI σ s) : Mn σ σ s (ydm σ s, σ.1 103 s) := ⟨Fm.rf _ _ _, rfl, Oth.rf _ _, h, rfl⟩
theorem Mn.mt {σ τ : Sg} {s : Int} {y : Yd × Int} (h : Mn σ τ s y) (hT : MT σ) : MT τ := hT.fr h.1 nc_84c
theorem Mn.mw {σ τ : Sg} {s : Int} {y : Yd × Int} (h : Mn σ τ s y) (hT : MW σ) : MW τ := hT.fr h.1 nc_96c
theorem Mn.mb {σ τ : Sg} {s : Int} {y : Yd × Int} (h : Mn σ τ s y) (hT : MB σ) : MB τ := hT.fr h.1 nc_84c
theorem Mn.c {σ τ : Sg} {s : Int} {y : Yd × Int} (h : Mn σ τ s y) {a : Nat} (h1 : 84 ≤ a) (h2 : a ≤ 95) : τ.1 a = σ.1 a := h.1.c (nc_84c a h1 h2)
theorem Mn.f {σ τ : Sg} {s : Int} {y : Yd × Int} (h : Mn σ τ s y) {j : Int} (hj : j ≠ 34) : τ.1 82 j = σ.1 82 j := h.1.2 j (by simp only [List.mem_cons, List.not_mem_nil, or_false]; exact hj)
theorem Mn.wt {σ τ : Sg} {s : Int} {y : Yd × Int} (h : Mn σ τ s y) (b : Int) : mWt τ b = mWt σ b := by
  unfold mWt
  rw [h.f (by decide)]
theorem Mn_step {σ τ τ' : Sg} {s b : Int} {x : Yd × Int} (h : Mn σ τ s x) (h' : Mn τ τ' s (mYr τ s (gWet (τ.1 84 4) (τ.1 103 s) (mWt τ b)).1 (ydm τ s), (gWet (τ.1 84 4) (τ.1 103 s) (mWt τ b)).2)) : Mn σ τ' s (mYr σ s (gWet (σ.1 84 4) x.2 (mWt σ b)).1 x.1, (gWet (σ.1 84 4) x.2 (mWt σ b)).2) := by
  rw [h.c (a := 84) (by decide) (by decide), h.wt, mYr.fr h.1 s, h.2.1, h.2.2.2.2] at h'
  exact ⟨h.1.tr h'.1, h'.2.1, h.2.2.1.tr h'.2.2.1, h'.2.2.2.1, h'.2.2.2.2⟩

theorem c_X12_goesOn {G : Gx} {σ : Sg} {m : Int} (hT : MT σ) (hW : MW σ) (hI : MI σ 1) (hB : MB σ) (hx : R32 (σ.1 82 44)) (hx2 : R32 (σ.1 82 45)) (hm0 : 0 ≤ m) (hm1 : m ≤ 100000) (hmY : σ.1 102 1 + m ≤ 100000) : Con G 8 mX12_goesOn [.ref (G.2.2.2 + 82), .int (iZ m)] σ (pV (fun σ' => Mn σ σ' 1 (mPa σ 1 (mWt σ 0) m.toNat (ydm σ 1, σ.1 103 1)))) := by
  have lp : ∀ (n : Nat) (τ : Sg) (i : Int), 0 ≤ i → i + n = m → Mn σ τ 1 (mPa σ 1 (mWt σ 0) i.toNat (ydm σ 1, σ.1 103 1)) → J G 8 mX12_goesOn (pV (fun σ' => Mn σ σ' 1 (mPa σ 1 (mWt σ 0) m.toNat (ydm σ 1, σ.1 103 1)))) τ 2 [some (.ref (G.2.2.2 + 82)), some (.int (iZ m)), some (.int (iZ i))] [] := by
    intro n
    induction n with
    | zero =>
      intro τ i h0 hn hlp
      refine e_iload_n (q := 3) (i := 2) dX12_goesOn_2 rfl rfl rfl ?_
      refine e_iload_n (q := 4) (i := 1) dX12_goesOn_3 rfl rfl rfl ?_
      refine e_icmp_ge (q := 7) (tgt := 19) dX12_goesOn_4 rfl (by decide) (fun c4 => ?_) (fun c4 => absurd (by omega) c4)
      have ei : i = m := by omega
      subst ei
      exact r_v dX12_goesOn_19 rfl hlp
    | succ n ih =>
      intro τ i h0 hn hlp
      refine e_iload_n (q := 3) (i := 2) dX12_goesOn_2 rfl rfl rfl ?_
      refine e_iload_n (q := 4) (i := 1) dX12_goesOn_3 rfl rfl rfl ?_
      refine e_icmp_ge (q := 7) (tgt := 19) dX12_goesOn_4 rfl (by decide) (fun c4 => absurd c4 (by omega)) (fun c4 => ?_)
      refine e_aload_n (q := 8) (i := 0) dX12_goesOn_7 rfl rfl rfl ?_
      refine e_iconst (q := 9) dX12_goesOn_8 rfl ?_
      refine e_iconst (q := 10) dX12_goesOn_9 rfl ?_
      have hYe : τ.1 102 1 = σ.1 102 1 + i := by
        have q : (ydm τ 1).2.2.2.2 = _ := congrArg (fun y : Yd => y.2.2.2.2) hlp.2.1
        rw [mPa_ye] at q
        have e : (ydm τ 1).2.2.2.2 = τ.1 102 1 := rfl
        have e0 : (ydm σ 1).2.2.2.2 = σ.1 102 1 := rfl
        rw [← e, q]
        show (ydm σ 1).2.2.2.2 + _ = _
        rw [e0]
        omega
      refine e_Vv (q := 13) (vs := [_, _]) ok_X12_passes ml_X12_392 dX12_goesOn_10 rfl ⟨_, _, rfl⟩ (by first | assumption | rfl) rfl rfl (Nat.le_of_ble_eq_true rfl) (by decide) (c_X12_passes (hlp.mt hT) (hlp.mw hW) hlp.2.2.2.1 (hlp.mb hB) (by decide) (by decide) (by rw [hlp.f (by decide)]; exact hx) (by rw [hlp.f (by decide)]; exact hx2) (Or.inl rfl) (by omega)) (fun s10 h10 => ?_)
      refine e_iinc (q := 16) (L' := [_, _, _]) dX12_goesOn_13 rfl rfl (by decide) rfl rfl ?_
      refine e_goto (tgt := 2) dX12_goesOn_16 (by decide) ?_
      refine ih _ _ (by omega) (by omega) ?_
      rw [mPa_succ _ _ _ h0]
      exact Mn_step hlp h10
  refine e_entry om_X12_goesOn (Nat.le_of_ble_eq_true rfl) (L := [some (.ref (G.2.2.2 + 82)), some (.int (iZ m)), none]) rfl ?_
  refine e_iconst (q := 1) dX12_goesOn_0 rfl ?_
  refine e_istore_n (q := 2) (i := 2) (L' := [_, _, _]) dX12_goesOn_1 rfl rfl (by decide) rfl rfl ?_
  exact lp m.toNat σ 0 (by omega) (by omega) (Mn.rf hI)

/-- a land has become another -/
def MCp (σ : Sg) (to as : Int) (σ' : Sg) : Prop := Fm [102, 103, 104, 105, 106, 107, 108] [] σ σ' ∧ Oth σ σ' to ∧ (∀ i, 0 ≤ i → i < 16 → mF σ' to i = mF σ as i ∧ mK σ' to i = mK σ as i) ∧ (∀ i, 0 ≤ i → i < 6 → mL σ' to i = mL σ as i ∧ mD σ' to i = mD σ as i) ∧ σ'.1 104 to = σ.1 104 as ∧ σ'.1 102 to = σ.1 102 as ∧ σ'.1 103 to = σ.1 103 as
/-- a land as a text begins it -/
def MSt (σ : Sg) (s : Int) (σ' : Sg) : Prop := Fm [102, 103, 104, 105, 106, 107, 108] [] σ σ' ∧ Oth σ σ' s ∧ (∀ i, 0 ≤ i → i < 16 → mF σ' s i = 0 ∧ mK σ' s i = (if i < 4 * σ.1 84 1 then σ.1 88 i else 0)) ∧ (∀ i, 0 ≤ i → i < 6 → mL σ' s i = (if i < σ.1 84 2 then σ.1 90 i else 0) ∧ mD σ' s i = 0) ∧ σ'.1 104 s = 0 ∧ σ'.1 102 s = 0 ∧ σ'.1 103 s = σ.1 84 5

theorem mK_uf (σ : Sg) (s t v : Int) : mK (sI σ 106 (16 * s + t) v) s = uf (mK σ s) t v := by
  funext i
  unfold mK uf
  rw [sI_1]
  by_cases h : i = t
  · rw [if_pos ⟨rfl, by omega⟩, if_pos h]
  · rw [if_neg (by omega), if_neg h]

set_option maxHeartbeats 4000000 in
theorem c_X12_copies {G : Gx} {σ : Sg} {to as : Int} (ht0 : 0 ≤ to) (ht1 : to < 23) (ha0 : 0 ≤ as) (ha1 : as < 23) (hne : as ≠ to) : Con G 1 mX12_copies [.ref (G.2.2.2 + 82), .int (iZ to), .int (iZ as)] σ (pV (MCp σ to as)) := by
  have ln : ∀ (n : Nat) (τ : Sg) (i : Int), 0 ≤ i → i + n = 6 → Fm [102, 103, 104, 105, 106, 107, 108] [] σ τ → Oth σ τ to → (τ.1 104 to = σ.1 104 as ∧ τ.1 102 to = σ.1 102 as ∧ τ.1 103 to = σ.1 103 as) → (∀ j, 0 ≤ j → j < 16 → mF τ to j = mF σ as j ∧ mK τ to j = mK σ as j) → (∀ j, 0 ≤ j → j < i → mL τ to j = mL σ as j ∧ mD τ to j = mD σ as j) → J G 1 mX12_copies (pV (MCp σ to as)) τ 96 [some (.ref (G.2.2.2 + 82)), some (.int (iZ to)), some (.int (iZ as)), some (.int (iZ i))] [] := by
    intro n
    induction n with
    | zero =>
      intro τ i h0 hn hF hO hS h16 h6
      refine e_iload_n (q := 97) (i := 3) dX12_copies_96 rfl rfl rfl ?_
      refine e_bipush (q := 99) dX12_copies_97 rfl (by decide) ?_
      refine e_icmp_ge (q := 102) (tgt := 152) dX12_copies_99 rfl (by decide) (fun c99 => ?_) (fun c99 => absurd (by omega) c99)
      exact r_v dX12_copies_152 rfl ⟨hF, hO, h16, fun j a b => h6 j a (by omega), hS⟩
    | succ n ih =>
      intro τ i h0 hn hF hO hS h16 h6
      refine e_iload_n (q := 97) (i := 3) dX12_copies_96 rfl rfl rfl ?_
      refine e_bipush (q := 99) dX12_copies_97 rfl (by decide) ?_
      refine e_icmp_ge (q := 102) (tgt := 152) dX12_copies_99 rfl (by decide) (fun c99 => absurd c99 (by omega)) (fun c99 => ?_)
      refine e_aload_n (q := 103) (i := 0) dX12_copies_102 rfl rfl rfl ?_
      refine e_getR (q := 106) dX12_copies_103 rfl fg_X12_87 (by first | assumption | rfl) rfl ?_
      refine e_bipush (q := 108) dX12_copies_106 rfl (by decide) ?_
      refine e_iload_n (q := 109) (i := 1) dX12_copies_108 rfl rfl rfl ?_
      refine e_imul (q := 110) dX12_copies_109 rfl ?_
      refine e_iload_n (q := 111) (i := 3) dX12_copies_110 rfl rfl rfl ?_
      refine e_iadd (q := 112) dX12_copies_111 rfl ?_
      refine e_aload_n (q := 113) (i := 0) dX12_copies_112 rfl rfl rfl ?_
      refine e_getR (q := 116) dX12_copies_113 rfl fg_X12_87 (by first | assumption | rfl) rfl ?_
      refine e_bipush (q := 118) dX12_copies_116 rfl (by decide) ?_
      refine e_iload_n (q := 119) (i := 2) dX12_copies_118 rfl rfl rfl ?_
      refine e_imul (q := 120) dX12_copies_119 rfl ?_
      refine e_iload_n (q := 121) (i := 3) dX12_copies_120 rfl rfl rfl ?_
      refine e_iadd (q := 122) dX12_copies_121 rfl ?_
      refine e_iald (q := 123) dX12_copies_122 rfl (by first | assumption | rfl) ?_
      refine e_iast (q := 124) dX12_copies_123 rfl (by first | assumption | rfl) ?_
      refine e_aload_n (q := 125) (i := 0) dX12_copies_124 rfl rfl rfl ?_
      refine e_getR (q := 128) dX12_copies_125 rfl fg_X12_90 (by first | assumption | rfl) rfl ?_
      refine e_bipush (q := 130) dX12_copies_128 rfl (by decide) ?_
      refine e_iload_n (q := 131) (i := 1) dX12_copies_130 rfl rfl rfl ?_
      refine e_imul (q := 132) dX12_copies_131 rfl ?_
      refine e_iload_n (q := 133) (i := 3) dX12_copies_132 rfl rfl rfl ?_
      refine e_iadd (q := 134) dX12_copies_133 rfl ?_
      refine e_aload_n (q := 135) (i := 0) dX12_copies_134 rfl rfl rfl ?_
      refine e_getR (q := 138) dX12_copies_135 rfl fg_X12_90 (by first | assumption | rfl) rfl ?_
      refine e_bipush (q := 140) dX12_copies_138 rfl (by decide) ?_
      refine e_iload_n (q := 141) (i := 2) dX12_copies_140 rfl rfl rfl ?_
      refine e_imul (q := 142) dX12_copies_141 rfl ?_
      refine e_iload_n (q := 143) (i := 3) dX12_copies_142 rfl rfl rfl ?_
      refine e_iadd (q := 144) dX12_copies_143 rfl ?_
      refine e_iald (q := 145) dX12_copies_144 rfl (by first | assumption | rfl) ?_
      refine e_iast (q := 146) dX12_copies_145 rfl (by first | assumption | rfl) ?_
      refine e_iinc (q := 149) (L' := [_, _, _, _]) dX12_copies_146 rfl rfl (by decide) rfl rfl ?_
      refine e_goto (tgt := 96) dX12_copies_149 (by decide) ?_
      refine ih _ _ (by omega) (by omega) ((hF.si (by decide) (by decide) _ _).si (by decide) (by decide) _ _) ((hO.s6 (Or.inl rfl) h0 (by omega) _).s6 (Or.inr rfl) h0 (by omega) _) ?_ ?_ ?_
      · simp only [sI_ne _ (show (104 : Nat) ≠ 107 by decide), sI_ne _ (show (104 : Nat) ≠ 108 by decide), sI_ne _ (show (102 : Nat) ≠ 107 by decide), sI_ne _ (show (102 : Nat) ≠ 108 by decide), sI_ne _ (show (103 : Nat) ≠ 107 by decide), sI_ne _ (show (103 : Nat) ≠ 108 by decide)]
        exact hS
      · rw [mF_ne _ _ (by decide), mF_ne _ _ (by decide), mK_ne _ _ (by decide), mK_ne _ _ (by decide)]
        exact h16
      · intro j a b
        rw [mD_uf, mD_ne _ _ (by decide), mL_ne _ _ (by decide), mL_uf, sI_ne (a := 108) _ (by decide)]
        by_cases e : j = i
        · subst e
          unfold uf
          rw [if_pos rfl, if_pos rfl]
          have q := (hO as hne).2.1 j a (by omega)
          exact ⟨q.1, q.2⟩
        · unfold uf
          rw [if_neg e, if_neg e]
          exact h6 j a (by omega)
  have lp : ∀ (n : Nat) (τ : Sg) (i : Int), 0 ≤ i → i + n = 16 → Fm [102, 103, 104, 105, 106, 107, 108] [] σ τ → Oth σ τ to → (τ.1 104 to = σ.1 104 as ∧ τ.1 102 to = σ.1 102 as ∧ τ.1 103 to = σ.1 103 as) → (∀ j, 0 ≤ j → j < i → mF τ to j = mF σ as j ∧ mK τ to j = mK σ as j) → J G 1 mX12_copies (pV (MCp σ to as)) τ 38 [some (.ref (G.2.2.2 + 82)), some (.int (iZ to)), some (.int (iZ as)), some (.int (iZ i))] [] := by
    intro n
    induction n with
    | zero =>
      intro τ i h0 hn hF hO hS h16
      refine e_iload_n (q := 39) (i := 3) dX12_copies_38 rfl rfl rfl ?_
      refine e_bipush (q := 41) dX12_copies_39 rfl (by decide) ?_
      refine e_icmp_ge (q := 44) (tgt := 94) dX12_copies_41 rfl (by decide) (fun c41 => ?_) (fun c41 => absurd (by omega) c41)
      refine e_iconst (q := 95) dX12_copies_94 rfl ?_
      refine e_istore_n (q := 96) (i := 3) (L' := [_, _, _, _]) dX12_copies_95 rfl rfl (by decide) rfl rfl ?_
      exact ln 6 τ 0 (by decide) (by decide) hF hO hS (fun j a b => h16 j a (by omega)) (fun j a b => absurd b (by omega))
    | succ n ih =>
      intro τ i h0 hn hF hO hS h16
      refine e_iload_n (q := 39) (i := 3) dX12_copies_38 rfl rfl rfl ?_
      refine e_bipush (q := 41) dX12_copies_39 rfl (by decide) ?_
      refine e_icmp_ge (q := 44) (tgt := 94) dX12_copies_41 rfl (by decide) (fun c41 => absurd c41 (by omega)) (fun c41 => ?_)
      refine e_aload_n (q := 45) (i := 0) dX12_copies_44 rfl rfl rfl ?_
      refine e_getR (q := 48) dX12_copies_45 rfl fg_X12_81 (by first | assumption | rfl) rfl ?_
      refine e_bipush (q := 50) dX12_copies_48 rfl (by decide) ?_
      refine e_iload_n (q := 51) (i := 1) dX12_copies_50 rfl rfl rfl ?_
      refine e_imul (q := 52) dX12_copies_51 rfl ?_
      refine e_iload_n (q := 53) (i := 3) dX12_copies_52 rfl rfl rfl ?_
      refine e_iadd (q := 54) dX12_copies_53 rfl ?_
      refine e_aload_n (q := 55) (i := 0) dX12_copies_54 rfl rfl rfl ?_
      refine e_getR (q := 58) dX12_copies_55 rfl fg_X12_81 (by first | assumption | rfl) rfl ?_
      refine e_bipush (q := 60) dX12_copies_58 rfl (by decide) ?_
      refine e_iload_n (q := 61) (i := 2) dX12_copies_60 rfl rfl rfl ?_
      refine e_imul (q := 62) dX12_copies_61 rfl ?_
      refine e_iload_n (q := 63) (i := 3) dX12_copies_62 rfl rfl rfl ?_
      refine e_iadd (q := 64) dX12_copies_63 rfl ?_
      refine e_iald (q := 65) dX12_copies_64 rfl (by first | assumption | rfl) ?_
      refine e_iast (q := 66) dX12_copies_65 rfl (by first | assumption | rfl) ?_
      refine e_aload_n (q := 67) (i := 0) dX12_copies_66 rfl rfl rfl ?_
      refine e_getR (q := 70) dX12_copies_67 rfl fg_X12_84 (by first | assumption | rfl) rfl ?_
      refine e_bipush (q := 72) dX12_copies_70 rfl (by decide) ?_
      refine e_iload_n (q := 73) (i := 1) dX12_copies_72 rfl rfl rfl ?_
      refine e_imul (q := 74) dX12_copies_73 rfl ?_
      refine e_iload_n (q := 75) (i := 3) dX12_copies_74 rfl rfl rfl ?_
      refine e_iadd (q := 76) dX12_copies_75 rfl ?_
      refine e_aload_n (q := 77) (i := 0) dX12_copies_76 rfl rfl rfl ?_
      refine e_getR (q := 80) dX12_copies_77 rfl fg_X12_84 (by first | assumption | rfl) rfl ?_
      refine e_bipush (q := 82) dX12_copies_80 rfl (by decide) ?_
      refine e_iload_n (q := 83) (i := 2) dX12_copies_82 rfl rfl rfl ?_
      refine e_imul (q := 84) dX12_copies_83 rfl ?_
      refine e_iload_n (q := 85) (i := 3) dX12_copies_84 rfl rfl rfl ?_
      refine e_iadd (q := 86) dX12_copies_85 rfl ?_
      refine e_iald (q := 87) dX12_copies_86 rfl (by first | assumption | rfl) ?_
      refine e_iast (q := 88) dX12_copies_87 rfl (by first | assumption | rfl) ?_
      refine e_iinc (q := 91) (L' := [_, _, _, _]) dX12_copies_88 rfl rfl (by decide) rfl rfl ?_
      refine e_goto (tgt := 38) dX12_copies_91 (by decide) ?_
      refine ih _ _ (by omega) (by omega) ((hF.si (by decide) (by decide) _ _).si (by decide) (by decide) _ _) ((hO.s16 (Or.inl rfl) h0 (by omega) _).s16 (Or.inr rfl) h0 (by omega) _) ?_ ?_
      · simp only [sI_ne _ (show (104 : Nat) ≠ 105 by decide), sI_ne _ (show (104 : Nat) ≠ 106 by decide), sI_ne _ (show (102 : Nat) ≠ 105 by decide), sI_ne _ (show (102 : Nat) ≠ 106 by decide), sI_ne _ (show (103 : Nat) ≠ 105 by decide), sI_ne _ (show (103 : Nat) ≠ 106 by decide)]
        exact hS
      · intro j a b
        rw [mF_ne _ _ (by decide), mF_uf, mK_uf, mK_ne _ _ (by decide), sI_ne (a := 106) _ (by decide)]
        by_cases e : j = i
        · subst e
          unfold uf
          rw [if_pos rfl, if_pos rfl]
          have q := (hO as hne).1 j a (by omega)
          exact ⟨q.1, q.2⟩
        · unfold uf
          rw [if_neg e, if_neg e]
          exact h16 j a (by omega)
  refine e_entry om_X12_copies (Nat.le_of_ble_eq_true rfl) (L := [some (.ref (G.2.2.2 + 82)), some (.int (iZ to)), some (.int (iZ as)), none]) rfl ?_
  refine e_aload_n (q := 1) (i := 0) dX12_copies_0 rfl rfl rfl ?_
  refine e_getR (q := 4) dX12_copies_1 rfl fg_X12_72 (by first | assumption | rfl) rfl ?_
  refine e_iload_n (q := 5) (i := 1) dX12_copies_4 rfl rfl rfl ?_
  refine e_aload_n (q := 6) (i := 0) dX12_copies_5 rfl rfl rfl ?_
  refine e_getR (q := 9) dX12_copies_6 rfl fg_X12_72 (by first | assumption | rfl) rfl ?_
  refine e_iload_n (q := 10) (i := 2) dX12_copies_9 rfl rfl rfl ?_
  refine e_iald (q := 11) dX12_copies_10 rfl (by first | assumption | rfl) ?_
  refine e_iast (q := 12) dX12_copies_11 rfl (by first | assumption | rfl) ?_
  refine e_aload_n (q := 13) (i := 0) dX12_copies_12 rfl rfl rfl ?_
  refine e_getR (q := 16) dX12_copies_13 rfl fg_X12_75 (by first | assumption | rfl) rfl ?_
  refine e_iload_n (q := 17) (i := 1) dX12_copies_16 rfl rfl rfl ?_
  refine e_aload_n (q := 18) (i := 0) dX12_copies_17 rfl rfl rfl ?_
  refine e_getR (q := 21) dX12_copies_18 rfl fg_X12_75 (by first | assumption | rfl) rfl ?_
  refine e_iload_n (q := 22) (i := 2) dX12_copies_21 rfl rfl rfl ?_
  refine e_iald (q := 23) dX12_copies_22 rfl (by first | assumption | rfl) ?_
  refine e_iast (q := 24) dX12_copies_23 rfl (by first | assumption | rfl) ?_
  refine e_aload_n (q := 25) (i := 0) dX12_copies_24 rfl rfl rfl ?_
  refine e_getR (q := 28) dX12_copies_25 rfl fg_X12_78 (by first | assumption | rfl) rfl ?_
  refine e_iload_n (q := 29) (i := 1) dX12_copies_28 rfl rfl rfl ?_
  refine e_aload_n (q := 30) (i := 0) dX12_copies_29 rfl rfl rfl ?_
  refine e_getR (q := 33) dX12_copies_30 rfl fg_X12_78 (by first | assumption | rfl) rfl ?_
  refine e_iload_n (q := 34) (i := 2) dX12_copies_33 rfl rfl rfl ?_
  refine e_iald (q := 35) dX12_copies_34 rfl (by first | assumption | rfl) ?_
  refine e_iast (q := 36) dX12_copies_35 rfl (by first | assumption | rfl) ?_
  refine e_iconst (q := 37) dX12_copies_36 rfl ?_
  refine e_istore_n (q := 38) (i := 3) (L' := [_, _, _, _]) dX12_copies_37 rfl rfl (by decide) rfl rfl ?_
  exact lp 16 _ 0 (by decide) (by decide) ((((Fm.rf _ _ σ).si (by decide) (by decide) _ _).si (by decide) (by decide) _ _).si (by decide) (by decide) _ _) ((((Oth.rf σ to).s1 (Or.inl rfl) _).s1 (Or.inr (Or.inl rfl)) _).s1 (Or.inr (Or.inr rfl)) _) (by simp [sI_1]) (fun j a b => absurd b (by omega))

set_option maxHeartbeats 4000000 in
theorem c_X12_starts {G : Gx} {σ : Sg} {s : Int} (hT : MT σ) (hs0 : 0 ≤ s) (hs1 : s < 23)  : Con G 1 mX12_starts [.ref (G.2.2.2 + 82), .int (iZ s)] σ (pV (MSt σ s)) := by
  obtain ⟨hzz, hnp, hnc, hnb, hrn, hsd, hrw, hrq, hch, hbt, hck⟩ := id hT
  have ln : ∀ (n : Nat) (τ : Sg) (i : Int), 0 ≤ i → i + n = 6 → Fm [102, 103, 104, 105, 106, 107, 108] [] σ τ → Oth σ τ s → (τ.1 104 s = 0 ∧ τ.1 102 s = 0 ∧ τ.1 103 s = σ.1 84 5) → (∀ j, 0 ≤ j → j < 16 → mF τ s j = 0 ∧ mK τ s j = (if j < 4 * σ.1 84 1 then σ.1 88 j else 0)) → (∀ j, 0 ≤ j → j < i → mL τ s j = (if j < σ.1 84 2 then σ.1 90 j else 0) ∧ mD τ s j = 0) → J G 1 mX12_starts (pV (MSt σ s)) τ 87 [some (.ref (G.2.2.2 + 82)), some (.int (iZ s)), some (.int (iZ i))] [] := by
    intro n
    induction n with
    | zero =>
      intro τ i h0 hn hF hO hS h16 h6
      refine e_iload_n (q := 88) (i := 2) dX12_starts_87 rfl rfl rfl ?_
      refine e_bipush (q := 90) dX12_starts_88 rfl (by decide) ?_
      refine e_icmp_ge (q := 93) (tgt := 142) dX12_starts_90 rfl (by decide) (fun c90 => ?_) (fun c90 => absurd (by omega) c90)
      exact r_v dX12_starts_142 rfl ⟨hF, hO, h16, fun j a b => h6 j a (by omega), hS⟩
    | succ n ih =>
      intro τ i h0 hn hF hO hS h16 h6
      refine e_iload_n (q := 88) (i := 2) dX12_starts_87 rfl rfl rfl ?_
      refine e_bipush (q := 90) dX12_starts_88 rfl (by decide) ?_
      refine e_icmp_ge (q := 93) (tgt := 142) dX12_starts_90 rfl (by decide) (fun c90 => absurd c90 (by omega)) (fun c90 => ?_)
      refine e_aload_n (q := 94) (i := 0) dX12_starts_93 rfl rfl rfl ?_
      refine e_getR (q := 97) dX12_starts_94 rfl fg_X12_87 (by first | assumption | rfl) rfl ?_
      refine e_bipush (q := 99) dX12_starts_97 rfl (by decide) ?_
      refine e_iload_n (q := 100) (i := 1) dX12_starts_99 rfl rfl rfl ?_
      refine e_imul (q := 101) dX12_starts_100 rfl ?_
      refine e_iload_n (q := 102) (i := 2) dX12_starts_101 rfl rfl rfl ?_
      refine e_iadd (q := 103) dX12_starts_102 rfl ?_
      refine e_iload_n (q := 104) (i := 2) dX12_starts_103 rfl rfl rfl ?_
      refine e_aload_n (q := 105) (i := 0) dX12_starts_104 rfl rfl rfl ?_
      refine e_getR (q := 108) dX12_starts_105 rfl fg_X12_13 (by first | assumption | rfl) rfl ?_
      refine e_iconst (q := 109) dX12_starts_108 rfl ?_
      refine e_iald (q := 110) dX12_starts_109 rfl (by first | assumption | rfl) ?_
      have e842 : τ.1 84 2 = σ.1 84 2 := hF.e1 (by decide) 2
      have e90 : τ.1 90 i = σ.1 90 i := hF.e1 (by decide) i
      refine e_icmp_ge (q := 113) (tgt := 122) dX12_starts_110 rfl (by decide) (fun c110 => ?_) (fun c110 => ?_)
      · refine e_iconst (q := 123) dX12_starts_122 rfl ?_
        refine e_iast (q := 124) dX12_starts_123 rfl (by first | assumption | rfl) ?_
        refine e_aload_n (q := 125) (i := 0) dX12_starts_124 rfl rfl rfl ?_
        refine e_getR (q := 128) dX12_starts_125 rfl fg_X12_90 (by first | assumption | rfl) rfl ?_
        refine e_bipush (q := 130) dX12_starts_128 rfl (by decide) ?_
        refine e_iload_n (q := 131) (i := 1) dX12_starts_130 rfl rfl rfl ?_
        refine e_imul (q := 132) dX12_starts_131 rfl ?_
        refine e_iload_n (q := 133) (i := 2) dX12_starts_132 rfl rfl rfl ?_
        refine e_iadd (q := 134) dX12_starts_133 rfl ?_
        refine e_iconst (q := 135) dX12_starts_134 rfl ?_
        refine e_iast (q := 136) dX12_starts_135 rfl (by first | assumption | rfl) ?_
        refine e_iinc (q := 139) (L' := [_, _, _]) dX12_starts_136 rfl rfl (by decide) rfl rfl ?_
        refine e_goto (tgt := 87) dX12_starts_139 (by decide) ?_
        refine ih _ _ (by omega) (by omega) ((hF.si (by decide) (by decide) _ _).si (by decide) (by decide) _ _) ((hO.s6 (Or.inl rfl) h0 (by omega) _).s6 (Or.inr rfl) h0 (by omega) _) ?_ ?_ ?_
        · simp only [sI_ne _ (show (104 : Nat) ≠ 107 by decide), sI_ne _ (show (104 : Nat) ≠ 108 by decide), sI_ne _ (show (102 : Nat) ≠ 107 by decide), sI_ne _ (show (102 : Nat) ≠ 108 by decide), sI_ne _ (show (103 : Nat) ≠ 107 by decide), sI_ne _ (show (103 : Nat) ≠ 108 by decide)]
          exact hS
        · rw [mF_ne _ _ (by decide), mF_ne _ _ (by decide), mK_ne _ _ (by decide), mK_ne _ _ (by decide)]
          exact h16
        · intro j a b
          rw [mD_uf, mD_ne _ _ (by decide), mL_ne _ _ (by decide), mL_uf]
          by_cases e : j = i
          · subst e
            unfold uf
            rw [if_pos rfl, if_pos rfl]
            exact ⟨by rw [if_neg (by omega)], rfl⟩
          · unfold uf
            rw [if_neg e, if_neg e]
            exact h6 j a (by omega)
      · refine e_aload_n (q := 114) (i := 0) dX12_starts_113 rfl rfl rfl ?_
        refine e_getR (q := 117) dX12_starts_114 rfl fg_X12_31 (by first | assumption | rfl) rfl ?_
        refine e_iload_n (q := 118) (i := 2) dX12_starts_117 rfl rfl rfl ?_
        refine e_iald (q := 119) dX12_starts_118 rfl (by first | assumption | rfl) ?_
        refine e_goto (tgt := 123) dX12_starts_119 (by decide) ?_
        refine e_iast (q := 124) dX12_starts_123 rfl (by first | assumption | rfl) ?_
        refine e_aload_n (q := 125) (i := 0) dX12_starts_124 rfl rfl rfl ?_
        refine e_getR (q := 128) dX12_starts_125 rfl fg_X12_90 (by first | assumption | rfl) rfl ?_
        refine e_bipush (q := 130) dX12_starts_128 rfl (by decide) ?_
        refine e_iload_n (q := 131) (i := 1) dX12_starts_130 rfl rfl rfl ?_
        refine e_imul (q := 132) dX12_starts_131 rfl ?_
        refine e_iload_n (q := 133) (i := 2) dX12_starts_132 rfl rfl rfl ?_
        refine e_iadd (q := 134) dX12_starts_133 rfl ?_
        refine e_iconst (q := 135) dX12_starts_134 rfl ?_
        refine e_iast (q := 136) dX12_starts_135 rfl (by first | assumption | rfl) ?_
        refine e_iinc (q := 139) (L' := [_, _, _]) dX12_starts_136 rfl rfl (by decide) rfl rfl ?_
        refine e_goto (tgt := 87) dX12_starts_139 (by decide) ?_
        refine ih _ _ (by omega) (by omega) ((hF.si (by decide) (by decide) _ _).si (by decide) (by decide) _ _) ((hO.s6 (Or.inl rfl) h0 (by omega) _).s6 (Or.inr rfl) h0 (by omega) _) ?_ ?_ ?_
        · simp only [sI_ne _ (show (104 : Nat) ≠ 107 by decide), sI_ne _ (show (104 : Nat) ≠ 108 by decide), sI_ne _ (show (102 : Nat) ≠ 107 by decide), sI_ne _ (show (102 : Nat) ≠ 108 by decide), sI_ne _ (show (103 : Nat) ≠ 107 by decide), sI_ne _ (show (103 : Nat) ≠ 108 by decide)]
          exact hS
        · rw [mF_ne _ _ (by decide), mF_ne _ _ (by decide), mK_ne _ _ (by decide), mK_ne _ _ (by decide)]
          exact h16
        · intro j a b
          rw [mD_uf, mD_ne _ _ (by decide), mL_ne _ _ (by decide), mL_uf]
          by_cases e : j = i
          · subst e
            unfold uf
            rw [if_pos rfl, if_pos rfl]
            exact ⟨by rw [if_pos (by omega)]; exact e90, rfl⟩
          · unfold uf
            rw [if_neg e, if_neg e]
            exact h6 j a (by omega)
  have lp : ∀ (n : Nat) (τ : Sg) (i : Int), 0 ≤ i → i + n = 16 → Fm [102, 103, 104, 105, 106, 107, 108] [] σ τ → Oth σ τ s → (τ.1 104 s = 0 ∧ τ.1 102 s = 0 ∧ τ.1 103 s = σ.1 84 5) → (∀ j, 0 ≤ j → j < i → mF τ s j = 0 ∧ mK τ s j = (if j < 4 * σ.1 84 1 then σ.1 88 j else 0)) → J G 1 mX12_starts (pV (MSt σ s)) τ 28 [some (.ref (G.2.2.2 + 82)), some (.int (iZ s)), some (.int (iZ i))] [] := by
    intro n
    induction n with
    | zero =>
      intro τ i h0 hn hF hO hS h16
      refine e_iload_n (q := 29) (i := 2) dX12_starts_28 rfl rfl rfl ?_
      refine e_bipush (q := 31) dX12_starts_29 rfl (by decide) ?_
      refine e_icmp_ge (q := 34) (tgt := 85) dX12_starts_31 rfl (by decide) (fun c31 => ?_) (fun c31 => absurd (by omega) c31)
      refine e_iconst (q := 86) dX12_starts_85 rfl ?_
      refine e_istore_n (q := 87) (i := 2) (L' := [_, _, _]) dX12_starts_86 rfl rfl (by decide) rfl rfl ?_
      exact ln 6 τ 0 (by decide) (by decide) hF hO hS (fun j a b => h16 j a (by omega)) (fun j a b => absurd b (by omega))
    | succ n ih =>
      intro τ i h0 hn hF hO hS h16
      refine e_iload_n (q := 29) (i := 2) dX12_starts_28 rfl rfl rfl ?_
      refine e_bipush (q := 31) dX12_starts_29 rfl (by decide) ?_
      refine e_icmp_ge (q := 34) (tgt := 85) dX12_starts_31 rfl (by decide) (fun c31 => absurd c31 (by omega)) (fun c31 => ?_)
      refine e_aload_n (q := 35) (i := 0) dX12_starts_34 rfl rfl rfl ?_
      refine e_getR (q := 38) dX12_starts_35 rfl fg_X12_81 (by first | assumption | rfl) rfl ?_
      refine e_bipush (q := 40) dX12_starts_38 rfl (by decide) ?_
      refine e_iload_n (q := 41) (i := 1) dX12_starts_40 rfl rfl rfl ?_
      refine e_imul (q := 42) dX12_starts_41 rfl ?_
      refine e_iload_n (q := 43) (i := 2) dX12_starts_42 rfl rfl rfl ?_
      refine e_iadd (q := 44) dX12_starts_43 rfl ?_
      refine e_iconst (q := 45) dX12_starts_44 rfl ?_
      refine e_iast (q := 46) dX12_starts_45 rfl (by first | assumption | rfl) ?_
      refine e_aload_n (q := 47) (i := 0) dX12_starts_46 rfl rfl rfl ?_
      refine e_getR (q := 50) dX12_starts_47 rfl fg_X12_84 (by first | assumption | rfl) rfl ?_
      refine e_bipush (q := 52) dX12_starts_50 rfl (by decide) ?_
      refine e_iload_n (q := 53) (i := 1) dX12_starts_52 rfl rfl rfl ?_
      refine e_imul (q := 54) dX12_starts_53 rfl ?_
      refine e_iload_n (q := 55) (i := 2) dX12_starts_54 rfl rfl rfl ?_
      refine e_iadd (q := 56) dX12_starts_55 rfl ?_
      refine e_iload_n (q := 57) (i := 2) dX12_starts_56 rfl rfl rfl ?_
      refine e_iconst (q := 58) dX12_starts_57 rfl ?_
      refine e_aload_n (q := 59) (i := 0) dX12_starts_58 rfl rfl rfl ?_
      refine e_getR (q := 62) dX12_starts_59 rfl fg_X12_13 (by first | assumption | rfl) rfl ?_
      refine e_iconst (q := 63) dX12_starts_62 rfl ?_
      refine e_iald (q := 64) dX12_starts_63 rfl (by first | assumption | rfl) ?_
      refine e_imul (q := 65) dX12_starts_64 rfl ?_
      have e841 : (sI τ 105 (16 * s + i) 0).1 84 1 = σ.1 84 1 := by rw [sI_ne _ (by decide)]; exact hF.e1 (by decide) 1
      have e88 : (sI τ 105 (16 * s + i) 0).1 88 i = σ.1 88 i := by rw [sI_ne _ (by decide)]; exact hF.e1 (by decide) i
      refine e_icmp_ge (q := 68) (tgt := 77) dX12_starts_65 rfl (by decide) (fun c65 => ?_) (fun c65 => ?_)
      · refine e_iconst (q := 78) dX12_starts_77 rfl ?_
        refine e_iast (q := 79) dX12_starts_78 rfl (by first | assumption | rfl) ?_
        refine e_iinc (q := 82) (L' := [_, _, _]) dX12_starts_79 rfl rfl (by decide) rfl rfl ?_
        refine e_goto (tgt := 28) dX12_starts_82 (by decide) ?_
        refine ih _ _ (by omega) (by omega) ((hF.si (by decide) (by decide) _ _).si (by decide) (by decide) _ _) ((hO.s16 (Or.inl rfl) h0 (by omega) _).s16 (Or.inr rfl) h0 (by omega) _) ?_ ?_
        · simp only [sI_ne _ (show (104 : Nat) ≠ 105 by decide), sI_ne _ (show (104 : Nat) ≠ 106 by decide), sI_ne _ (show (102 : Nat) ≠ 105 by decide), sI_ne _ (show (102 : Nat) ≠ 106 by decide), sI_ne _ (show (103 : Nat) ≠ 105 by decide), sI_ne _ (show (103 : Nat) ≠ 106 by decide)]
          exact hS
        · intro j a b
          rw [mF_ne _ _ (by decide), mF_uf, mK_uf, mK_ne _ _ (by decide)]
          by_cases e : j = i
          · subst e
            unfold uf
            rw [if_pos rfl, if_pos rfl]
            exact ⟨rfl, by rw [if_neg (by omega)]⟩
          · unfold uf
            rw [if_neg e, if_neg e]
            exact h16 j a (by omega)
      · refine e_aload_n (q := 69) (i := 0) dX12_starts_68 rfl rfl rfl ?_
        refine e_getR (q := 72) dX12_starts_69 rfl fg_X12_25 (by first | assumption | rfl) rfl ?_
        refine e_iload_n (q := 73) (i := 2) dX12_starts_72 rfl rfl rfl ?_
        refine e_iald (q := 74) dX12_starts_73 rfl (by first | assumption | rfl) ?_
        refine e_goto (tgt := 78) dX12_starts_74 (by decide) ?_
        refine e_iast (q := 79) dX12_starts_78 rfl (by first | assumption | rfl) ?_
        refine e_iinc (q := 82) (L' := [_, _, _]) dX12_starts_79 rfl rfl (by decide) rfl rfl ?_
        refine e_goto (tgt := 28) dX12_starts_82 (by decide) ?_
        refine ih _ _ (by omega) (by omega) ((hF.si (by decide) (by decide) _ _).si (by decide) (by decide) _ _) ((hO.s16 (Or.inl rfl) h0 (by omega) _).s16 (Or.inr rfl) h0 (by omega) _) ?_ ?_
        · simp only [sI_ne _ (show (104 : Nat) ≠ 105 by decide), sI_ne _ (show (104 : Nat) ≠ 106 by decide), sI_ne _ (show (102 : Nat) ≠ 105 by decide), sI_ne _ (show (102 : Nat) ≠ 106 by decide), sI_ne _ (show (103 : Nat) ≠ 105 by decide), sI_ne _ (show (103 : Nat) ≠ 106 by decide)]
          exact hS
        · intro j a b
          rw [mF_ne _ _ (by decide), mF_uf, mK_uf, mK_ne _ _ (by decide)]
          by_cases e : j = i
          · subst e
            unfold uf
            rw [if_pos rfl, if_pos rfl]
            exact ⟨rfl, by rw [if_pos (by omega)]; exact e88⟩
          · unfold uf
            rw [if_neg e, if_neg e]
            exact h16 j a (by omega)
  refine e_entry om_X12_starts (Nat.le_of_ble_eq_true rfl) (L := [some (.ref (G.2.2.2 + 82)), some (.int (iZ s)), none]) rfl ?_
  refine e_aload_n (q := 1) (i := 0) dX12_starts_0 rfl rfl rfl ?_
  refine e_getR (q := 4) dX12_starts_1 rfl fg_X12_72 (by first | assumption | rfl) rfl ?_
  refine e_iload_n (q := 5) (i := 1) dX12_starts_4 rfl rfl rfl ?_
  refine e_iconst (q := 6) dX12_starts_5 rfl ?_
  refine e_iast (q := 7) dX12_starts_6 rfl (by first | assumption | rfl) ?_
  refine e_aload_n (q := 8) (i := 0) dX12_starts_7 rfl rfl rfl ?_
  refine e_getR (q := 11) dX12_starts_8 rfl fg_X12_75 (by first | assumption | rfl) rfl ?_
  refine e_iload_n (q := 12) (i := 1) dX12_starts_11 rfl rfl rfl ?_
  refine e_aload_n (q := 13) (i := 0) dX12_starts_12 rfl rfl rfl ?_
  refine e_getR (q := 16) dX12_starts_13 rfl fg_X12_13 (by first | assumption | rfl) rfl ?_
  refine e_iconst (q := 17) dX12_starts_16 rfl ?_
  refine e_iald (q := 18) dX12_starts_17 rfl (by first | assumption | rfl) ?_
  refine e_iast (q := 19) dX12_starts_18 rfl (by first | assumption | rfl) ?_
  refine e_aload_n (q := 20) (i := 0) dX12_starts_19 rfl rfl rfl ?_
  refine e_getR (q := 23) dX12_starts_20 rfl fg_X12_78 (by first | assumption | rfl) rfl ?_
  refine e_iload_n (q := 24) (i := 1) dX12_starts_23 rfl rfl rfl ?_
  refine e_iconst (q := 25) dX12_starts_24 rfl ?_
  refine e_iast (q := 26) dX12_starts_25 rfl (by first | assumption | rfl) ?_
  refine e_iconst (q := 27) dX12_starts_26 rfl ?_
  refine e_istore_n (q := 28) (i := 2) (L' := [_, _, _]) dX12_starts_27 rfl rfl (by decide) rfl rfl ?_
  exact lp 16 _ 0 (by decide) (by decide) ((((Fm.rf _ _ σ).si (by decide) (by decide) _ _).si (by decide) (by decide) _ _).si (by decide) (by decide) _ _) ((((Oth.rf σ s).s1 (Or.inl rfl) _).s1 (Or.inr (Or.inl rfl)) _).s1 (Or.inr (Or.inr rfl)) _) (by simp [sI_1]) (fun j a b => absurd b (by omega))

theorem c_X12_begins {G : Gx} {σ : Sg} (hT : MT σ) : Con G 2 mX12_begins [.ref (G.2.2.2 + 82)] σ (pV (MSt σ 0)) := by
  refine e_entry om_X12_begins (Nat.le_of_ble_eq_true rfl) (L := [some (.ref (G.2.2.2 + 82))]) rfl ?_
  refine e_aload_n (q := 1) (i := 0) dX12_begins_0 rfl rfl rfl ?_
  refine e_iconst (q := 2) dX12_begins_1 rfl ?_
  refine e_Vv (q := 5) (vs := [_]) ok_X12_starts ml_X12_319 dX12_begins_2 rfl ⟨_, _, rfl⟩ (by first | assumption | rfl) rfl rfl (Nat.le_of_ble_eq_true rfl) (by decide) (c_X12_starts hT (by decide) (by decide)) (fun s2 h2 => ?_)
  exact r_v dX12_begins_5 rfl h2

/-- how many bits are set, of thirty -/
def bts (x : Int) : Int := zs (fun k => x / 2 ^ k.toNat % 2) 30

theorem c_X12_bitsOf {G : Gx} {σ : Sg} {x : Int} (hx0 : 0 ≤ x) (hx1 : x ≤ 2147483647) : Con G 1 mX12_bitsOf [.int (iZ x)] σ (pI (pE σ (bts x))) := by
  have lp : ∀ (n : Nat) (i t : Int), 0 ≤ i → i + n = 30 → t = zs (fun k : Int => x / 2 ^ k.toNat % 2) i → J G 1 mX12_bitsOf (pI (pE σ (bts x))) σ 4 [some (.int (iZ x)), some (.int (iZ t)), some (.int (iZ i))] [] := by
    intro n
    induction n with
    | zero =>
      intro i t h0 hn ht
      refine e_iload_n (q := 5) (i := 2) dX12_bitsOf_4 rfl rfl rfl ?_
      refine e_bipush (q := 7) dX12_bitsOf_5 rfl (by decide) ?_
      refine e_icmp_ge (q := 10) (tgt := 24) dX12_bitsOf_7 rfl (by decide) (fun c7 => ?_) (fun c7 => absurd (by omega) c7)
      refine e_iload_n (q := 25) (i := 1) dX12_bitsOf_24 rfl rfl rfl ?_
      exact r_i dX12_bitsOf_25 rfl ⟨by rw [ht]; unfold bts; congr 1; omega, rfl⟩
    | succ n ih =>
      intro i t h0 hn ht
      refine e_iload_n (q := 5) (i := 2) dX12_bitsOf_4 rfl rfl rfl ?_
      refine e_bipush (q := 7) dX12_bitsOf_5 rfl (by decide) ?_
      refine e_icmp_ge (q := 10) (tgt := 24) dX12_bitsOf_7 rfl (by decide) (fun c7 => absurd c7 (by omega)) (fun c7 => ?_)
      refine e_iload_n (q := 11) (i := 1) dX12_bitsOf_10 rfl rfl rfl ?_
      refine e_iload_n (q := 12) (i := 0) dX12_bitsOf_11 rfl rfl rfl ?_
      refine e_iload_n (q := 13) (i := 2) dX12_bitsOf_12 rfl rfl rfl ?_
      have hp2 := p2_le (show i.toNat ≤ 30 by omega)
      have hd0 := Int.ediv_nonneg hx0 (show (0 : Int) ≤ 2 ^ i.toNat by omega)
      have hd1 := Int.ediv_le_self (2 ^ i.toNat) hx0
      refine e_ishr (q := 14) dX12_bitsOf_13 rfl (iZ_shrk hx0 hx1 h0 (by omega)) ?_
      refine e_iconst (q := 15) dX12_bitsOf_14 rfl ?_
      refine e_iand (q := 16) dX12_bitsOf_15 rfl (iZ_and1 hd0 (by omega)) ?_
      refine e_iadd (q := 17) dX12_bitsOf_16 rfl ?_
      refine e_istore_n (q := 18) (i := 1) (L' := [_, _, _]) dX12_bitsOf_17 rfl rfl (by decide) rfl rfl ?_
      refine e_iinc (q := 21) (L' := [_, _, _]) dX12_bitsOf_18 rfl rfl (by decide) rfl rfl ?_
      refine e_goto (tgt := 4) dX12_bitsOf_21 (by decide) ?_
      exact ih _ _ (by omega) (by omega) (by rw [ht, zs_succ _ h0])
  refine e_entry om_X12_bitsOf (Nat.le_of_ble_eq_true rfl) (L := [some (.int (iZ x)), none, none]) rfl ?_
  refine e_iconst (q := 1) dX12_bitsOf_0 rfl ?_
  refine e_istore_n (q := 2) (i := 1) (L' := [_, _, _]) dX12_bitsOf_1 rfl rfl (by decide) rfl rfl ?_
  refine e_iconst (q := 3) dX12_bitsOf_2 rfl ?_
  refine e_istore_n (q := 4) (i := 2) (L' := [_, _, _]) dX12_bitsOf_3 rfl rfl (by decide) rfl rfl ?_
  exact lp 30 0 0 (by decide) (by decide) rfl

def mCells (rw cl fr : Int → Int) (n z least : Int) : Int := zs (fun r => zs (fun c => if least ≤ bts (zb (fun p => gHold rw cl fr p r c) n) then 1 else 0) z) z
theorem zb_16 (f : Int → Int) {n : Int} (hn : n ≤ 4) : 0 ≤ zb f n ∧ zb f n < 16 := by
  have h := zb_lt f (i := n)
  have e : ∀ k : Nat, k ≤ 4 → (2 : Int) ^ k ≤ 16 := by decide
  have := e n.toNat (by omega)
  omega
theorem bts_in (x : Int) : 0 ≤ bts x ∧ bts x ≤ 30 := zs_01 (f := fun k : Int => x / 2 ^ k.toNat % 2) (fun t => by omega) (by decide)

theorem c_X12_cellsOf {G : Gx} {σ : Sg} {least : Int} (hT : MT σ) (hI : MI σ 0) (hl : R32 least) : Con G 5 mX12_cellsOf [.ref (G.2.2.2 + 82), .int (iZ least)] σ (pI (pE σ (mCells (σ.1 86) (σ.1 87) (mF σ 0) (σ.1 84 1) (σ.1 84 0) least))) := by
  obtain ⟨hzz, hnp, hnc, hnb, hrn, hsd, hrw, hrq, hch, hbt, hck⟩ := id hT
  have lp : ∀ (n : Nat) (x : Option Value) (i t : Int), 0 ≤ i → i + n = (σ.1 84 0) → t = zs (fun r => zs (fun c => if least ≤ bts (zb (fun p => gHold (σ.1 86) (σ.1 87) (mF σ 0) p r c) (σ.1 84 1)) then 1 else 0) (σ.1 84 0)) i → J G 5 mX12_cellsOf (pI (pE σ (mCells (σ.1 86) (σ.1 87) (mF σ 0) (σ.1 84 1) (σ.1 84 0) least))) σ 4 [some (.ref (G.2.2.2 + 82)), some (.int (iZ least)), some (.int (iZ t)), some (.int (iZ i)), x] [] := by
    intro n
    induction n with
    | zero =>
      intro x i t h0 hn ht
      refine e_iload_n (q := 5) (i := 3) dX12_cellsOf_4 rfl rfl rfl ?_
      refine e_aload_n (q := 6) (i := 0) dX12_cellsOf_5 rfl rfl rfl ?_
      refine e_getR (q := 9) dX12_cellsOf_6 rfl fg_X12_13 (by first | assumption | rfl) rfl ?_
      refine e_iconst (q := 10) dX12_cellsOf_9 rfl ?_
      refine e_iald (q := 11) dX12_cellsOf_10 rfl (by first | assumption | rfl) ?_
      refine e_icmp_ge (q := 14) (tgt := 62) dX12_cellsOf_11 rfl (by decide) (fun c11 => ?_) (fun c11 => absurd (by omega) c11)
      refine e_iload_n (q := 63) (i := 2) dX12_cellsOf_62 rfl rfl rfl ?_
      exact r_i dX12_cellsOf_63 rfl ⟨by rw [ht]; unfold mCells; congr 1; omega, rfl⟩
    | succ n ih =>
      intro x i t h0 hn ht
      refine e_iload_n (q := 5) (i := 3) dX12_cellsOf_4 rfl rfl rfl ?_
      refine e_aload_n (q := 6) (i := 0) dX12_cellsOf_5 rfl rfl rfl ?_
      refine e_getR (q := 9) dX12_cellsOf_6 rfl fg_X12_13 (by first | assumption | rfl) rfl ?_
      refine e_iconst (q := 10) dX12_cellsOf_9 rfl ?_
      refine e_iald (q := 11) dX12_cellsOf_10 rfl (by first | assumption | rfl) ?_
      refine e_icmp_ge (q := 14) (tgt := 62) dX12_cellsOf_11 rfl (by decide) (fun c11 => absurd c11 (by omega)) (fun c11 => ?_)
      refine e_iconst (q := 15) dX12_cellsOf_14 rfl ?_
      refine e_istore (q := 17) (L' := [_, _, _, _, _]) dX12_cellsOf_15 rfl (by decide) rfl rfl ?_
      have lq : ∀ (k : Nat) (j v : Int), 0 ≤ j → j + k = (σ.1 84 0) → v = t + zs (fun c => if least ≤ bts (zb (fun p => gHold (σ.1 86) (σ.1 87) (mF σ 0) p i c) (σ.1 84 1)) then 1 else 0) j → J G 5 mX12_cellsOf (pI (pE σ (mCells (σ.1 86) (σ.1 87) (mF σ 0) (σ.1 84 1) (σ.1 84 0) least))) σ 17 [some (.ref (G.2.2.2 + 82)), some (.int (iZ least)), some (.int (iZ v)), some (.int (iZ i)), some (.int (iZ j))] [] := by
        intro k
        induction k with
        | zero =>
          intro j v h3 h4 h5
          refine e_iload (q := 19) dX12_cellsOf_17 rfl rfl ?_
          refine e_aload_n (q := 20) (i := 0) dX12_cellsOf_19 rfl rfl rfl ?_
          refine e_getR (q := 23) dX12_cellsOf_20 rfl fg_X12_13 (by first | assumption | rfl) rfl ?_
          refine e_iconst (q := 24) dX12_cellsOf_23 rfl ?_
          refine e_iald (q := 25) dX12_cellsOf_24 rfl (by first | assumption | rfl) ?_
          refine e_icmp_ge (q := 28) (tgt := 56) dX12_cellsOf_25 rfl (by decide) (fun c25 => ?_) (fun c25 => absurd (by omega) c25)
          refine e_iinc (q := 59) (L' := [_, _, _, _, _]) dX12_cellsOf_56 rfl rfl (by decide) rfl rfl ?_
          refine e_goto (tgt := 4) dX12_cellsOf_59 (by decide) ?_
          exact ih _ _ _ (by omega) (by omega) (by rw [h5, ht, zs_succ _ h0]; congr 2; omega)
        | succ k ih2 =>
          intro j v h3 h4 h5
          refine e_iload (q := 19) dX12_cellsOf_17 rfl rfl ?_
          refine e_aload_n (q := 20) (i := 0) dX12_cellsOf_19 rfl rfl rfl ?_
          refine e_getR (q := 23) dX12_cellsOf_20 rfl fg_X12_13 (by first | assumption | rfl) rfl ?_
          refine e_iconst (q := 24) dX12_cellsOf_23 rfl ?_
          refine e_iald (q := 25) dX12_cellsOf_24 rfl (by first | assumption | rfl) ?_
          refine e_icmp_ge (q := 28) (tgt := 56) dX12_cellsOf_25 rfl (by decide) (fun c25 => absurd c25 (by omega)) (fun c25 => ?_)
          refine e_iload_n (q := 29) (i := 2) dX12_cellsOf_28 rfl rfl rfl ?_
          refine e_aload_n (q := 30) (i := 0) dX12_cellsOf_29 rfl rfl rfl ?_
          refine e_iload_n (q := 31) (i := 3) dX12_cellsOf_30 rfl rfl rfl ?_
          refine e_iload (q := 33) dX12_cellsOf_31 rfl rfl ?_
          refine e_Vip (q := 36) (vs := [_, _]) ok_X12_ownersOf ml_X12_415 dX12_cellsOf_33 rfl ⟨_, _, rfl⟩ (by first | assumption | rfl) rfl rfl (Nat.le_of_ble_eq_true rfl) (by decide) (c_X12_ownersOf hT hI ⟨by omega, by omega⟩ ⟨by omega, by omega⟩) ?_
          have hb16 := zb_16 (fun p => gHold (σ.1 86) (σ.1 87) (mF σ 0) p i j) (n := (σ.1 84 1)) (by omega)
          have hbi := bts_in (zb (fun p => gHold (σ.1 86) (σ.1 87) (mF σ 0) p i j) (σ.1 84 1))
          refine e_Sip (q := 39) (vs := [_]) ok_X12_bitsOf ml_X12_421 dX12_cellsOf_36 rfl rfl rfl (Nat.le_of_ble_eq_true rfl) (by decide) (c_X12_bitsOf (by omega) (by omega)) ?_
          refine e_iload_n (q := 40) (i := 1) dX12_cellsOf_39 rfl rfl rfl ?_
          refine e_icmp_lt (q := 43) (tgt := 47) dX12_cellsOf_40 rfl (by decide) (fun c40 => ?_) (fun c40 => ?_) (hx := ⟨by omega, by omega⟩) (hy := hl)
          · refine e_iconst (q := 48) dX12_cellsOf_47 rfl ?_
            refine e_iadd (q := 49) dX12_cellsOf_48 rfl ?_
            refine e_istore_n (q := 50) (i := 2) (L' := [_, _, _, _, _]) dX12_cellsOf_49 rfl rfl (by decide) rfl rfl ?_
            refine e_iinc (q := 53) (L' := [_, _, _, _, _]) dX12_cellsOf_50 rfl rfl (by decide) rfl rfl ?_
            refine e_goto (tgt := 17) dX12_cellsOf_53 (by decide) ?_
            exact ih2 _ _ (by omega) (by omega) (by rw [h5, zs_succ _ h3]; first | (rw [if_pos (by omega)]; omega) | (rw [if_neg (by omega)]; omega))
          · refine e_iconst (q := 44) dX12_cellsOf_43 rfl ?_
            refine e_goto (tgt := 48) dX12_cellsOf_44 (by decide) ?_
            refine e_iadd (q := 49) dX12_cellsOf_48 rfl ?_
            refine e_istore_n (q := 50) (i := 2) (L' := [_, _, _, _, _]) dX12_cellsOf_49 rfl rfl (by decide) rfl rfl ?_
            refine e_iinc (q := 53) (L' := [_, _, _, _, _]) dX12_cellsOf_50 rfl rfl (by decide) rfl rfl ?_
            refine e_goto (tgt := 17) dX12_cellsOf_53 (by decide) ?_
            exact ih2 _ _ (by omega) (by omega) (by rw [h5, zs_succ _ h3]; first | (rw [if_pos (by omega)]; omega) | (rw [if_neg (by omega)]; omega))
      exact lq ((σ.1 84 0)).toNat _ _ (by omega) (by omega) (by rw [zs_0]; omega)
  refine e_entry om_X12_cellsOf (Nat.le_of_ble_eq_true rfl) (L := [some (.ref (G.2.2.2 + 82)), some (.int (iZ least)), none, none, none]) rfl ?_
  refine e_iconst (q := 1) dX12_cellsOf_0 rfl ?_
  refine e_istore_n (q := 2) (i := 2) (L' := [_, _, _, _, _]) dX12_cellsOf_1 rfl rfl (by decide) rfl rfl ?_
  refine e_iconst (q := 3) dX12_cellsOf_2 rfl ?_
  refine e_istore_n (q := 4) (i := 3) (L' := [_, _, _, _, _]) dX12_cellsOf_3 rfl rfl (by decide) rfl rfl ?_
  exact lp ((σ.1 84 0)).toNat _ 0 0 (by omega) (by omega) rfl

theorem c_X12_found {G : Gx} {σ : Sg} {k mN : Nat} {a m x : Int} (hk : lay[k]? = some (.inl (0, mN))) (hmN : mN < 1000) (ha0 : 0 ≤ a) (hm0 : 0 ≤ m) (hm : a + m ≤ mN) (hR : ∀ i, 0 ≤ i → i < m → R32 (σ.1 k (a + i))) (hx : R32 x) : Con G 1 mX12_found [.ref (G.2.2.2 + k), .int (iZ a), .int (iZ m), .int (iZ x)] σ (pI (pE σ (fd (fun i => σ.1 k (a + i)) x m))) := by
  have lp : ∀ (n : Nat) (i : Int), 0 ≤ i → i + n = m → fd (fun i => σ.1 k (a + i)) x i = -1 → J G 1 mX12_found (pI (pE σ (fd (fun i => σ.1 k (a + i)) x m))) σ 3 [some (.ref (G.2.2.2 + k)), some (.int (iZ a)), some (.int (iZ m)), some (.int (iZ x)), some (.int (iZ i))] [] := by
    intro n
    induction n with
    | zero =>
      intro i h0 hn hs
      refine e_iload (q := 5) dX12_found_3 rfl rfl ?_
      refine e_iload_n (q := 6) (i := 2) dX12_found_5 rfl rfl rfl ?_
      refine e_icmp_ge (q := 9) (tgt := 28) dX12_found_6 rfl (by decide) (fun c6 => ?_) (fun c6 => absurd (by omega) c6)
      refine e_iconst (q := 29) dX12_found_28 rfl ?_
      exact r_i dX12_found_29 rfl ⟨by rw [← hs]; congr 1; omega, rfl⟩
    | succ n ih =>
      intro i h0 hn hs
      refine e_iload (q := 5) dX12_found_3 rfl rfl ?_
      refine e_iload_n (q := 6) (i := 2) dX12_found_5 rfl rfl rfl ?_
      refine e_icmp_ge (q := 9) (tgt := 28) dX12_found_6 rfl (by decide) (fun c6 => absurd c6 (by omega)) (fun c6 => ?_)
      refine e_aload_n (q := 10) (i := 0) dX12_found_9 rfl rfl rfl ?_
      refine e_iload_n (q := 11) (i := 1) dX12_found_10 rfl rfl rfl ?_
      refine e_iload (q := 13) dX12_found_11 rfl rfl ?_
      refine e_iadd (q := 14) dX12_found_13 rfl ?_
      refine e_iald (q := 15) dX12_found_14 rfl (by first | assumption | rfl) ?_ (h0 := by omega) (hi := by omega) (hn := by omega)
      refine e_iload_n (q := 16) (i := 3) dX12_found_15 rfl rfl rfl ?_
      refine e_icmp_ne (q := 19) (tgt := 22) dX12_found_16 rfl (by decide) (fun c16 => ?_) (fun c16 => ?_) (hx := hR i h0 (by omega)) (hy := hx)
      · refine e_iinc (q := 25) (L' := [_, _, _, _, _]) dX12_found_22 rfl rfl (by decide) rfl rfl ?_
        refine e_goto (tgt := 3) dX12_found_25 (by decide) ?_
        exact ih _ (by omega) (by omega) (by rw [fd_succ _ _ h0, if_neg (by omega), if_neg c16])
      · refine e_iload (q := 21) dX12_found_19 rfl rfl ?_
        exact r_i dX12_found_21 rfl ⟨(fd_at h0 hs c16 (by omega)).symm, rfl⟩
  refine e_entry om_X12_found (Nat.le_of_ble_eq_true rfl) (L := [some (.ref (G.2.2.2 + k)), some (.int (iZ a)), some (.int (iZ m)), some (.int (iZ x)), none]) rfl ?_
  refine e_iconst (q := 1) dX12_found_0 rfl ?_
  refine e_istore (q := 3) (L' := [_, _, _, _, _]) dX12_found_1 rfl (by decide) rfl rfl ?_
  exact lp m.toNat 0 (by omega) (by omega) rfl

