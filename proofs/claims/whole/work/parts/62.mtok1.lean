/-! ===== the model's tokens ===== -/
def hv (σ : Sg) : Int := if σ.1 82 22 < σ.1 82 21 then σ.1 83 (σ.1 82 22) else -1
/-- the tape's bytes, the length -/
def MTp (σ : Sg) : Prop := (0 ≤ σ.1 82 21 ∧ σ.1 82 21 ≤ 700) ∧ ∀ i, 0 ≤ i → i < 700 → 0 ≤ σ.1 83 i ∧ σ.1 83 i ≤ 255
theorem MTp.fm {σ τ : Sg} {F : List Int} (h : MTp σ) (hF : Fm [] F σ τ) (h21 : (21 : Int) ∉ F) : MTp τ := by
  unfold MTp
  rw [hF.c (a := 83) (by decide), hF.2 21 h21]
  exact h
theorem hv_in {σ : Sg} (h : MTp σ) (h0 : 0 ≤ σ.1 82 22) : -1 ≤ hv σ ∧ hv σ ≤ 255 := by
  unfold hv
  have h2 := h.1.2
  split
  · have := h.2 (σ.1 82 22) h0 (by omega); omega
  · omega

theorem c_X12_here {G : Gx} {σ : Sg} (hM : MTp σ) (h0 : 0 ≤ σ.1 82 22) (h1 : σ.1 82 22 ≤ 701) : Con G 1 mX12_here [.ref (G.2.2.2 + 82)] σ (pI (pE σ (hv σ))) := by
  have hm1 := hM.1
  refine e_entry om_X12_here (Nat.le_of_ble_eq_true rfl) (L := [some (.ref (G.2.2.2 + 82))]) rfl ?_
  refine e_aload_n (q := 1) (i := 0) dX12_here_0 rfl rfl rfl ?_
  refine e_getI (q := 4) (jz := 22) dX12_here_1 rfl fg_X12_142 rfl (by first | assumption | rfl) rfl ?_
  refine e_aload_n (q := 5) (i := 0) dX12_here_4 rfl rfl rfl ?_
  refine e_getI (q := 8) (jz := 21) dX12_here_5 rfl fg_X12_145 rfl (by first | assumption | rfl) rfl ?_
  refine e_icmp_ge (q := 11) (tgt := 23) dX12_here_8 rfl (by decide) (fun c8 => ?_) (fun c8 => ?_) (hx := ⟨by omega, by omega⟩) (hy := ⟨by omega, by omega⟩)
  · refine e_iconst (q := 24) dX12_here_23 rfl ?_
    exact r_i dX12_here_24 rfl ⟨by unfold hv; rw [if_neg (by omega)], rfl⟩
  · refine e_aload_n (q := 12) (i := 0) dX12_here_11 rfl rfl rfl ?_
    refine e_getR (q := 15) dX12_here_12 rfl fg_X12_7 (by first | assumption | rfl) rfl ?_
    refine e_aload_n (q := 16) (i := 0) dX12_here_15 rfl rfl rfl ?_
    refine e_getI (q := 19) (jz := 22) dX12_here_16 rfl fg_X12_142 rfl (by first | assumption | rfl) rfl ?_
    refine e_iald (q := 20) dX12_here_19 rfl (by first | assumption | rfl) ?_
    refine e_goto (tgt := 24) dX12_here_20 (by decide) ?_
    exact r_i dX12_here_24 rfl ⟨by unfold hv; rw [if_pos (by omega)], rfl⟩

theorem c_X12_isSmall {G : Gx} {σ : Sg} {c : Int} (hc : R32 c) : Con G 1 mX12_isSmall [.int (iZ c)] σ (pI (pE σ (if 97 ≤ c ∧ c ≤ 122 then 1 else 0))) := by
  refine e_entry om_X12_isSmall (Nat.le_of_ble_eq_true rfl) (L := [some (.int (iZ c))]) rfl ?_
  refine e_iload_n (q := 1) (i := 0) dX12_isSmall_0 rfl rfl rfl ?_
  refine e_bipush (q := 3) dX12_isSmall_1 rfl (by decide) ?_
  refine e_icmp_lt (q := 6) (tgt := 16) dX12_isSmall_3 rfl (by decide) (fun c3 => ?_) (fun c3 => ?_)
  · refine e_iconst (q := 17) dX12_isSmall_16 rfl ?_
    exact r_z dX12_isSmall_17 rfl (by first | exact Or.inl rfl | exact Or.inr rfl | omega) ⟨by first | (rw [if_pos (by omega)]; done) | (rw [if_neg (by omega)]; done), rfl⟩
  · refine e_iload_n (q := 7) (i := 0) dX12_isSmall_6 rfl rfl rfl ?_
    refine e_bipush (q := 9) dX12_isSmall_7 rfl (by decide) ?_
    refine e_icmp_gt (q := 12) (tgt := 16) dX12_isSmall_9 rfl (by decide) (fun c9 => ?_) (fun c9 => ?_)
    · refine e_iconst (q := 17) dX12_isSmall_16 rfl ?_
      exact r_z dX12_isSmall_17 rfl (by first | exact Or.inl rfl | exact Or.inr rfl | omega) ⟨by first | (rw [if_pos (by omega)]; done) | (rw [if_neg (by omega)]; done), rfl⟩
    · refine e_iconst (q := 13) dX12_isSmall_12 rfl ?_
      refine e_goto (tgt := 17) dX12_isSmall_13 (by decide) ?_
      exact r_z dX12_isSmall_17 rfl (by first | exact Or.inl rfl | exact Or.inr rfl | omega) ⟨by first | (rw [if_pos (by omega)]; done) | (rw [if_neg (by omega)]; done), rfl⟩

theorem c_X12_isDigit {G : Gx} {σ : Sg} {c : Int} (hc : R32 c) : Con G 1 mX12_isDigit [.int (iZ c)] σ (pI (pE σ (if 48 ≤ c ∧ c ≤ 57 then 1 else 0))) := by
  refine e_entry om_X12_isDigit (Nat.le_of_ble_eq_true rfl) (L := [some (.int (iZ c))]) rfl ?_
  refine e_iload_n (q := 1) (i := 0) dX12_isDigit_0 rfl rfl rfl ?_
  refine e_bipush (q := 3) dX12_isDigit_1 rfl (by decide) ?_
  refine e_icmp_lt (q := 6) (tgt := 16) dX12_isDigit_3 rfl (by decide) (fun c3 => ?_) (fun c3 => ?_)
  · refine e_iconst (q := 17) dX12_isDigit_16 rfl ?_
    exact r_z dX12_isDigit_17 rfl (by first | exact Or.inl rfl | exact Or.inr rfl | omega) ⟨by first | (rw [if_pos (by omega)]; done) | (rw [if_neg (by omega)]; done), rfl⟩
  · refine e_iload_n (q := 7) (i := 0) dX12_isDigit_6 rfl rfl rfl ?_
    refine e_bipush (q := 9) dX12_isDigit_7 rfl (by decide) ?_
    refine e_icmp_gt (q := 12) (tgt := 16) dX12_isDigit_9 rfl (by decide) (fun c9 => ?_) (fun c9 => ?_)
    · refine e_iconst (q := 17) dX12_isDigit_16 rfl ?_
      exact r_z dX12_isDigit_17 rfl (by first | exact Or.inl rfl | exact Or.inr rfl | omega) ⟨by first | (rw [if_pos (by omega)]; done) | (rw [if_neg (by omega)]; done), rfl⟩
    · refine e_iconst (q := 13) dX12_isDigit_12 rfl ?_
      refine e_goto (tgt := 17) dX12_isDigit_13 (by decide) ?_
      exact r_z dX12_isDigit_17 rfl (by first | exact Or.inl rfl | exact Or.inr rfl | omega) ⟨by first | (rw [if_pos (by omega)]; done) | (rw [if_neg (by omega)]; done), rfl⟩

def sgC (k : Int) : Int := if k = 23 then 59 else if k = 24 then 40 else if k = 25 then 41 else if k = 26 then 43 else if k = 27 then 45 else if k = 28 then 42 else if k = 29 then 47 else if k = 30 then 60 else if k = 31 then 256 else if k = 32 then 61 else if k = 33 then 257 else if k = 34 then 258 else if k = 35 then 62 else 0
def SgO (σ σ' : Sg) (c s : Int) : Prop := Fm [] [22, 24, 25] σ σ' ∧ σ'.1 82 22 = σ.1 82 22 + sgN c s ∧ (sgK c s = 36 → σ'.1 82 24 = 5) ∧ (sgK c s ≠ 36 → σ'.1 82 24 = 3 ∧ σ'.1 82 25 = sgC (sgK c s)) ∧ R32 (σ'.1 82 25)
def isSg (c : Int) : Prop := c = 59 ∨ c = 40 ∨ c = 41 ∨ c = 43 ∨ c = 45 ∨ c = 42 ∨ c = 47 ∨ c = 60 ∨ c = 61 ∨ c = 62
theorem sgK_sg {c s : Int} : (isSg c → sgK c s ≠ 36) ∧ (¬ isSg c → sgK c s = 36) := by
  unfold isSg sgK
  constructor
  · intro h
    repeat' split
    all_goals omega
  · intro h
    rw [if_neg (by omega), if_neg (by omega), if_neg (by omega), if_neg (by omega), if_neg (by omega), if_neg (by omega), if_neg (by omega), if_neg (by omega), if_neg (by omega), if_neg (by omega)]
theorem sgK_one {c s : Int} (h60 : c ≠ 60) (h62 : c ≠ 62) (h : sgK c s ≠ 36) : sgC (sgK c s) = c ∧ sgN c s = 1 := by
  refine ⟨?_, by unfold sgN; rw [if_neg (by omega)]⟩
  have hs : isSg c := Classical.byContradiction (fun q => h (sgK_sg.2 q))
  unfold isSg at hs
  rcases hs with rfl | rfl | rfl | rfl | rfl | rfl | rfl | rfl | rfl | rfl
  all_goals first | exact absurd rfl h60 | exact absurd rfl h62 | rfl

set_option maxHeartbeats 4000000 in
theorem c_X12_sign {G : Gx} {σ : Sg} {c : Int} (hM : MTp σ) (h0 : 0 ≤ σ.1 82 22) (h1 : σ.1 82 22 < σ.1 82 21) (hcb : 0 ≤ c ∧ c ≤ 255) : Con G 2 mX12_sign [.ref (G.2.2.2 + 82), .int (iZ c)] σ (pV (fun σ' => SgO σ σ' c (by0 (σ.1 83) (σ.1 82 21) (σ.1 82 22 + 1)))) := by
  obtain ⟨sx, hsd⟩ : ∃ sx, (by0 (σ.1 83) (σ.1 82 21) (σ.1 82 22 + 1)) = sx := ⟨_, rfl⟩
  rw [hsd]
  have hm1 := hM.1
  have hc : R32 c := ⟨by omega, by omega⟩
  have tl : ∀ (τ : Sg), Fm [] [22, 24, 25] σ τ → τ.1 82 22 = σ.1 82 22 + 1 → τ.1 82 25 = c → ((sgK c sx ≠ 36 → τ.1 82 24 = 3) ∧ (sgK c sx = 36 → τ.1 82 24 = 5)) → J G 2 mX12_sign (pV (fun σ' => SgO σ σ' c sx)) τ 84 [some (.ref (G.2.2.2 + 82)), some (.int (iZ c))] [] := by
    intro τ hF e22 e25 he
    have f21 : τ.1 82 21 = σ.1 82 21 := hF.2 21 (by decide)
    obtain ⟨h0, hh⟩ : ∃ h0, hv τ = h0 := ⟨_, rfl⟩
    have hhr : R32 h0 := by have := hv_in (hM.fm hF (by decide)) (by omega); rw [hh] at this; exact ⟨by omega, by omega⟩
    have hsx : (h0 = sx ∧ σ.1 82 22 + 1 < σ.1 82 21) ∨ (h0 = -1 ∧ sx = 0) := by
      rw [← hh, ← hsd]
      unfold hv by0
      rw [f21, e22, hF.c (a := 83) (by decide)]
      by_cases q : σ.1 82 22 + 1 < σ.1 82 21
      · rw [if_pos q, if_pos q]; exact Or.inl ⟨rfl, q⟩
      · rw [if_neg q, if_neg q]; exact Or.inr ⟨rfl, rfl⟩
    have h061 : (h0 = 61 → sx = 61) ∧ (sx = 61 → h0 = 61) := by omega
    have h062 : (h0 = 62 → sx = 62) ∧ (sx = 62 → h0 = 62) := by omega
    refine e_iload_n (q := 85) (i := 1) dX12_sign_84 rfl rfl rfl ?_
    refine e_bipush (q := 87) dX12_sign_85 rfl (by decide) ?_
    refine e_icmp_ne (q := 90) (tgt := 106) dX12_sign_87 rfl (by decide) (fun c87 => ?_) (fun c87 => ?_)
    · refine e_iload_n (q := 107) (i := 1) dX12_sign_106 rfl rfl rfl ?_
      refine e_bipush (q := 109) dX12_sign_107 rfl (by decide) ?_
      refine e_icmp_ne (q := 112) (tgt := 128) dX12_sign_109 rfl (by decide) (fun c109 => ?_) (fun c109 => by exfalso; omega)
      refine e_iload_n (q := 129) (i := 1) dX12_sign_128 rfl rfl rfl ?_
      refine e_bipush (q := 131) dX12_sign_129 rfl (by decide) ?_
      refine e_icmp_ne (q := 134) (tgt := 150) dX12_sign_131 rfl (by decide) (fun c131 => ?_) (fun c131 => ?_)
      · refine e_aload_n (q := 151) (i := 0) dX12_sign_150 rfl rfl rfl ?_
        refine e_getI (q := 154) (jz := 25) dX12_sign_151 rfl fg_X12_165 rfl (by first | assumption | rfl) rfl ?_
        rw [e25]
        refine e_sipush (q := 157) dX12_sign_154 rfl (by decide) ?_
        refine e_icmp_lt (q := 160) (tgt := 170) dX12_sign_157 rfl (by decide) (fun c157 => ?_) (fun c157 => by exfalso; omega)
        have hN : sgN c sx = 1 := by unfold sgN; rw [if_neg (by omega)]
        refine r_v dX12_sign_170 rfl ⟨hF, by rw [e22, hN], fun q => he.2 q, fun q => ⟨he.1 q, by rw [e25]; exact (sgK_one (by omega) (by omega) q).1.symm⟩, by rw [e25]; exact hc⟩
      · refine e_aload_n (q := 135) (i := 0) dX12_sign_134 rfl rfl rfl ?_
        refine e_Vip (q := 138) (vs := []) ok_X12_here ml_X12_148 dX12_sign_135 rfl ⟨_, _, rfl⟩ (by first | assumption | rfl) rfl rfl (Nat.le_of_ble_eq_true rfl) (by decide) (c_X12_here (hM.fm hF (by decide)) (by omega) (by omega)) ?_
        rw [show hv τ = h0 from hh]
        refine e_bipush (q := 140) dX12_sign_138 rfl (by decide) ?_
        refine e_icmp_ne (q := 143) (tgt := 150) dX12_sign_140 rfl (by decide) (fun c140 => ?_) (fun c140 => ?_) (hx := hhr)
        · refine e_aload_n (q := 151) (i := 0) dX12_sign_150 rfl rfl rfl ?_
          refine e_getI (q := 154) (jz := 25) dX12_sign_151 rfl fg_X12_165 rfl (by first | assumption | rfl) rfl ?_
          rw [e25]
          refine e_sipush (q := 157) dX12_sign_154 rfl (by decide) ?_
          refine e_icmp_lt (q := 160) (tgt := 170) dX12_sign_157 rfl (by decide) (fun c157 => ?_) (fun c157 => by exfalso; omega)
          have hK : sgK c sx = 35 := by rw [show c = 62 by omega]; rw [show sgK 62 sx = (if sx = 61 then 34 else 35) from rfl, if_neg (fun q => c140 (h061.2 q))]
          have hN : sgN c sx = 1 := by unfold sgN; rw [if_neg (by rintro (q | q); omega; exact c140 (h061.2 q.2))]
          refine r_v dX12_sign_170 rfl ⟨hF, by rw [e22, hN], fun q => by omega, fun q => ⟨he.1 q, by rw [e25, hK]; show c = 62; omega⟩, by rw [e25]; exact hc⟩
        · refine e_aload_n (q := 144) (i := 0) dX12_sign_143 rfl rfl rfl ?_
          refine e_sipush (q := 147) dX12_sign_144 rfl (by decide) ?_
          refine e_putI (q := 150) (jz := 25) dX12_sign_147 rfl fp_X12_165 rfl (by first | assumption | rfl) rfl ?_
          refine e_aload_n (q := 151) (i := 0) dX12_sign_150 rfl rfl rfl ?_
          refine e_getI (q := 154) (jz := 25) dX12_sign_151 rfl fg_X12_165 rfl (by first | assumption | rfl) rfl ?_
          rw [show (sI τ 82 25 258).1 82 25 = 258 from by rw [sI_1, if_pos ⟨rfl, rfl⟩]]
          refine e_sipush (q := 157) dX12_sign_154 rfl (by decide) ?_
          refine e_icmp_lt (q := 160) (tgt := 170) dX12_sign_157 rfl (by decide) (fun c157 => by exfalso; omega) (fun c157 => ?_)
          refine e_aload_n (q := 161) (i := 0) dX12_sign_160 rfl rfl rfl ?_
          refine e_dup (q := 162) dX12_sign_161 rfl rfl ?_
          refine e_getI (q := 165) (jz := 22) dX12_sign_162 rfl fg_X12_142 rfl (by first | assumption | rfl) rfl ?_
          refine e_iconst (q := 166) dX12_sign_165 rfl ?_
          refine e_iadd (q := 167) dX12_sign_166 rfl ?_
          refine e_putI (q := 170) (jz := 22) dX12_sign_167 rfl fp_X12_142 rfl (by first | assumption | rfl) rfl ?_
          have hN : sgN c sx = 2 := by unfold sgN; rw [if_pos (Or.inr ⟨by omega, h061.1 (by omega)⟩)]
          have hK : sgK c sx = 34 := by rw [show c = 62 by omega, show sgK 62 sx = (if sx = 61 then 34 else 35) from rfl, if_pos (h061.1 (by omega))]
          refine r_v dX12_sign_170 rfl ⟨(hF.s82 (by decide) _).s82 (by decide) _, ?_, fun q => by omega, fun q => ⟨?_, ?_⟩, ?_⟩
          · rw [sI_1, if_pos ⟨rfl, rfl⟩, sI_1, if_neg (by decide), e22, hN]; omega
          · rw [sI_1, if_neg (by decide), sI_1, if_neg (by decide)]; exact he.1 q
          · rw [sI_1, if_neg (by decide), sI_1, if_pos ⟨rfl, rfl⟩, hK]; rfl
          · rw [sI_1, if_neg (by decide), sI_1, if_pos ⟨rfl, rfl⟩]; exact ⟨by decide, by decide⟩
    · refine e_aload_n (q := 91) (i := 0) dX12_sign_90 rfl rfl rfl ?_
      refine e_Vip (q := 94) (vs := []) ok_X12_here ml_X12_148 dX12_sign_91 rfl ⟨_, _, rfl⟩ (by first | assumption | rfl) rfl rfl (Nat.le_of_ble_eq_true rfl) (by decide) (c_X12_here (hM.fm hF (by decide)) (by omega) (by omega)) ?_
      rw [show hv τ = h0 from hh]
      refine e_bipush (q := 96) dX12_sign_94 rfl (by decide) ?_
      refine e_icmp_ne (q := 99) (tgt := 106) dX12_sign_96 rfl (by decide) (fun c96 => ?_) (fun c96 => ?_) (hx := hhr)
      · refine e_iload_n (q := 107) (i := 1) dX12_sign_106 rfl rfl rfl ?_
        refine e_bipush (q := 109) dX12_sign_107 rfl (by decide) ?_
        refine e_icmp_ne (q := 112) (tgt := 128) dX12_sign_109 rfl (by decide) (fun c109 => by exfalso; omega) (fun c109 => ?_)
        refine e_aload_n (q := 113) (i := 0) dX12_sign_112 rfl rfl rfl ?_
        refine e_Vip (q := 116) (vs := []) ok_X12_here ml_X12_148 dX12_sign_113 rfl ⟨_, _, rfl⟩ (by first | assumption | rfl) rfl rfl (Nat.le_of_ble_eq_true rfl) (by decide) (c_X12_here (hM.fm hF (by decide)) (by omega) (by omega)) ?_
        rw [show hv τ = h0 from hh]
        refine e_bipush (q := 118) dX12_sign_116 rfl (by decide) ?_
        refine e_icmp_ne (q := 121) (tgt := 128) dX12_sign_118 rfl (by decide) (fun c118 => ?_) (fun c118 => ?_) (hx := hhr)
        · refine e_iload_n (q := 129) (i := 1) dX12_sign_128 rfl rfl rfl ?_
          refine e_bipush (q := 131) dX12_sign_129 rfl (by decide) ?_
          refine e_icmp_ne (q := 134) (tgt := 150) dX12_sign_131 rfl (by decide) (fun c131 => ?_) (fun c131 => by exfalso; omega)
          refine e_aload_n (q := 151) (i := 0) dX12_sign_150 rfl rfl rfl ?_
          refine e_getI (q := 154) (jz := 25) dX12_sign_151 rfl fg_X12_165 rfl (by first | assumption | rfl) rfl ?_
          rw [e25]
          refine e_sipush (q := 157) dX12_sign_154 rfl (by decide) ?_
          refine e_icmp_lt (q := 160) (tgt := 170) dX12_sign_157 rfl (by decide) (fun c157 => ?_) (fun c157 => by exfalso; omega)
          have hN : sgN c sx = 1 := by unfold sgN; rw [if_neg (by rintro (⟨-, q | q⟩ | q); exact c96 (h061.2 q); exact c118 (h062.2 q); omega)]
          have hK : sgK c sx = 30 := by rw [show c = 60 by omega, show sgK 60 sx = (if sx = 61 then 31 else if sx = 62 then 33 else 30) from rfl, if_neg (fun q => c96 (h061.2 q)), if_neg (fun q => c118 (h062.2 q))]
          refine r_v dX12_sign_170 rfl ⟨hF, by rw [e22, hN], fun q => by omega, fun q => ⟨he.1 q, by rw [e25, hK]; show c = 60; omega⟩, by rw [e25]; exact hc⟩
        · refine e_aload_n (q := 122) (i := 0) dX12_sign_121 rfl rfl rfl ?_
          refine e_sipush (q := 125) dX12_sign_122 rfl (by decide) ?_
          refine e_putI (q := 128) (jz := 25) dX12_sign_125 rfl fp_X12_165 rfl (by first | assumption | rfl) rfl ?_
          refine e_iload_n (q := 129) (i := 1) dX12_sign_128 rfl rfl rfl ?_
          refine e_bipush (q := 131) dX12_sign_129 rfl (by decide) ?_
          refine e_icmp_ne (q := 134) (tgt := 150) dX12_sign_131 rfl (by decide) (fun c131 => ?_) (fun c131 => by exfalso; omega)
          refine e_aload_n (q := 151) (i := 0) dX12_sign_150 rfl rfl rfl ?_
          refine e_getI (q := 154) (jz := 25) dX12_sign_151 rfl fg_X12_165 rfl (by first | assumption | rfl) rfl ?_
          rw [show (sI τ 82 25 257).1 82 25 = 257 from by rw [sI_1, if_pos ⟨rfl, rfl⟩]]
          refine e_sipush (q := 157) dX12_sign_154 rfl (by decide) ?_
          refine e_icmp_lt (q := 160) (tgt := 170) dX12_sign_157 rfl (by decide) (fun c157 => by exfalso; omega) (fun c157 => ?_)
          refine e_aload_n (q := 161) (i := 0) dX12_sign_160 rfl rfl rfl ?_
          refine e_dup (q := 162) dX12_sign_161 rfl rfl ?_
          refine e_getI (q := 165) (jz := 22) dX12_sign_162 rfl fg_X12_142 rfl (by first | assumption | rfl) rfl ?_
          refine e_iconst (q := 166) dX12_sign_165 rfl ?_
          refine e_iadd (q := 167) dX12_sign_166 rfl ?_
          refine e_putI (q := 170) (jz := 22) dX12_sign_167 rfl fp_X12_142 rfl (by first | assumption | rfl) rfl ?_
          have hN : sgN c sx = 2 := by unfold sgN; rw [if_pos (Or.inl ⟨by omega, Or.inr (h062.1 (by omega))⟩)]
          have hK : sgK c sx = 33 := by rw [show c = 60 by omega, show sgK 60 sx = (if sx = 61 then 31 else if sx = 62 then 33 else 30) from rfl, if_neg (fun q => c96 (h061.2 q)), if_pos (h062.1 (by omega))]
          refine r_v dX12_sign_170 rfl ⟨(hF.s82 (by decide) _).s82 (by decide) _, ?_, fun q => by omega, fun q => ⟨?_, ?_⟩, ?_⟩
          · rw [sI_1, if_pos ⟨rfl, rfl⟩, sI_1, if_neg (by decide), e22, hN]; omega
          · rw [sI_1, if_neg (by decide), sI_1, if_neg (by decide)]; exact he.1 q
          · rw [sI_1, if_neg (by decide), sI_1, if_pos ⟨rfl, rfl⟩, hK]; rfl
          · rw [sI_1, if_neg (by decide), sI_1, if_pos ⟨rfl, rfl⟩]; exact ⟨by decide, by decide⟩
      · refine e_aload_n (q := 100) (i := 0) dX12_sign_99 rfl rfl rfl ?_
        refine e_sipush (q := 103) dX12_sign_100 rfl (by decide) ?_
        refine e_putI (q := 106) (jz := 25) dX12_sign_103 rfl fp_X12_165 rfl (by first | assumption | rfl) rfl ?_
        refine e_iload_n (q := 107) (i := 1) dX12_sign_106 rfl rfl rfl ?_
        refine e_bipush (q := 109) dX12_sign_107 rfl (by decide) ?_
        refine e_icmp_ne (q := 112) (tgt := 128) dX12_sign_109 rfl (by decide) (fun c109 => by exfalso; omega) (fun c109 => ?_)
        refine e_aload_n (q := 113) (i := 0) dX12_sign_112 rfl rfl rfl ?_
        refine e_Vip (q := 116) (vs := []) ok_X12_here ml_X12_148 dX12_sign_113 rfl ⟨_, _, rfl⟩ (by first | assumption | rfl) rfl rfl (Nat.le_of_ble_eq_true rfl) (by decide) (c_X12_here (hM.fm (hF.s82 (by decide) _) (by decide)) (by rw [show (sI τ 82 25 256).1 82 22 = τ.1 82 22 from rfl]; omega) (by rw [show (sI τ 82 25 256).1 82 22 = τ.1 82 22 from rfl]; omega)) ?_
        rw [show hv (sI τ 82 25 256) = h0 from hh]
        refine e_bipush (q := 118) dX12_sign_116 rfl (by decide) ?_
        refine e_icmp_ne (q := 121) (tgt := 128) dX12_sign_118 rfl (by decide) (fun c118 => ?_) (fun c118 => by exfalso; omega) (hx := hhr)
        refine e_iload_n (q := 129) (i := 1) dX12_sign_128 rfl rfl rfl ?_
        refine e_bipush (q := 131) dX12_sign_129 rfl (by decide) ?_
        refine e_icmp_ne (q := 134) (tgt := 150) dX12_sign_131 rfl (by decide) (fun c131 => ?_) (fun c131 => by exfalso; omega)
        refine e_aload_n (q := 151) (i := 0) dX12_sign_150 rfl rfl rfl ?_
        refine e_getI (q := 154) (jz := 25) dX12_sign_151 rfl fg_X12_165 rfl (by first | assumption | rfl) rfl ?_
        rw [show (sI τ 82 25 256).1 82 25 = 256 from by rw [sI_1, if_pos ⟨rfl, rfl⟩]]
        refine e_sipush (q := 157) dX12_sign_154 rfl (by decide) ?_
        refine e_icmp_lt (q := 160) (tgt := 170) dX12_sign_157 rfl (by decide) (fun c157 => by exfalso; omega) (fun c157 => ?_)
        refine e_aload_n (q := 161) (i := 0) dX12_sign_160 rfl rfl rfl ?_
        refine e_dup (q := 162) dX12_sign_161 rfl rfl ?_
        refine e_getI (q := 165) (jz := 22) dX12_sign_162 rfl fg_X12_142 rfl (by first | assumption | rfl) rfl ?_
        refine e_iconst (q := 166) dX12_sign_165 rfl ?_
        refine e_iadd (q := 167) dX12_sign_166 rfl ?_
        refine e_putI (q := 170) (jz := 22) dX12_sign_167 rfl fp_X12_142 rfl (by first | assumption | rfl) rfl ?_
        have hN : sgN c sx = 2 := by unfold sgN; rw [if_pos (Or.inl ⟨by omega, Or.inl (h061.1 (by omega))⟩)]
        have hK : sgK c sx = 31 := by rw [show c = 60 by omega, show sgK 60 sx = (if sx = 61 then 31 else if sx = 62 then 33 else 30) from rfl, if_pos (h061.1 (by omega))]
        refine r_v dX12_sign_170 rfl ⟨(hF.s82 (by decide) _).s82 (by decide) _, ?_, fun q => by omega, fun q => ⟨?_, ?_⟩, ?_⟩
        · rw [sI_1, if_pos ⟨rfl, rfl⟩, sI_1, if_neg (by decide), e22, hN]; omega
        · rw [sI_1, if_neg (by decide), sI_1, if_neg (by decide)]; exact he.1 q
        · rw [sI_1, if_neg (by decide), sI_1, if_pos ⟨rfl, rfl⟩, hK]; rfl
        · rw [sI_1, if_neg (by decide), sI_1, if_pos ⟨rfl, rfl⟩]; exact ⟨by decide, by decide⟩
  refine e_entry om_X12_sign (Nat.le_of_ble_eq_true rfl) (L := [some (.ref (G.2.2.2 + 82)), some (.int (iZ c))]) rfl ?_
  refine e_aload_n (q := 1) (i := 0) dX12_sign_0 rfl rfl rfl ?_
  refine e_dup (q := 2) dX12_sign_1 rfl rfl ?_
  refine e_getI (q := 5) (jz := 22) dX12_sign_2 rfl fg_X12_142 rfl (by first | assumption | rfl) rfl ?_
  refine e_iconst (q := 6) dX12_sign_5 rfl ?_
  refine e_iadd (q := 7) dX12_sign_6 rfl ?_
  refine e_putI (q := 10) (jz := 22) dX12_sign_7 rfl fp_X12_142 rfl (by first | assumption | rfl) rfl ?_
  refine e_aload_n (q := 11) (i := 0) dX12_sign_10 rfl rfl rfl ?_
  refine e_iload_n (q := 12) (i := 1) dX12_sign_11 rfl rfl rfl ?_
  refine e_bipush (q := 14) dX12_sign_12 rfl (by decide) ?_
  refine e_icmp_eq (q := 17) (tgt := 71) dX12_sign_14 rfl (by decide) (fun c14 => ?_) (fun c14 => ?_)
  · refine e_iconst (q := 72) dX12_sign_71 rfl ?_
    refine e_goto (tgt := 76) dX12_sign_72 (by decide) ?_
    refine e_putI (q := 79) (jz := 24) dX12_sign_76 rfl fp_X12_155 rfl (by first | assumption | rfl) rfl ?_
    refine e_aload_n (q := 80) (i := 0) dX12_sign_79 rfl rfl rfl ?_
    refine e_iload_n (q := 81) (i := 1) dX12_sign_80 rfl rfl rfl ?_
    refine e_putI (q := 84) (jz := 25) dX12_sign_81 rfl fp_X12_165 rfl (by first | assumption | rfl) rfl ?_
    exact tl _ ((((Fm.rf [] [22, 24, 25] σ).s82 (by decide) _).s82 (by decide) _).s82 (by decide) _) rfl rfl ⟨fun _ => rfl, fun q => absurd q (sgK_sg.1 (by unfold isSg; omega))⟩
  · refine e_iload_n (q := 18) (i := 1) dX12_sign_17 rfl rfl rfl ?_
    refine e_bipush (q := 20) dX12_sign_18 rfl (by decide) ?_
    refine e_icmp_eq (q := 23) (tgt := 71) dX12_sign_20 rfl (by decide) (fun c20 => ?_) (fun c20 => ?_)
    · refine e_iconst (q := 72) dX12_sign_71 rfl ?_
      refine e_goto (tgt := 76) dX12_sign_72 (by decide) ?_
      refine e_putI (q := 79) (jz := 24) dX12_sign_76 rfl fp_X12_155 rfl (by first | assumption | rfl) rfl ?_
      refine e_aload_n (q := 80) (i := 0) dX12_sign_79 rfl rfl rfl ?_
      refine e_iload_n (q := 81) (i := 1) dX12_sign_80 rfl rfl rfl ?_
      refine e_putI (q := 84) (jz := 25) dX12_sign_81 rfl fp_X12_165 rfl (by first | assumption | rfl) rfl ?_
      exact tl _ ((((Fm.rf [] [22, 24, 25] σ).s82 (by decide) _).s82 (by decide) _).s82 (by decide) _) rfl rfl ⟨fun _ => rfl, fun q => absurd q (sgK_sg.1 (by unfold isSg; omega))⟩
    · refine e_iload_n (q := 24) (i := 1) dX12_sign_23 rfl rfl rfl ?_
      refine e_bipush (q := 26) dX12_sign_24 rfl (by decide) ?_
      refine e_icmp_eq (q := 29) (tgt := 71) dX12_sign_26 rfl (by decide) (fun c26 => ?_) (fun c26 => ?_)
      · refine e_iconst (q := 72) dX12_sign_71 rfl ?_
        refine e_goto (tgt := 76) dX12_sign_72 (by decide) ?_
        refine e_putI (q := 79) (jz := 24) dX12_sign_76 rfl fp_X12_155 rfl (by first | assumption | rfl) rfl ?_
        refine e_aload_n (q := 80) (i := 0) dX12_sign_79 rfl rfl rfl ?_
        refine e_iload_n (q := 81) (i := 1) dX12_sign_80 rfl rfl rfl ?_
        refine e_putI (q := 84) (jz := 25) dX12_sign_81 rfl fp_X12_165 rfl (by first | assumption | rfl) rfl ?_
        exact tl _ ((((Fm.rf [] [22, 24, 25] σ).s82 (by decide) _).s82 (by decide) _).s82 (by decide) _) rfl rfl ⟨fun _ => rfl, fun q => absurd q (sgK_sg.1 (by unfold isSg; omega))⟩
      · refine e_iload_n (q := 30) (i := 1) dX12_sign_29 rfl rfl rfl ?_
        refine e_bipush (q := 32) dX12_sign_30 rfl (by decide) ?_
        refine e_icmp_eq (q := 35) (tgt := 71) dX12_sign_32 rfl (by decide) (fun c32 => ?_) (fun c32 => ?_)
        · refine e_iconst (q := 72) dX12_sign_71 rfl ?_
          refine e_goto (tgt := 76) dX12_sign_72 (by decide) ?_
          refine e_putI (q := 79) (jz := 24) dX12_sign_76 rfl fp_X12_155 rfl (by first | assumption | rfl) rfl ?_
          refine e_aload_n (q := 80) (i := 0) dX12_sign_79 rfl rfl rfl ?_
          refine e_iload_n (q := 81) (i := 1) dX12_sign_80 rfl rfl rfl ?_
          refine e_putI (q := 84) (jz := 25) dX12_sign_81 rfl fp_X12_165 rfl (by first | assumption | rfl) rfl ?_
          exact tl _ ((((Fm.rf [] [22, 24, 25] σ).s82 (by decide) _).s82 (by decide) _).s82 (by decide) _) rfl rfl ⟨fun _ => rfl, fun q => absurd q (sgK_sg.1 (by unfold isSg; omega))⟩
        · refine e_iload_n (q := 36) (i := 1) dX12_sign_35 rfl rfl rfl ?_
          refine e_bipush (q := 38) dX12_sign_36 rfl (by decide) ?_
          refine e_icmp_eq (q := 41) (tgt := 71) dX12_sign_38 rfl (by decide) (fun c38 => ?_) (fun c38 => ?_)
          · refine e_iconst (q := 72) dX12_sign_71 rfl ?_
            refine e_goto (tgt := 76) dX12_sign_72 (by decide) ?_
            refine e_putI (q := 79) (jz := 24) dX12_sign_76 rfl fp_X12_155 rfl (by first | assumption | rfl) rfl ?_
            refine e_aload_n (q := 80) (i := 0) dX12_sign_79 rfl rfl rfl ?_
            refine e_iload_n (q := 81) (i := 1) dX12_sign_80 rfl rfl rfl ?_
            refine e_putI (q := 84) (jz := 25) dX12_sign_81 rfl fp_X12_165 rfl (by first | assumption | rfl) rfl ?_
            exact tl _ ((((Fm.rf [] [22, 24, 25] σ).s82 (by decide) _).s82 (by decide) _).s82 (by decide) _) rfl rfl ⟨fun _ => rfl, fun q => absurd q (sgK_sg.1 (by unfold isSg; omega))⟩
          · refine e_iload_n (q := 42) (i := 1) dX12_sign_41 rfl rfl rfl ?_
            refine e_bipush (q := 44) dX12_sign_42 rfl (by decide) ?_
            refine e_icmp_eq (q := 47) (tgt := 71) dX12_sign_44 rfl (by decide) (fun c44 => ?_) (fun c44 => ?_)
            · refine e_iconst (q := 72) dX12_sign_71 rfl ?_
              refine e_goto (tgt := 76) dX12_sign_72 (by decide) ?_
              refine e_putI (q := 79) (jz := 24) dX12_sign_76 rfl fp_X12_155 rfl (by first | assumption | rfl) rfl ?_
              refine e_aload_n (q := 80) (i := 0) dX12_sign_79 rfl rfl rfl ?_
              refine e_iload_n (q := 81) (i := 1) dX12_sign_80 rfl rfl rfl ?_
              refine e_putI (q := 84) (jz := 25) dX12_sign_81 rfl fp_X12_165 rfl (by first | assumption | rfl) rfl ?_
              exact tl _ ((((Fm.rf [] [22, 24, 25] σ).s82 (by decide) _).s82 (by decide) _).s82 (by decide) _) rfl rfl ⟨fun _ => rfl, fun q => absurd q (sgK_sg.1 (by unfold isSg; omega))⟩
            · refine e_iload_n (q := 48) (i := 1) dX12_sign_47 rfl rfl rfl ?_
              refine e_bipush (q := 50) dX12_sign_48 rfl (by decide) ?_
              refine e_icmp_eq (q := 53) (tgt := 71) dX12_sign_50 rfl (by decide) (fun c50 => ?_) (fun c50 => ?_)
              · refine e_iconst (q := 72) dX12_sign_71 rfl ?_
                refine e_goto (tgt := 76) dX12_sign_72 (by decide) ?_
                refine e_putI (q := 79) (jz := 24) dX12_sign_76 rfl fp_X12_155 rfl (by first | assumption | rfl) rfl ?_
                refine e_aload_n (q := 80) (i := 0) dX12_sign_79 rfl rfl rfl ?_
                refine e_iload_n (q := 81) (i := 1) dX12_sign_80 rfl rfl rfl ?_
                refine e_putI (q := 84) (jz := 25) dX12_sign_81 rfl fp_X12_165 rfl (by first | assumption | rfl) rfl ?_
                exact tl _ ((((Fm.rf [] [22, 24, 25] σ).s82 (by decide) _).s82 (by decide) _).s82 (by decide) _) rfl rfl ⟨fun _ => rfl, fun q => absurd q (sgK_sg.1 (by unfold isSg; omega))⟩
              · refine e_iload_n (q := 54) (i := 1) dX12_sign_53 rfl rfl rfl ?_
                refine e_bipush (q := 56) dX12_sign_54 rfl (by decide) ?_
                refine e_icmp_eq (q := 59) (tgt := 71) dX12_sign_56 rfl (by decide) (fun c56 => ?_) (fun c56 => ?_)
                · refine e_iconst (q := 72) dX12_sign_71 rfl ?_
                  refine e_goto (tgt := 76) dX12_sign_72 (by decide) ?_
                  refine e_putI (q := 79) (jz := 24) dX12_sign_76 rfl fp_X12_155 rfl (by first | assumption | rfl) rfl ?_
                  refine e_aload_n (q := 80) (i := 0) dX12_sign_79 rfl rfl rfl ?_
                  refine e_iload_n (q := 81) (i := 1) dX12_sign_80 rfl rfl rfl ?_
                  refine e_putI (q := 84) (jz := 25) dX12_sign_81 rfl fp_X12_165 rfl (by first | assumption | rfl) rfl ?_
                  exact tl _ ((((Fm.rf [] [22, 24, 25] σ).s82 (by decide) _).s82 (by decide) _).s82 (by decide) _) rfl rfl ⟨fun _ => rfl, fun q => absurd q (sgK_sg.1 (by unfold isSg; omega))⟩
                · refine e_iload_n (q := 60) (i := 1) dX12_sign_59 rfl rfl rfl ?_
                  refine e_bipush (q := 62) dX12_sign_60 rfl (by decide) ?_
                  refine e_icmp_eq (q := 65) (tgt := 71) dX12_sign_62 rfl (by decide) (fun c62 => ?_) (fun c62 => ?_)
                  · refine e_iconst (q := 72) dX12_sign_71 rfl ?_
                    refine e_goto (tgt := 76) dX12_sign_72 (by decide) ?_
                    refine e_putI (q := 79) (jz := 24) dX12_sign_76 rfl fp_X12_155 rfl (by first | assumption | rfl) rfl ?_
                    refine e_aload_n (q := 80) (i := 0) dX12_sign_79 rfl rfl rfl ?_
                    refine e_iload_n (q := 81) (i := 1) dX12_sign_80 rfl rfl rfl ?_
                    refine e_putI (q := 84) (jz := 25) dX12_sign_81 rfl fp_X12_165 rfl (by first | assumption | rfl) rfl ?_
                    exact tl _ ((((Fm.rf [] [22, 24, 25] σ).s82 (by decide) _).s82 (by decide) _).s82 (by decide) _) rfl rfl ⟨fun _ => rfl, fun q => absurd q (sgK_sg.1 (by unfold isSg; omega))⟩
                  · refine e_iload_n (q := 66) (i := 1) dX12_sign_65 rfl rfl rfl ?_
                    refine e_bipush (q := 68) dX12_sign_66 rfl (by decide) ?_
                    refine e_icmp_ne (q := 71) (tgt := 75) dX12_sign_68 rfl (by decide) (fun c68 => ?_) (fun c68 => ?_)
                    · refine e_iconst (q := 76) dX12_sign_75 rfl ?_
                      refine e_putI (q := 79) (jz := 24) dX12_sign_76 rfl fp_X12_155 rfl (by first | assumption | rfl) rfl ?_
                      refine e_aload_n (q := 80) (i := 0) dX12_sign_79 rfl rfl rfl ?_
                      refine e_iload_n (q := 81) (i := 1) dX12_sign_80 rfl rfl rfl ?_
                      refine e_putI (q := 84) (jz := 25) dX12_sign_81 rfl fp_X12_165 rfl (by first | assumption | rfl) rfl ?_
                      exact tl _ ((((Fm.rf [] [22, 24, 25] σ).s82 (by decide) _).s82 (by decide) _).s82 (by decide) _) rfl rfl ⟨fun q => absurd (sgK_sg.2 (by unfold isSg; omega)) q, fun _ => rfl⟩
                    · refine e_iconst (q := 72) dX12_sign_71 rfl ?_
                      refine e_goto (tgt := 76) dX12_sign_72 (by decide) ?_
                      refine e_putI (q := 79) (jz := 24) dX12_sign_76 rfl fp_X12_155 rfl (by first | assumption | rfl) rfl ?_
                      refine e_aload_n (q := 80) (i := 0) dX12_sign_79 rfl rfl rfl ?_
                      refine e_iload_n (q := 81) (i := 1) dX12_sign_80 rfl rfl rfl ?_
                      refine e_putI (q := 84) (jz := 25) dX12_sign_81 rfl fp_X12_165 rfl (by first | assumption | rfl) rfl ?_
                      exact tl _ ((((Fm.rf [] [22, 24, 25] σ).s82 (by decide) _).s82 (by decide) _).s82 (by decide) _) rfl rfl ⟨fun _ => rfl, fun q => absurd q (sgK_sg.1 (by unfold isSg; omega))⟩

